/-! silences by chance -/
section TC
variable {sc : Nat × (Nat → Int32)} {d y nx : Nat} {hd : List (Int × Nat)} {L st : List Value} {S : kS} {cu su : Nat} {i : Nat → Nat → Int32} {l : Nat → Nat → Int64} {f t c b m : Nat} {sp : Nat → Nat} {K : Option (Option Value) → kS → Prop}
variable {i1 i2 i3 : Nat → Nat → Int32} {l2 : Nat → Nat → Int64} {n n2 k x a o g : Nat} {v r p q : Int32} {zs zs2 : List Int64} {F : Nat → Nat}
theorem pow_step {b e : Nat} : Int64.ofNat (b ^ e) * Int64.ofNat b = Int64.ofNat (b ^ (e + 1)) := by rw [← Int64.ofNat_mul, Nat.pow_succ]
theorem c_power {b e : Nat} (he : e < 100000) : kCA sc (d + 1) 154 [.long (Int64.ofNat b), .int (Int32.ofNat e)] y nx hd L st ((120, cu, su), i, l, kR f t sp) K = kWP sc (d + 1) y nx L (.long (Int64.ofNat (b ^ e)) :: st) ((120, cu, su), i, l, kR f t sp) K := by
  refine kCA_of (d := d) (v := some (.long (Int64.ofNat (b ^ e)))) (S2 := ((120, cu, su), i, l, kR f t sp)) (fun K => ?_)
  rw [km_154]
  show kWP sc (d) 154 0 [.long (Int64.ofNat b), .retAddr 0, .int (Int32.ofNat e), .retAddr 0, .retAddr 0, .retAddr 0] [] ((120, cu, su), i, l, kR f t sp) K = K (some (some (.long (Int64.ofNat (b ^ e))))) ((120, cu, su), i, l, kR f t sp)
  simp only [e_X10_power_0, e_X10_power_1, e_X10_power_2, e_X10_power_3, e_X10_power_7, e_X10_power_8, e_X10_power_11, e_X10_power_12, e_X10_power_13, e_X10_power_14, e_X10_power_15, e_X10_power_18, e_X10_power_21, e_X10_power_22, kcl_i, kcl_r, kcl_l, kcl_0, kcl_n, true_and, and_true]
  refine (k_for (P := fun x (w : Nat) => kWP sc d 154 5 [.long (Int64.ofNat b), .retAddr 0, .int (Int32.ofNat e), .long (Int64.ofNat (b ^ x)), .retAddr 0, .int (Int32.ofNat x)] [] ((120, cu, su), i, l, kR f t sp) K) (n := e) (g := fun _ w => w) ?_ 0).trans ?_
  · intro x w hx
    refine e_X10_power_5.trans ?_
    simp only [e_X10_power_0, e_X10_power_1, e_X10_power_2, e_X10_power_3, e_X10_power_7, e_X10_power_8, e_X10_power_11, e_X10_power_12, e_X10_power_13, e_X10_power_14, e_X10_power_15, e_X10_power_18, e_X10_power_21, e_X10_power_22, kcl_i, kcl_r, kcl_l, kcl_0, kcl_n, true_and, and_true, jpF hx he, if_false, pow_step, tn_s]
  · refine e_X10_power_5.trans ?_
    simp only [e_X10_power_0, e_X10_power_1, e_X10_power_2, e_X10_power_3, e_X10_power_7, e_X10_power_8, e_X10_power_11, e_X10_power_12, e_X10_power_13, e_X10_power_14, e_X10_power_15, e_X10_power_18, e_X10_power_21, e_X10_power_22, kcl_i, kcl_r, kcl_l, kcl_0, kcl_n, true_and, and_true, Int32.le_refl, if_true]
theorem m_power {b e : Nat} (he : e < 100000) : kCA sc (d + 1) 236 [.long (Int64.ofNat b), .int (Int32.ofNat e)] y nx hd L st ((120, cu, su), i, l, kR f t sp) K = kWP sc (d + 1) y nx L (.long (Int64.ofNat (b ^ e)) :: st) ((120, cu, su), i, l, kR f t sp) K := by
  refine kCA_of (d := d) (v := some (.long (Int64.ofNat (b ^ e)))) (S2 := ((120, cu, su), i, l, kR f t sp)) (fun K => ?_)
  rw [km_236]
  show kWP sc (d) 236 0 [.long (Int64.ofNat b), .retAddr 0, .int (Int32.ofNat e), .retAddr 0, .retAddr 0, .retAddr 0] [] ((120, cu, su), i, l, kR f t sp) K = K (some (some (.long (Int64.ofNat (b ^ e))))) ((120, cu, su), i, l, kR f t sp)
  simp only [e_X11_power_0, e_X11_power_1, e_X11_power_2, e_X11_power_3, e_X11_power_7, e_X11_power_8, e_X11_power_11, e_X11_power_12, e_X11_power_13, e_X11_power_14, e_X11_power_15, e_X11_power_18, e_X11_power_21, e_X11_power_22, kcl_i, kcl_r, kcl_l, kcl_0, kcl_n, true_and, and_true]
  refine (k_for (P := fun x (w : Nat) => kWP sc d 236 5 [.long (Int64.ofNat b), .retAddr 0, .int (Int32.ofNat e), .long (Int64.ofNat (b ^ x)), .retAddr 0, .int (Int32.ofNat x)] [] ((120, cu, su), i, l, kR f t sp) K) (n := e) (g := fun _ w => w) ?_ 0).trans ?_
  · intro x w hx
    refine e_X11_power_5.trans ?_
    simp only [e_X11_power_0, e_X11_power_1, e_X11_power_2, e_X11_power_3, e_X11_power_7, e_X11_power_8, e_X11_power_11, e_X11_power_12, e_X11_power_13, e_X11_power_14, e_X11_power_15, e_X11_power_18, e_X11_power_21, e_X11_power_22, kcl_i, kcl_r, kcl_l, kcl_0, kcl_n, true_and, and_true, jpF hx he, if_false, pow_step, tn_s]
  · refine e_X11_power_5.trans ?_
    simp only [e_X11_power_0, e_X11_power_1, e_X11_power_2, e_X11_power_3, e_X11_power_7, e_X11_power_8, e_X11_power_11, e_X11_power_12, e_X11_power_13, e_X11_power_14, e_X11_power_15, e_X11_power_18, e_X11_power_21, e_X11_power_22, kcl_i, kcl_r, kcl_l, kcl_0, kcl_n, true_and, and_true, Int32.le_refl, if_true]
/-- sums over all sets of n, by how many they have -/
def gSum : Nat → (Nat → Nat) → Nat
  | 0, F => F 0
  | n + 1, F => gSum n F + gSum n (fun j => F (j + 1))
def pcN (s : Nat) : Nat := (pBC (Int32.ofNat s)).toNatClampNeg
theorem pc_is : ∀ s, s < 1024 → pBC (Int32.ofNat s) = Int32.ofNat (pcN s) ∧ pcN s ≤ 10 := by decide +kernel
theorem pc_up : ∀ n, n < 10 → ∀ s, s < 2 ^ n → pcN (2 ^ n + s) = pcN s + 1 := by decide +kernel
theorem kfo_split {g : Nat → Nat → Nat} {a : Nat} : ∀ k, kfo g (n + k) a = kfo (fun x => g (n + x)) k (kfo g n a) := by
  intro k
  induction k with
  | zero => rfl
  | succ k ih => show g (n + k) (kfo g (n + k) a) = g (n + k) _; rw [ih]
theorem kfo_add {g : Nat → Nat} {a : Nat} : ∀ k, kfo (fun x s => s + g x) k a = a + kfo (fun x s => s + g x) k 0 := by
  intro k
  induction k with
  | zero => rfl
  | succ k ih => show kfo (fun x s => s + g x) k a + g k = a + (kfo (fun x s => s + g x) k 0 + g k); rw [ih]; omega
theorem sets_sum : ∀ n, n ≤ 10 → ∀ F : Nat → Nat, kfo (fun s u => u + F (pcN s)) (2 ^ n) 0 = gSum n F := by
  intro n
  induction n with
  | zero => intro _ F; show 0 + F (pcN 0) = F 0; rw [show pcN 0 = 0 from by decide, Nat.zero_add]
  | succ n ih =>
    intro hn F
    rw [show 2 ^ (n + 1) = 2 ^ n + 2 ^ n by rw [Nat.pow_succ]; omega, kfo_split, kfo_add (g := fun x => F (pcN (2 ^ n + x))), ih (by omega)]
    show gSum n F + _ = gSum n F + gSum n (fun j => F (j + 1))
    rw [← ih (by omega) (fun j => F (j + 1))]
    congr 1
    apply kfo_congr
    intro s hs u
    rw [pc_up n (by omega) s hs]
def bin : Nat → Nat → Nat
  | _, 0 => 1
  | 0, _ + 1 => 0
  | n + 1, j + 1 => bin n j + bin n (j + 1)
theorem bin_0 : ∀ n, bin n 0 = 1 := fun n => by cases n <;> rfl
theorem bin_hi : ∀ n j, n < j → bin n j = 0 := by
  intro n
  induction n with
  | zero => intro j h; cases j with
            | zero => omega
            | succ j => rfl
  | succ n ih => intro j h; cases j with
                 | zero => omega
                 | succ j => show bin n j + bin n (j + 1) = 0; rw [ih j (by omega), ih (j + 1) (by omega)]
theorem sum_2 {f1 f2 : Nat → Nat} : ∀ k, kfo (fun x s => s + (f1 x + f2 x)) k 0 = kfo (fun x s => s + f1 x) k 0 + kfo (fun x s => s + f2 x) k 0 := by
  intro k
  induction k with
  | zero => rfl
  | succ k ih =>
    show kfo (fun x s => s + (f1 x + f2 x)) k 0 + (f1 k + f2 k) = (kfo (fun x s => s + f1 x) k 0 + f1 k) + (kfo (fun x s => s + f2 x) k 0 + f2 k)
    rw [ih]; omega
theorem bin_sum : ∀ n, ∀ F : Nat → Nat, kfo (fun j u => u + bin n j * F j) (n + 1) 0 = gSum n F := by
  intro n
  induction n with
  | zero => intro F; show 0 + 1 * F 0 = F 0; omega
  | succ n ih =>
    intro F
    show kfo _ (n + 1 + 1) 0 = gSum n F + gSum n (fun j => F (j + 1))
    rw [kfo_shift, kfo_add (g := fun x => bin (n + 1) (x + 1) * F (x + 1))]
    have e1 : kfo (fun x s => s + bin (n + 1) (x + 1) * F (x + 1)) (n + 1) 0 = kfo (fun x s => s + (bin n x * F (x + 1) + bin n (x + 1) * F (x + 1))) (n + 1) 0 := by
      apply kfo_congr
      intro x _ s
      show s + (bin n x + bin n (x + 1)) * F (x + 1) = _
      rw [Nat.add_mul]
    rw [e1, sum_2, ih (fun j => F (j + 1))]
    have e2 : kfo (fun j u => u + bin n j * F j) (n + 1 + 1) 0 = gSum n F := by
      show kfo (fun j u => u + bin n j * F j) (n + 1) 0 + bin n (n + 1) * F (n + 1) = _
      rw [ih F, bin_hi n (n + 1) (by omega), Nat.zero_mul, Nat.add_zero]
    rw [kfo_shift, kfo_add (g := fun x => bin n (x + 1) * F (x + 1))] at e2
    rw [← e2, bin_0, bin_0]
    omega
def ways (n : Nat) : Nat → Nat
  | 0 => 1
  | j + 1 => ways n j * (n - j) / (j + 1)
theorem ways_bin : ∀ n, n ≤ 10 → ∀ j, j ≤ n → ways n j = bin n j ∧ ways n j ≤ 252 := by decide +kernel
theorem gSum_le {B : Nat} : ∀ n, ∀ F : Nat → Nat, (∀ j, j ≤ n → F j ≤ B) → gSum n F ≤ 2 ^ n * B := by
  intro n
  induction n with
  | zero => intro F h; show F 0 ≤ 2 ^ 0 * B; rw [Nat.pow_zero, Nat.one_mul]; exact h 0 (Nat.le_refl _)
  | succ n ih =>
    intro F h
    have h1 := ih F (fun j hj => h j (by omega))
    have h2 := ih (fun j => F (j + 1)) (fun j hj => h (j + 1) (by omega))
    show gSum n F + gSum n (fun j => F (j + 1)) ≤ 2 ^ (n + 1) * B
    rw [Nat.pow_succ, Nat.mul_assoc, Nat.mul_comm 2 B, ← Nat.mul_assoc]
    omega
def sF (qu lo N v j : Nat) : Nat := if v ≤ j then qu ^ j * lo ^ (N - j) else 0
theorem sF_le {qu lo N v A : Nat} (h1 : qu ≤ A) (h2 : lo ≤ A) {j : Nat} (hj : j ≤ N) : sF qu lo N v j ≤ A ^ N := by
  unfold sF
  split
  · have := Nat.mul_le_mul (Nat.pow_le_pow_left h1 j) (Nat.pow_le_pow_left h2 (N - j))
    rw [← Nat.pow_add, show j + (N - j) = N by omega] at this; exact this
  · exact Nat.zero_le _
theorem sil_63 : ∀ n, n ≤ 10 → ∀ k, k ≤ 4 → n * k ≤ 16 → 2 ^ n * (10 ^ k) ^ n < 2 ^ 63 ∧ 0 < (10 ^ k) ^ n := by decide +kernel
theorem l10 : (10 : Int64) = Int64.ofNat 10 := rfl
theorem mul_nat {a b : Nat} : Int32.ofNat a * Int32.ofNat b = Int32.ofNat (a * b) := (Int32.ofNat_mul a b).symm
def cSil (qu lo n v x : Nat) : Nat := kfo (fun j u => u + ways n j * sF qu lo n v j) x 0
theorem c_sil {n k p v : Nat} (n1 : 1 ≤ n) (n10 : n ≤ 10) (k1 : 1 ≤ k) (k4 : k ≤ 4) (p10 : p ≤ 10) (v10 : v ≤ 10) (nk : n * k ≤ 16) (hU : cSil ((10 - p) ^ k) (10 ^ k - (10 - p) ^ k) n v (n + 1) < 2 ^ 63) : CC 124 [.ref 0, .int (Int32.ofNat n), .int (Int32.ofNat k), .int (Int32.ofNat p), .int (Int32.ofNat v)] i l f t sp (.int 0) (wPut i 2) (tC l 0 [Int64.ofNat (cSil ((10 - p) ^ k) (10 ^ k - (10 - p) ^ k) n v (n + 1) / Nat.gcd (cSil ((10 - p) ^ k) (10 ^ k - (10 - p) ^ k) n v (n + 1)) ((10 ^ k) ^ n)), Int64.ofNat ((10 ^ k) ^ n / Nat.gcd (cSil ((10 - p) ^ k) (10 ^ k - (10 - p) ^ k) n v (n + 1)) ((10 ^ k) ^ n))]) f t sp := by
  intro sc d y nx hd L st cu su K
  have hle : (10 - p) ^ k ≤ 10 ^ k := Nat.pow_le_pow_left (by omega) k
  have s63 := sil_63 n n10 k k4 nk
  have w63 : (10 ^ k) ^ n < 2 ^ 63 := Nat.lt_of_le_of_lt (Nat.le_mul_of_pos_left _ (Nat.pow_pos (by decide))) s63.1
  have F := fun (y nx : Nat) (L st : List Value) (hd : List (Int × Nat)) (K : Option (Option Value) → kS → Prop) => c_addFraction (sc := sc) (d := d + 497) (y := y) (nx := nx) (hd := hd) (L := L) (st := st) (cu := cu) (su := su) (i := i) (l := l) (f := f) (t := t) (sp := sp) (K := K) (n := 0) (u := cSil ((10 - p) ^ k) (10 ^ k - (10 - p) ^ k) n v (n + 1)) (w := (10 ^ k) ^ n) (by decide) hU w63 s63.2
  generalize hqu : (10 - p) ^ k = qu at *
  generalize hal : 10 ^ k = al at *
  have c1 : (Int32.ofNat n < 1) = False := by rw [show (1 : Int32) = Int32.ofNat 1 from rfl, tn_lt (by omega) (by decide)]; exact eq_false (by omega)
  have c2 : ((10 : Int32) < Int32.ofNat n) = False := by rw [show (10 : Int32) = Int32.ofNat 10 from rfl, tn_lt (by decide) (by omega)]; exact eq_false (by omega)
  have c3 : ((10 : Int32) < Int32.ofNat v) = False := by rw [show (10 : Int32) = Int32.ofNat 10 from rfl, tn_lt (by decide) (by omega)]; exact eq_false (by omega)
  have c4 : (Int32.ofNat k < 1) = False := by rw [show (1 : Int32) = Int32.ofNat 1 from rfl, tn_lt (by omega) (by decide)]; exact eq_false (by omega)
  have c5 : ((4 : Int32) < Int32.ofNat k) = False := by rw [show (4 : Int32) = Int32.ofNat 4 from rfl, tn_lt (by decide) (by omega)]; exact eq_false (by omega)
  have c6 : ((10 : Int32) < Int32.ofNat p) = False := by rw [show (10 : Int32) = Int32.ofNat 10 from rfl, tn_lt (by decide) (by omega)]; exact eq_false (by omega)
  have c7 : (Int32.ofNat (n * k) ≤ 16) = True := by rw [show (16 : Int32) = Int32.ofNat 16 from rfl, tn_le (by omega) (by decide)]; exact eq_true nk
  have c8 : (10 : Int32) - Int32.ofNat p = Int32.ofNat (10 - p) := sub_nat (a := 10) p10
  refine kCA_of (d := d + 499) (v := some (.int _)) (fun K => ?_)
  rw [km_124]
  show kWP sc (d + 499) 124 0 [.ref 0, .int (Int32.ofNat n), .int (Int32.ofNat k), .int (Int32.ofNat p), .int (Int32.ofNat v), .retAddr 0, .retAddr 0, .retAddr 0, .retAddr 0, .retAddr 0, .retAddr 0, .retAddr 0, .retAddr 0, .retAddr 0, .retAddr 0] [] _ K = _
  simp only [e_X10_silent_0, e_X10_silent_1, e_X10_silent_2, e_X10_silent_5, e_X10_silent_6, e_X10_silent_8, e_X10_silent_11, e_X10_silent_13, e_X10_silent_16, e_X10_silent_18, e_X10_silent_20, e_X10_silent_23, e_X10_silent_24, e_X10_silent_27, e_X10_silent_28, e_X10_silent_30, e_X10_silent_32, e_X10_silent_35, e_X10_silent_36, e_X10_silent_37, e_X10_silent_40, e_X10_silent_41, e_X10_silent_42, e_X10_silent_45, e_X10_silent_46, e_X10_silent_49, e_X10_silent_50, e_X10_silent_52, e_X10_silent_55, e_X10_silent_56, e_X10_silent_57, e_X10_silent_58, e_X10_silent_60, e_X10_silent_63, e_X10_silent_64, e_X10_silent_65, e_X10_silent_68, e_X10_silent_69, e_X10_silent_72, e_X10_silent_74, e_X10_silent_76, e_X10_silent_77, e_X10_silent_78, e_X10_silent_79, e_X10_silent_80, e_X10_silent_83, e_X10_silent_85, e_X10_silent_86, e_X10_silent_88, e_X10_silent_89, e_X10_silent_91, e_X10_silent_92, e_X10_silent_96, e_X10_silent_97, e_X10_silent_100, e_X10_silent_102, e_X10_silent_104, e_X10_silent_107, e_X10_silent_109, e_X10_silent_111, e_X10_silent_113, e_X10_silent_115, e_X10_silent_118, e_X10_silent_119, e_X10_silent_121, e_X10_silent_123, e_X10_silent_124, e_X10_silent_125, e_X10_silent_127, e_X10_silent_128, e_X10_silent_131, e_X10_silent_132, e_X10_silent_133, e_X10_silent_135, e_X10_silent_137, e_X10_silent_138, e_X10_silent_140, e_X10_silent_141, e_X10_silent_142, e_X10_silent_143, e_X10_silent_145, e_X10_silent_146, e_X10_silent_147, e_X10_silent_148, e_X10_silent_149, e_X10_silent_151, e_X10_silent_154, e_X10_silent_157, e_X10_silent_158, e_X10_silent_161, e_X10_silent_164, e_X10_silent_165, e_X10_silent_168, e_X10_silent_170, e_X10_silent_172, e_X10_silent_173, e_X10_silent_176, e_X10_silent_179, e_X10_silent_180, ob_0, rk_0_1, ob_3, kcl_i, kcl_r, kcl_l, kcl_0, kcl_n, true_and, and_true, c1, c2, c3, c4, c5, c6, c7, c8, tn_lt0 (show v < 2147483648 by omega), tn_lt0 (show p < 2147483648 by omega), mul_nat, if_true, if_false, z10, l10, i2l_nat (show 10 - p < 100000 by omega), c_power (show k < 100000 by omega), hqu, hal]
  refine (k_for (P := fun x (w : Nat) => kWP sc (d + 499) 124 94 [.ref 0, .int (Int32.ofNat n), .int (Int32.ofNat k), .int (Int32.ofNat p), .int (Int32.ofNat v), .int 1, .long (Int64.ofNat al), .retAddr 0, .long (Int64.ofNat qu), .retAddr 0, .long (Int64.ofNat (ways n x)), .retAddr 0, .long (Int64.ofNat (cSil qu (al - qu) n v x)), .retAddr 0, .int (Int32.ofNat x)] [] ((120, cu, su), i, l, kR f t sp) K) (n := n + 1) (g := fun _ w => w) ?_ 0).trans ?_
  · intro x w hx
    have d1 : (Int32.ofNat n < Int32.ofNat x) = False := by rw [tn_lt (by omega) (by omega)]; exact eq_false (by omega)
    have d2 : Int32.ofNat n - Int32.ofNat x = Int32.ofNat (n - x) := sub_nat (by omega)
    have wx := (ways_bin n n10 x (by omega)).2
    have wb : ways n x * (n - x) < 2 ^ 63 := Nat.lt_of_le_of_lt (Nat.mul_le_mul wx (show n - x ≤ 10 by omega)) (by decide)
    have eD : Int64.ofNat (ways n x * (n - x)) / Int64.ofNat (x + 1) = Int64.ofNat (ways n (x + 1)) := by rw [← Int64.ofNat_div wb (by omega)]; rfl
    have nz : (Int64.ofNat (x + 1) = 0) = False := by rw [l_0 (by omega)]; exact eq_false (by omega)
    have eS : cSil qu (al - qu) n v (x + 1) = cSil qu (al - qu) n v x + ways n x * sF qu (al - qu) n v x := rfl
    refine e_X10_silent_94.trans ?_
    simp only [e_X10_silent_0, e_X10_silent_1, e_X10_silent_2, e_X10_silent_5, e_X10_silent_6, e_X10_silent_8, e_X10_silent_11, e_X10_silent_13, e_X10_silent_16, e_X10_silent_18, e_X10_silent_20, e_X10_silent_23, e_X10_silent_24, e_X10_silent_27, e_X10_silent_28, e_X10_silent_30, e_X10_silent_32, e_X10_silent_35, e_X10_silent_36, e_X10_silent_37, e_X10_silent_40, e_X10_silent_41, e_X10_silent_42, e_X10_silent_45, e_X10_silent_46, e_X10_silent_49, e_X10_silent_50, e_X10_silent_52, e_X10_silent_55, e_X10_silent_56, e_X10_silent_57, e_X10_silent_58, e_X10_silent_60, e_X10_silent_63, e_X10_silent_64, e_X10_silent_65, e_X10_silent_68, e_X10_silent_69, e_X10_silent_72, e_X10_silent_74, e_X10_silent_76, e_X10_silent_77, e_X10_silent_78, e_X10_silent_79, e_X10_silent_80, e_X10_silent_83, e_X10_silent_85, e_X10_silent_86, e_X10_silent_88, e_X10_silent_89, e_X10_silent_91, e_X10_silent_92, e_X10_silent_96, e_X10_silent_97, e_X10_silent_100, e_X10_silent_102, e_X10_silent_104, e_X10_silent_107, e_X10_silent_109, e_X10_silent_111, e_X10_silent_113, e_X10_silent_115, e_X10_silent_118, e_X10_silent_119, e_X10_silent_121, e_X10_silent_123, e_X10_silent_124, e_X10_silent_125, e_X10_silent_127, e_X10_silent_128, e_X10_silent_131, e_X10_silent_132, e_X10_silent_133, e_X10_silent_135, e_X10_silent_137, e_X10_silent_138, e_X10_silent_140, e_X10_silent_141, e_X10_silent_142, e_X10_silent_143, e_X10_silent_145, e_X10_silent_146, e_X10_silent_147, e_X10_silent_148, e_X10_silent_149, e_X10_silent_151, e_X10_silent_154, e_X10_silent_157, e_X10_silent_158, e_X10_silent_161, e_X10_silent_164, e_X10_silent_165, e_X10_silent_168, e_X10_silent_170, e_X10_silent_172, e_X10_silent_173, e_X10_silent_176, e_X10_silent_179, e_X10_silent_180, ob_0, rk_0_1, ob_3, kcl_i, kcl_r, kcl_l, kcl_0, kcl_n, true_and, and_true, d1, d2, if_false, tn_lt (show x < 2147483648 by omega) (show v < 2147483648 by omega), c_power (show x < 100000 by omega), c_power (show n - x < 100000 by omega), ← Int64.ofNat_sub _ _ hle, ← Int64.ofNat_mul, ← Int64.ofNat_add, i2l_nat (show n - x < 100000 by omega), tn_s, i2l_nat (show x + 1 < 100000 by omega), nz, not_false_eq_true, true_and, eD, eS]
    unfold sF
    by_cases q : x < v
    · have q2 : ¬ v ≤ x := by omega
      simp only [q, q2, if_true, if_false, Nat.mul_zero, Nat.add_zero]
    · have q2 : v ≤ x := by omega
      simp only [q, q2, if_true, if_false, Nat.mul_assoc]
  · have d1 : (Int32.ofNat n < Int32.ofNat (n + 1)) = True := by rw [tn_lt (by omega) (by omega)]; exact eq_true (by omega)
    refine e_X10_silent_94.trans ?_
    simp only [e_X10_silent_0, e_X10_silent_1, e_X10_silent_2, e_X10_silent_5, e_X10_silent_6, e_X10_silent_8, e_X10_silent_11, e_X10_silent_13, e_X10_silent_16, e_X10_silent_18, e_X10_silent_20, e_X10_silent_23, e_X10_silent_24, e_X10_silent_27, e_X10_silent_28, e_X10_silent_30, e_X10_silent_32, e_X10_silent_35, e_X10_silent_36, e_X10_silent_37, e_X10_silent_40, e_X10_silent_41, e_X10_silent_42, e_X10_silent_45, e_X10_silent_46, e_X10_silent_49, e_X10_silent_50, e_X10_silent_52, e_X10_silent_55, e_X10_silent_56, e_X10_silent_57, e_X10_silent_58, e_X10_silent_60, e_X10_silent_63, e_X10_silent_64, e_X10_silent_65, e_X10_silent_68, e_X10_silent_69, e_X10_silent_72, e_X10_silent_74, e_X10_silent_76, e_X10_silent_77, e_X10_silent_78, e_X10_silent_79, e_X10_silent_80, e_X10_silent_83, e_X10_silent_85, e_X10_silent_86, e_X10_silent_88, e_X10_silent_89, e_X10_silent_91, e_X10_silent_92, e_X10_silent_96, e_X10_silent_97, e_X10_silent_100, e_X10_silent_102, e_X10_silent_104, e_X10_silent_107, e_X10_silent_109, e_X10_silent_111, e_X10_silent_113, e_X10_silent_115, e_X10_silent_118, e_X10_silent_119, e_X10_silent_121, e_X10_silent_123, e_X10_silent_124, e_X10_silent_125, e_X10_silent_127, e_X10_silent_128, e_X10_silent_131, e_X10_silent_132, e_X10_silent_133, e_X10_silent_135, e_X10_silent_137, e_X10_silent_138, e_X10_silent_140, e_X10_silent_141, e_X10_silent_142, e_X10_silent_143, e_X10_silent_145, e_X10_silent_146, e_X10_silent_147, e_X10_silent_148, e_X10_silent_149, e_X10_silent_151, e_X10_silent_154, e_X10_silent_157, e_X10_silent_158, e_X10_silent_161, e_X10_silent_164, e_X10_silent_165, e_X10_silent_168, e_X10_silent_170, e_X10_silent_172, e_X10_silent_173, e_X10_silent_176, e_X10_silent_179, e_X10_silent_180, ob_0, rk_0_1, ob_3, kcl_i, kcl_r, kcl_l, kcl_0, kcl_n, true_and, and_true, d1, if_true, c_start, c_power (show n < 100000 by omega)]
    rw [show d + 498 + 1 = d + 497 + 2 from rfl, F]
    simp only [e_X10_silent_0, e_X10_silent_1, e_X10_silent_2, e_X10_silent_5, e_X10_silent_6, e_X10_silent_8, e_X10_silent_11, e_X10_silent_13, e_X10_silent_16, e_X10_silent_18, e_X10_silent_20, e_X10_silent_23, e_X10_silent_24, e_X10_silent_27, e_X10_silent_28, e_X10_silent_30, e_X10_silent_32, e_X10_silent_35, e_X10_silent_36, e_X10_silent_37, e_X10_silent_40, e_X10_silent_41, e_X10_silent_42, e_X10_silent_45, e_X10_silent_46, e_X10_silent_49, e_X10_silent_50, e_X10_silent_52, e_X10_silent_55, e_X10_silent_56, e_X10_silent_57, e_X10_silent_58, e_X10_silent_60, e_X10_silent_63, e_X10_silent_64, e_X10_silent_65, e_X10_silent_68, e_X10_silent_69, e_X10_silent_72, e_X10_silent_74, e_X10_silent_76, e_X10_silent_77, e_X10_silent_78, e_X10_silent_79, e_X10_silent_80, e_X10_silent_83, e_X10_silent_85, e_X10_silent_86, e_X10_silent_88, e_X10_silent_89, e_X10_silent_91, e_X10_silent_92, e_X10_silent_96, e_X10_silent_97, e_X10_silent_100, e_X10_silent_102, e_X10_silent_104, e_X10_silent_107, e_X10_silent_109, e_X10_silent_111, e_X10_silent_113, e_X10_silent_115, e_X10_silent_118, e_X10_silent_119, e_X10_silent_121, e_X10_silent_123, e_X10_silent_124, e_X10_silent_125, e_X10_silent_127, e_X10_silent_128, e_X10_silent_131, e_X10_silent_132, e_X10_silent_133, e_X10_silent_135, e_X10_silent_137, e_X10_silent_138, e_X10_silent_140, e_X10_silent_141, e_X10_silent_142, e_X10_silent_143, e_X10_silent_145, e_X10_silent_146, e_X10_silent_147, e_X10_silent_148, e_X10_silent_149, e_X10_silent_151, e_X10_silent_154, e_X10_silent_157, e_X10_silent_158, e_X10_silent_161, e_X10_silent_164, e_X10_silent_165, e_X10_silent_168, e_X10_silent_170, e_X10_silent_172, e_X10_silent_173, e_X10_silent_176, e_X10_silent_179, e_X10_silent_180, ob_0, rk_0_1, ob_3, kcl_i, kcl_r, kcl_l, kcl_0, kcl_n, true_and, and_true]
    rfl
def mSil (qu lo n v x : Nat) : Nat := kfo (fun s u => u + sF qu lo n v (pcN s)) x 0
theorem m_sil {n k p v : Nat} (n1 : 1 ≤ n) (n10 : n ≤ 10) (k1 : 1 ≤ k) (k4 : k ≤ 4) (p10 : p ≤ 10) (v10 : v ≤ 10) (nk : n * k ≤ 16) (hU : mSil ((10 - p) ^ k) (10 ^ k - (10 - p) ^ k) n v (2 ^ n) < 2 ^ 63) : CC 237 [.ref 91, .int (Int32.ofNat n), .int (Int32.ofNat k), .int (Int32.ofNat p), .int (Int32.ofNat v)] i l f t sp (.int 0) (vPut (uPut i) 2) (tR l 0 [Int64.ofNat (mSil ((10 - p) ^ k) (10 ^ k - (10 - p) ^ k) n v (2 ^ n) / Nat.gcd (mSil ((10 - p) ^ k) (10 ^ k - (10 - p) ^ k) n v (2 ^ n)) (10 ^ (n * k))), Int64.ofNat (10 ^ (n * k) / Nat.gcd (mSil ((10 - p) ^ k) (10 ^ k - (10 - p) ^ k) n v (2 ^ n)) (10 ^ (n * k)))]) f t sp := by
  intro sc d y nx hd L st cu su K
  have hle : (10 - p) ^ k ≤ 10 ^ k := Nat.pow_le_pow_left (by omega) k
  have s63 := sil_63 n n10 k k4 nk
  rw [← Nat.pow_mul, Nat.mul_comm k n] at s63
  have w63 : 10 ^ (n * k) < 2 ^ 63 := Nat.lt_of_le_of_lt (Nat.le_mul_of_pos_left _ (Nat.pow_pos (by decide))) s63.1
  have F := fun (y nx : Nat) (L st : List Value) (hd : List (Int × Nat)) (K : Option (Option Value) → kS → Prop) => m_tells (sc := sc) (d := d + 367) (y := y) (nx := nx) (hd := hd) (L := L) (st := st) (cu := cu) (su := su) (i := uPut i) (l := l) (f := f) (t := t) (sp := sp) (K := K) (u := mSil ((10 - p) ^ k) (10 ^ k - (10 - p) ^ k) n v (2 ^ n)) (w := 10 ^ (n * k)) hU w63 s63.2
  generalize hdn : 10 ^ (n * k) = dn at *
  generalize hqu : (10 - p) ^ k = qu at *
  generalize hal : 10 ^ k = al at *
  have p1024 : 2 ^ n ≤ 1024 := Nat.pow_le_pow_right (n := 2) (i := n) (j := 10) (by decide) n10
  have c1 : ¬ Int32.ofNat n < 1 ∧ ¬ 10 < Int32.ofNat n := ⟨by rw [show (1 : Int32) = Int32.ofNat 1 from rfl, tn_lt (by omega) (by decide)]; omega, by rw [show (10 : Int32) = Int32.ofNat 10 from rfl, tn_lt (by decide) (by omega)]; omega⟩
  have c2 : ¬ Int32.ofNat k < 1 ∧ ¬ 4 < Int32.ofNat k := ⟨by rw [show (1 : Int32) = Int32.ofNat 1 from rfl, tn_lt (by omega) (by decide)]; omega, by rw [show (4 : Int32) = Int32.ofNat 4 from rfl, tn_lt (by decide) (by omega)]; omega⟩
  have c3 : ¬ Int32.ofNat p < 0 ∧ ¬ 10 < Int32.ofNat p := ⟨tn_nn (by omega), by rw [show (10 : Int32) = Int32.ofNat 10 from rfl, tn_lt (by decide) (by omega)]; omega⟩
  have c4 : ¬ Int32.ofNat v < 0 ∧ ¬ 10 < Int32.ofNat v := ⟨tn_nn (by omega), by rw [show (10 : Int32) = Int32.ofNat 10 from rfl, tn_lt (by decide) (by omega)]; omega⟩
  have c7 : (Int32.ofNat (n * k) ≤ 16) = True := by rw [show (16 : Int32) = Int32.ofNat 16 from rfl, tn_le (by omega) (by decide)]; exact eq_true nk
  have c8 : (10 : Int32) - Int32.ofNat p = Int32.ofNat (10 - p) := sub_nat (a := 10) p10
  have shn : ∀ n, n ≤ 10 → (1 : Int32) <<< (Int32.ofNat n &&& 31) = Int32.ofNat (2 ^ n) := by decide +kernel
  have la : (10 : Int64) = (10 : Int32).toInt64 := by decide
  have lb : (10 : Int32).toInt64 = Int64.ofNat 10 := by decide
  refine kCA_of (d := d + 499) (v := some (.int _)) (fun K => ?_)
  rw [km_237]
  show kWP sc (d + 499) 237 0 [.ref 91, .int (Int32.ofNat n), .int (Int32.ofNat k), .int (Int32.ofNat p), .int (Int32.ofNat v), .retAddr 0, .retAddr 0, .retAddr 0, .retAddr 0, .retAddr 0, .retAddr 0, .retAddr 0, .retAddr 0] [] _ K = _
  simp only [e_X11_silent_0, e_X11_silent_1, e_X11_silent_2, e_X11_silent_5, e_X11_silent_6, e_X11_silent_7, e_X11_silent_8, e_X11_silent_11, e_X11_silent_14, e_X11_silent_17, e_X11_silent_18, e_X11_silent_19, e_X11_silent_20, e_X11_silent_23, e_X11_silent_26, e_X11_silent_29, e_X11_silent_30, e_X11_silent_31, e_X11_silent_32, e_X11_silent_35, e_X11_silent_38, e_X11_silent_41, e_X11_silent_43, e_X11_silent_44, e_X11_silent_45, e_X11_silent_48, e_X11_silent_51, e_X11_silent_54, e_X11_silent_55, e_X11_silent_56, e_X11_silent_57, e_X11_silent_59, e_X11_silent_62, e_X11_silent_63, e_X11_silent_64, e_X11_silent_66, e_X11_silent_67, e_X11_silent_68, e_X11_silent_69, e_X11_silent_70, e_X11_silent_73, e_X11_silent_75, e_X11_silent_78, e_X11_silent_79, e_X11_silent_82, e_X11_silent_84, e_X11_silent_85, e_X11_silent_87, e_X11_silent_88, e_X11_silent_90, e_X11_silent_91, e_X11_silent_95, e_X11_silent_96, e_X11_silent_97, e_X11_silent_98, e_X11_silent_101, e_X11_silent_103, e_X11_silent_106, e_X11_silent_108, e_X11_silent_110, e_X11_silent_112, e_X11_silent_114, e_X11_silent_117, e_X11_silent_119, e_X11_silent_121, e_X11_silent_124, e_X11_silent_126, e_X11_silent_127, e_X11_silent_129, e_X11_silent_130, e_X11_silent_133, e_X11_silent_134, e_X11_silent_137, e_X11_silent_138, e_X11_silent_139, e_X11_silent_141, e_X11_silent_144, e_X11_silent_147, e_X11_silent_148, e_X11_silent_150, e_X11_silent_153, e_X11_silent_154, e_X11_silent_155, e_X11_silent_156, e_X11_silent_159, e_X11_silent_162, e_X11_silent_163, ob_91, kcl_i, kcl_r, kcl_l, kcl_0, kcl_n, true_and, and_true, uP_0, l0, l1, l4, la, m_in, m_inI, kb_0, c1, c2, c3, c4, c7, c8, mul_nat, not_true_eq_false, not_false_eq_true, and_self, if_true, if_false]
  simp only [lb, l10, show (0 : Int32).toInt64 = Int64.ofNat 0 from by decide, i2l_nat (show 10 - p < 100000 by omega), m_power (show k < 100000 by omega), hqu, hal, ← Int64.ofNat_sub _ _ hle, e_X11_silent_0, e_X11_silent_1, e_X11_silent_2, e_X11_silent_5, e_X11_silent_6, e_X11_silent_7, e_X11_silent_8, e_X11_silent_11, e_X11_silent_14, e_X11_silent_17, e_X11_silent_18, e_X11_silent_19, e_X11_silent_20, e_X11_silent_23, e_X11_silent_26, e_X11_silent_29, e_X11_silent_30, e_X11_silent_31, e_X11_silent_32, e_X11_silent_35, e_X11_silent_38, e_X11_silent_41, e_X11_silent_43, e_X11_silent_44, e_X11_silent_45, e_X11_silent_48, e_X11_silent_51, e_X11_silent_54, e_X11_silent_55, e_X11_silent_56, e_X11_silent_57, e_X11_silent_59, e_X11_silent_62, e_X11_silent_63, e_X11_silent_64, e_X11_silent_66, e_X11_silent_67, e_X11_silent_68, e_X11_silent_69, e_X11_silent_70, e_X11_silent_73, e_X11_silent_75, e_X11_silent_78, e_X11_silent_79, e_X11_silent_82, e_X11_silent_84, e_X11_silent_85, e_X11_silent_87, e_X11_silent_88, e_X11_silent_90, e_X11_silent_91, e_X11_silent_95, e_X11_silent_96, e_X11_silent_97, e_X11_silent_98, e_X11_silent_101, e_X11_silent_103, e_X11_silent_106, e_X11_silent_108, e_X11_silent_110, e_X11_silent_112, e_X11_silent_114, e_X11_silent_117, e_X11_silent_119, e_X11_silent_121, e_X11_silent_124, e_X11_silent_126, e_X11_silent_127, e_X11_silent_129, e_X11_silent_130, e_X11_silent_133, e_X11_silent_134, e_X11_silent_137, e_X11_silent_138, e_X11_silent_139, e_X11_silent_141, e_X11_silent_144, e_X11_silent_147, e_X11_silent_148, e_X11_silent_150, e_X11_silent_153, e_X11_silent_154, e_X11_silent_155, e_X11_silent_156, e_X11_silent_159, e_X11_silent_162, e_X11_silent_163, ob_91, kcl_i, kcl_r, kcl_l, kcl_0, kcl_n, true_and, and_true]
  have E := k_lq (n := 2 ^ n) (Q := fun x (w : Nat × Value) => kWP sc (d + 499) 237 93 [.ref 91, .int (Int32.ofNat n), .int (Int32.ofNat k), .int (Int32.ofNat p), .int (Int32.ofNat v), .long (Int64.ofNat qu), .retAddr 0, .long (Int64.ofNat (al - qu)), .retAddr 0, .long (Int64.ofNat w.1), .retAddr 0, .int (Int32.ofNat x), w.2] [] ((120, cu, su), uPut i, l, kR f t sp) K) (I := fun x w => w.1 = mSil qu (al - qu) n v x) (b0 := (0, .retAddr 0)) ?_ rfl
  · obtain ⟨⟨w, v12⟩, hw, e⟩ := E
    have hw' : w = mSil qu (al - qu) n v (2 ^ n) := hw
    have lz : (0 : Int64) = Int64.ofNat 0 := rfl
    refine e.trans ?_
    rw [hw']
    refine e_X11_silent_93.trans ?_
    simp only [e_X11_silent_0, e_X11_silent_1, e_X11_silent_2, e_X11_silent_5, e_X11_silent_6, e_X11_silent_7, e_X11_silent_8, e_X11_silent_11, e_X11_silent_14, e_X11_silent_17, e_X11_silent_18, e_X11_silent_19, e_X11_silent_20, e_X11_silent_23, e_X11_silent_26, e_X11_silent_29, e_X11_silent_30, e_X11_silent_31, e_X11_silent_32, e_X11_silent_35, e_X11_silent_38, e_X11_silent_41, e_X11_silent_43, e_X11_silent_44, e_X11_silent_45, e_X11_silent_48, e_X11_silent_51, e_X11_silent_54, e_X11_silent_55, e_X11_silent_56, e_X11_silent_57, e_X11_silent_59, e_X11_silent_62, e_X11_silent_63, e_X11_silent_64, e_X11_silent_66, e_X11_silent_67, e_X11_silent_68, e_X11_silent_69, e_X11_silent_70, e_X11_silent_73, e_X11_silent_75, e_X11_silent_78, e_X11_silent_79, e_X11_silent_82, e_X11_silent_84, e_X11_silent_85, e_X11_silent_87, e_X11_silent_88, e_X11_silent_90, e_X11_silent_91, e_X11_silent_95, e_X11_silent_96, e_X11_silent_97, e_X11_silent_98, e_X11_silent_101, e_X11_silent_103, e_X11_silent_106, e_X11_silent_108, e_X11_silent_110, e_X11_silent_112, e_X11_silent_114, e_X11_silent_117, e_X11_silent_119, e_X11_silent_121, e_X11_silent_124, e_X11_silent_126, e_X11_silent_127, e_X11_silent_129, e_X11_silent_130, e_X11_silent_133, e_X11_silent_134, e_X11_silent_137, e_X11_silent_138, e_X11_silent_139, e_X11_silent_141, e_X11_silent_144, e_X11_silent_147, e_X11_silent_148, e_X11_silent_150, e_X11_silent_153, e_X11_silent_154, e_X11_silent_155, e_X11_silent_156, e_X11_silent_159, e_X11_silent_162, e_X11_silent_163, ob_91, kcl_i, kcl_r, kcl_l, kcl_0, kcl_n, true_and, and_true, shn n n10, Int32.le_refl, if_true, l10, mul_nat, m_power (show n * k < 100000 by omega), hdn]
    rw [show d + 498 + 1 = d + 367 + 132 from rfl, F]
    simp only [e_X11_silent_0, e_X11_silent_1, e_X11_silent_2, e_X11_silent_5, e_X11_silent_6, e_X11_silent_7, e_X11_silent_8, e_X11_silent_11, e_X11_silent_14, e_X11_silent_17, e_X11_silent_18, e_X11_silent_19, e_X11_silent_20, e_X11_silent_23, e_X11_silent_26, e_X11_silent_29, e_X11_silent_30, e_X11_silent_31, e_X11_silent_32, e_X11_silent_35, e_X11_silent_38, e_X11_silent_41, e_X11_silent_43, e_X11_silent_44, e_X11_silent_45, e_X11_silent_48, e_X11_silent_51, e_X11_silent_54, e_X11_silent_55, e_X11_silent_56, e_X11_silent_57, e_X11_silent_59, e_X11_silent_62, e_X11_silent_63, e_X11_silent_64, e_X11_silent_66, e_X11_silent_67, e_X11_silent_68, e_X11_silent_69, e_X11_silent_70, e_X11_silent_73, e_X11_silent_75, e_X11_silent_78, e_X11_silent_79, e_X11_silent_82, e_X11_silent_84, e_X11_silent_85, e_X11_silent_87, e_X11_silent_88, e_X11_silent_90, e_X11_silent_91, e_X11_silent_95, e_X11_silent_96, e_X11_silent_97, e_X11_silent_98, e_X11_silent_101, e_X11_silent_103, e_X11_silent_106, e_X11_silent_108, e_X11_silent_110, e_X11_silent_112, e_X11_silent_114, e_X11_silent_117, e_X11_silent_119, e_X11_silent_121, e_X11_silent_124, e_X11_silent_126, e_X11_silent_127, e_X11_silent_129, e_X11_silent_130, e_X11_silent_133, e_X11_silent_134, e_X11_silent_137, e_X11_silent_138, e_X11_silent_139, e_X11_silent_141, e_X11_silent_144, e_X11_silent_147, e_X11_silent_148, e_X11_silent_150, e_X11_silent_153, e_X11_silent_154, e_X11_silent_155, e_X11_silent_156, e_X11_silent_159, e_X11_silent_162, e_X11_silent_163, ob_91, kcl_i, kcl_r, kcl_l, kcl_0, kcl_n, true_and, and_true]
    rfl
  · intro x ⟨w, v12⟩ hx hI
    have hI' : w = mSil qu (al - qu) n v x := hI
    have px := pc_is x (by omega)
    have pn : pcN x ≤ n := by
      have : ∀ n, n ≤ 10 → ∀ x, x < 2 ^ n → pcN x ≤ n := by decide +kernel
      exact this n n10 x hx
    have d2 : Int32.ofNat n - Int32.ofNat (pcN x) = Int32.ofNat (n - pcN x) := sub_nat pn
    refine ⟨(w + sF qu (al - qu) n v (pcN x), .int (Int32.ofNat (pcN x))), ?_, ?_⟩
    · show w + _ = mSil qu (al - qu) n v x + _; rw [hI']
    · refine e_X11_silent_93.trans ?_
      simp only [e_X11_silent_0, e_X11_silent_1, e_X11_silent_2, e_X11_silent_5, e_X11_silent_6, e_X11_silent_7, e_X11_silent_8, e_X11_silent_11, e_X11_silent_14, e_X11_silent_17, e_X11_silent_18, e_X11_silent_19, e_X11_silent_20, e_X11_silent_23, e_X11_silent_26, e_X11_silent_29, e_X11_silent_30, e_X11_silent_31, e_X11_silent_32, e_X11_silent_35, e_X11_silent_38, e_X11_silent_41, e_X11_silent_43, e_X11_silent_44, e_X11_silent_45, e_X11_silent_48, e_X11_silent_51, e_X11_silent_54, e_X11_silent_55, e_X11_silent_56, e_X11_silent_57, e_X11_silent_59, e_X11_silent_62, e_X11_silent_63, e_X11_silent_64, e_X11_silent_66, e_X11_silent_67, e_X11_silent_68, e_X11_silent_69, e_X11_silent_70, e_X11_silent_73, e_X11_silent_75, e_X11_silent_78, e_X11_silent_79, e_X11_silent_82, e_X11_silent_84, e_X11_silent_85, e_X11_silent_87, e_X11_silent_88, e_X11_silent_90, e_X11_silent_91, e_X11_silent_95, e_X11_silent_96, e_X11_silent_97, e_X11_silent_98, e_X11_silent_101, e_X11_silent_103, e_X11_silent_106, e_X11_silent_108, e_X11_silent_110, e_X11_silent_112, e_X11_silent_114, e_X11_silent_117, e_X11_silent_119, e_X11_silent_121, e_X11_silent_124, e_X11_silent_126, e_X11_silent_127, e_X11_silent_129, e_X11_silent_130, e_X11_silent_133, e_X11_silent_134, e_X11_silent_137, e_X11_silent_138, e_X11_silent_139, e_X11_silent_141, e_X11_silent_144, e_X11_silent_147, e_X11_silent_148, e_X11_silent_150, e_X11_silent_153, e_X11_silent_154, e_X11_silent_155, e_X11_silent_156, e_X11_silent_159, e_X11_silent_162, e_X11_silent_163, ob_91, kcl_i, kcl_r, kcl_l, kcl_0, kcl_n, true_and, and_true, shn n n10, jpF hx (by omega), if_false, c_bitCount, px.1, tn_lt (show pcN x < 2147483648 by omega) (show v < 2147483648 by omega), d2, m_power (show pcN x < 100000 by omega), m_power (show n - pcN x < 100000 by omega), ← Int64.ofNat_mul, ← Int64.ofNat_add, tn_s]
      unfold sF
      by_cases q : pcN x < v
      · have q2 : ¬ v ≤ pcN x := by omega
        simp only [q, q2, if_true, if_false, Nat.add_zero, Int64.add_zero]
      · have q2 : v ≤ pcN x := by omega
        simp only [q, q2, if_true, if_false]
theorem J_silent (h : IV m i l f t sp) (p q v r : Int32) : JJ 124 237 [.int p, .int q, .int v, .int r] i l f t sp := by
  by_cases h0 : (¬ p < 1 ∧ ¬ 10 < p) ∧ (¬ q < 1 ∧ ¬ 4 < q) ∧ (¬ v < 0 ∧ ¬ 10 < v) ∧ (¬ r < 0 ∧ ¬ 10 < r) ∧ p * q ≤ 16
  · obtain ⟨⟨a1, a2⟩, ⟨b1, b2⟩, ⟨d1, d2⟩, ⟨e1, e2⟩, pq⟩ := h0
    obtain ⟨n, hn, rfl⟩ := tn_exle (m := 10) (by decide) (Int32.le_trans (by decide) (Int32.not_lt.1 a1)) (Int32.not_lt.1 a2)
    obtain ⟨k, hk, rfl⟩ := tn_exle (m := 4) (by decide) (Int32.le_trans (by decide) (Int32.not_lt.1 b1)) (Int32.not_lt.1 b2)
    obtain ⟨pp, hpp, rfl⟩ := tn_exle (m := 10) (by decide) (Int32.not_lt.1 d1) (Int32.not_lt.1 d2)
    obtain ⟨vv, hvv, rfl⟩ := tn_exle (m := 10) (by decide) (Int32.not_lt.1 e1) (Int32.not_lt.1 e2)
    have n1 : 1 ≤ n := by
      rw [show (1 : Int32) = Int32.ofNat 1 from rfl, tn_lt (by omega) (by decide)] at a1; omega
    have k1 : 1 ≤ k := by
      rw [show (1 : Int32) = Int32.ofNat 1 from rfl, tn_lt (by omega) (by decide)] at b1; omega
    have nk40 : n * k ≤ 40 := Nat.mul_le_mul hn hk
    have nk : n * k ≤ 16 := by
      rw [mul_nat, show (16 : Int32) = Int32.ofNat 16 from rfl, tn_le (by omega) (by decide)] at pq; exact pq
    have hle : (10 - pp) ^ k ≤ 10 ^ k := Nat.pow_le_pow_left (by omega) k
    have eC : cSil ((10 - pp) ^ k) (10 ^ k - (10 - pp) ^ k) n vv (n + 1) = gSum n (sF ((10 - pp) ^ k) (10 ^ k - (10 - pp) ^ k) n vv) := by
      rw [← bin_sum]
      exact kfo_congr (fun j hj u => by rw [(ways_bin n hn j (by omega)).1])
    have eM : mSil ((10 - pp) ^ k) (10 ^ k - (10 - pp) ^ k) n vv (2 ^ n) = gSum n (sF ((10 - pp) ^ k) (10 ^ k - (10 - pp) ^ k) n vv) := sets_sum n hn _
    have hG : gSum n (sF ((10 - pp) ^ k) (10 ^ k - (10 - pp) ^ k) n vv) < 2 ^ 63 := Nat.lt_of_le_of_lt (gSum_le n _ (fun j hj => sF_le hle (by omega) hj)) (sil_63 n hn k hk nk).1
    have C := c_sil (i := i) (l := l) (f := f) (t := t) (sp := sp) (n := n) (k := k) (p := pp) (v := vv) n1 hn k1 hk hpp hvv nk (by rw [eC]; exact hG)
    have W := fun l => m_sil (i := wPut i 2) (l := l) (f := f) (t := t) (sp := sp) (n := n) (k := k) (p := pp) (v := vv) n1 hn k1 hk hpp hvv nk (by rw [eM]; exact hG)
    rw [eC, ← Nat.pow_mul, Nat.mul_comm k n] at C
    rw [eM] at W
    exact JJ_q h 0 2 i (uPut (wPut i 2)) _ rfl (by decide) ag_r (ag_uu ag_r) rfl C (W _)
  · refine JJ_n h (-1) i (uPut i) ag_r (ag_uu ag_r) rfl rfl ?_ ?_
    · intro sc d y nx hd L st cu su K
      refine kCA_of (d := d + 499) (v := some (.int _)) (fun K => ?_)
      rw [km_124]
      show kWP sc (d + 499) 124 0 [.ref 0, .int p, .int q, .int v, .int r, .retAddr 0, .retAddr 0, .retAddr 0, .retAddr 0, .retAddr 0, .retAddr 0, .retAddr 0, .retAddr 0, .retAddr 0, .retAddr 0] [] _ K = _
      simp only [e_X10_silent_0, e_X10_silent_1, e_X10_silent_2, e_X10_silent_5, e_X10_silent_6, e_X10_silent_8, e_X10_silent_11, e_X10_silent_13, e_X10_silent_16, e_X10_silent_18, e_X10_silent_20, e_X10_silent_23, e_X10_silent_24, e_X10_silent_27, e_X10_silent_28, e_X10_silent_30, e_X10_silent_32, e_X10_silent_35, e_X10_silent_36, e_X10_silent_37, e_X10_silent_40, e_X10_silent_41, e_X10_silent_42, e_X10_silent_45, e_X10_silent_46, e_X10_silent_49, e_X10_silent_50, e_X10_silent_52, e_X10_silent_55, e_X10_silent_56, e_X10_silent_57, e_X10_silent_58, e_X10_silent_60, e_X10_silent_63, e_X10_silent_64, e_X10_silent_65, e_X10_silent_68, e_X10_silent_69, e_X10_silent_72, e_X10_silent_74, e_X10_silent_76, e_X10_silent_77, e_X10_silent_78, e_X10_silent_79, e_X10_silent_80, e_X10_silent_83, e_X10_silent_85, e_X10_silent_86, e_X10_silent_88, e_X10_silent_89, e_X10_silent_91, e_X10_silent_92, e_X10_silent_96, e_X10_silent_97, e_X10_silent_100, e_X10_silent_102, e_X10_silent_104, e_X10_silent_107, e_X10_silent_109, e_X10_silent_111, e_X10_silent_113, e_X10_silent_115, e_X10_silent_118, e_X10_silent_119, e_X10_silent_121, e_X10_silent_123, e_X10_silent_124, e_X10_silent_125, e_X10_silent_127, e_X10_silent_128, e_X10_silent_131, e_X10_silent_132, e_X10_silent_133, e_X10_silent_135, e_X10_silent_137, e_X10_silent_138, e_X10_silent_140, e_X10_silent_141, e_X10_silent_142, e_X10_silent_143, e_X10_silent_145, e_X10_silent_146, e_X10_silent_147, e_X10_silent_148, e_X10_silent_149, e_X10_silent_151, e_X10_silent_154, e_X10_silent_157, e_X10_silent_158, e_X10_silent_161, e_X10_silent_164, e_X10_silent_165, e_X10_silent_168, e_X10_silent_170, e_X10_silent_172, e_X10_silent_173, e_X10_silent_176, e_X10_silent_179, e_X10_silent_180, ob_0, rk_0_1, ob_3, kcl_i, kcl_r, kcl_l, kcl_0, kcl_n, true_and, and_true]
      by_cases a1 : p < 1
      · simp only [a1, if_true]
      by_cases a2 : 10 < p
      · simp only [a1, a2, if_true, if_false]
      by_cases e1 : r < 0
      · simp only [a1, a2, e1, if_true, if_false]
      by_cases e2 : 10 < r
      · simp only [a1, a2, e1, e2, if_true, if_false]
      by_cases b1 : q < 1
      · simp only [a1, a2, e1, e2, b1, z10, if_true, if_false]
      by_cases b2 : 4 < q
      · simp only [a1, a2, e1, e2, b1, b2, z10, if_true, if_false]
      by_cases d1 : v < 0
      · simp only [a1, a2, e1, e2, b1, b2, d1, z10, if_true, if_false]
      by_cases d2 : 10 < v
      · simp only [a1, a2, e1, e2, b1, b2, d1, d2, z10, if_true, if_false]
      have pq : ¬ p * q ≤ 16 := fun z => h0 ⟨⟨a1, a2⟩, ⟨b1, b2⟩, ⟨d1, d2⟩, ⟨e1, e2⟩, z⟩
      simp only [a1, a2, e1, e2, b1, b2, d1, d2, pq, z10, if_false]
    · intro sc d y nx hd L st cu su K
      have la : (10 : Int64) = (10 : Int32).toInt64 := by decide
      refine kCA_of (d := d + 499) (v := some (.int _)) (fun K => ?_)
      rw [km_237]
      show kWP sc (d + 499) 237 0 [.ref 91, .int p, .int q, .int v, .int r, .retAddr 0, .retAddr 0, .retAddr 0, .retAddr 0, .retAddr 0, .retAddr 0, .retAddr 0, .retAddr 0] [] _ K = _
      simp only [e_X11_silent_0, e_X11_silent_1, e_X11_silent_2, e_X11_silent_5, e_X11_silent_6, e_X11_silent_7, e_X11_silent_8, e_X11_silent_11, e_X11_silent_14, e_X11_silent_17, e_X11_silent_18, e_X11_silent_19, e_X11_silent_20, e_X11_silent_23, e_X11_silent_26, e_X11_silent_29, e_X11_silent_30, e_X11_silent_31, e_X11_silent_32, e_X11_silent_35, e_X11_silent_38, e_X11_silent_41, e_X11_silent_43, e_X11_silent_44, e_X11_silent_45, e_X11_silent_48, e_X11_silent_51, e_X11_silent_54, e_X11_silent_55, e_X11_silent_56, e_X11_silent_57, e_X11_silent_59, e_X11_silent_62, e_X11_silent_63, e_X11_silent_64, e_X11_silent_66, e_X11_silent_67, e_X11_silent_68, e_X11_silent_69, e_X11_silent_70, e_X11_silent_73, e_X11_silent_75, e_X11_silent_78, e_X11_silent_79, e_X11_silent_82, e_X11_silent_84, e_X11_silent_85, e_X11_silent_87, e_X11_silent_88, e_X11_silent_90, e_X11_silent_91, e_X11_silent_95, e_X11_silent_96, e_X11_silent_97, e_X11_silent_98, e_X11_silent_101, e_X11_silent_103, e_X11_silent_106, e_X11_silent_108, e_X11_silent_110, e_X11_silent_112, e_X11_silent_114, e_X11_silent_117, e_X11_silent_119, e_X11_silent_121, e_X11_silent_124, e_X11_silent_126, e_X11_silent_127, e_X11_silent_129, e_X11_silent_130, e_X11_silent_133, e_X11_silent_134, e_X11_silent_137, e_X11_silent_138, e_X11_silent_139, e_X11_silent_141, e_X11_silent_144, e_X11_silent_147, e_X11_silent_148, e_X11_silent_150, e_X11_silent_153, e_X11_silent_154, e_X11_silent_155, e_X11_silent_156, e_X11_silent_159, e_X11_silent_162, e_X11_silent_163, ob_91, kcl_i, kcl_r, kcl_l, kcl_0, kcl_n, true_and, and_true, uP_0, l0, l1, l4, la, m_in, m_inI, kb_0]
      by_cases a1 : ¬ p < 1 ∧ ¬ 10 < p
      · by_cases b1 : ¬ q < 1 ∧ ¬ 4 < q
        · by_cases d1 : ¬ v < 0 ∧ ¬ 10 < v
          · by_cases e1 : ¬ r < 0 ∧ ¬ 10 < r
            · have pq : ¬ p * q ≤ 16 := fun z => h0 ⟨a1, b1, d1, e1, z⟩
              simp only [a1, b1, d1, e1, pq, not_true_eq_false, not_false_eq_true, and_self, if_false]
            · simp only [a1, b1, d1, e1, not_true_eq_false, not_false_eq_true, and_self, if_true, if_false]
          · simp only [a1, b1, d1, not_true_eq_false, not_false_eq_true, and_self, if_true, if_false]
        · simp only [a1, b1, not_true_eq_false, not_false_eq_true, and_self, if_true, if_false]
      · simp only [a1, not_false_eq_true, if_true]
end TC
