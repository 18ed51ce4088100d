section KE
variable {sc : Nat × (Nat → Int32)} {d : Nat} {st : List Value} {S : kS} {u : kU} {i : Nat → Nat → Int32} {l : Nat → Nat → Int64} {r : Nat → Nat → Value} {K : Option (Option Value) → kS → Prop} {x0 x1 x2 x3 x4 x5 x6 x7 x8 x9 x10 x11 x12 x13 x14 y0 y1 y2 y3 : Value} {p q s w v0 v1 v2 : Int32} {z1 z2 z3 : Int64} {a b c e0 e1 : Nat}
theorem e_X0_init_0 : kWP sc d 0 0 [.ref a] st S K = kWP sc d 0 1 [.ref a] (.ref a :: st) S K := w_loada (kF 0 0 (3, 0, 2, 0, 1, []) (by decide +kernel)) rfl
theorem e_X0_init_1 : kWP sc d 0 1 [x0] [.ref a] S K = kWP sc d 0 4 [x0] [] S K := w_obj (kF 0 1 (27, 0, 13, 0, 4, []) (by decide +kernel)) (Nat.le_of_ble_eq_true rfl)
theorem e_X0_init_4 : kWP sc d 0 4 [.ref a] st S K = kWP sc d 0 5 [.ref a] (.ref a :: st) S K := w_loada (kF 0 4 (3, 0, 2, 0, 5, []) (by decide +kernel)) rfl
theorem e_X0_init_5 : kWP sc d 0 5 [x0] st S K = kWP sc d 0 6 [x0] (.int 0 :: st) S K := w_iconst (kF 0 5 (1, 0, 0, 0, 6, []) (by decide +kernel)) rfl
theorem e_X0_init_6 : kWP sc d 0 6 [x0] (.int p :: .ref a :: st) (u, i, l, r) K = (kob u a 0 ∧ kWP sc d 0 9 [x0] st (u, kupi i a 0 p, l, r) K) := w_puti (kF 0 6 (16, 0, 0, 0, 9, []) (by decide +kernel))
theorem e_X0_init_9 : kWP sc d 0 9 [x0] [] S K = K (some none) S := w_ret0 (kF 0 9 (24, 0, 0, 0, 10, []) (by decide +kernel))
theorem e_X0_start_0 : kWP sc d 1 0 [.ref a, x1] st S K = kWP sc d 1 1 [.ref a, x1] (.ref a :: st) S K := w_loada (kF 1 0 (3, 0, 2, 0, 1, []) (by decide +kernel)) rfl
theorem e_X0_start_1 : kWP sc d 1 1 [x0, .int p] st S K = kWP sc d 1 2 [x0, .int p] (.int p :: st) S K := w_loadi (kF 1 1 (3, 1, 0, 0, 2, []) (by decide +kernel)) rfl
theorem e_X0_start_2 : kWP sc d 1 2 [x0, x1] (.int p :: .ref a :: st) (u, i, l, r) K = (kob u a 0 ∧ kWP sc d 1 5 [x0, x1] st (u, kupi i a 0 p, l, r) K) := w_puti (kF 1 2 (16, 0, 0, 0, 5, []) (by decide +kernel))
theorem e_X0_start_5 : kWP sc d 1 5 [x0, x1] [] S K = K (some none) S := w_ret0 (kF 1 5 (24, 0, 0, 0, 6, []) (by decide +kernel))
theorem e_X0_of_0 : kWP sc d 2 0 [.ref a, x1] st S K = kWP sc d 2 1 [.ref a, x1] (.ref a :: st) S K := w_loada (kF 2 0 (3, 0, 2, 0, 1, []) (by decide +kernel)) rfl
theorem e_X0_of_1 : kWP sc d 2 1 [.ref a, x1] st S K = kWP sc d 2 2 [.ref a, x1] (.ref a :: st) S K := w_loada (kF 2 1 (3, 0, 2, 0, 2, []) (by decide +kernel)) rfl
theorem e_X0_of_2 : kWP sc d 2 2 [x0, x1] (.ref a :: st) (u, i, l, r) K = (kob u a 0 ∧ kWP sc d 2 5 [x0, x1] (.int (i a 0) :: st) (u, i, l, r) K) := w_geti (kF 2 2 (15, 0, 0, 0, 5, []) (by decide +kernel))
theorem e_X0_of_5 : kWP sc d 2 5 [x0, x1] st S K = kWP sc d 2 7 [x0, x1] (.int 1103515245 :: st) S K := w_iconst (kF 2 5 (1, 0, 0, 1103515245, 7, []) (by decide +kernel)) rfl
theorem e_X0_of_7 : kWP sc d 2 7 [x0, x1] (.int q :: .int p :: st) S K = kWP sc d 2 8 [x0, x1] (.int (p * q) :: st) S K := w_imul (kF 2 7 (6, 0, 2, 0, 8, []) (by decide +kernel))
theorem e_X0_of_8 : kWP sc d 2 8 [x0, x1] st S K = kWP sc d 2 11 [x0, x1] (.int 12345 :: st) S K := w_iconst (kF 2 8 (1, 0, 0, 12345, 11, []) (by decide +kernel)) rfl
theorem e_X0_of_11 : kWP sc d 2 11 [x0, x1] (.int q :: .int p :: st) S K = kWP sc d 2 12 [x0, x1] (.int (p + q) :: st) S K := w_iadd (kF 2 11 (6, 0, 0, 0, 12, []) (by decide +kernel))
theorem e_X0_of_12 : kWP sc d 2 12 [x0, x1] (.int p :: .ref a :: st) (u, i, l, r) K = (kob u a 0 ∧ kWP sc d 2 15 [x0, x1] st (u, kupi i a 0 p, l, r) K) := w_puti (kF 2 12 (16, 0, 0, 0, 15, []) (by decide +kernel))
theorem e_X0_of_15 : kWP sc d 2 15 [x0, .int p] st S K = kWP sc d 2 16 [x0, .int p] (.int p :: st) S K := w_loadi (kF 2 15 (3, 1, 0, 0, 16, []) (by decide +kernel)) rfl
theorem e_X0_of_16 : kWP sc d 2 16 [x0, x1] st S K = kWP sc d 2 17 [x0, x1] (.int 1 :: st) S K := w_iconst (kF 2 16 (1, 0, 0, 1, 17, []) (by decide +kernel)) rfl
theorem e_X0_of_17 : kWP sc d 2 17 [x0, x1] (.int q :: .int p :: st) S K = if q ≤ p then kWP sc d 2 24 [x0, x1] st S K else kWP sc d 2 20 [x0, x1] st S K := w_ige (kF 2 17 (11, 24, 3, 0, 20, []) (by decide +kernel))
theorem e_X0_of_20 : kWP sc d 2 20 [x0, x1] st S K = kWP sc d 2 21 [x0, x1] (.int 0 :: st) S K := w_iconst (kF 2 20 (1, 0, 0, 0, 21, []) (by decide +kernel)) rfl
theorem e_X0_of_21 : kWP sc d 2 21 [x0, x1] st S K = kWP sc d 2 33 [x0, x1] st S K := w_goto (kF 2 21 (13, 33, 0, 0, 24, []) (by decide +kernel))
theorem e_X0_of_24 : kWP sc d 2 24 [.ref a, x1] st S K = kWP sc d 2 25 [.ref a, x1] (.ref a :: st) S K := w_loada (kF 2 24 (3, 0, 2, 0, 25, []) (by decide +kernel)) rfl
theorem e_X0_of_25 : kWP sc d 2 25 [x0, x1] (.ref a :: st) (u, i, l, r) K = (kob u a 0 ∧ kWP sc d 2 28 [x0, x1] (.int (i a 0) :: st) (u, i, l, r) K) := w_geti (kF 2 25 (15, 0, 0, 0, 28, []) (by decide +kernel))
theorem e_X0_of_28 : kWP sc d 2 28 [x0, x1] st S K = kWP sc d 2 30 [x0, x1] (.int 16 :: st) S K := w_iconst (kF 2 28 (1, 0, 0, 16, 30, []) (by decide +kernel)) rfl
theorem e_X0_of_30 : kWP sc d 2 30 [x0, x1] (.int q :: .int p :: st) S K = kWP sc d 2 31 [x0, x1] (.int ((p.toUInt32 >>> (q.toUInt32 &&& Int32.toUInt32 31)).toInt32) :: st) S K := w_iushr (kF 2 30 (6, 0, 10, 0, 31, []) (by decide +kernel))
theorem e_X0_of_31 : kWP sc d 2 31 [x0, .int p] st S K = kWP sc d 2 32 [x0, .int p] (.int p :: st) S K := w_loadi (kF 2 31 (3, 1, 0, 0, 32, []) (by decide +kernel)) rfl
theorem e_X0_of_32 : kWP sc d 2 32 [x0, x1] (.int q :: .int p :: st) S K = (¬ q = 0 ∧ kWP sc d 2 33 [x0, x1] (.int (p - p / q * q) :: st) S K) := w_irem (kF 2 32 (6, 0, 4, 0, 33, []) (by decide +kernel))
theorem e_X0_of_33 : kWP sc d 2 33 [x0, x1] [.int p] S K = K (some (some (.int p))) S := w_ret1 (kF 2 33 (24, 0, 1, 0, 34, []) (by decide +kernel))
theorem e_X8_init_0 : kWP sc d 83 0 [.ref a] st S K = kWP sc d 83 1 [.ref a] (.ref a :: st) S K := w_loada (kF 83 0 (3, 0, 2, 0, 1, []) (by decide +kernel)) rfl
theorem e_X8_init_1 : kWP sc d 83 1 [x0] [.ref a] S K = kWP sc d 83 4 [x0] [] S K := w_obj (kF 83 1 (27, 0, 13, 0, 4, []) (by decide +kernel)) (Nat.le_of_ble_eq_true rfl)
theorem e_X8_init_4 : kWP sc d 83 4 [.ref a] st S K = kWP sc d 83 5 [.ref a] (.ref a :: st) S K := w_loada (kF 83 4 (3, 0, 2, 0, 5, []) (by decide +kernel)) rfl
theorem e_X8_init_5 : kWP sc d 83 5 [x0] st S K = kWP sc d 83 7 [x0] (.int 61 :: st) S K := w_iconst (kF 83 5 (1, 0, 0, 61, 7, []) (by decide +kernel)) rfl
theorem e_X8_init_7 : ∀ {m : Nat}, p.toNatClampNeg = m → (u.2.1 = u.1 ∧ ¬ p < 0 ∧ m ≤ 65536 ∧ kSH u.1 = .inr (2, m)) → kWP sc d 83 7 [x0] (.int p :: st) (u, i, l, r) K = kWP sc d 83 9 [x0] (.ref u.1 :: st) (kfresh (u, i, l, r) m) K := fun h1 h2 => w_newa (kF 83 7 (20, 0, 2, 0, 9, []) (by decide +kernel)) h1 h2
theorem e_X8_init_9 : kWP sc d 83 9 [x0] (.ref c :: .ref a :: st) (u, i, l, r) K = (kob u a 8 ∧ kWP sc d 83 12 [x0] st (u, i, l, kupr r a 0 (.ref c)) K) := w_putr (kF 83 9 (16, 8, 0, 2, 12, []) (by decide +kernel))
theorem e_X8_init_12 : kWP sc d 83 12 [.ref a] st S K = kWP sc d 83 13 [.ref a] (.ref a :: st) S K := w_loada (kF 83 12 (3, 0, 2, 0, 13, []) (by decide +kernel)) rfl
theorem e_X8_init_13 : kWP sc d 83 13 [x0] st S K = kWP sc d 83 15 [x0] (.int 61 :: st) S K := w_iconst (kF 83 13 (1, 0, 0, 61, 15, []) (by decide +kernel)) rfl
theorem e_X8_init_15 : ∀ {m : Nat}, p.toNatClampNeg = m → (u.2.1 = u.1 ∧ ¬ p < 0 ∧ m ≤ 65536 ∧ kSH u.1 = .inr (2, m)) → kWP sc d 83 15 [x0] (.int p :: st) (u, i, l, r) K = kWP sc d 83 17 [x0] (.ref u.1 :: st) (kfresh (u, i, l, r) m) K := fun h1 h2 => w_newa (kF 83 15 (20, 0, 2, 0, 17, []) (by decide +kernel)) h1 h2
theorem e_X8_init_17 : kWP sc d 83 17 [x0] (.ref c :: .ref a :: st) (u, i, l, r) K = (kob u a 8 ∧ kWP sc d 83 20 [x0] st (u, i, l, kupr r a 1 (.ref c)) K) := w_putr (kF 83 17 (16, 8, 1, 2, 20, []) (by decide +kernel))
theorem e_X8_init_20 : kWP sc d 83 20 [x0] [] S K = K (some none) S := w_ret0 (kF 83 20 (24, 0, 0, 0, 21, []) (by decide +kernel))
theorem e_X8_fill_0 : kWP sc d 84 0 [.ref a, x1, x2, x3] st S K = kWP sc d 84 1 [.ref a, x1, x2, x3] (.ref a :: st) S K := w_loada (kF 84 0 (3, 0, 2, 0, 1, []) (by decide +kernel)) rfl
theorem e_X8_fill_1 : kWP sc d 84 1 [x0, x1, x2, x3] (.ref a :: st) (u, i, l, r) K = (kob u a 8 ∧ kWP sc d 84 4 [x0, x1, x2, x3] (r a 0 :: st) (u, i, l, r) K) := w_getr (kF 84 1 (15, 8, 0, 2, 4, []) (by decide +kernel))
theorem e_X8_fill_4 : kWP sc d 84 4 [x0, x1, x2, x3] st S K = kWP sc d 84 5 [x0, x1, x2, x3] (.int 0 :: st) S K := w_iconst (kF 84 4 (1, 0, 0, 0, 5, []) (by decide +kernel)) rfl
theorem e_X8_fill_5 : kWP sc d 84 5 [x0, x1, x2, x3] st S K = kWP sc d 84 6 [x0, x1, x2, x3] (.int 1 :: st) S K := w_iconst (kF 84 5 (1, 0, 0, 1, 6, []) (by decide +kernel)) rfl
theorem e_X8_fill_6 : kWP sc d 84 6 [x0, x1, x2, x3] (.int q :: .int p :: .ref a :: st) (u, i, l, r) K = (kar u a 2 p ∧ kWP sc d 84 7 [x0, x1, x2, x3] st (u, kupi i a p.toNatClampNeg (kbool q), l, r) K) := w_zast (kF 84 6 (18, 0, 2, 0, 7, []) (by decide +kernel))
theorem e_X8_fill_7 : kWP sc d 84 7 [.ref a, x1, x2, x3] st S K = kWP sc d 84 8 [.ref a, x1, x2, x3] (.ref a :: st) S K := w_loada (kF 84 7 (3, 0, 2, 0, 8, []) (by decide +kernel)) rfl
theorem e_X8_fill_8 : kWP sc d 84 8 [x0, x1, x2, x3] (.ref a :: st) (u, i, l, r) K = (kob u a 8 ∧ kWP sc d 84 11 [x0, x1, x2, x3] (r a 1 :: st) (u, i, l, r) K) := w_getr (kF 84 8 (15, 8, 1, 2, 11, []) (by decide +kernel))
theorem e_X8_fill_11 : kWP sc d 84 11 [x0, x1, x2, x3] st S K = kWP sc d 84 12 [x0, x1, x2, x3] (.int 0 :: st) S K := w_iconst (kF 84 11 (1, 0, 0, 0, 12, []) (by decide +kernel)) rfl
theorem e_X8_fill_12 : kWP sc d 84 12 [x0, x1, x2, x3] st S K = kWP sc d 84 13 [x0, x1, x2, x3] (.int 1 :: st) S K := w_iconst (kF 84 12 (1, 0, 0, 1, 13, []) (by decide +kernel)) rfl
theorem e_X8_fill_13 : kWP sc d 84 13 [x0, x1, x2, x3] (.int q :: .int p :: .ref a :: st) (u, i, l, r) K = (kar u a 2 p ∧ kWP sc d 84 14 [x0, x1, x2, x3] st (u, kupi i a p.toNatClampNeg (kbool q), l, r) K) := w_zast (kF 84 13 (18, 0, 2, 0, 14, []) (by decide +kernel))
theorem e_X8_fill_14 : kWP sc d 84 14 [x0, x1, x2, x3] st S K = kWP sc d 84 15 [x0, x1, x2, x3] (.int 1 :: st) S K := w_iconst (kF 84 14 (1, 0, 0, 1, 15, []) (by decide +kernel)) rfl
theorem e_X8_fill_15 : kWP sc d 84 15 [x0, x1, x2, x3] (.int p :: st) S K = kWP sc d 84 16 [x0, x1, kcl x2, .int p] st S K := w_storei (kF 84 15 (4, 3, 0, 0, 16, []) (by decide +kernel)) (Nat.le_of_ble_eq_true rfl) rfl
theorem e_X8_fill_16 : kWP sc d 84 16 [x0, x1, x2, .int p] st S K = kWP sc d 84 17 [x0, x1, x2, .int p] (.int p :: st) S K := w_loadi (kF 84 16 (3, 3, 0, 0, 17, []) (by decide +kernel)) rfl
theorem e_X8_fill_17 : kWP sc d 84 17 [x0, x1, x2, x3] st S K = kWP sc d 84 19 [x0, x1, x2, x3] (.int 60 :: st) S K := w_iconst (kF 84 17 (1, 0, 0, 60, 19, []) (by decide +kernel)) rfl
theorem e_X8_fill_19 : kWP sc d 84 19 [x0, x1, x2, x3] (.int q :: .int p :: st) S K = if q < p then kWP sc d 84 74 [x0, x1, x2, x3] st S K else kWP sc d 84 22 [x0, x1, x2, x3] st S K := w_igt (kF 84 19 (11, 74, 4, 0, 22, []) (by decide +kernel))
theorem e_X8_fill_22 : kWP sc d 84 22 [.ref a, x1, x2, x3] st S K = kWP sc d 84 23 [.ref a, x1, x2, x3] (.ref a :: st) S K := w_loada (kF 84 22 (3, 0, 2, 0, 23, []) (by decide +kernel)) rfl
theorem e_X8_fill_23 : kWP sc d 84 23 [x0, x1, x2, x3] (.ref a :: st) (u, i, l, r) K = (kob u a 8 ∧ kWP sc d 84 26 [x0, x1, x2, x3] (r a 0 :: st) (u, i, l, r) K) := w_getr (kF 84 23 (15, 8, 0, 2, 26, []) (by decide +kernel))
theorem e_X8_fill_26 : kWP sc d 84 26 [x0, x1, x2, .int p] st S K = kWP sc d 84 27 [x0, x1, x2, .int p] (.int p :: st) S K := w_loadi (kF 84 26 (3, 3, 0, 0, 27, []) (by decide +kernel)) rfl
theorem e_X8_fill_27 : kWP sc d 84 27 [.ref a, x1, x2, x3] st S K = kWP sc d 84 28 [.ref a, x1, x2, x3] (.ref a :: st) S K := w_loada (kF 84 27 (3, 0, 2, 0, 28, []) (by decide +kernel)) rfl
theorem e_X8_fill_28 : kWP sc d 84 28 [x0, x1, x2, x3] (.ref a :: st) (u, i, l, r) K = (kob u a 8 ∧ kWP sc d 84 31 [x0, x1, x2, x3] (r a 1 :: st) (u, i, l, r) K) := w_getr (kF 84 28 (15, 8, 1, 2, 31, []) (by decide +kernel))
theorem e_X8_fill_31 : kWP sc d 84 31 [x0, x1, x2, .int p] st S K = kWP sc d 84 32 [x0, x1, x2, .int p] (.int p :: st) S K := w_loadi (kF 84 31 (3, 3, 0, 0, 32, []) (by decide +kernel)) rfl
theorem e_X8_fill_32 : kWP sc d 84 32 [x0, .int p, x2, x3] st S K = kWP sc d 84 33 [x0, .int p, x2, x3] (.int p :: st) S K := w_loadi (kF 84 32 (3, 1, 0, 0, 33, []) (by decide +kernel)) rfl
theorem e_X8_fill_33 : kWP sc d 84 33 [x0, x1, x2, x3] [.int q, .int p, .ref a, y0, y1] S K = kCA sc d 86 [.ref a, .int p, .int q] 84 36 [] [x0, x1, x2, x3] [y0, y1] S K := w_calls (kF 84 33 (23, 86, 1, 3, 36, []) (by decide +kernel)) rfl (Nat.le_of_ble_eq_true rfl)
theorem e_X8_fill_36 : kWP sc d 84 36 [x0, x1, x2, x3] (.int p :: st) S K = if p ≤ 0 then kWP sc d 84 43 [x0, x1, x2, x3] st S K else kWP sc d 84 39 [x0, x1, x2, x3] st S K := w_zle (kF 84 36 (12, 43, 5, 0, 39, []) (by decide +kernel))
theorem e_X8_fill_39 : kWP sc d 84 39 [x0, x1, x2, x3] st S K = kWP sc d 84 40 [x0, x1, x2, x3] (.int 1 :: st) S K := w_iconst (kF 84 39 (1, 0, 0, 1, 40, []) (by decide +kernel)) rfl
theorem e_X8_fill_40 : kWP sc d 84 40 [x0, x1, x2, x3] st S K = kWP sc d 84 44 [x0, x1, x2, x3] st S K := w_goto (kF 84 40 (13, 44, 0, 0, 43, []) (by decide +kernel))
theorem e_X8_fill_43 : kWP sc d 84 43 [x0, x1, x2, x3] st S K = kWP sc d 84 44 [x0, x1, x2, x3] (.int 0 :: st) S K := w_iconst (kF 84 43 (1, 0, 0, 0, 44, []) (by decide +kernel)) rfl
theorem e_X8_fill_44 : kWP sc d 84 44 [x0, x1, x2, x3] (.int q :: .int p :: .ref a :: st) (u, i, l, r) K = (kar u a 2 p ∧ kWP sc d 84 45 [x0, x1, x2, x3] st (u, kupi i a p.toNatClampNeg (kbool q), l, r) K) := w_zast (kF 84 44 (18, 0, 2, 0, 45, []) (by decide +kernel))
theorem e_X8_fill_45 : kWP sc d 84 45 [.ref a, x1, x2, x3] st S K = kWP sc d 84 46 [.ref a, x1, x2, x3] (.ref a :: st) S K := w_loada (kF 84 45 (3, 0, 2, 0, 46, []) (by decide +kernel)) rfl
theorem e_X8_fill_46 : kWP sc d 84 46 [x0, x1, x2, x3] (.ref a :: st) (u, i, l, r) K = (kob u a 8 ∧ kWP sc d 84 49 [x0, x1, x2, x3] (r a 1 :: st) (u, i, l, r) K) := w_getr (kF 84 46 (15, 8, 1, 2, 49, []) (by decide +kernel))
theorem e_X8_fill_49 : kWP sc d 84 49 [x0, x1, x2, .int p] st S K = kWP sc d 84 50 [x0, x1, x2, .int p] (.int p :: st) S K := w_loadi (kF 84 49 (3, 3, 0, 0, 50, []) (by decide +kernel)) rfl
theorem e_X8_fill_50 : kWP sc d 84 50 [.ref a, x1, x2, x3] st S K = kWP sc d 84 51 [.ref a, x1, x2, x3] (.ref a :: st) S K := w_loada (kF 84 50 (3, 0, 2, 0, 51, []) (by decide +kernel)) rfl
theorem e_X8_fill_51 : kWP sc d 84 51 [x0, x1, x2, x3] (.ref a :: st) (u, i, l, r) K = (kob u a 8 ∧ kWP sc d 84 54 [x0, x1, x2, x3] (r a 0 :: st) (u, i, l, r) K) := w_getr (kF 84 51 (15, 8, 0, 2, 54, []) (by decide +kernel))
theorem e_X8_fill_54 : kWP sc d 84 54 [x0, x1, x2, .int p] st S K = kWP sc d 84 55 [x0, x1, x2, .int p] (.int p :: st) S K := w_loadi (kF 84 54 (3, 3, 0, 0, 55, []) (by decide +kernel)) rfl
theorem e_X8_fill_55 : kWP sc d 84 55 [x0, x1, .int p, x3] st S K = kWP sc d 84 56 [x0, x1, .int p, x3] (.int p :: st) S K := w_loadi (kF 84 55 (3, 2, 0, 0, 56, []) (by decide +kernel)) rfl
theorem e_X8_fill_56 : kWP sc d 84 56 [x0, x1, x2, x3] [.int q, .int p, .ref a, y0, y1] S K = kCA sc d 86 [.ref a, .int p, .int q] 84 59 [] [x0, x1, x2, x3] [y0, y1] S K := w_calls (kF 84 56 (23, 86, 1, 3, 59, []) (by decide +kernel)) rfl (Nat.le_of_ble_eq_true rfl)
theorem e_X8_fill_59 : kWP sc d 84 59 [x0, x1, x2, x3] (.int p :: st) S K = if p ≤ 0 then kWP sc d 84 66 [x0, x1, x2, x3] st S K else kWP sc d 84 62 [x0, x1, x2, x3] st S K := w_zle (kF 84 59 (12, 66, 5, 0, 62, []) (by decide +kernel))
theorem e_X8_fill_62 : kWP sc d 84 62 [x0, x1, x2, x3] st S K = kWP sc d 84 63 [x0, x1, x2, x3] (.int 1 :: st) S K := w_iconst (kF 84 62 (1, 0, 0, 1, 63, []) (by decide +kernel)) rfl
theorem e_X8_fill_63 : kWP sc d 84 63 [x0, x1, x2, x3] st S K = kWP sc d 84 67 [x0, x1, x2, x3] st S K := w_goto (kF 84 63 (13, 67, 0, 0, 66, []) (by decide +kernel))
theorem e_X8_fill_66 : kWP sc d 84 66 [x0, x1, x2, x3] st S K = kWP sc d 84 67 [x0, x1, x2, x3] (.int 0 :: st) S K := w_iconst (kF 84 66 (1, 0, 0, 0, 67, []) (by decide +kernel)) rfl
theorem e_X8_fill_67 : kWP sc d 84 67 [x0, x1, x2, x3] (.int q :: .int p :: .ref a :: st) (u, i, l, r) K = (kar u a 2 p ∧ kWP sc d 84 68 [x0, x1, x2, x3] st (u, kupi i a p.toNatClampNeg (kbool q), l, r) K) := w_zast (kF 84 67 (18, 0, 2, 0, 68, []) (by decide +kernel))
theorem e_X8_fill_68 : kWP sc d 84 68 [x0, x1, x2, .int p] st S K = kWP sc d 84 71 [x0, x1, x2, .int (p + 1)] st S K := w_iinc (kF 84 68 (5, 3, 0, 1, 71, []) (by decide +kernel)) (Nat.le_of_ble_eq_true rfl) rfl rfl rfl
theorem e_X8_fill_71 : kWP sc d 84 71 [x0, x1, x2, x3] st S K = kWP sc d 84 16 [x0, x1, x2, x3] st S K := w_goto (kF 84 71 (13, 16, 0, 0, 74, []) (by decide +kernel))
theorem e_X8_fill_74 : kWP sc d 84 74 [x0, x1, x2, x3] [] S K = K (some none) S := w_ret0 (kF 84 74 (24, 0, 0, 0, 75, []) (by decide +kernel))
theorem e_X8_opening_0 : kWP sc d 85 0 [.ref a, x1, x2] st S K = kWP sc d 85 1 [.ref a, x1, x2] (.ref a :: st) S K := w_loada (kF 85 0 (3, 0, 2, 0, 1, []) (by decide +kernel)) rfl
theorem e_X8_opening_1 : kWP sc d 85 1 [x0, x1, x2] (.ref a :: st) (u, i, l, r) K = (kob u a 8 ∧ kWP sc d 85 4 [x0, x1, x2] (r a 1 :: st) (u, i, l, r) K) := w_getr (kF 85 1 (15, 8, 1, 2, 4, []) (by decide +kernel))
theorem e_X8_opening_4 : kWP sc d 85 4 [x0, .int p, x2] st S K = kWP sc d 85 5 [x0, .int p, x2] (.int p :: st) S K := w_loadi (kF 85 4 (3, 1, 0, 0, 5, []) (by decide +kernel)) rfl
theorem e_X8_opening_5 : kWP sc d 85 5 [x0, x1, .int p] st S K = kWP sc d 85 6 [x0, x1, .int p] (.int p :: st) S K := w_loadi (kF 85 5 (3, 2, 0, 0, 6, []) (by decide +kernel)) rfl
theorem e_X8_opening_6 : kWP sc d 85 6 [x0, x1, x2] [.int q, .int p, .ref a] S K = kCA sc d 86 [.ref a, .int p, .int q] 85 9 [] [x0, x1, x2] [] S K := w_calls (kF 85 6 (23, 86, 1, 3, 9, []) (by decide +kernel)) rfl (Nat.le_of_ble_eq_true rfl)
theorem e_X8_opening_9 : kWP sc d 85 9 [x0, x1, x2] [.int p] S K = K (some (some (.int p))) S := w_ret1 (kF 85 9 (24, 0, 1, 0, 10, []) (by decide +kernel))
theorem e_X8_winning_0 : kWP sc d 86 0 [x0, x1, x2, x3] st S K = kWP sc d 86 1 [x0, x1, x2, x3] (.int 1 :: st) S K := w_iconst (kF 86 0 (1, 0, 0, 1, 1, []) (by decide +kernel)) rfl
theorem e_X8_winning_1 : kWP sc d 86 1 [x0, x1, x2, x3] (.int p :: st) S K = kWP sc d 86 2 [x0, x1, kcl x2, .int p] st S K := w_storei (kF 86 1 (4, 3, 0, 0, 2, []) (by decide +kernel)) (Nat.le_of_ble_eq_true rfl) rfl
theorem e_X8_winning_2 : kWP sc d 86 2 [x0, x1, x2, .int p] st S K = kWP sc d 86 3 [x0, x1, x2, .int p] (.int p :: st) S K := w_loadi (kF 86 2 (3, 3, 0, 0, 3, []) (by decide +kernel)) rfl
theorem e_X8_winning_3 : kWP sc d 86 3 [x0, x1, .int p, x3] st S K = kWP sc d 86 4 [x0, x1, .int p, x3] (.int p :: st) S K := w_loadi (kF 86 3 (3, 2, 0, 0, 4, []) (by decide +kernel)) rfl
theorem e_X8_winning_4 : kWP sc d 86 4 [x0, x1, x2, x3] (.int q :: .int p :: st) S K = if q < p then kWP sc d 86 34 [x0, x1, x2, x3] st S K else kWP sc d 86 7 [x0, x1, x2, x3] st S K := w_igt (kF 86 4 (11, 34, 4, 0, 7, []) (by decide +kernel))
theorem e_X8_winning_7 : kWP sc d 86 7 [x0, x1, x2, .int p] st S K = kWP sc d 86 8 [x0, x1, x2, .int p] (.int p :: st) S K := w_loadi (kF 86 7 (3, 3, 0, 0, 8, []) (by decide +kernel)) rfl
theorem e_X8_winning_8 : kWP sc d 86 8 [x0, .int p, x2, x3] st S K = kWP sc d 86 9 [x0, .int p, x2, x3] (.int p :: st) S K := w_loadi (kF 86 8 (3, 1, 0, 0, 9, []) (by decide +kernel)) rfl
theorem e_X8_winning_9 : kWP sc d 86 9 [x0, x1, x2, x3] (.int q :: .int p :: st) S K = if q < p then kWP sc d 86 34 [x0, x1, x2, x3] st S K else kWP sc d 86 12 [x0, x1, x2, x3] st S K := w_igt (kF 86 9 (11, 34, 4, 0, 12, []) (by decide +kernel))
theorem e_X8_winning_12 : kWP sc d 86 12 [x0, .int p, x2, x3] st S K = kWP sc d 86 13 [x0, .int p, x2, x3] (.int p :: st) S K := w_loadi (kF 86 12 (3, 1, 0, 0, 13, []) (by decide +kernel)) rfl
theorem e_X8_winning_13 : kWP sc d 86 13 [.ref a, x1, x2, x3] st S K = kWP sc d 86 14 [.ref a, x1, x2, x3] (.ref a :: st) S K := w_loada (kF 86 13 (3, 0, 2, 0, 14, []) (by decide +kernel)) rfl
theorem e_X8_winning_14 : ∀ {m k : Nat}, kSH a = .inr (k, m) → kWP sc d 86 14 [x0, x1, x2, x3] (.ref a :: st) (u, i, l, r) K = (a < u.1 ∧ kWP sc d 86 15 [x0, x1, x2, x3] (.int (Int32.ofNat m) :: st) (u, i, l, r) K) := fun h => w_alen h (kF 86 14 (19, 0, 0, 0, 15, []) (by decide +kernel))
theorem e_X8_winning_15 : kWP sc d 86 15 [x0, x1, x2, x3] (.int q :: .int p :: st) S K = if q ≤ p then kWP sc d 86 34 [x0, x1, x2, x3] st S K else kWP sc d 86 18 [x0, x1, x2, x3] st S K := w_ige (kF 86 15 (11, 34, 3, 0, 18, []) (by decide +kernel))
theorem e_X8_winning_18 : kWP sc d 86 18 [.ref a, x1, x2, x3] st S K = kWP sc d 86 19 [.ref a, x1, x2, x3] (.ref a :: st) S K := w_loada (kF 86 18 (3, 0, 2, 0, 19, []) (by decide +kernel)) rfl
theorem e_X8_winning_19 : kWP sc d 86 19 [x0, .int p, x2, x3] st S K = kWP sc d 86 20 [x0, .int p, x2, x3] (.int p :: st) S K := w_loadi (kF 86 19 (3, 1, 0, 0, 20, []) (by decide +kernel)) rfl
theorem e_X8_winning_20 : kWP sc d 86 20 [x0, x1, x2, .int p] st S K = kWP sc d 86 21 [x0, x1, x2, .int p] (.int p :: st) S K := w_loadi (kF 86 20 (3, 3, 0, 0, 21, []) (by decide +kernel)) rfl
theorem e_X8_winning_21 : kWP sc d 86 21 [x0, x1, x2, x3] (.int q :: .int p :: st) S K = kWP sc d 86 22 [x0, x1, x2, x3] (.int (p - q) :: st) S K := w_isub (kF 86 21 (6, 0, 1, 0, 22, []) (by decide +kernel))
theorem e_X8_winning_22 : kWP sc d 86 22 [x0, x1, x2, x3] (.int p :: .ref a :: st) (u, i, l, r) K = (kar u a 2 p ∧ kWP sc d 86 23 [x0, x1, x2, x3] (.int (i a p.toNatClampNeg) :: st) (u, i, l, r) K) := w_zald (kF 86 22 (17, 0, 2, 0, 23, []) (by decide +kernel))
theorem e_X8_winning_23 : kWP sc d 86 23 [x0, x1, x2, x3] (.int p :: st) S K = if p = 0 then kWP sc d 86 26 [x0, x1, x2, x3] st S K else kWP sc d 86 28 [x0, x1, x2, x3] st S K := w_zne (kF 86 23 (12, 28, 1, 0, 26, []) (by decide +kernel))
theorem e_X8_winning_26 : kWP sc d 86 26 [x0, x1, x2, .int p] st S K = kWP sc d 86 27 [x0, x1, x2, .int p] (.int p :: st) S K := w_loadi (kF 86 26 (3, 3, 0, 0, 27, []) (by decide +kernel)) rfl
theorem e_X8_winning_27 : kWP sc d 86 27 [x0, x1, x2, x3] [.int p] S K = K (some (some (.int p))) S := w_ret1 (kF 86 27 (24, 0, 1, 0, 28, []) (by decide +kernel))
theorem e_X8_winning_28 : kWP sc d 86 28 [x0, x1, x2, .int p] st S K = kWP sc d 86 31 [x0, x1, x2, .int (p + 1)] st S K := w_iinc (kF 86 28 (5, 3, 0, 1, 31, []) (by decide +kernel)) (Nat.le_of_ble_eq_true rfl) rfl rfl rfl
theorem e_X8_winning_31 : kWP sc d 86 31 [x0, x1, x2, x3] st S K = kWP sc d 86 2 [x0, x1, x2, x3] st S K := w_goto (kF 86 31 (13, 2, 0, 0, 34, []) (by decide +kernel))
theorem e_X8_winning_34 : kWP sc d 86 34 [x0, x1, x2, x3] st S K = kWP sc d 86 35 [x0, x1, x2, x3] (.int 0 :: st) S K := w_iconst (kF 86 34 (1, 0, 0, 0, 35, []) (by decide +kernel)) rfl
theorem e_X8_winning_35 : kWP sc d 86 35 [x0, x1, x2, x3] [.int p] S K = K (some (some (.int p))) S := w_ret1 (kF 86 35 (24, 0, 1, 0, 36, []) (by decide +kernel))
theorem e_X9_init_0 : kWP sc d 87 0 [.ref a] st S K = kWP sc d 87 1 [.ref a] (.ref a :: st) S K := w_loada (kF 87 0 (3, 0, 2, 0, 1, []) (by decide +kernel)) rfl
theorem e_X9_init_1 : kWP sc d 87 1 [x0] [.ref a] S K = kWP sc d 87 4 [x0] [] S K := w_obj (kF 87 1 (27, 0, 13, 0, 4, []) (by decide +kernel)) (Nat.le_of_ble_eq_true rfl)
theorem e_X9_init_4 : kWP sc d 87 4 [.ref a] st S K = kWP sc d 87 5 [.ref a] (.ref a :: st) S K := w_loada (kF 87 4 (3, 0, 2, 0, 5, []) (by decide +kernel)) rfl
theorem e_X9_init_5 : kWP sc d 87 5 [x0] st S K = kWP sc d 87 7 [x0] (.int 80 :: st) S K := w_iconst (kF 87 5 (1, 0, 0, 80, 7, []) (by decide +kernel)) rfl
theorem e_X9_init_7 : ∀ {m : Nat}, p.toNatClampNeg = m → (u.2.1 = u.1 ∧ ¬ p < 0 ∧ m ≤ 65536 ∧ kSH u.1 = .inr (1, m)) → kWP sc d 87 7 [x0] (.int p :: st) (u, i, l, r) K = kWP sc d 87 9 [x0] (.ref u.1 :: st) (kfresh (u, i, l, r) m) K := fun h1 h2 => w_newa (kF 87 7 (20, 0, 1, 0, 9, []) (by decide +kernel)) h1 h2
theorem e_X9_init_9 : kWP sc d 87 9 [x0] (.ref c :: .ref a :: st) (u, i, l, r) K = (kob u a 9 ∧ kWP sc d 87 12 [x0] st (u, i, l, kupr r a 0 (.ref c)) K) := w_putr (kF 87 9 (16, 9, 0, 2, 12, []) (by decide +kernel))
theorem e_X9_init_12 : kWP sc d 87 12 [.ref a] st S K = kWP sc d 87 13 [.ref a] (.ref a :: st) S K := w_loada (kF 87 12 (3, 0, 2, 0, 13, []) (by decide +kernel)) rfl
theorem e_X9_init_13 : kWP sc d 87 13 [x0] st S K = kWP sc d 87 14 [x0] (.int 0 :: st) S K := w_iconst (kF 87 13 (1, 0, 0, 0, 14, []) (by decide +kernel)) rfl
theorem e_X9_init_14 : kWP sc d 87 14 [x0] (.int p :: .ref a :: st) (u, i, l, r) K = (kob u a 9 ∧ kWP sc d 87 17 [x0] st (u, kupi i a 1 p, l, r) K) := w_puti (kF 87 14 (16, 9, 1, 0, 17, []) (by decide +kernel))
theorem e_X9_init_17 : kWP sc d 87 17 [x0] [] S K = K (some none) S := w_ret0 (kF 87 17 (24, 0, 0, 0, 18, []) (by decide +kernel))
theorem e_X9_add_0 : kWP sc d 88 0 [.ref a, x1, x2] st S K = kWP sc d 88 1 [.ref a, x1, x2] (.ref a :: st) S K := w_loada (kF 88 0 (3, 0, 2, 0, 1, []) (by decide +kernel)) rfl
theorem e_X9_add_1 : kWP sc d 88 1 [x0, x1, x2] (.ref a :: st) (u, i, l, r) K = (kob u a 9 ∧ kWP sc d 88 4 [x0, x1, x2] (.int (i a 1) :: st) (u, i, l, r) K) := w_geti (kF 88 1 (15, 9, 1, 0, 4, []) (by decide +kernel))
theorem e_X9_add_4 : kWP sc d 88 4 [x0, x1, x2] st S K = kWP sc d 88 6 [x0, x1, x2] (.int 76 :: st) S K := w_iconst (kF 88 4 (1, 0, 0, 76, 6, []) (by decide +kernel)) rfl
theorem e_X9_add_6 : kWP sc d 88 6 [x0, x1, x2] (.int q :: .int p :: st) S K = if p ≤ q then kWP sc d 88 11 [x0, x1, x2] st S K else kWP sc d 88 9 [x0, x1, x2] st S K := w_ile (kF 88 6 (11, 11, 5, 0, 9, []) (by decide +kernel))
theorem e_X9_add_9 : kWP sc d 88 9 [x0, x1, x2] st S K = kWP sc d 88 10 [x0, x1, x2] (.int (-1) :: st) S K := w_iconst (kF 88 9 (1, 0, 0, (-1), 10, []) (by decide +kernel)) (by decide)
theorem e_X9_add_10 : kWP sc d 88 10 [x0, x1, x2] [.int p] S K = K (some (some (.int p))) S := w_ret1 (kF 88 10 (24, 0, 1, 0, 11, []) (by decide +kernel))
theorem e_X9_add_11 : kWP sc d 88 11 [x0, x1, x2] st S K = kWP sc d 88 13 [x0, x1, x2] (.int 24 :: st) S K := w_iconst (kF 88 11 (1, 0, 0, 24, 13, []) (by decide +kernel)) rfl
theorem e_X9_add_13 : kWP sc d 88 13 [x0, x1, x2] (.int p :: st) S K = kWP sc d 88 14 [x0, kcl x1, .int p] st S K := w_storei (kF 88 13 (4, 2, 0, 0, 14, []) (by decide +kernel)) (Nat.le_of_ble_eq_true rfl) rfl
theorem e_X9_add_14 : kWP sc d 88 14 [x0, x1, .int p] st S K = kWP sc d 88 15 [x0, x1, .int p] (.int p :: st) S K := w_loadi (kF 88 14 (3, 2, 0, 0, 15, []) (by decide +kernel)) rfl
theorem e_X9_add_15 : kWP sc d 88 15 [x0, x1, x2] (.int p :: st) S K = if p < 0 then kWP sc d 88 36 [x0, x1, x2] st S K else kWP sc d 88 18 [x0, x1, x2] st S K := w_zlt (kF 88 15 (12, 36, 2, 0, 18, []) (by decide +kernel))
theorem e_X9_add_18 : kWP sc d 88 18 [.ref a, x1, x2] st S K = kWP sc d 88 19 [.ref a, x1, x2] (.ref a :: st) S K := w_loada (kF 88 18 (3, 0, 2, 0, 19, []) (by decide +kernel)) rfl
theorem e_X9_add_19 : kWP sc d 88 19 [x0, .int p, x2] st S K = kWP sc d 88 20 [x0, .int p, x2] (.int p :: st) S K := w_loadi (kF 88 19 (3, 1, 0, 0, 20, []) (by decide +kernel)) rfl
theorem e_X9_add_20 : kWP sc d 88 20 [x0, x1, .int p] st S K = kWP sc d 88 21 [x0, x1, .int p] (.int p :: st) S K := w_loadi (kF 88 20 (3, 2, 0, 0, 21, []) (by decide +kernel)) rfl
theorem e_X9_add_21 : kWP sc d 88 21 [x0, x1, x2] (.int q :: .int p :: st) S K = kWP sc d 88 22 [x0, x1, x2] (.int ((p.toUInt32 >>> (q.toUInt32 &&& Int32.toUInt32 31)).toInt32) :: st) S K := w_iushr (kF 88 21 (6, 0, 10, 0, 22, []) (by decide +kernel))
theorem e_X9_add_22 : kWP sc d 88 22 [x0, x1, x2] st S K = kWP sc d 88 25 [x0, x1, x2] (.int 255 :: st) S K := w_iconst (kF 88 22 (1, 0, 0, 255, 25, []) (by decide +kernel)) rfl
theorem e_X9_add_25 : kWP sc d 88 25 [x0, x1, x2] (.int q :: .int p :: st) S K = kWP sc d 88 26 [x0, x1, x2] (.int (p &&& q) :: st) S K := w_iand (kF 88 25 (6, 0, 5, 0, 26, []) (by decide +kernel))
theorem e_X9_add_26 : kWP sc d 88 26 [x0, x1, x2] (.int p :: st) S K = kWP sc d 88 27 [x0, x1, x2] (.int (p.toUInt32 % 65536).toInt32 :: st) S K := w_i2c (kF 88 26 (8, 0, 5, 0, 27, []) (by decide +kernel))
theorem e_X9_add_27 : kWP sc d 88 27 [x0, x1, x2] [.int p, .ref a] (u, i, l, r) K = (kob u a 9 ∧ kCA sc d 93 [.ref a, .int p] 88 30 [] [x0, x1, x2] [] (u, i, l, r) K) := w_callv (kF 88 27 (23, 93, 0, 1, 30, []) (by decide +kernel)) rfl (Nat.le_of_ble_eq_true rfl) rfl
theorem e_X9_add_30 : kWP sc d 88 30 [x0, x1, .int p] st S K = kWP sc d 88 33 [x0, x1, .int (p + (-8))] st S K := w_iinc (kF 88 30 (5, 2, 0, (-8), 33, []) (by decide +kernel)) (Nat.le_of_ble_eq_true rfl) rfl (by decide) rfl
theorem e_X9_add_33 : kWP sc d 88 33 [x0, x1, x2] st S K = kWP sc d 88 14 [x0, x1, x2] st S K := w_goto (kF 88 33 (13, 14, 0, 0, 36, []) (by decide +kernel))
theorem e_X9_add_36 : kWP sc d 88 36 [.ref a, x1, x2] st S K = kWP sc d 88 37 [.ref a, x1, x2] (.ref a :: st) S K := w_loada (kF 88 36 (3, 0, 2, 0, 37, []) (by decide +kernel)) rfl
theorem e_X9_add_37 : kWP sc d 88 37 [x0, x1, x2] (.ref a :: st) (u, i, l, r) K = (kob u a 9 ∧ kWP sc d 88 40 [x0, x1, x2] (.int (i a 1) :: st) (u, i, l, r) K) := w_geti (kF 88 37 (15, 9, 1, 0, 40, []) (by decide +kernel))
theorem e_X9_add_40 : kWP sc d 88 40 [x0, x1, x2] [.int p] S K = K (some (some (.int p))) S := w_ret1 (kF 88 40 (24, 0, 1, 0, 41, []) (by decide +kernel))
theorem e_X9_tell_0 : kWP sc d 89 0 [x0, x1, x2] st S K = kWP sc d 89 1 [x0, x1, x2] (.int 0 :: st) S K := w_iconst (kF 89 0 (1, 0, 0, 0, 1, []) (by decide +kernel)) rfl
theorem e_X9_tell_1 : kWP sc d 89 1 [x0, x1, x2] (.int p :: st) S K = kWP sc d 89 2 [x0, kcl x1, .int p] st S K := w_storei (kF 89 1 (4, 2, 0, 0, 2, []) (by decide +kernel)) (Nat.le_of_ble_eq_true rfl) rfl
theorem e_X9_tell_2 : kWP sc d 89 2 [x0, x1, .int p] st S K = kWP sc d 89 3 [x0, x1, .int p] (.int p :: st) S K := w_loadi (kF 89 2 (3, 2, 0, 0, 3, []) (by decide +kernel)) rfl
theorem e_X9_tell_3 : kWP sc d 89 3 [x0, .ref a, x2] st S K = kWP sc d 89 4 [x0, .ref a, x2] (.ref a :: st) S K := w_loada (kF 89 3 (3, 1, 2, 0, 4, []) (by decide +kernel)) rfl
theorem e_X9_tell_4 : ∀ {m : Nat}, (kStA ≤ a ∧ a < kStA + kStr.length) → kstl a = m → kWP sc d 89 4 [x0, x1, x2] [.ref a, y0] S K = kWP sc d 89 7 [x0, x1, x2] [.int (Int32.ofNat m), y0] S K := fun h1 h2 => w_slen (kF 89 4 (27, 0, 10, 0, 7, []) (by decide +kernel)) h1 h2 (Nat.le_of_ble_eq_true rfl)
theorem e_X9_tell_7 : kWP sc d 89 7 [x0, x1, x2] (.int q :: .int p :: st) S K = if q ≤ p then kWP sc d 89 25 [x0, x1, x2] st S K else kWP sc d 89 10 [x0, x1, x2] st S K := w_ige (kF 89 7 (11, 25, 3, 0, 10, []) (by decide +kernel))
theorem e_X9_tell_10 : kWP sc d 89 10 [.ref a, x1, x2] st S K = kWP sc d 89 11 [.ref a, x1, x2] (.ref a :: st) S K := w_loada (kF 89 10 (3, 0, 2, 0, 11, []) (by decide +kernel)) rfl
theorem e_X9_tell_11 : kWP sc d 89 11 [x0, .ref a, x2] st S K = kWP sc d 89 12 [x0, .ref a, x2] (.ref a :: st) S K := w_loada (kF 89 11 (3, 1, 2, 0, 12, []) (by decide +kernel)) rfl
theorem e_X9_tell_12 : kWP sc d 89 12 [x0, x1, .int p] st S K = kWP sc d 89 13 [x0, x1, .int p] (.int p :: st) S K := w_loadi (kF 89 12 (3, 2, 0, 0, 13, []) (by decide +kernel)) rfl
theorem e_X9_tell_13 : kWP sc d 89 13 [x0, x1, x2] [.int p, .ref a, y0] S K = (kin p (kstl a) ∧ kWP sc d 89 16 [x0, x1, x2] [.int (kchr a p.toNatClampNeg), y0] S K) := w_schr (kF 89 13 (27, 0, 11, 0, 16, []) (by decide +kernel)) (Nat.le_of_ble_eq_true rfl)
theorem e_X9_tell_16 : kWP sc d 89 16 [x0, x1, x2] [.int p, .ref a] (u, i, l, r) K = (kob u a 9 ∧ kCA sc d 93 [.ref a, .int p] 89 19 [] [x0, x1, x2] [] (u, i, l, r) K) := w_callv (kF 89 16 (23, 93, 0, 1, 19, []) (by decide +kernel)) rfl (Nat.le_of_ble_eq_true rfl) rfl
theorem e_X9_tell_19 : kWP sc d 89 19 [x0, x1, .int p] st S K = kWP sc d 89 22 [x0, x1, .int (p + 1)] st S K := w_iinc (kF 89 19 (5, 2, 0, 1, 22, []) (by decide +kernel)) (Nat.le_of_ble_eq_true rfl) rfl rfl rfl
theorem e_X9_tell_22 : kWP sc d 89 22 [x0, x1, x2] st S K = kWP sc d 89 2 [x0, x1, x2] st S K := w_goto (kF 89 22 (13, 2, 0, 0, 25, []) (by decide +kernel))
theorem e_X9_tell_25 : kWP sc d 89 25 [x0, x1, x2] [] S K = K (some none) S := w_ret0 (kF 89 25 (24, 0, 0, 0, 26, []) (by decide +kernel))
theorem e_X9_cut_0 : kWP sc d 90 0 [x0, .int p] st S K = kWP sc d 90 1 [x0, .int p] (.int p :: st) S K := w_loadi (kF 90 0 (3, 1, 0, 0, 1, []) (by decide +kernel)) rfl
theorem e_X9_cut_1 : kWP sc d 90 1 [x0, x1] (.int p :: st) S K = if p < 0 then kWP sc d 90 12 [x0, x1] st S K else kWP sc d 90 4 [x0, x1] st S K := w_zlt (kF 90 1 (12, 12, 2, 0, 4, []) (by decide +kernel))
theorem e_X9_cut_4 : kWP sc d 90 4 [x0, .int p] st S K = kWP sc d 90 5 [x0, .int p] (.int p :: st) S K := w_loadi (kF 90 4 (3, 1, 0, 0, 5, []) (by decide +kernel)) rfl
theorem e_X9_cut_5 : kWP sc d 90 5 [.ref a, x1] st S K = kWP sc d 90 6 [.ref a, x1] (.ref a :: st) S K := w_loada (kF 90 5 (3, 0, 2, 0, 6, []) (by decide +kernel)) rfl
theorem e_X9_cut_6 : kWP sc d 90 6 [x0, x1] (.ref a :: st) (u, i, l, r) K = (kob u a 9 ∧ kWP sc d 90 9 [x0, x1] (.int (i a 1) :: st) (u, i, l, r) K) := w_geti (kF 90 6 (15, 9, 1, 0, 9, []) (by decide +kernel))
theorem e_X9_cut_9 : kWP sc d 90 9 [x0, x1] (.int q :: .int p :: st) S K = if p ≤ q then kWP sc d 90 14 [x0, x1] st S K else kWP sc d 90 12 [x0, x1] st S K := w_ile (kF 90 9 (11, 14, 5, 0, 12, []) (by decide +kernel))
theorem e_X9_cut_12 : kWP sc d 90 12 [x0, x1] st S K = kWP sc d 90 13 [x0, x1] (.int 0 :: st) S K := w_iconst (kF 90 12 (1, 0, 0, 0, 13, []) (by decide +kernel)) rfl
theorem e_X9_cut_13 : kWP sc d 90 13 [x0, x1] [.int p] S K = (kbool p = p ∧ K (some (some (.int p))) S) := w_ret2 (kF 90 13 (24, 0, 2, 0, 14, []) (by decide +kernel))
theorem e_X9_cut_14 : kWP sc d 90 14 [.ref a, x1] st S K = kWP sc d 90 15 [.ref a, x1] (.ref a :: st) S K := w_loada (kF 90 14 (3, 0, 2, 0, 15, []) (by decide +kernel)) rfl
theorem e_X9_cut_15 : kWP sc d 90 15 [x0, .int p] st S K = kWP sc d 90 16 [x0, .int p] (.int p :: st) S K := w_loadi (kF 90 15 (3, 1, 0, 0, 16, []) (by decide +kernel)) rfl
theorem e_X9_cut_16 : kWP sc d 90 16 [x0, x1] (.int p :: .ref a :: st) (u, i, l, r) K = (kob u a 9 ∧ kWP sc d 90 19 [x0, x1] st (u, kupi i a 1 p, l, r) K) := w_puti (kF 90 16 (16, 9, 1, 0, 19, []) (by decide +kernel))
theorem e_X9_cut_19 : kWP sc d 90 19 [x0, x1] st S K = kWP sc d 90 20 [x0, x1] (.int 1 :: st) S K := w_iconst (kF 90 19 (1, 0, 0, 1, 20, []) (by decide +kernel)) rfl
theorem e_X9_cut_20 : kWP sc d 90 20 [x0, x1] [.int p] S K = (kbool p = p ∧ K (some (some (.int p))) S) := w_ret2 (kF 90 20 (24, 0, 2, 0, 21, []) (by decide +kernel))
theorem e_X9_empty_0 : kWP sc d 91 0 [.ref a] st S K = kWP sc d 91 1 [.ref a] (.ref a :: st) S K := w_loada (kF 91 0 (3, 0, 2, 0, 1, []) (by decide +kernel)) rfl
theorem e_X9_empty_1 : kWP sc d 91 1 [x0] st S K = kWP sc d 91 2 [x0] (.int 0 :: st) S K := w_iconst (kF 91 1 (1, 0, 0, 0, 2, []) (by decide +kernel)) rfl
theorem e_X9_empty_2 : kWP sc d 91 2 [x0] (.int p :: .ref a :: st) (u, i, l, r) K = (kob u a 9 ∧ kWP sc d 91 5 [x0] st (u, kupi i a 1 p, l, r) K) := w_puti (kF 91 2 (16, 9, 1, 0, 5, []) (by decide +kernel))
theorem e_X9_empty_5 : kWP sc d 91 5 [x0] [] S K = K (some none) S := w_ret0 (kF 91 5 (24, 0, 0, 0, 6, []) (by decide +kernel))
theorem e_X9_at_0 : kWP sc d 92 0 [x0, .int p] st S K = kWP sc d 92 1 [x0, .int p] (.int p :: st) S K := w_loadi (kF 92 0 (3, 1, 0, 0, 1, []) (by decide +kernel)) rfl
theorem e_X9_at_1 : kWP sc d 92 1 [x0, x1] (.int p :: st) S K = if p < 0 then kWP sc d 92 21 [x0, x1] st S K else kWP sc d 92 4 [x0, x1] st S K := w_zlt (kF 92 1 (12, 21, 2, 0, 4, []) (by decide +kernel))
theorem e_X9_at_4 : kWP sc d 92 4 [x0, .int p] st S K = kWP sc d 92 5 [x0, .int p] (.int p :: st) S K := w_loadi (kF 92 4 (3, 1, 0, 0, 5, []) (by decide +kernel)) rfl
theorem e_X9_at_5 : kWP sc d 92 5 [.ref a, x1] st S K = kWP sc d 92 6 [.ref a, x1] (.ref a :: st) S K := w_loada (kF 92 5 (3, 0, 2, 0, 6, []) (by decide +kernel)) rfl
theorem e_X9_at_6 : kWP sc d 92 6 [x0, x1] (.ref a :: st) (u, i, l, r) K = (kob u a 9 ∧ kWP sc d 92 9 [x0, x1] (.int (i a 1) :: st) (u, i, l, r) K) := w_geti (kF 92 6 (15, 9, 1, 0, 9, []) (by decide +kernel))
theorem e_X9_at_9 : kWP sc d 92 9 [x0, x1] (.int q :: .int p :: st) S K = if q ≤ p then kWP sc d 92 21 [x0, x1] st S K else kWP sc d 92 12 [x0, x1] st S K := w_ige (kF 92 9 (11, 21, 3, 0, 12, []) (by decide +kernel))
theorem e_X9_at_12 : kWP sc d 92 12 [.ref a, x1] st S K = kWP sc d 92 13 [.ref a, x1] (.ref a :: st) S K := w_loada (kF 92 12 (3, 0, 2, 0, 13, []) (by decide +kernel)) rfl
theorem e_X9_at_13 : kWP sc d 92 13 [x0, x1] (.ref a :: st) (u, i, l, r) K = (kob u a 9 ∧ kWP sc d 92 16 [x0, x1] (r a 0 :: st) (u, i, l, r) K) := w_getr (kF 92 13 (15, 9, 0, 2, 16, []) (by decide +kernel))
theorem e_X9_at_16 : kWP sc d 92 16 [x0, .int p] st S K = kWP sc d 92 17 [x0, .int p] (.int p :: st) S K := w_loadi (kF 92 16 (3, 1, 0, 0, 17, []) (by decide +kernel)) rfl
theorem e_X9_at_17 : kWP sc d 92 17 [x0, x1] (.int p :: .ref a :: st) (u, i, l, r) K = (kar u a 1 p ∧ kWP sc d 92 18 [x0, x1] (.int (i a p.toNatClampNeg) :: st) (u, i, l, r) K) := w_cald (kF 92 17 (17, 0, 1, 0, 18, []) (by decide +kernel))
theorem e_X9_at_18 : kWP sc d 92 18 [x0, x1] st S K = kWP sc d 92 22 [x0, x1] st S K := w_goto (kF 92 18 (13, 22, 0, 0, 21, []) (by decide +kernel))
theorem e_X9_at_21 : kWP sc d 92 21 [x0, x1] st S K = kWP sc d 92 22 [x0, x1] (.int (-1) :: st) S K := w_iconst (kF 92 21 (1, 0, 0, (-1), 22, []) (by decide +kernel)) (by decide)
theorem e_X9_at_22 : kWP sc d 92 22 [x0, x1] [.int p] S K = K (some (some (.int p))) S := w_ret1 (kF 92 22 (24, 0, 1, 0, 23, []) (by decide +kernel))
theorem e_X9_put_0 : kWP sc d 93 0 [.ref a, x1] st S K = kWP sc d 93 1 [.ref a, x1] (.ref a :: st) S K := w_loada (kF 93 0 (3, 0, 2, 0, 1, []) (by decide +kernel)) rfl
theorem e_X9_put_1 : kWP sc d 93 1 [x0, x1] (.ref a :: st) (u, i, l, r) K = (kob u a 9 ∧ kWP sc d 93 4 [x0, x1] (.int (i a 1) :: st) (u, i, l, r) K) := w_geti (kF 93 1 (15, 9, 1, 0, 4, []) (by decide +kernel))
theorem e_X9_put_4 : kWP sc d 93 4 [x0, x1] st S K = kWP sc d 93 6 [x0, x1] (.int 80 :: st) S K := w_iconst (kF 93 4 (1, 0, 0, 80, 6, []) (by decide +kernel)) rfl
theorem e_X9_put_6 : kWP sc d 93 6 [x0, x1] (.int q :: .int p :: st) S K = if q ≤ p then kWP sc d 93 29 [x0, x1] st S K else kWP sc d 93 9 [x0, x1] st S K := w_ige (kF 93 6 (11, 29, 3, 0, 9, []) (by decide +kernel))
theorem e_X9_put_9 : kWP sc d 93 9 [.ref a, x1] st S K = kWP sc d 93 10 [.ref a, x1] (.ref a :: st) S K := w_loada (kF 93 9 (3, 0, 2, 0, 10, []) (by decide +kernel)) rfl
theorem e_X9_put_10 : kWP sc d 93 10 [x0, x1] (.ref a :: st) (u, i, l, r) K = (kob u a 9 ∧ kWP sc d 93 13 [x0, x1] (r a 0 :: st) (u, i, l, r) K) := w_getr (kF 93 10 (15, 9, 0, 2, 13, []) (by decide +kernel))
theorem e_X9_put_13 : kWP sc d 93 13 [.ref a, x1] st S K = kWP sc d 93 14 [.ref a, x1] (.ref a :: st) S K := w_loada (kF 93 13 (3, 0, 2, 0, 14, []) (by decide +kernel)) rfl
theorem e_X9_put_14 : kWP sc d 93 14 [x0, x1] (.ref a :: st) (u, i, l, r) K = (kob u a 9 ∧ kWP sc d 93 17 [x0, x1] (.int (i a 1) :: st) (u, i, l, r) K) := w_geti (kF 93 14 (15, 9, 1, 0, 17, []) (by decide +kernel))
theorem e_X9_put_17 : kWP sc d 93 17 [x0, .int p] st S K = kWP sc d 93 18 [x0, .int p] (.int p :: st) S K := w_loadi (kF 93 17 (3, 1, 0, 0, 18, []) (by decide +kernel)) rfl
theorem e_X9_put_18 : kWP sc d 93 18 [x0, x1] (.int q :: .int p :: .ref a :: st) (u, i, l, r) K = (kar u a 1 p ∧ kWP sc d 93 19 [x0, x1] st (u, kupi i a p.toNatClampNeg (kchar q), l, r) K) := w_cast (kF 93 18 (18, 0, 1, 0, 19, []) (by decide +kernel))
theorem e_X9_put_19 : kWP sc d 93 19 [.ref a, x1] st S K = kWP sc d 93 20 [.ref a, x1] (.ref a :: st) S K := w_loada (kF 93 19 (3, 0, 2, 0, 20, []) (by decide +kernel)) rfl
theorem e_X9_put_20 : kWP sc d 93 20 [x0, x1] (.ref a :: st) S K = kWP sc d 93 21 [x0, x1] (.ref a :: .ref a :: st) S K := w_dupa (kF 93 20 (10, 0, 0, 0, 21, []) (by decide +kernel))
theorem e_X9_put_21 : kWP sc d 93 21 [x0, x1] (.ref a :: st) (u, i, l, r) K = (kob u a 9 ∧ kWP sc d 93 24 [x0, x1] (.int (i a 1) :: st) (u, i, l, r) K) := w_geti (kF 93 21 (15, 9, 1, 0, 24, []) (by decide +kernel))
theorem e_X9_put_24 : kWP sc d 93 24 [x0, x1] st S K = kWP sc d 93 25 [x0, x1] (.int 1 :: st) S K := w_iconst (kF 93 24 (1, 0, 0, 1, 25, []) (by decide +kernel)) rfl
theorem e_X9_put_25 : kWP sc d 93 25 [x0, x1] (.int q :: .int p :: st) S K = kWP sc d 93 26 [x0, x1] (.int (p + q) :: st) S K := w_iadd (kF 93 25 (6, 0, 0, 0, 26, []) (by decide +kernel))
theorem e_X9_put_26 : kWP sc d 93 26 [x0, x1] (.int p :: .ref a :: st) (u, i, l, r) K = (kob u a 9 ∧ kWP sc d 93 29 [x0, x1] st (u, kupi i a 1 p, l, r) K) := w_puti (kF 93 26 (16, 9, 1, 0, 29, []) (by decide +kernel))
theorem e_X9_put_29 : kWP sc d 93 29 [x0, x1] [] S K = K (some none) S := w_ret0 (kF 93 29 (24, 0, 0, 0, 30, []) (by decide +kernel))
end KE
