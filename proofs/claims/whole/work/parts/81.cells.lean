/-! cells, their references, counters of loops -/
section TA
theorem kcl_i {x : Int32} : kcl (.int x) = .int x := rfl
theorem kcl_r {x : Nat} : kcl (.ref x) = .ref x := rfl
theorem kcl_0 {x : Nat} : kcl (.retAddr x) = .retAddr x := rfl
theorem kcl_l {x : Int64} : kcl (.long x) = .retAddr 0 := rfl
theorem kcl_n : kcl .null = .null := rfl
def kRL : List (List Nat) := [[1, 3, 5, 10, 13, 16, 74, 77, 81, 84, 85, 88], [2, 0], [], [4, 0], [], [0, 6, 7, 8, 9], [], [], [], [], [0, 0, 0, 0, 0, 0, 0, 0, 11, 12], [], [], [0, 0, 0, 0, 0, 0, 0, 0, 14, 15], [], [], [17, 0, 18, 19], [20, 23, 26, 29, 32, 35, 38, 41, 44, 47, 50, 53, 56, 59, 62], [65, 68, 71], [], [0, 0, 0, 0, 0, 0, 0, 0, 21, 22], [], [], [0, 0, 0, 0, 0, 0, 0, 0, 24, 25], [], [], [0, 0, 0, 0, 0, 0, 0, 0, 27, 28], [], [], [0, 0, 0, 0, 0, 0, 0, 0, 30, 31], [], [], [0, 0, 0, 0, 0, 0, 0, 0, 33, 34], [], [], [0, 0, 0, 0, 0, 0, 0, 0, 36, 37], [], [], [0, 0, 0, 0, 0, 0, 0, 0, 39, 40], [], [], [0, 0, 0, 0, 0, 0, 0, 0, 42, 43], [], [], [0, 0, 0, 0, 0, 0, 0, 0, 45, 46], [], [], [0, 0, 0, 0, 0, 0, 0, 0, 48, 49], [], [], [0, 0, 0, 0, 0, 0, 0, 0, 51, 52], [], [], [0, 0, 0, 0, 0, 0, 0, 0, 54, 55], [], [], [0, 0, 0, 0, 0, 0, 0, 0, 57, 58], [], [], [0, 0, 0, 0, 0, 0, 0, 0, 60, 61], [], [], [0, 0, 0, 0, 0, 0, 0, 0, 63, 64], [], [], [0, 0, 0, 0, 0, 0, 0, 0, 66, 67], [], [], [0, 0, 0, 0, 0, 0, 0, 0, 69, 70], [], [], [0, 0, 0, 0, 0, 0, 0, 0, 72, 73], [], [], [75, 76, 0], [], [], [5, 78, 79, 80], [], [], [], [82, 83], [], [], [], [1, 86, 0, 87, 0, 0, 0, 0], [], [], [1, 89, 0, 90, 0, 0, 0, 0], [], [], [0, 0, 92, 0, 0, 93, 94, 95, 96, 97, 98, 0, 0, 0, 0, 99, 0, 100, 101, 0, 0, 102, 103, 0, 104, 0, 0, 0, 0, 105, 106, 107, 0, 108, 109, 110, 0, 111, 112, 0, 113, 114, 115, 0, 116, 117, 118], [], [], [], [], [], [], [], [], [], [], [], [], [], [], [], [], [], [], [], [], [], [], [], [], [], [], [], []]
def kR (f t : Nat) (sp : Nat → Nat) (a k : Nat) : Value := if a = 0 ∧ k = 10 then .ref f else if a = 0 ∧ k = 11 then .ref t else if a = 17 ∧ k < 15 then .ref (sp k) else match (kRL.getD a []).getD k 0 with | 0 => .null | x + 1 => .ref (x + 1)
def kNc (c : Nat) : Bool := [10, 13, 20, 23, 26, 29, 32, 35, 38, 41, 44, 47, 50, 53, 56, 59, 62, 65, 68, 71].contains c
def kRc (c : Nat) : Bool := [85, 88].contains c
section TB
variable {f t cu su : Nat} {sp : Nat → Nat} {j : Int32}
theorem kRc_of {c : Nat} (h : kRc c = true) : c = 85 ∨ c = 88 := by simpa [kRc] using h
theorem ob_0 : kob (120, cu, su) 0 10 = True := eq_true ⟨(show 0 < 120 by decide), by decide +kernel⟩
theorem rk_0_0 : kR f t sp 0 0 = .ref 1 := rfl
theorem rk_0_1 : kR f t sp 0 1 = .ref 3 := rfl
theorem rk_0_2 : kR f t sp 0 2 = .ref 5 := rfl
theorem rk_0_3 : kR f t sp 0 3 = .ref 10 := rfl
theorem rk_0_4 : kR f t sp 0 4 = .ref 13 := rfl
theorem rk_0_5 : kR f t sp 0 5 = .ref 16 := rfl
theorem rk_0_6 : kR f t sp 0 6 = .ref 74 := rfl
theorem rk_0_7 : kR f t sp 0 7 = .ref 77 := rfl
theorem rk_0_8 : kR f t sp 0 8 = .ref 81 := rfl
theorem rk_0_9 : kR f t sp 0 9 = .ref 84 := rfl
theorem ob_1 : kob (120, cu, su) 1 9 = True := eq_true ⟨(show 1 < 120 by decide), by decide +kernel⟩
theorem rk_1_0 : kR f t sp 1 0 = .ref 2 := rfl
theorem ar_2 : kar (120, cu, su) 2 1 j = kin j 80 := propext ⟨fun h => h.2, fun h => ⟨(show 2 < 120 by decide), h⟩⟩
theorem ob_3 : kob (120, cu, su) 3 4 = True := eq_true ⟨(show 3 < 120 by decide), by decide +kernel⟩
theorem rk_3_0 : kR f t sp 3 0 = .ref 4 := rfl
theorem ar_4 : kar (120, cu, su) 4 3 j = kin j 128 := propext ⟨fun h => h.2, fun h => ⟨(show 4 < 120 by decide), h⟩⟩
theorem ob_5 : kob (120, cu, su) 5 3 = True := eq_true ⟨(show 5 < 120 by decide), by decide +kernel⟩
theorem rk_5_1 : kR f t sp 5 1 = .ref 6 := rfl
theorem rk_5_2 : kR f t sp 5 2 = .ref 7 := rfl
theorem rk_5_3 : kR f t sp 5 3 = .ref 8 := rfl
theorem rk_5_4 : kR f t sp 5 4 = .ref 9 := rfl
theorem ar_6 : kar (120, cu, su) 6 0 j = kin j 8 := propext ⟨fun h => h.2, fun h => ⟨(show 6 < 120 by decide), h⟩⟩
theorem ar_7 : kar (120, cu, su) 7 0 j = kin j 8 := propext ⟨fun h => h.2, fun h => ⟨(show 7 < 120 by decide), h⟩⟩
theorem ar_8 : kar (120, cu, su) 8 0 j = kin j 8 := propext ⟨fun h => h.2, fun h => ⟨(show 8 < 120 by decide), h⟩⟩
theorem ar_9 : kar (120, cu, su) 9 0 j = kin j 8 := propext ⟨fun h => h.2, fun h => ⟨(show 9 < 120 by decide), h⟩⟩
theorem ob_10 : kob (120, cu, su) 10 1 = True := eq_true ⟨(show 10 < 120 by decide), by decide +kernel⟩
theorem rk_10_8 : kR f t sp 10 8 = .ref 11 := rfl
theorem rk_10_9 : kR f t sp 10 9 = .ref 12 := rfl
theorem ar_11 : kar (120, cu, su) 11 0 j = kin j 8 := propext ⟨fun h => h.2, fun h => ⟨(show 11 < 120 by decide), h⟩⟩
theorem ar_12 : kar (120, cu, su) 12 0 j = kin j 8 := propext ⟨fun h => h.2, fun h => ⟨(show 12 < 120 by decide), h⟩⟩
theorem ob_13 : kob (120, cu, su) 13 1 = True := eq_true ⟨(show 13 < 120 by decide), by decide +kernel⟩
theorem rk_13_8 : kR f t sp 13 8 = .ref 14 := rfl
theorem rk_13_9 : kR f t sp 13 9 = .ref 15 := rfl
theorem ar_14 : kar (120, cu, su) 14 0 j = kin j 8 := propext ⟨fun h => h.2, fun h => ⟨(show 14 < 120 by decide), h⟩⟩
theorem ar_15 : kar (120, cu, su) 15 0 j = kin j 8 := propext ⟨fun h => h.2, fun h => ⟨(show 15 < 120 by decide), h⟩⟩
theorem ob_16 : kob (120, cu, su) 16 2 = True := eq_true ⟨(show 16 < 120 by decide), by decide +kernel⟩
theorem rk_16_0 : kR f t sp 16 0 = .ref 17 := rfl
theorem rk_16_2 : kR f t sp 16 2 = .ref 18 := rfl
theorem rk_16_3 : kR f t sp 16 3 = .ref 19 := rfl
theorem ar_17 : kar (120, cu, su) 17 4 j = kin j 15 := propext ⟨fun h => h.2, fun h => ⟨(show 17 < 120 by decide), h⟩⟩
theorem ar_18 : kar (120, cu, su) 18 4 j = kin j 3 := propext ⟨fun h => h.2, fun h => ⟨(show 18 < 120 by decide), h⟩⟩
theorem rk_18_0 : kR f t sp 18 0 = .ref 65 := rfl
theorem rk_18_1 : kR f t sp 18 1 = .ref 68 := rfl
theorem rk_18_2 : kR f t sp 18 2 = .ref 71 := rfl
theorem ar_19 : kar (120, cu, su) 19 2 j = kin j 3 := propext ⟨fun h => h.2, fun h => ⟨(show 19 < 120 by decide), h⟩⟩
theorem ob_20 : kob (120, cu, su) 20 1 = True := eq_true ⟨(show 20 < 120 by decide), by decide +kernel⟩
theorem rk_20_8 : kR f t sp 20 8 = .ref 21 := rfl
theorem rk_20_9 : kR f t sp 20 9 = .ref 22 := rfl
theorem ar_21 : kar (120, cu, su) 21 0 j = kin j 8 := propext ⟨fun h => h.2, fun h => ⟨(show 21 < 120 by decide), h⟩⟩
theorem ar_22 : kar (120, cu, su) 22 0 j = kin j 8 := propext ⟨fun h => h.2, fun h => ⟨(show 22 < 120 by decide), h⟩⟩
theorem ob_23 : kob (120, cu, su) 23 1 = True := eq_true ⟨(show 23 < 120 by decide), by decide +kernel⟩
theorem rk_23_8 : kR f t sp 23 8 = .ref 24 := rfl
theorem rk_23_9 : kR f t sp 23 9 = .ref 25 := rfl
theorem ar_24 : kar (120, cu, su) 24 0 j = kin j 8 := propext ⟨fun h => h.2, fun h => ⟨(show 24 < 120 by decide), h⟩⟩
theorem ar_25 : kar (120, cu, su) 25 0 j = kin j 8 := propext ⟨fun h => h.2, fun h => ⟨(show 25 < 120 by decide), h⟩⟩
theorem ob_26 : kob (120, cu, su) 26 1 = True := eq_true ⟨(show 26 < 120 by decide), by decide +kernel⟩
theorem rk_26_8 : kR f t sp 26 8 = .ref 27 := rfl
theorem rk_26_9 : kR f t sp 26 9 = .ref 28 := rfl
theorem ar_27 : kar (120, cu, su) 27 0 j = kin j 8 := propext ⟨fun h => h.2, fun h => ⟨(show 27 < 120 by decide), h⟩⟩
theorem ar_28 : kar (120, cu, su) 28 0 j = kin j 8 := propext ⟨fun h => h.2, fun h => ⟨(show 28 < 120 by decide), h⟩⟩
theorem ob_29 : kob (120, cu, su) 29 1 = True := eq_true ⟨(show 29 < 120 by decide), by decide +kernel⟩
theorem rk_29_8 : kR f t sp 29 8 = .ref 30 := rfl
theorem rk_29_9 : kR f t sp 29 9 = .ref 31 := rfl
theorem ar_30 : kar (120, cu, su) 30 0 j = kin j 8 := propext ⟨fun h => h.2, fun h => ⟨(show 30 < 120 by decide), h⟩⟩
theorem ar_31 : kar (120, cu, su) 31 0 j = kin j 8 := propext ⟨fun h => h.2, fun h => ⟨(show 31 < 120 by decide), h⟩⟩
theorem ob_32 : kob (120, cu, su) 32 1 = True := eq_true ⟨(show 32 < 120 by decide), by decide +kernel⟩
theorem rk_32_8 : kR f t sp 32 8 = .ref 33 := rfl
theorem rk_32_9 : kR f t sp 32 9 = .ref 34 := rfl
theorem ar_33 : kar (120, cu, su) 33 0 j = kin j 8 := propext ⟨fun h => h.2, fun h => ⟨(show 33 < 120 by decide), h⟩⟩
theorem ar_34 : kar (120, cu, su) 34 0 j = kin j 8 := propext ⟨fun h => h.2, fun h => ⟨(show 34 < 120 by decide), h⟩⟩
theorem ob_35 : kob (120, cu, su) 35 1 = True := eq_true ⟨(show 35 < 120 by decide), by decide +kernel⟩
theorem rk_35_8 : kR f t sp 35 8 = .ref 36 := rfl
theorem rk_35_9 : kR f t sp 35 9 = .ref 37 := rfl
theorem ar_36 : kar (120, cu, su) 36 0 j = kin j 8 := propext ⟨fun h => h.2, fun h => ⟨(show 36 < 120 by decide), h⟩⟩
theorem ar_37 : kar (120, cu, su) 37 0 j = kin j 8 := propext ⟨fun h => h.2, fun h => ⟨(show 37 < 120 by decide), h⟩⟩
theorem ob_38 : kob (120, cu, su) 38 1 = True := eq_true ⟨(show 38 < 120 by decide), by decide +kernel⟩
theorem rk_38_8 : kR f t sp 38 8 = .ref 39 := rfl
theorem rk_38_9 : kR f t sp 38 9 = .ref 40 := rfl
theorem ar_39 : kar (120, cu, su) 39 0 j = kin j 8 := propext ⟨fun h => h.2, fun h => ⟨(show 39 < 120 by decide), h⟩⟩
theorem ar_40 : kar (120, cu, su) 40 0 j = kin j 8 := propext ⟨fun h => h.2, fun h => ⟨(show 40 < 120 by decide), h⟩⟩
theorem ob_41 : kob (120, cu, su) 41 1 = True := eq_true ⟨(show 41 < 120 by decide), by decide +kernel⟩
theorem rk_41_8 : kR f t sp 41 8 = .ref 42 := rfl
theorem rk_41_9 : kR f t sp 41 9 = .ref 43 := rfl
theorem ar_42 : kar (120, cu, su) 42 0 j = kin j 8 := propext ⟨fun h => h.2, fun h => ⟨(show 42 < 120 by decide), h⟩⟩
theorem ar_43 : kar (120, cu, su) 43 0 j = kin j 8 := propext ⟨fun h => h.2, fun h => ⟨(show 43 < 120 by decide), h⟩⟩
theorem ob_44 : kob (120, cu, su) 44 1 = True := eq_true ⟨(show 44 < 120 by decide), by decide +kernel⟩
theorem rk_44_8 : kR f t sp 44 8 = .ref 45 := rfl
theorem rk_44_9 : kR f t sp 44 9 = .ref 46 := rfl
theorem ar_45 : kar (120, cu, su) 45 0 j = kin j 8 := propext ⟨fun h => h.2, fun h => ⟨(show 45 < 120 by decide), h⟩⟩
theorem ar_46 : kar (120, cu, su) 46 0 j = kin j 8 := propext ⟨fun h => h.2, fun h => ⟨(show 46 < 120 by decide), h⟩⟩
theorem ob_47 : kob (120, cu, su) 47 1 = True := eq_true ⟨(show 47 < 120 by decide), by decide +kernel⟩
theorem rk_47_8 : kR f t sp 47 8 = .ref 48 := rfl
theorem rk_47_9 : kR f t sp 47 9 = .ref 49 := rfl
theorem ar_48 : kar (120, cu, su) 48 0 j = kin j 8 := propext ⟨fun h => h.2, fun h => ⟨(show 48 < 120 by decide), h⟩⟩
theorem ar_49 : kar (120, cu, su) 49 0 j = kin j 8 := propext ⟨fun h => h.2, fun h => ⟨(show 49 < 120 by decide), h⟩⟩
theorem ob_50 : kob (120, cu, su) 50 1 = True := eq_true ⟨(show 50 < 120 by decide), by decide +kernel⟩
theorem rk_50_8 : kR f t sp 50 8 = .ref 51 := rfl
theorem rk_50_9 : kR f t sp 50 9 = .ref 52 := rfl
theorem ar_51 : kar (120, cu, su) 51 0 j = kin j 8 := propext ⟨fun h => h.2, fun h => ⟨(show 51 < 120 by decide), h⟩⟩
theorem ar_52 : kar (120, cu, su) 52 0 j = kin j 8 := propext ⟨fun h => h.2, fun h => ⟨(show 52 < 120 by decide), h⟩⟩
theorem ob_53 : kob (120, cu, su) 53 1 = True := eq_true ⟨(show 53 < 120 by decide), by decide +kernel⟩
theorem rk_53_8 : kR f t sp 53 8 = .ref 54 := rfl
theorem rk_53_9 : kR f t sp 53 9 = .ref 55 := rfl
theorem ar_54 : kar (120, cu, su) 54 0 j = kin j 8 := propext ⟨fun h => h.2, fun h => ⟨(show 54 < 120 by decide), h⟩⟩
theorem ar_55 : kar (120, cu, su) 55 0 j = kin j 8 := propext ⟨fun h => h.2, fun h => ⟨(show 55 < 120 by decide), h⟩⟩
theorem ob_56 : kob (120, cu, su) 56 1 = True := eq_true ⟨(show 56 < 120 by decide), by decide +kernel⟩
theorem rk_56_8 : kR f t sp 56 8 = .ref 57 := rfl
theorem rk_56_9 : kR f t sp 56 9 = .ref 58 := rfl
theorem ar_57 : kar (120, cu, su) 57 0 j = kin j 8 := propext ⟨fun h => h.2, fun h => ⟨(show 57 < 120 by decide), h⟩⟩
theorem ar_58 : kar (120, cu, su) 58 0 j = kin j 8 := propext ⟨fun h => h.2, fun h => ⟨(show 58 < 120 by decide), h⟩⟩
theorem ob_59 : kob (120, cu, su) 59 1 = True := eq_true ⟨(show 59 < 120 by decide), by decide +kernel⟩
theorem rk_59_8 : kR f t sp 59 8 = .ref 60 := rfl
theorem rk_59_9 : kR f t sp 59 9 = .ref 61 := rfl
theorem ar_60 : kar (120, cu, su) 60 0 j = kin j 8 := propext ⟨fun h => h.2, fun h => ⟨(show 60 < 120 by decide), h⟩⟩
theorem ar_61 : kar (120, cu, su) 61 0 j = kin j 8 := propext ⟨fun h => h.2, fun h => ⟨(show 61 < 120 by decide), h⟩⟩
theorem ob_62 : kob (120, cu, su) 62 1 = True := eq_true ⟨(show 62 < 120 by decide), by decide +kernel⟩
theorem rk_62_8 : kR f t sp 62 8 = .ref 63 := rfl
theorem rk_62_9 : kR f t sp 62 9 = .ref 64 := rfl
theorem ar_63 : kar (120, cu, su) 63 0 j = kin j 8 := propext ⟨fun h => h.2, fun h => ⟨(show 63 < 120 by decide), h⟩⟩
theorem ar_64 : kar (120, cu, su) 64 0 j = kin j 8 := propext ⟨fun h => h.2, fun h => ⟨(show 64 < 120 by decide), h⟩⟩
theorem ob_65 : kob (120, cu, su) 65 1 = True := eq_true ⟨(show 65 < 120 by decide), by decide +kernel⟩
theorem rk_65_8 : kR f t sp 65 8 = .ref 66 := rfl
theorem rk_65_9 : kR f t sp 65 9 = .ref 67 := rfl
theorem ar_66 : kar (120, cu, su) 66 0 j = kin j 8 := propext ⟨fun h => h.2, fun h => ⟨(show 66 < 120 by decide), h⟩⟩
theorem ar_67 : kar (120, cu, su) 67 0 j = kin j 8 := propext ⟨fun h => h.2, fun h => ⟨(show 67 < 120 by decide), h⟩⟩
theorem ob_68 : kob (120, cu, su) 68 1 = True := eq_true ⟨(show 68 < 120 by decide), by decide +kernel⟩
theorem rk_68_8 : kR f t sp 68 8 = .ref 69 := rfl
theorem rk_68_9 : kR f t sp 68 9 = .ref 70 := rfl
theorem ar_69 : kar (120, cu, su) 69 0 j = kin j 8 := propext ⟨fun h => h.2, fun h => ⟨(show 69 < 120 by decide), h⟩⟩
theorem ar_70 : kar (120, cu, su) 70 0 j = kin j 8 := propext ⟨fun h => h.2, fun h => ⟨(show 70 < 120 by decide), h⟩⟩
theorem ob_71 : kob (120, cu, su) 71 1 = True := eq_true ⟨(show 71 < 120 by decide), by decide +kernel⟩
theorem rk_71_8 : kR f t sp 71 8 = .ref 72 := rfl
theorem rk_71_9 : kR f t sp 71 9 = .ref 73 := rfl
theorem ar_72 : kar (120, cu, su) 72 0 j = kin j 8 := propext ⟨fun h => h.2, fun h => ⟨(show 72 < 120 by decide), h⟩⟩
theorem ar_73 : kar (120, cu, su) 73 0 j = kin j 8 := propext ⟨fun h => h.2, fun h => ⟨(show 73 < 120 by decide), h⟩⟩
theorem ob_74 : kob (120, cu, su) 74 6 = True := eq_true ⟨(show 74 < 120 by decide), by decide +kernel⟩
theorem rk_74_0 : kR f t sp 74 0 = .ref 75 := rfl
theorem rk_74_1 : kR f t sp 74 1 = .ref 76 := rfl
theorem ar_75 : kar (120, cu, su) 75 0 j = kin j 12 := propext ⟨fun h => h.2, fun h => ⟨(show 75 < 120 by decide), h⟩⟩
theorem ar_76 : kar (120, cu, su) 76 0 j = kin j 12 := propext ⟨fun h => h.2, fun h => ⟨(show 76 < 120 by decide), h⟩⟩
theorem ob_77 : kob (120, cu, su) 77 7 = True := eq_true ⟨(show 77 < 120 by decide), by decide +kernel⟩
theorem rk_77_0 : kR f t sp 77 0 = .ref 5 := rfl
theorem rk_77_1 : kR f t sp 77 1 = .ref 78 := rfl
theorem rk_77_2 : kR f t sp 77 2 = .ref 79 := rfl
theorem rk_77_3 : kR f t sp 77 3 = .ref 80 := rfl
theorem ar_78 : kar (120, cu, su) 78 0 j = kin j 2304 := propext ⟨fun h => h.2, fun h => ⟨(show 78 < 120 by decide), h⟩⟩
theorem ar_79 : kar (120, cu, su) 79 0 j = kin j 8 := propext ⟨fun h => h.2, fun h => ⟨(show 79 < 120 by decide), h⟩⟩
theorem ar_80 : kar (120, cu, su) 80 0 j = kin j 9 := propext ⟨fun h => h.2, fun h => ⟨(show 80 < 120 by decide), h⟩⟩
theorem ob_81 : kob (120, cu, su) 81 8 = True := eq_true ⟨(show 81 < 120 by decide), by decide +kernel⟩
theorem rk_81_0 : kR f t sp 81 0 = .ref 82 := rfl
theorem rk_81_1 : kR f t sp 81 1 = .ref 83 := rfl
theorem ar_82 : kar (120, cu, su) 82 2 j = kin j 61 := propext ⟨fun h => h.2, fun h => ⟨(show 82 < 120 by decide), h⟩⟩
theorem ar_83 : kar (120, cu, su) 83 2 j = kin j 61 := propext ⟨fun h => h.2, fun h => ⟨(show 83 < 120 by decide), h⟩⟩
theorem ob_84 : kob (120, cu, su) 84 0 = True := eq_true ⟨(show 84 < 120 by decide), by decide +kernel⟩
theorem ob_85 : kob (120, cu, su) 85 5 = True := eq_true ⟨(show 85 < 120 by decide), by decide +kernel⟩
theorem rk_85_0 : kR f t sp 85 0 = .ref 1 := rfl
theorem rk_85_1 : kR f t sp 85 1 = .ref 86 := rfl
theorem rk_85_3 : kR f t sp 85 3 = .ref 87 := rfl
theorem ar_86 : kar (120, cu, su) 86 0 j = kin j 40 := propext ⟨fun h => h.2, fun h => ⟨(show 86 < 120 by decide), h⟩⟩
theorem ar_87 : kar (120, cu, su) 87 0 j = kin j 40 := propext ⟨fun h => h.2, fun h => ⟨(show 87 < 120 by decide), h⟩⟩
theorem ob_88 : kob (120, cu, su) 88 5 = True := eq_true ⟨(show 88 < 120 by decide), by decide +kernel⟩
theorem rk_88_0 : kR f t sp 88 0 = .ref 1 := rfl
theorem rk_88_1 : kR f t sp 88 1 = .ref 89 := rfl
theorem rk_88_3 : kR f t sp 88 3 = .ref 90 := rfl
theorem ar_89 : kar (120, cu, su) 89 0 j = kin j 40 := propext ⟨fun h => h.2, fun h => ⟨(show 89 < 120 by decide), h⟩⟩
theorem ar_90 : kar (120, cu, su) 90 0 j = kin j 40 := propext ⟨fun h => h.2, fun h => ⟨(show 90 < 120 by decide), h⟩⟩
theorem ob_91 : kob (120, cu, su) 91 11 = True := eq_true ⟨(show 91 < 120 by decide), by decide +kernel⟩
theorem rk_91_2 : kR f t sp 91 2 = .ref 92 := rfl
theorem rk_91_5 : kR f t sp 91 5 = .ref 93 := rfl
theorem rk_91_6 : kR f t sp 91 6 = .ref 94 := rfl
theorem rk_91_7 : kR f t sp 91 7 = .ref 95 := rfl
theorem rk_91_8 : kR f t sp 91 8 = .ref 96 := rfl
theorem rk_91_9 : kR f t sp 91 9 = .ref 97 := rfl
theorem rk_91_10 : kR f t sp 91 10 = .ref 98 := rfl
theorem rk_91_15 : kR f t sp 91 15 = .ref 99 := rfl
theorem rk_91_17 : kR f t sp 91 17 = .ref 100 := rfl
theorem rk_91_18 : kR f t sp 91 18 = .ref 101 := rfl
theorem rk_91_21 : kR f t sp 91 21 = .ref 102 := rfl
theorem rk_91_22 : kR f t sp 91 22 = .ref 103 := rfl
theorem rk_91_24 : kR f t sp 91 24 = .ref 104 := rfl
theorem rk_91_29 : kR f t sp 91 29 = .ref 105 := rfl
theorem rk_91_30 : kR f t sp 91 30 = .ref 106 := rfl
theorem rk_91_31 : kR f t sp 91 31 = .ref 107 := rfl
theorem rk_91_33 : kR f t sp 91 33 = .ref 108 := rfl
theorem rk_91_34 : kR f t sp 91 34 = .ref 109 := rfl
theorem rk_91_35 : kR f t sp 91 35 = .ref 110 := rfl
theorem rk_91_37 : kR f t sp 91 37 = .ref 111 := rfl
theorem rk_91_38 : kR f t sp 91 38 = .ref 112 := rfl
theorem rk_91_40 : kR f t sp 91 40 = .ref 113 := rfl
theorem rk_91_41 : kR f t sp 91 41 = .ref 114 := rfl
theorem rk_91_42 : kR f t sp 91 42 = .ref 115 := rfl
theorem rk_91_44 : kR f t sp 91 44 = .ref 116 := rfl
theorem rk_91_45 : kR f t sp 91 45 = .ref 117 := rfl
theorem rk_91_46 : kR f t sp 91 46 = .ref 118 := rfl
theorem ar_92 : kar (120, cu, su) 92 3 j = kin j 256 := propext ⟨fun h => h.2, fun h => ⟨(show 92 < 120 by decide), h⟩⟩
theorem ar_93 : kar (120, cu, su) 93 0 j = kin j 8 := propext ⟨fun h => h.2, fun h => ⟨(show 93 < 120 by decide), h⟩⟩
theorem ar_94 : kar (120, cu, su) 94 0 j = kin j 8 := propext ⟨fun h => h.2, fun h => ⟨(show 94 < 120 by decide), h⟩⟩
theorem ar_95 : kar (120, cu, su) 95 0 j = kin j 8 := propext ⟨fun h => h.2, fun h => ⟨(show 95 < 120 by decide), h⟩⟩
theorem ar_96 : kar (120, cu, su) 96 0 j = kin j 25 := propext ⟨fun h => h.2, fun h => ⟨(show 96 < 120 by decide), h⟩⟩
theorem ar_97 : kar (120, cu, su) 97 0 j = kin j 25 := propext ⟨fun h => h.2, fun h => ⟨(show 97 < 120 by decide), h⟩⟩
theorem ar_98 : kar (120, cu, su) 98 0 j = kin j 80 := propext ⟨fun h => h.2, fun h => ⟨(show 98 < 120 by decide), h⟩⟩
theorem ar_99 : kar (120, cu, su) 99 0 j = kin j 16 := propext ⟨fun h => h.2, fun h => ⟨(show 99 < 120 by decide), h⟩⟩
theorem ar_100 : kar (120, cu, su) 100 0 j = kin j 80 := propext ⟨fun h => h.2, fun h => ⟨(show 100 < 120 by decide), h⟩⟩
theorem ar_101 : kar (120, cu, su) 101 0 j = kin j 80 := propext ⟨fun h => h.2, fun h => ⟨(show 101 < 120 by decide), h⟩⟩
theorem ar_102 : kar (120, cu, su) 102 0 j = kin j 80 := propext ⟨fun h => h.2, fun h => ⟨(show 102 < 120 by decide), h⟩⟩
theorem ar_103 : kar (120, cu, su) 103 0 j = kin j 7 := propext ⟨fun h => h.2, fun h => ⟨(show 103 < 120 by decide), h⟩⟩
theorem ar_104 : kar (120, cu, su) 104 0 j = kin j 400 := propext ⟨fun h => h.2, fun h => ⟨(show 104 < 120 by decide), h⟩⟩
theorem ar_105 : kar (120, cu, su) 105 0 j = kin j 60 := propext ⟨fun h => h.2, fun h => ⟨(show 105 < 120 by decide), h⟩⟩
theorem ar_106 : kar (120, cu, su) 106 0 j = kin j 60 := propext ⟨fun h => h.2, fun h => ⟨(show 106 < 120 by decide), h⟩⟩
theorem ar_107 : kar (120, cu, su) 107 0 j = kin j 60 := propext ⟨fun h => h.2, fun h => ⟨(show 107 < 120 by decide), h⟩⟩
theorem ar_108 : kar (120, cu, su) 108 0 j = kin j 2304 := propext ⟨fun h => h.2, fun h => ⟨(show 108 < 120 by decide), h⟩⟩
theorem ar_109 : kar (120, cu, su) 109 0 j = kin j 8 := propext ⟨fun h => h.2, fun h => ⟨(show 109 < 120 by decide), h⟩⟩
theorem ar_110 : kar (120, cu, su) 110 0 j = kin j 8 := propext ⟨fun h => h.2, fun h => ⟨(show 110 < 120 by decide), h⟩⟩
theorem ar_111 : kar (120, cu, su) 111 0 j = kin j 61 := propext ⟨fun h => h.2, fun h => ⟨(show 111 < 120 by decide), h⟩⟩
theorem ar_112 : kar (120, cu, su) 112 0 j = kin j 61 := propext ⟨fun h => h.2, fun h => ⟨(show 112 < 120 by decide), h⟩⟩
theorem ar_113 : kar (120, cu, su) 113 0 j = kin j 12 := propext ⟨fun h => h.2, fun h => ⟨(show 113 < 120 by decide), h⟩⟩
theorem ar_114 : kar (120, cu, su) 114 0 j = kin j 12 := propext ⟨fun h => h.2, fun h => ⟨(show 114 < 120 by decide), h⟩⟩
theorem ar_115 : kar (120, cu, su) 115 0 j = kin j 80 := propext ⟨fun h => h.2, fun h => ⟨(show 115 < 120 by decide), h⟩⟩
theorem ar_116 : kar (120, cu, su) 116 2 j = kin j 3 := propext ⟨fun h => h.2, fun h => ⟨(show 116 < 120 by decide), h⟩⟩
theorem ar_117 : kar (120, cu, su) 117 0 j = kin j 3 := propext ⟨fun h => h.2, fun h => ⟨(show 117 < 120 by decide), h⟩⟩
theorem ar_118 : kar (120, cu, su) 118 0 j = kin j 75 := propext ⟨fun h => h.2, fun h => ⟨(show 118 < 120 by decide), h⟩⟩
theorem ar_119 : kar (120, cu, su) 119 3 j = kin j 1 := propext ⟨fun h => h.2, fun h => ⟨(show 119 < 120 by decide), h⟩⟩
theorem rk_0_10 : kR f t sp 0 10 = .ref f := rfl
theorem rk_0_11 : kR f t sp 0 11 = .ref t := rfl
theorem rk_17 {k : Nat} (h : k < 15) : kR f t sp 17 k = .ref (sp k) := by simp [kR, h]
theorem kNc_all {P : Nat → Prop} (h : ∀ c ∈ [10, 13, 20, 23, 26, 29, 32, 35, 38, 41, 44, 47, 50, 53, 56, 59, 62, 65, 68, 71], P c) {c : Nat} (hc : kNc c = true) : P c := h c (by simpa [kNc] using hc)
theorem kNc_lt {c : Nat} (hc : kNc c = true) : 10 ≤ c ∧ c ≤ 71 := kNc_all (P := fun c => 10 ≤ c ∧ c ≤ 71) (by decide) hc
theorem ob_n {c : Nat} (hc : kNc c = true) : kob (120, cu, su) c 1 = True := eq_true (kNc_all (P := fun c => kob (120, cu, su) c 1) (by intro c h; have := (show ∀ c ∈ [10, 13, 20, 23, 26, 29, 32, 35, 38, 41, 44, 47, 50, 53, 56, 59, 62, 65, 68, 71], c < 120 ∧ kSH c = .inl 1 from by decide +kernel) c h; exact this) hc)
theorem rk_n8 {c : Nat} (hc : kNc c = true) : kR f t sp c 8 = .ref (c + 1) := by
  have h0 := kNc_all (P := fun c => c ≠ 0 ∧ c ≠ 17 ∧ (kRL.getD c []).getD 8 0 = c + 1) (by decide +kernel) hc
  unfold kR
  rw [h0.2.2, if_neg (fun q => h0.1 q.1), if_neg (fun q => h0.1 q.1), if_neg (fun q => h0.2.1 q.1)]
theorem rk_n9 {c : Nat} (hc : kNc c = true) : kR f t sp c 9 = .ref (c + 2) := by
  have h0 := kNc_all (P := fun c => c ≠ 0 ∧ c ≠ 17 ∧ (kRL.getD c []).getD 9 0 = c + 2) (by decide +kernel) hc
  unfold kR
  rw [h0.2.2, if_neg (fun q => h0.1 q.1), if_neg (fun q => h0.1 q.1), if_neg (fun q => h0.2.1 q.1)]
theorem kl_n1 {c : Nat} (hc : kNc c = true) : c + 1 < 120 ∧ klen (c + 1) 0 = 8 := kNc_all (P := fun c => c + 1 < 120 ∧ klen (c + 1) 0 = 8) (by decide +kernel) hc
theorem kl_n2 {c : Nat} (hc : kNc c = true) : c + 2 < 120 ∧ klen (c + 2) 0 = 8 := kNc_all (P := fun c => c + 2 < 120 ∧ klen (c + 2) 0 = 8) (by decide +kernel) hc
theorem ar_n1 {c : Nat} (hc : kNc c = true) : kar (120, cu, su) (c + 1) 0 j = kin j 8 := by
  have h := kl_n1 hc
  show (c + 1 < 120 ∧ kin j (klen (c + 1) 0)) = _
  rw [h.2]; exact propext ⟨fun z => z.2, fun z => ⟨h.1, z⟩⟩
theorem ar_n2 {c : Nat} (hc : kNc c = true) : kar (120, cu, su) (c + 2) 0 j = kin j 8 := by
  have h := kl_n2 hc
  show (c + 2 < 120 ∧ kin j (klen (c + 2) 0)) = _
  rw [h.2]; exact propext ⟨fun z => z.2, fun z => ⟨h.1, z⟩⟩
theorem ob_r {c : Nat} (hc : kRc c = true) : kob (120, cu, su) c 5 = True := by
  rcases kRc_of hc with rfl | rfl
  · exact ob_85
  · exact ob_88
theorem rk_r0 {c : Nat} (hc : kRc c = true) : kR f t sp c 0 = .ref 1 := by rcases kRc_of hc with rfl | rfl <;> rfl
theorem rk_r1 {c : Nat} (hc : kRc c = true) : kR f t sp c 1 = .ref (c + 1) := by rcases kRc_of hc with rfl | rfl <;> rfl
theorem rk_r3 {c : Nat} (hc : kRc c = true) : kR f t sp c 3 = .ref (c + 2) := by rcases kRc_of hc with rfl | rfl <;> rfl
theorem ar_r1 {c : Nat} (hc : kRc c = true) : kar (120, cu, su) (c + 1) 0 j = kin j 40 := by
  rcases kRc_of hc with rfl | rfl
  · exact ar_86
  · exact ar_89
theorem ar_r2 {c : Nat} (hc : kRc c = true) : kar (120, cu, su) (c + 2) 0 j = kin j 40 := by
  rcases kRc_of hc with rfl | rfl
  · exact ar_87
  · exact ar_90
end TB
end TA
section TM
theorem km_0 : kmx 0 = 1 := by decide +kernel
theorem km_1 : kmx 1 = 2 := by decide +kernel
theorem km_2 : kmx 2 = 2 := by decide +kernel
theorem km_3 : kmx 3 = 1 := by decide +kernel
theorem km_4 : kmx 4 = 2 := by decide +kernel
theorem km_5 : kmx 5 = 2 := by decide +kernel
theorem km_6 : kmx 6 = 4 := by decide +kernel
theorem km_7 : kmx 7 = 5 := by decide +kernel
theorem km_8 : kmx 8 = 5 := by decide +kernel
theorem km_9 : kmx 9 = 6 := by decide +kernel
theorem km_10 : kmx 10 = 7 := by decide +kernel
theorem km_11 : kmx 11 = 4 := by decide +kernel
theorem km_12 : kmx 12 = 7 := by decide +kernel
theorem km_13 : kmx 13 = 4 := by decide +kernel
theorem km_14 : kmx 14 = 5 := by decide +kernel
theorem km_15 : kmx 15 = 3 := by decide +kernel
theorem km_16 : kmx 16 = 4 := by decide +kernel
theorem km_17 : kmx 17 = 3 := by decide +kernel
theorem km_18 : kmx 18 = 2 := by decide +kernel
theorem km_19 : kmx 19 = 1 := by decide +kernel
theorem km_20 : kmx 20 = 2 := by decide +kernel
theorem km_21 : kmx 21 = 2 := by decide +kernel
theorem km_22 : kmx 22 = 2 := by decide +kernel
theorem km_23 : kmx 23 = 3 := by decide +kernel
theorem km_24 : kmx 24 = 3 := by decide +kernel
theorem km_25 : kmx 25 = 2 := by decide +kernel
theorem km_26 : kmx 26 = 3 := by decide +kernel
theorem km_27 : kmx 27 = 1 := by decide +kernel
theorem km_28 : kmx 28 = 2 := by decide +kernel
theorem km_29 : kmx 29 = 3 := by decide +kernel
theorem km_30 : kmx 30 = 3 := by decide +kernel
theorem km_31 : kmx 31 = 9 := by decide +kernel
theorem km_32 : kmx 32 = 8 := by decide +kernel
theorem km_33 : kmx 33 = 4 := by decide +kernel
theorem km_34 : kmx 34 = 4 := by decide +kernel
theorem km_35 : kmx 35 = 4 := by decide +kernel
theorem km_36 : kmx 36 = 3 := by decide +kernel
theorem km_37 : kmx 37 = 3 := by decide +kernel
theorem km_38 : kmx 38 = 2 := by decide +kernel
theorem km_39 : kmx 39 = 1 := by decide +kernel
theorem km_40 : kmx 40 = 1 := by decide +kernel
theorem km_41 : kmx 41 = 3 := by decide +kernel
theorem km_42 : kmx 42 = 12 := by decide +kernel
theorem km_43 : kmx 43 = 2 := by decide +kernel
theorem km_44 : kmx 44 = 4 := by decide +kernel
theorem km_45 : kmx 45 = 7 := by decide +kernel
theorem km_46 : kmx 46 = 2 := by decide +kernel
theorem km_47 : kmx 47 = 3 := by decide +kernel
theorem km_48 : kmx 48 = 2 := by decide +kernel
theorem km_49 : kmx 49 = 1 := by decide +kernel
theorem km_50 : kmx 50 = 3 := by decide +kernel
theorem km_51 : kmx 51 = 1 := by decide +kernel
theorem km_52 : kmx 52 = 1 := by decide +kernel
theorem km_53 : kmx 53 = 2 := by decide +kernel
theorem km_54 : kmx 54 = 1 := by decide +kernel
theorem km_55 : kmx 55 = 2 := by decide +kernel
theorem km_56 : kmx 56 = 1 := by decide +kernel
theorem km_57 : kmx 57 = 4 := by decide +kernel
theorem km_58 : kmx 58 = 3 := by decide +kernel
theorem km_59 : kmx 59 = 1 := by decide +kernel
theorem km_60 : kmx 60 = 3 := by decide +kernel
theorem km_61 : kmx 61 = 2 := by decide +kernel
theorem km_62 : kmx 62 = 5 := by decide +kernel
theorem km_63 : kmx 63 = 5 := by decide +kernel
theorem km_64 : kmx 64 = 6 := by decide +kernel
theorem km_65 : kmx 65 = 2 := by decide +kernel
theorem km_66 : kmx 66 = 2 := by decide +kernel
theorem km_67 : kmx 67 = 5 := by decide +kernel
theorem km_68 : kmx 68 = 8 := by decide +kernel
theorem km_69 : kmx 69 = 7 := by decide +kernel
theorem km_70 : kmx 70 = 5 := by decide +kernel
theorem km_71 : kmx 71 = 5 := by decide +kernel
theorem km_72 : kmx 72 = 5 := by decide +kernel
theorem km_73 : kmx 73 = 5 := by decide +kernel
theorem km_74 : kmx 74 = 4 := by decide +kernel
theorem km_75 : kmx 75 = 6 := by decide +kernel
theorem km_76 : kmx 76 = 5 := by decide +kernel
theorem km_77 : kmx 77 = 5 := by decide +kernel
theorem km_78 : kmx 78 = 5 := by decide +kernel
theorem km_79 : kmx 79 = 5 := by decide +kernel
theorem km_80 : kmx 80 = 4 := by decide +kernel
theorem km_81 : kmx 81 = 2 := by decide +kernel
theorem km_82 : kmx 82 = 2 := by decide +kernel
theorem km_83 : kmx 83 = 1 := by decide +kernel
theorem km_84 : kmx 84 = 4 := by decide +kernel
theorem km_85 : kmx 85 = 3 := by decide +kernel
theorem km_86 : kmx 86 = 4 := by decide +kernel
theorem km_87 : kmx 87 = 1 := by decide +kernel
theorem km_88 : kmx 88 = 3 := by decide +kernel
theorem km_89 : kmx 89 = 3 := by decide +kernel
theorem km_90 : kmx 90 = 2 := by decide +kernel
theorem km_91 : kmx 91 = 1 := by decide +kernel
theorem km_92 : kmx 92 = 2 := by decide +kernel
theorem km_93 : kmx 93 = 2 := by decide +kernel
theorem km_94 : kmx 94 = 1 := by decide +kernel
theorem km_95 : kmx 95 = 2 := by decide +kernel
theorem km_96 : kmx 96 = 2 := by decide +kernel
theorem km_97 : kmx 97 = 2 := by decide +kernel
theorem km_98 : kmx 98 = 2 := by decide +kernel
theorem km_99 : kmx 99 = 3 := by decide +kernel
theorem km_100 : kmx 100 = 3 := by decide +kernel
theorem km_101 : kmx 101 = 3 := by decide +kernel
theorem km_102 : kmx 102 = 5 := by decide +kernel
theorem km_103 : kmx 103 = 5 := by decide +kernel
theorem km_104 : kmx 104 = 4 := by decide +kernel
theorem km_105 : kmx 105 = 3 := by decide +kernel
theorem km_106 : kmx 106 = 6 := by decide +kernel
theorem km_107 : kmx 107 = 1 := by decide +kernel
theorem km_108 : kmx 108 = 2 := by decide +kernel
theorem km_109 : kmx 109 = 2 := by decide +kernel
theorem km_110 : kmx 110 = 5 := by decide +kernel
theorem km_111 : kmx 111 = 4 := by decide +kernel
theorem km_112 : kmx 112 = 4 := by decide +kernel
theorem km_113 : kmx 113 = 4 := by decide +kernel
theorem km_114 : kmx 114 = 3 := by decide +kernel
theorem km_115 : kmx 115 = 5 := by decide +kernel
theorem km_116 : kmx 116 = 5 := by decide +kernel
theorem km_117 : kmx 117 = 4 := by decide +kernel
theorem km_118 : kmx 118 = 5 := by decide +kernel
theorem km_119 : kmx 119 = 2 := by decide +kernel
theorem km_120 : kmx 120 = 6 := by decide +kernel
theorem km_121 : kmx 121 = 8 := by decide +kernel
theorem km_122 : kmx 122 = 4 := by decide +kernel
theorem km_123 : kmx 123 = 6 := by decide +kernel
theorem km_124 : kmx 124 = 15 := by decide +kernel
theorem km_125 : kmx 125 = 9 := by decide +kernel
theorem km_126 : kmx 126 = 3 := by decide +kernel
theorem km_127 : kmx 127 = 1 := by decide +kernel
theorem km_128 : kmx 128 = 2 := by decide +kernel
theorem km_129 : kmx 129 = 7 := by decide +kernel
theorem km_130 : kmx 130 = 3 := by decide +kernel
theorem km_131 : kmx 131 = 5 := by decide +kernel
theorem km_132 : kmx 132 = 4 := by decide +kernel
theorem km_133 : kmx 133 = 2 := by decide +kernel
theorem km_134 : kmx 134 = 2 := by decide +kernel
theorem km_135 : kmx 135 = 2 := by decide +kernel
theorem km_136 : kmx 136 = 2 := by decide +kernel
theorem km_137 : kmx 137 = 2 := by decide +kernel
theorem km_138 : kmx 138 = 4 := by decide +kernel
theorem km_139 : kmx 139 = 1 := by decide +kernel
theorem km_140 : kmx 140 = 4 := by decide +kernel
theorem km_141 : kmx 141 = 1 := by decide +kernel
theorem km_142 : kmx 142 = 6 := by decide +kernel
theorem km_143 : kmx 143 = 5 := by decide +kernel
theorem km_144 : kmx 144 = 4 := by decide +kernel
theorem km_145 : kmx 145 = 4 := by decide +kernel
theorem km_146 : kmx 146 = 4 := by decide +kernel
theorem km_147 : kmx 147 = 1 := by decide +kernel
theorem km_148 : kmx 148 = 1 := by decide +kernel
theorem km_149 : kmx 149 = 1 := by decide +kernel
theorem km_150 : kmx 150 = 1 := by decide +kernel
theorem km_151 : kmx 151 = 1 := by decide +kernel
theorem km_152 : kmx 152 = 2 := by decide +kernel
theorem km_153 : kmx 153 = 6 := by decide +kernel
theorem km_154 : kmx 154 = 6 := by decide +kernel
theorem km_155 : kmx 155 = 1 := by decide +kernel
theorem km_156 : kmx 156 = 1 := by decide +kernel
theorem km_157 : kmx 157 = 6 := by decide +kernel
theorem km_158 : kmx 158 = 2 := by decide +kernel
theorem km_159 : kmx 159 = 1 := by decide +kernel
theorem km_160 : kmx 160 = 4 := by decide +kernel
theorem km_161 : kmx 161 = 3 := by decide +kernel
theorem km_162 : kmx 162 = 7 := by decide +kernel
theorem km_163 : kmx 163 = 2 := by decide +kernel
theorem km_164 : kmx 164 = 2 := by decide +kernel
theorem km_165 : kmx 165 = 1 := by decide +kernel
theorem km_166 : kmx 166 = 4 := by decide +kernel
theorem km_167 : kmx 167 = 3 := by decide +kernel
theorem km_168 : kmx 168 = 5 := by decide +kernel
theorem km_169 : kmx 169 = 3 := by decide +kernel
theorem km_170 : kmx 170 = 2 := by decide +kernel
theorem km_171 : kmx 171 = 3 := by decide +kernel
theorem km_172 : kmx 172 = 3 := by decide +kernel
theorem km_173 : kmx 173 = 1 := by decide +kernel
theorem km_174 : kmx 174 = 3 := by decide +kernel
theorem km_175 : kmx 175 = 3 := by decide +kernel
theorem km_176 : kmx 176 = 4 := by decide +kernel
theorem km_177 : kmx 177 = 3 := by decide +kernel
theorem km_178 : kmx 178 = 5 := by decide +kernel
theorem km_179 : kmx 179 = 4 := by decide +kernel
theorem km_180 : kmx 180 = 3 := by decide +kernel
theorem km_181 : kmx 181 = 6 := by decide +kernel
theorem km_182 : kmx 182 = 2 := by decide +kernel
theorem km_183 : kmx 183 = 2 := by decide +kernel
theorem km_184 : kmx 184 = 4 := by decide +kernel
theorem km_185 : kmx 185 = 3 := by decide +kernel
theorem km_186 : kmx 186 = 4 := by decide +kernel
theorem km_187 : kmx 187 = 2 := by decide +kernel
theorem km_188 : kmx 188 = 3 := by decide +kernel
theorem km_189 : kmx 189 = 4 := by decide +kernel
theorem km_190 : kmx 190 = 3 := by decide +kernel
theorem km_191 : kmx 191 = 3 := by decide +kernel
theorem km_192 : kmx 192 = 5 := by decide +kernel
theorem km_193 : kmx 193 = 9 := by decide +kernel
theorem km_194 : kmx 194 = 2 := by decide +kernel
theorem km_195 : kmx 195 = 3 := by decide +kernel
theorem km_196 : kmx 196 = 2 := by decide +kernel
theorem km_197 : kmx 197 = 2 := by decide +kernel
theorem km_198 : kmx 198 = 4 := by decide +kernel
theorem km_199 : kmx 199 = 2 := by decide +kernel
theorem km_200 : kmx 200 = 6 := by decide +kernel
theorem km_201 : kmx 201 = 7 := by decide +kernel
theorem km_202 : kmx 202 = 4 := by decide +kernel
theorem km_203 : kmx 203 = 3 := by decide +kernel
theorem km_204 : kmx 204 = 4 := by decide +kernel
theorem km_205 : kmx 205 = 1 := by decide +kernel
theorem km_206 : kmx 206 = 4 := by decide +kernel
theorem km_207 : kmx 207 = 2 := by decide +kernel
theorem km_208 : kmx 208 = 3 := by decide +kernel
theorem km_209 : kmx 209 = 2 := by decide +kernel
theorem km_210 : kmx 210 = 3 := by decide +kernel
theorem km_211 : kmx 211 = 5 := by decide +kernel
theorem km_212 : kmx 212 = 2 := by decide +kernel
theorem km_213 : kmx 213 = 2 := by decide +kernel
theorem km_214 : kmx 214 = 2 := by decide +kernel
theorem km_215 : kmx 215 = 2 := by decide +kernel
theorem km_216 : kmx 216 = 4 := by decide +kernel
theorem km_217 : kmx 217 = 3 := by decide +kernel
theorem km_218 : kmx 218 = 4 := by decide +kernel
theorem km_219 : kmx 219 = 4 := by decide +kernel
theorem km_220 : kmx 220 = 2 := by decide +kernel
theorem km_221 : kmx 221 = 7 := by decide +kernel
theorem km_222 : kmx 222 = 9 := by decide +kernel
theorem km_223 : kmx 223 = 9 := by decide +kernel
theorem km_224 : kmx 224 = 2 := by decide +kernel
theorem km_225 : kmx 225 = 6 := by decide +kernel
theorem km_226 : kmx 226 = 5 := by decide +kernel
theorem km_227 : kmx 227 = 2 := by decide +kernel
theorem km_228 : kmx 228 = 4 := by decide +kernel
theorem km_229 : kmx 229 = 7 := by decide +kernel
theorem km_230 : kmx 230 = 10 := by decide +kernel
theorem km_231 : kmx 231 = 3 := by decide +kernel
theorem km_232 : kmx 232 = 7 := by decide +kernel
theorem km_233 : kmx 233 = 5 := by decide +kernel
theorem km_234 : kmx 234 = 4 := by decide +kernel
theorem km_235 : kmx 235 = 6 := by decide +kernel
theorem km_236 : kmx 236 = 6 := by decide +kernel
theorem km_237 : kmx 237 = 13 := by decide +kernel
theorem km_238 : kmx 238 = 9 := by decide +kernel
theorem km_239 : kmx 239 = 5 := by decide +kernel
theorem km_240 : kmx 240 = 2 := by decide +kernel
theorem km_241 : kmx 241 = 4 := by decide +kernel
theorem km_242 : kmx 242 = 5 := by decide +kernel
theorem km_243 : kmx 243 = 2 := by decide +kernel
theorem km_244 : kmx 244 = 7 := by decide +kernel
theorem km_245 : kmx 245 = 5 := by decide +kernel
theorem km_246 : kmx 246 = 3 := by decide +kernel
theorem km_247 : kmx 247 = 5 := by decide +kernel
theorem km_248 : kmx 248 = 5 := by decide +kernel
theorem km_249 : kmx 249 = 2 := by decide +kernel
theorem km_250 : kmx 250 = 6 := by decide +kernel
theorem km_251 : kmx 251 = 3 := by decide +kernel
theorem km_252 : kmx 252 = 3 := by decide +kernel
theorem km_253 : kmx 253 = 2 := by decide +kernel
theorem km_254 : kmx 254 = 2 := by decide +kernel
theorem km_255 : kmx 255 = 2 := by decide +kernel
theorem km_256 : kmx 256 = 1 := by decide +kernel
theorem km_257 : kmx 257 = 5 := by decide +kernel
theorem km_258 : kmx 258 = 5 := by decide +kernel
theorem km_259 : kmx 259 = 4 := by decide +kernel
theorem km_260 : kmx 260 = 8 := by decide +kernel
end TM
