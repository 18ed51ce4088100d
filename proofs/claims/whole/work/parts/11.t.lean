section T1
variable {sc : Nat × (Nat → Int32)} {d : Nat} {u : kU} {i : Nat → Nat → Int32} {l : Nat → Nat → Int64} {r : Nat → Nat → Value}
theorem ob_1 (hu : 120 ≤ u.1) : kob u 1 9 = True := eq_true ⟨by omega, by decide +kernel⟩
theorem ar_2 (hu : 120 ≤ u.1) {j : Int32} : kar u 2 1 j = kin j 80 := propext ⟨fun h => h.2, fun h => ⟨by omega, h⟩⟩
set_option maxHeartbeats 400000 in
theorem t_at (hu : 120 ≤ u.1) (hr : r 1 0 = .ref 2) (p : Int32) (hs : i 1 1 ≤ 80) (K) : kWP sc d 92 0 [.ref 1, .int p] [] (u, i, l, r) K = K (some (some (.int (if 0 ≤ p ∧ p < i 1 1 then i 2 p.toNatClampNeg else -1)))) (u, i, l, r) := by
  simp only [e_X9_at_0, e_X9_at_1, e_X9_at_4, e_X9_at_5, e_X9_at_6, e_X9_at_9, e_X9_at_12, e_X9_at_13, e_X9_at_16, e_X9_at_17, e_X9_at_18, e_X9_at_21, e_X9_at_22, ob_1 hu, hr, ar_2 hu, true_and]
  trace_state
  sorry
end T1
