/-- all that is left: the functions of class and reference answer alike on every script -/
theorem pw_main {L : Nat} (hL : L ≤ 5632) (xs : Nat → Int32) : ∃ r : Int32 × qz_N, r.1 = 1 ∧ qw_run (fun M => if qw_fullB M = true ∧ M.1 ≤ 600000 ∧ M.2.1 ≤ 7302250 then fW_law_18 xs L 0 0 1100 (M.2.2.2.2, 0) else none) = some r := by
  sorry
