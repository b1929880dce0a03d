theorem is_ite {α : Type} {C : Prop} [Decidable C] {x : Option α} (h : (if C then x else none).isSome = true) : C ∧ x.isSome = true := by
  by_cases c : C
  · rw [if_pos c] at h; exact ⟨c, h⟩
  · rw [if_neg c] at h; exact absurd h (by simp)
theorem is_bind {α β : Type} {a : Option β} {k : β → Option α} (h : (a.bind k).isSome = true) : ∃ b, a = some b ∧ (k b).isSome = true := by
  match a, h with
  | some b, h => exact ⟨b, rfl, h⟩
  | none, h => exact absurd h (by simp)
theorem qw_pick {K1 : qy_M → Option (Int32 × qz_N)} (h : (qw_run K1).isSome = true) : ∃ M, (K1 M).isSome = true ∧ ∀ K2 : qy_M → Option (Int32 × qz_N), qw_run K2 = K2 M := by
  unfold qw_run at h ⊢
  obtain ⟨c1, h⟩ := is_ite h
  rw [qz_let_eq] at h
  obtain ⟨M1, e1, h⟩ := is_bind h
  obtain ⟨c2, h⟩ := is_ite h
  obtain ⟨c3, h⟩ := is_ite h
  obtain ⟨c4, h⟩ := is_ite h
  rw [qz_let_eq] at h
  obtain ⟨M2, e2, h⟩ := is_bind h
  obtain ⟨c5, h⟩ := is_ite h
  refine ⟨M2, h, fun K2 => ?_⟩
  rw [if_pos c1, qz_let_eq, e1, Option.bind_some, if_pos c2, if_pos c3, if_pos c4, qz_let_eq, e2, Option.bind_some, if_pos c5]
theorem pw_ck : (qw_run (fun M => if (qw_fullB M && decide (M.1 ≤ 600000) && decide (M.2.1 ≤ 7302250) && ckN M.2.2.2.2) = true then some ((1 : Int32), M.2.2.2.2) else none)).isSome = true := by decide +kernel
theorem pw_main {L : Nat} (hL : L ≤ 5632) (xs : Nat → Int32) : ∃ r : Int32 × qz_N, r.1 = 1 ∧ qw_run (fun M => if qw_fullB M = true ∧ M.1 ≤ 600000 ∧ M.2.1 ≤ 7302250 then fW_law_18 xs L 0 0 1100 (M.2.2.2.2, 0) else none) = some r := by
  obtain ⟨M, h, hK⟩ := qw_pick pw_ck
  have hc : (qw_fullB M && decide (M.1 ≤ 600000) && decide (M.2.1 ≤ 7302250) && ckN M.2.2.2.2) = true := (is_ite h).1
  rw [Bool.and_eq_true, Bool.and_eq_true, Bool.and_eq_true] at hc
  obtain ⟨⟨⟨a, b⟩, d⟩, e⟩ := hc
  obtain ⟨hC, hM⟩ := ck_ok e
  obtain ⟨r, r1, hr⟩ := law_all (xs := xs) hL ok_0 hC hM
  refine ⟨r, r1, ?_⟩
  rw [hK]
  show (if qw_fullB M = true ∧ M.1 ≤ 600000 ∧ M.2.1 ≤ 7302250 then fW_law_18 xs L 0 0 1100 (M.2.2.2.2, 0) else none) = some r
  rw [if_pos ⟨a, of_decide_eq_true b, of_decide_eq_true d⟩]
  exact hr
