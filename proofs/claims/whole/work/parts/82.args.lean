-- arguments: who is a PLAYER, a TOKEN, a SIDE, a POOL
theorem ixc (x : Int32) {n : Nat} (hn : n < 2147483648) : (x < 0 ∨ nI n ≤ x) ∨ ∃ j, j < n ∧ x = nI j := by
  rcases pk_ix x hn with h | h | h
  · exact Or.inl (Or.inl h)
  · exact Or.inl (Or.inr h)
  · exact Or.inr h
theorem E_pl0 {x : Int32} (h : x < 0 ∨ nI 6 ≤ x) (N : qz_N) : fE_isPlayer x N = some (0, N) := by
  unfold fE_isPlayer
  by_cases c : x < 0
  · rw [if_pos c]
  · rw [if_neg c, lit6, if_pos (h.resolve_left c)]
theorem E_pl1 {j : Nat} (h : j < 6) (N : qz_N) : fE_isPlayer (nI j) N = some (1, N) := by
  unfold fE_isPlayer
  rw [if_neg (nI_pos (by omega)), lit6, if_neg (by rw [nI_le_lit (by omega) (by decide)]; omega)]
theorem M_pl0 {x : Int32} (h : x < 0 ∨ nI 6 ≤ x) (N : qz_N) : fM_isPlayer x N = some (0, N) := by
  unfold fM_isPlayer
  by_cases c : x < 0
  · rw [if_pos c]
  · rw [if_neg c, lit6, if_pos (h.resolve_left c)]
theorem M_pl1 {j : Nat} (h : j < 6) (N : qz_N) : fM_isPlayer (nI j) N = some (1, N) := by
  unfold fM_isPlayer
  rw [if_neg (nI_pos (by omega)), lit6, if_neg (by rw [nI_le_lit (by omega) (by decide)]; omega)]
theorem lt4 : (4 : Int32) = nI 4 := rfl
theorem E_tk0 {x : Int32} (h : x < 0 ∨ nI 4 ≤ x) (N : qz_N) : fE_isToken x N = some (0, N) := by
  unfold fE_isToken
  by_cases c : x < 0
  · rw [if_pos c]
  · rw [if_neg c, lt4, if_pos (h.resolve_left c)]
theorem E_tk1 {j : Nat} (h : j < 4) (N : qz_N) : fE_isToken (nI j) N = some (1, N) := by
  unfold fE_isToken
  rw [if_neg (nI_pos (by omega)), lt4, if_neg (by rw [nI_le_lit (by omega) (by decide)]; omega)]
theorem M_tk0 {x : Int32} (h : x < 0 ∨ nI 4 ≤ x) (N : qz_N) : fM_isToken x N = some (0, N) := by
  unfold fM_isToken
  by_cases c : x < 0
  · rw [if_pos c]
  · rw [if_neg c, lt4, if_pos (h.resolve_left c)]
theorem M_tk1 {j : Nat} (h : j < 4) (N : qz_N) : fM_isToken (nI j) N = some (1, N) := by
  unfold fM_isToken
  rw [if_neg (nI_pos (by omega)), lt4, if_neg (by rw [nI_le_lit (by omega) (by decide)]; omega)]
theorem sdc (x : Int32) : (¬ x = 0 ∧ ¬ x = 1) ∨ ∃ j, j < 2 ∧ x = nI j := by
  by_cases c : x = 0
  · exact Or.inr ⟨0, by decide, c⟩
  · by_cases d : x = 1
    · exact Or.inr ⟨1, by decide, d⟩
    · exact Or.inl ⟨c, d⟩
theorem E_sd0 {x : Int32} (h : ¬ x = 0 ∧ ¬ x = 1) (N : qz_N) : fE_isSide x N = some (0, N) := by
  unfold fE_isSide; rw [if_neg h.1, if_neg h.2]
theorem E_sd1 {j : Nat} (h : j < 2) (N : qz_N) : fE_isSide (nI j) N = some (1, N) := by
  unfold fE_isSide fE_isSide_9
  rcases (show j = 0 ∨ j = 1 by omega) with rfl | rfl
  · rw [if_pos (by decide)]
  · rw [if_neg (by decide), if_pos (by decide)]
theorem M_sd0 {x : Int32} (h : ¬ x = 0 ∧ ¬ x = 1) (N : qz_N) : fM_isSide x N = some (0, N) := by
  unfold fM_isSide; rw [if_neg h.1, if_neg h.2]
theorem M_sd1 {j : Nat} (h : j < 2) (N : qz_N) : fM_isSide (nI j) N = some (1, N) := by
  unfold fM_isSide fM_isSide_9
  rcases (show j = 0 ∨ j = 1 by omega) with rfl | rfl
  · rw [if_pos (by decide)]
  · rw [if_neg (by decide), if_pos (by decide)]
theorem E_po0 {N : qz_N} {S : St} (hC : RC N S) {x : Int32} (h : x < 0 ∨ nI (S 3 0 0) ≤ x) : fE_poolAt 0 x N = some (none, N) := by
  unfold fE_poolAt
  by_cases c : x < 0
  · rw [if_pos c]
  · rw [if_neg c, rC3 hC, if_pos (h.resolve_left c)]
theorem E_po1 {N : qz_N} {S : St} (hC : RC N S) (h6 : S 3 0 0 ≤ 6) {j : Nat} (h : j < S 3 0 0) : fE_poolAt 0 (nI j) N = some (some j, N) := by
  unfold fE_poolAt
  rw [if_neg (nI_pos (by omega)), rC3 hC, if_neg (by rw [nI_leI (by omega) (by omega)]; omega), if_neg (nI_ok (n := 6) (by omega) (by decide)), nI_tc (by omega)]
theorem M_po0 {N : qz_N} {S : St} (hM : RM N S) {x : Int32} (h : x < 0 ∨ nI (S 3 0 0) ≤ x) : fM_isPool 0 x N = some (0, N) := by
  unfold fM_isPool
  by_cases c : x < 0
  · rw [if_pos c]
  · rw [if_neg c, rM3 hM, if_pos (h.resolve_left c)]
theorem M_po1 {N : qz_N} {S : St} (hM : RM N S) (h6 : S 3 0 0 ≤ 6) {j : Nat} (h : j < S 3 0 0) : fM_isPool 0 (nI j) N = some (1, N) := by
  unfold fM_isPool
  rw [if_neg (nI_pos (by omega)), rM3 hM, if_neg (by rw [nI_leI (by omega) (by omega)]; omega)]
-- BALANCES
theorem E_ix (p t : Nat) : nI p * (4 : Int32) + nI t = nI (4 * p + t) := by
  rw [lt4, pk_mul, nI_add, Nat.mul_comm]
theorem M_ix (p t : Nat) : (4 : Int32) * nI p + nI t = nI (4 * p + t) := by
  rw [lt4, pk_mul, nI_add]
theorem E_held {N : qz_N} {S : St} (hC : RC N S) {p t : Nat} (hp : p < 6) (ht : t < 4) : fU_held 0 (nI p) (nI t) N = some (lN (S 0 p t), N) := by
  unfold fU_held
  rw [E_ix, if_neg (nI_ok (n := 24) (by omega) (by decide)), nI_tc (by omega), rC0 hC p t hp ht]
theorem E_give {N : qz_N} {S : St} (hC : RC N S) {p t a : Nat} (hp : p < 6) (ht : t < 4) : ∃ N1, fU_give 0 (nI p) (nI t) (lN a) N = some ((), N1) ∧ RC N1 (qz_u3 S 0 p t (S 0 p t + a)) ∧ KM N N1 := by
  refine ⟨qz_sl N 12 0 (4 * p + t) (lN (S 0 p t + a)), ?_, wC0 hC p t _ hp ht, KM.sl (by decide)⟩
  unfold fU_give
  rw [E_ix, if_neg (nI_ok (n := 24) (by omega) (by decide)), if_neg (nI_ok (n := 24) (by omega) (by decide)), nI_tc (by omega), qz_let_eq, rC0 hC p t hp ht, lN_add]
theorem E_take {N : qz_N} {S : St} (hC : RC N S) {p t a : Nat} (hp : p < 6) (ht : t < 4) (ha : a ≤ S 0 p t) : ∃ N1, fU_take 0 (nI p) (nI t) (lN a) N = some ((), N1) ∧ RC N1 (qz_u3 S 0 p t (S 0 p t - a)) ∧ KM N N1 := by
  refine ⟨qz_sl N 12 0 (4 * p + t) (lN (S 0 p t - a)), ?_, wC0 hC p t _ hp ht, KM.sl (by decide)⟩
  unfold fU_take
  rw [E_ix, if_neg (nI_ok (n := 24) (by omega) (by decide)), if_neg (nI_ok (n := 24) (by omega) (by decide)), nI_tc (by omega), qz_let_eq, rC0 hC p t hp ht, lN_sub ha]
theorem M_has {N : qz_N} {S : St} (hM : RM N S) {p t : Nat} (hp : p < 6) (ht : t < 4) : fM_has 0 (nI p) (nI t) N = some (lN (S 0 p t), N) := by
  unfold fM_has
  rw [M_ix, if_neg (nI_ok (n := 24) (by omega) (by decide)), nI_tc (by omega), rM0 hM p t hp ht]
/-- give of any difference: what is had and what comes make w -/
theorem M_give {N : qz_N} {S : St} (hM : RM N S) {p t w : Nat} {d : Int64} (hp : p < 6) (ht : t < 4) (hw : lN (S 0 p t) + d = lN w) : ∃ N1, fM_give 0 (nI p) (nI t) d N = some ((), N1) ∧ RM N1 (qz_u3 S 0 p t w) ∧ KC N N1 := by
  refine ⟨qz_sl N 22 0 (4 * p + t) (lN w), ?_, wM0 hM p t _ hp ht, KC.sl (by decide)⟩
  unfold fM_give
  rw [M_ix, if_neg (nI_ok (n := 24) (by omega) (by decide)), if_neg (nI_ok (n := 24) (by omega) (by decide)), nI_tc (by omega), qz_let_eq, rM0 hM p t hp ht, hw]
theorem lN_addneg {a b : Nat} (h : b ≤ a) : lN a + -lN b = lN (a - b) := by
  rw [← Int64.sub_eq_add_neg, lN_sub h]
-- PROMISES 3 and 5: balance, house (nothing changes)
theorem op_balance {N : qz_N} {S : St} (hC : RC N S) (hM : RM N S) (p t : Int32) : ∃ r, fE_balance 0 p t N = some (r, N) ∧ fM_balance 0 p t N = some (r, N) := by
  unfold fE_balance fM_balance
  rcases ixc p (n := 6) (by decide) with hp | ⟨pn, hp, rfl⟩
  · exact ⟨-2, ob_some (E_pl0 hp N) (if_pos rfl), ob_some (M_pl0 hp N) (if_pos rfl)⟩
  · rcases ixc t (n := 4) (by decide) with ht | ⟨tn, ht, rfl⟩
    · exact ⟨-2, ob_some (E_pl1 hp N) ((if_neg (show ¬ (1 : Int32) = 0 by decide)).trans (ob_some (E_tk0 ht N) (if_pos rfl))), ob_some (M_pl1 hp N) ((if_neg (show ¬ (1 : Int32) = 0 by decide)).trans (ob_some (M_tk0 ht N) (if_pos rfl)))⟩
    · exact ⟨lN (S 0 pn tn), ob_some (E_pl1 hp N) ((if_neg (show ¬ (1 : Int32) = 0 by decide)).trans (ob_some (E_tk1 ht N) ((if_neg (show ¬ (1 : Int32) = 0 by decide)).trans (ob_some (E_held hC hp ht) rfl)))), ob_some (M_pl1 hp N) ((if_neg (show ¬ (1 : Int32) = 0 by decide)).trans (ob_some (M_tk1 ht N) ((if_neg (show ¬ (1 : Int32) = 0 by decide)).trans (ob_some (M_has hM hp ht) rfl))))⟩
theorem op_house {N : qz_N} {S : St} (hC : RC N S) (hM : RM N S) (t : Int32) : ∃ r, fE_house 0 t N = some (r, N) ∧ fM_house 0 t N = some (r, N) := by
  unfold fE_house fM_house
  rcases ixc t (n := 4) (by decide) with ht | ⟨tn, ht, rfl⟩
  · exact ⟨-2, ob_some (E_tk0 ht N) (if_pos rfl), ob_some (M_tk0 ht N) (if_pos rfl)⟩
  · refine ⟨lN (S 2 tn 0), ob_some (E_tk1 ht N) ((if_neg (show ¬ (1 : Int32) = 0 by decide)).trans ?_), ob_some (M_tk1 ht N) ((if_neg (show ¬ (1 : Int32) = 0 by decide)).trans ?_)⟩
    · rw [if_neg (nI_ok (n := 4) ht (by decide)), nI_tc (by omega)]
      show some (qz_gl N 14 0 tn, N) = _
      rw [rC2 hC tn ht]
    · rw [if_neg (nI_ok (n := 4) ht (by decide)), nI_tc (by omega)]
      show some (qz_gl N 23 0 tn, N) = _
      rw [rM2 hM tn ht]
