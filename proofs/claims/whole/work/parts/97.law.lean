theorem i_9 : (9 : Int32) = nI 9 := rfl
theorem law_go {α : Type} [DecidableEq α] {xs : Nat → Int32} {L x c : Nat} {N : qz_N} {e m : qz_N → Option (α × qz_N)} {k : qz_N × Int32 → Option (Int32 × qz_N)} {Pd : Option (Int32 × qz_N) → Prop} (h : Alike N e m (Ok c)) (hk : ∀ N1 S1, RC N1 S1 → RM N1 S1 → Ok c S1 → Pd (k (N1, nI (x + 11)))) : Pd ((e N).bind fun q1 => (m q1.2).bind fun q3 => if q1.1 = q3.1 then fW_law_1754 xs L 0 0 k q3.2 (nI x) else some ((0 : Int32), q3.2)) := by
  obtain ⟨r, N1, N2, S', e1, e2, hC, hM, ok⟩ := h
  rw [e1, Option.bind_some]
  show Pd ((m N1).bind fun q3 => if r = q3.1 then fW_law_1754 xs L 0 0 k q3.2 (nI x) else some ((0 : Int32), q3.2))
  rw [e2, Option.bind_some]
  show Pd (if r = r then fW_law_1754 xs L 0 0 k N2 (nI x) else some ((0 : Int32), N2))
  rw [if_pos rfl]
  unfold fW_law_1754
  rw [qz_let_eq, i_11, nI_add]
  exact hk N2 S' hC hM ok
theorem lw_mint {xs : Nat → Int32} {L x c : Nat} {N : qz_N} {S : St} {k : qz_N × Int32 → Option (Int32 × qz_N)} {Pd : Option (Int32 × qz_N) → Prop} (hcl : c ≤ 1000) (hx : x + 11 ≤ L) (hL : L ≤ 5632) (ok : Ok c S) (hC : RC N S) (hM : RM N S) (hk : ∀ N1 S1, RC N1 S1 → RM N1 S1 → Ok (c + 1) S1 → Pd (k (N1, nI (x + 11)))) : Pd (fW_law_156 xs L 0 0 k N (nI x)) := by
  simp (disch := omega) only [fW_law_156, i_2, i_3, i_4, i_5, i_6, i_7, i_8, i_9, i_10, nI_p1, nI_add, ix_n, nI_tc, n_leF, or_self, ↓reduceIte]
  exact law_go (op_mint ok hC hM _ _ _) (fun N1 S1 a b k => hk N1 S1 a b k.up)
theorem lw_balance {xs : Nat → Int32} {L x c : Nat} {N : qz_N} {S : St} {k : qz_N × Int32 → Option (Int32 × qz_N)} {Pd : Option (Int32 × qz_N) → Prop} (hcl : c ≤ 1000) (hx : x + 11 ≤ L) (hL : L ≤ 5632) (ok : Ok c S) (hC : RC N S) (hM : RM N S) (hk : ∀ N1 S1, RC N1 S1 → RM N1 S1 → Ok (c + 1) S1 → Pd (k (N1, nI (x + 11)))) : Pd (fW_law_230 xs L 0 0 k N (nI x)) := by
  simp (disch := omega) only [fW_law_230, i_2, i_3, i_4, i_5, i_6, i_7, i_8, i_9, i_10, nI_p1, nI_add, ix_n, nI_tc, n_leF, or_self, ↓reduceIte]
  exact law_go (Alike.same hC hM (op_balance hC hM _ _) ok) (fun N1 S1 a b k => hk N1 S1 a b k.up)
theorem lw_total {xs : Nat → Int32} {L x c : Nat} {N : qz_N} {S : St} {k : qz_N × Int32 → Option (Int32 × qz_N)} {Pd : Option (Int32 × qz_N) → Prop} (hcl : c ≤ 1000) (hx : x + 11 ≤ L) (hL : L ≤ 5632) (ok : Ok c S) (hC : RC N S) (hM : RM N S) (hk : ∀ N1 S1, RC N1 S1 → RM N1 S1 → Ok (c + 1) S1 → Pd (k (N1, nI (x + 11)))) : Pd (fW_law_264 xs L 0 0 k N (nI x)) := by
  simp (disch := omega) only [fW_law_264, i_2, i_3, i_4, i_5, i_6, i_7, i_8, i_9, i_10, nI_p1, nI_add, ix_n, nI_tc, n_leF, or_self, ↓reduceIte]
  exact law_go (op_total ok hC hM _) (fun N1 S1 a b k => hk N1 S1 a b k.up)
theorem lw_house {xs : Nat → Int32} {L x c : Nat} {N : qz_N} {S : St} {k : qz_N × Int32 → Option (Int32 × qz_N)} {Pd : Option (Int32 × qz_N) → Prop} (hcl : c ≤ 1000) (hx : x + 11 ≤ L) (hL : L ≤ 5632) (ok : Ok c S) (hC : RC N S) (hM : RM N S) (hk : ∀ N1 S1, RC N1 S1 → RM N1 S1 → Ok (c + 1) S1 → Pd (k (N1, nI (x + 11)))) : Pd (fW_law_288 xs L 0 0 k N (nI x)) := by
  simp (disch := omega) only [fW_law_288, i_2, i_3, i_4, i_5, i_6, i_7, i_8, i_9, i_10, nI_p1, nI_add, ix_n, nI_tc, n_leF, or_self, ↓reduceIte]
  exact law_go (Alike.same hC hM (op_house hC hM _) ok) (fun N1 S1 a b k => hk N1 S1 a b k.up)
theorem lw_pool {xs : Nat → Int32} {L x c : Nat} {N : qz_N} {S : St} {k : qz_N × Int32 → Option (Int32 × qz_N)} {Pd : Option (Int32 × qz_N) → Prop} (hcl : c ≤ 1000) (hx : x + 11 ≤ L) (hL : L ≤ 5632) (ok : Ok c S) (hC : RC N S) (hM : RM N S) (hk : ∀ N1 S1, RC N1 S1 → RM N1 S1 → Ok (c + 1) S1 → Pd (k (N1, nI (x + 11)))) : Pd (fW_law_312 xs L 0 0 k N (nI x)) := by
  simp (disch := omega) only [fW_law_312, i_2, i_3, i_4, i_5, i_6, i_7, i_8, i_9, i_10, nI_p1, nI_add, ix_n, nI_tc, n_leF, or_self, ↓reduceIte]
  exact law_go (op_pool ok hC hM _ _ _ _) (fun N1 S1 a b k => hk N1 S1 a b k.up)
theorem lw_of {xs : Nat → Int32} {L x c : Nat} {N : qz_N} {S : St} {k : qz_N × Int32 → Option (Int32 × qz_N)} {Pd : Option (Int32 × qz_N) → Prop} (hcl : c ≤ 1000) (hx : x + 11 ≤ L) (hL : L ≤ 5632) (ok : Ok c S) (hC : RC N S) (hM : RM N S) (hk : ∀ N1 S1, RC N1 S1 → RM N1 S1 → Ok (c + 1) S1 → Pd (k (N1, nI (x + 11)))) : Pd (fW_law_365 xs L 0 0 k N (nI x)) := by
  simp (disch := omega) only [fW_law_365, i_2, i_3, i_4, i_5, i_6, i_7, i_8, i_9, i_10, nI_p1, nI_add, ix_n, nI_tc, n_leF, or_self, ↓reduceIte]
  exact law_go (Alike.same hC hM (op_of hC hM ok.np _ _) ok) (fun N1 S1 a b k => hk N1 S1 a b k.up)
theorem lw_join {xs : Nat → Int32} {L x c : Nat} {N : qz_N} {S : St} {k : qz_N × Int32 → Option (Int32 × qz_N)} {Pd : Option (Int32 × qz_N) → Prop} (hcl : c ≤ 1000) (hx : x + 11 ≤ L) (hL : L ≤ 5632) (ok : Ok c S) (hC : RC N S) (hM : RM N S) (hk : ∀ N1 S1, RC N1 S1 → RM N1 S1 → Ok (c + 1) S1 → Pd (k (N1, nI (x + 11)))) : Pd (fW_law_399 xs L 0 0 k N (nI x)) := by
  simp (disch := omega) only [fW_law_399, i_2, i_3, i_4, i_5, i_6, i_7, i_8, i_9, i_10, nI_p1, nI_add, ix_n, nI_tc, n_leF, or_self, ↓reduceIte]
  exact law_go (op_join ok hC hM _ _ _ _) (fun N1 S1 a b k => hk N1 S1 a b k.up)
theorem lw_leave {xs : Nat → Int32} {L x c : Nat} {N : qz_N} {S : St} {k : qz_N × Int32 → Option (Int32 × qz_N)} {Pd : Option (Int32 × qz_N) → Prop} (hcl : c ≤ 1000) (hx : x + 11 ≤ L) (hL : L ≤ 5632) (ok : Ok c S) (hC : RC N S) (hM : RM N S) (hk : ∀ N1 S1, RC N1 S1 → RM N1 S1 → Ok (c + 1) S1 → Pd (k (N1, nI (x + 11)))) : Pd (fW_law_515 xs L 0 0 k N (nI x)) := by
  simp (disch := omega) only [fW_law_515, i_2, i_3, i_4, i_5, i_6, i_7, i_8, i_9, i_10, nI_p1, nI_add, ix_n, nI_tc, n_leF, or_self, ↓reduceIte]
  exact law_go (op_leave ok hC hM _ _ _) (fun N1 S1 a b k => hk N1 S1 a b k.up)
theorem lw_swap {xs : Nat → Int32} {L x c : Nat} {N : qz_N} {S : St} {k : qz_N × Int32 → Option (Int32 × qz_N)} {Pd : Option (Int32 × qz_N) → Prop} (hcl : c ≤ 1000) (hx : x + 11 ≤ L) (hL : L ≤ 5632) (ok : Ok c S) (hC : RC N S) (hM : RM N S) (hk : ∀ N1 S1, RC N1 S1 → RM N1 S1 → Ok (c + 1) S1 → Pd (k (N1, nI (x + 11)))) : Pd (fW_law_589 xs L 0 0 k N (nI x)) := by
  simp (disch := omega) only [fW_law_589, i_2, i_3, i_4, i_5, i_6, i_7, i_8, i_9, i_10, nI_p1, nI_add, ix_n, nI_tc, n_leF, or_self, ↓reduceIte]
  exact law_go (op_swap ok hC hM _ _ _ _) (fun N1 S1 a b k => hk N1 S1 a b k.up)
theorem lw_quote {xs : Nat → Int32} {L x c : Nat} {N : qz_N} {S : St} {k : qz_N × Int32 → Option (Int32 × qz_N)} {Pd : Option (Int32 × qz_N) → Prop} (hcl : c ≤ 1000) (hx : x + 11 ≤ L) (hL : L ≤ 5632) (ok : Ok c S) (hC : RC N S) (hM : RM N S) (hk : ∀ N1 S1, RC N1 S1 → RM N1 S1 → Ok (c + 1) S1 → Pd (k (N1, nI (x + 11)))) : Pd (fW_law_673 xs L 0 0 k N (nI x)) := by
  simp (disch := omega) only [fW_law_673, i_2, i_3, i_4, i_5, i_6, i_7, i_8, i_9, i_10, nI_p1, nI_add, ix_n, nI_tc, n_leF, or_self, ↓reduceIte]
  exact law_go (op_quote ok hC hM _ _ _) (fun N1 S1 a b k => hk N1 S1 a b k.up)
theorem lw_flash {xs : Nat → Int32} {L x c : Nat} {N : qz_N} {S : St} {k : qz_N × Int32 → Option (Int32 × qz_N)} {Pd : Option (Int32 × qz_N) → Prop} (hcl : c ≤ 1000) (hx : x + 11 ≤ L) (hL : L ≤ 5632) (ok : Ok c S) (hC : RC N S) (hM : RM N S) (hk : ∀ N1 S1, RC N1 S1 → RM N1 S1 → Ok (c + 1) S1 → Pd (k (N1, nI (x + 11)))) : Pd (fW_law_747 xs L 0 0 k N (nI x)) := by
  simp (disch := omega) only [fW_law_747, i_2, i_3, i_4, i_5, i_6, i_7, i_8, i_9, i_10, nI_p1, nI_add, ix_n, nI_tc, n_leF, or_self, ↓reduceIte]
  exact law_go (op_flash ok hC hM _ _ _ _ _ _) (fun N1 S1 a b k => hk N1 S1 a b k.up)
theorem lw_tick {xs : Nat → Int32} {L x c : Nat} {N : qz_N} {S : St} {k : qz_N × Int32 → Option (Int32 × qz_N)} {Pd : Option (Int32 × qz_N) → Prop} (hcl : c ≤ 1000) (hx : x + 11 ≤ L) (hL : L ≤ 5632) (ok : Ok c S) (hC : RC N S) (hM : RM N S) (hk : ∀ N1 S1, RC N1 S1 → RM N1 S1 → Ok (c + 1) S1 → Pd (k (N1, nI (x + 11)))) : Pd (fW_law_950 xs L 0 0 k N (nI x)) := by
  simp (disch := omega) only [fW_law_950, i_2, i_3, i_4, i_5, i_6, i_7, i_8, i_9, i_10, nI_p1, nI_add, ix_n, nI_tc, n_leF, or_self, ↓reduceIte]
  exact law_go (op_tick hcl ok hC hM _) (fun N1 S1 a b k => hk N1 S1 a b k)
theorem lw_mark {xs : Nat → Int32} {L x c : Nat} {N : qz_N} {S : St} {k : qz_N × Int32 → Option (Int32 × qz_N)} {Pd : Option (Int32 × qz_N) → Prop} (hcl : c ≤ 1000) (hx : x + 11 ≤ L) (hL : L ≤ 5632) (ok : Ok c S) (hC : RC N S) (hM : RM N S) (hk : ∀ N1 S1, RC N1 S1 → RM N1 S1 → Ok (c + 1) S1 → Pd (k (N1, nI (x + 11)))) : Pd (fW_law_973 xs L 0 0 k N (nI x)) := by
  simp (disch := omega) only [fW_law_973, i_2, i_3, i_4, i_5, i_6, i_7, i_8, i_9, i_10, nI_p1, nI_add, ix_n, nI_tc, n_leF, or_self, ↓reduceIte]
  exact law_go (op_mark ok hC hM _ _) (fun N1 S1 a b k => hk N1 S1 a b k.up)
theorem lw_mean {xs : Nat → Int32} {L x c : Nat} {N : qz_N} {S : St} {k : qz_N × Int32 → Option (Int32 × qz_N)} {Pd : Option (Int32 × qz_N) → Prop} (hcl : c ≤ 1000) (hx : x + 11 ≤ L) (hL : L ≤ 5632) (ok : Ok c S) (hC : RC N S) (hM : RM N S) (hk : ∀ N1 S1, RC N1 S1 → RM N1 S1 → Ok (c + 1) S1 → Pd (k (N1, nI (x + 11)))) : Pd (fW_law_1006 xs L 0 0 k N (nI x)) := by
  simp (disch := omega) only [fW_law_1006, i_2, i_3, i_4, i_5, i_6, i_7, i_8, i_9, i_10, nI_p1, nI_add, ix_n, nI_tc, n_leF, or_self, ↓reduceIte]
  exact law_go (op_mean hcl ok hC hM _) (fun N1 S1 a b k => hk N1 S1 a b k.up)
theorem lw_batch {xs : Nat → Int32} {L x c : Nat} {N : qz_N} {S : St} {k : qz_N × Int32 → Option (Int32 × qz_N)} {Pd : Option (Int32 × qz_N) → Prop} (hcl : c ≤ 1000) (hx : x + 11 ≤ L) (hL : L ≤ 5632) (ok : Ok c S) (hC : RC N S) (hM : RM N S) (hk : ∀ N1 S1, RC N1 S1 → RM N1 S1 → Ok (c + 1) S1 → Pd (k (N1, nI (x + 11)))) : Pd (fW_law_1030 xs L 0 0 k N (nI x)) := by
  simp (disch := omega) only [fW_law_1030, i_2, i_3, i_4, i_5, i_6, i_7, i_8, i_9, i_10, nI_p1, nI_add, ix_n, nI_tc, n_leF, or_self, ↓reduceIte]
  exact law_go (op_batch ok hC hM _ _) (fun N1 S1 a b k => hk N1 S1 a b k.up)
theorem lw_order {xs : Nat → Int32} {L x c : Nat} {N : qz_N} {S : St} {k : qz_N × Int32 → Option (Int32 × qz_N)} {Pd : Option (Int32 × qz_N) → Prop} (hcl : c ≤ 1000) (hx : x + 11 ≤ L) (hL : L ≤ 5632) (ok : Ok c S) (hC : RC N S) (hM : RM N S) (hk : ∀ N1 S1, RC N1 S1 → RM N1 S1 → Ok (c + 1) S1 → Pd (k (N1, nI (x + 11)))) : Pd (fW_law_1063 xs L 0 0 k N (nI x)) := by
  simp (disch := omega) only [fW_law_1063, i_2, i_3, i_4, i_5, i_6, i_7, i_8, i_9, i_10, nI_p1, nI_add, ix_n, nI_tc, n_leF, or_self, ↓reduceIte]
  exact law_go (op_order ok hC hM _ _ _ _) (fun N1 S1 a b k => hk N1 S1 a b k.up)
theorem lw_clear {xs : Nat → Int32} {L x c : Nat} {N : qz_N} {S : St} {k : qz_N × Int32 → Option (Int32 × qz_N)} {Pd : Option (Int32 × qz_N) → Prop} (hcl : c ≤ 1000) (hx : x + 11 ≤ L) (hL : L ≤ 5632) (ok : Ok c S) (hC : RC N S) (hM : RM N S) (hk : ∀ N1 S1, RC N1 S1 → RM N1 S1 → Ok (c + 1) S1 → Pd (k (N1, nI (x + 11)))) : Pd (fW_law_1178 xs L 0 0 k N (nI x)) := by
  simp (disch := omega) only [fW_law_1178, i_2, i_3, i_4, i_5, i_6, i_7, i_8, i_9, i_10, nI_p1, nI_add, ix_n, nI_tc, n_leF, or_self, ↓reduceIte]
  exact law_go (op_clear ok hC hM) (fun N1 S1 a b k => hk N1 S1 a b k.up)
theorem lw_dealt {xs : Nat → Int32} {L x c : Nat} {N : qz_N} {S : St} {k : qz_N × Int32 → Option (Int32 × qz_N)} {Pd : Option (Int32 × qz_N) → Prop} (hcl : c ≤ 1000) (hx : x + 11 ≤ L) (hL : L ≤ 5632) (ok : Ok c S) (hC : RC N S) (hM : RM N S) (hk : ∀ N1 S1, RC N1 S1 → RM N1 S1 → Ok (c + 1) S1 → Pd (k (N1, nI (x + 11)))) : Pd (fW_law_1192 xs L 0 0 k N (nI x)) := by
  simp (disch := omega) only [fW_law_1192, i_2, i_3, i_4, i_5, i_6, i_7, i_8, i_9, i_10, nI_p1, nI_add, ix_n, nI_tc, n_leF, or_self, ↓reduceIte]
  exact law_go (Alike.same hC hM (op_dealt hC hM ok.2.2.2.1.2.2.2.2.1 _) ok) (fun N1 S1 a b k => hk N1 S1 a b k.up)
theorem lw_rate {xs : Nat → Int32} {L x c : Nat} {N : qz_N} {S : St} {k : qz_N × Int32 → Option (Int32 × qz_N)} {Pd : Option (Int32 × qz_N) → Prop} (hcl : c ≤ 1000) (hx : x + 11 ≤ L) (hL : L ≤ 5632) (ok : Ok c S) (hC : RC N S) (hM : RM N S) (hk : ∀ N1 S1, RC N1 S1 → RM N1 S1 → Ok (c + 1) S1 → Pd (k (N1, nI (x + 11)))) : Pd (fW_law_1216 xs L 0 0 k N (nI x)) := by
  simp (disch := omega) only [fW_law_1216, i_2, i_3, i_4, i_5, i_6, i_7, i_8, i_9, i_10, nI_p1, nI_add, ix_n, nI_tc, n_leF, or_self, ↓reduceIte]
  exact law_go (op_rate ok hC hM _ _) (fun N1 S1 a b k => hk N1 S1 a b k.up)
theorem lw_lend {xs : Nat → Int32} {L x c : Nat} {N : qz_N} {S : St} {k : qz_N × Int32 → Option (Int32 × qz_N)} {Pd : Option (Int32 × qz_N) → Prop} (hcl : c ≤ 1000) (hx : x + 11 ≤ L) (hL : L ≤ 5632) (ok : Ok c S) (hC : RC N S) (hM : RM N S) (hk : ∀ N1 S1, RC N1 S1 → RM N1 S1 → Ok (c + 1) S1 → Pd (k (N1, nI (x + 11)))) : Pd (fW_law_1280 xs L 0 0 k N (nI x)) := by
  simp (disch := omega) only [fW_law_1280, i_2, i_3, i_4, i_5, i_6, i_7, i_8, i_9, i_10, nI_p1, nI_add, ix_n, nI_tc, n_leF, or_self, ↓reduceIte]
  exact law_go (op_lend ok hC hM _ _ _) (fun N1 S1 a b k => hk N1 S1 a b k.up)
theorem lw_redeem {xs : Nat → Int32} {L x c : Nat} {N : qz_N} {S : St} {k : qz_N × Int32 → Option (Int32 × qz_N)} {Pd : Option (Int32 × qz_N) → Prop} (hcl : c ≤ 1000) (hx : x + 11 ≤ L) (hL : L ≤ 5632) (ok : Ok c S) (hC : RC N S) (hM : RM N S) (hk : ∀ N1 S1, RC N1 S1 → RM N1 S1 → Ok (c + 1) S1 → Pd (k (N1, nI (x + 11)))) : Pd (fW_law_1354 xs L 0 0 k N (nI x)) := by
  simp (disch := omega) only [fW_law_1354, i_2, i_3, i_4, i_5, i_6, i_7, i_8, i_9, i_10, nI_p1, nI_add, ix_n, nI_tc, n_leF, or_self, ↓reduceIte]
  exact law_go (op_redeem ok hC hM _ _ _) (fun N1 S1 a b k => hk N1 S1 a b k.up)
theorem lw_vault {xs : Nat → Int32} {L x c : Nat} {N : qz_N} {S : St} {k : qz_N × Int32 → Option (Int32 × qz_N)} {Pd : Option (Int32 × qz_N) → Prop} (hcl : c ≤ 1000) (hx : x + 11 ≤ L) (hL : L ≤ 5632) (ok : Ok c S) (hC : RC N S) (hM : RM N S) (hk : ∀ N1 S1, RC N1 S1 → RM N1 S1 → Ok (c + 1) S1 → Pd (k (N1, nI (x + 11)))) : Pd (fW_law_1428 xs L 0 0 k N (nI x)) := by
  simp (disch := omega) only [fW_law_1428, i_2, i_3, i_4, i_5, i_6, i_7, i_8, i_9, i_10, nI_p1, nI_add, ix_n, nI_tc, n_leF, or_self, ↓reduceIte]
  exact law_go (op_vault ok hC hM _ _) (fun N1 S1 a b k => hk N1 S1 a b k.up)
theorem lw_loan {xs : Nat → Int32} {L x c : Nat} {N : qz_N} {S : St} {k : qz_N × Int32 → Option (Int32 × qz_N)} {Pd : Option (Int32 × qz_N) → Prop} (hcl : c ≤ 1000) (hx : x + 11 ≤ L) (hL : L ≤ 5632) (ok : Ok c S) (hC : RC N S) (hM : RM N S) (hk : ∀ N1 S1, RC N1 S1 → RM N1 S1 → Ok (c + 1) S1 → Pd (k (N1, nI (x + 11)))) : Pd (fW_law_1462 xs L 0 0 k N (nI x)) := by
  simp (disch := omega) only [fW_law_1462, i_2, i_3, i_4, i_5, i_6, i_7, i_8, i_9, i_10, nI_p1, nI_add, ix_n, nI_tc, n_leF, or_self, ↓reduceIte]
  exact law_go (op_loan ok hC hM _ _ _ _ _) (fun N1 S1 a b k => hk N1 S1 a b k.up)
theorem lw_ofLoan {xs : Nat → Int32} {L x c : Nat} {N : qz_N} {S : St} {k : qz_N × Int32 → Option (Int32 × qz_N)} {Pd : Option (Int32 × qz_N) → Prop} (hcl : c ≤ 1000) (hx : x + 11 ≤ L) (hL : L ≤ 5632) (ok : Ok c S) (hC : RC N S) (hM : RM N S) (hk : ∀ N1 S1, RC N1 S1 → RM N1 S1 → Ok (c + 1) S1 → Pd (k (N1, nI (x + 11)))) : Pd (fW_law_1589 xs L 0 0 k N (nI x)) := by
  simp (disch := omega) only [fW_law_1589, i_2, i_3, i_4, i_5, i_6, i_7, i_8, i_9, i_10, nI_p1, nI_add, ix_n, nI_tc, n_leF, or_self, ↓reduceIte]
  exact law_go (op_ofLoan ok hC hM _ _) (fun N1 S1 a b k => hk N1 S1 a b k.up)
theorem lw_pay {xs : Nat → Int32} {L x c : Nat} {N : qz_N} {S : St} {k : qz_N × Int32 → Option (Int32 × qz_N)} {Pd : Option (Int32 × qz_N) → Prop} (hcl : c ≤ 1000) (hx : x + 11 ≤ L) (hL : L ≤ 5632) (ok : Ok c S) (hC : RC N S) (hM : RM N S) (hk : ∀ N1 S1, RC N1 S1 → RM N1 S1 → Ok (c + 1) S1 → Pd (k (N1, nI (x + 11)))) : Pd (fW_law_1623 xs L 0 0 k N (nI x)) := by
  simp (disch := omega) only [fW_law_1623, i_2, i_3, i_4, i_5, i_6, i_7, i_8, i_9, i_10, nI_p1, nI_add, ix_n, nI_tc, n_leF, or_self, ↓reduceIte]
  exact law_go (op_pay ok hC hM _ _ _) (fun N1 S1 a b k => hk N1 S1 a b k.up)
theorem lw_close {xs : Nat → Int32} {L x c : Nat} {N : qz_N} {S : St} {k : qz_N × Int32 → Option (Int32 × qz_N)} {Pd : Option (Int32 × qz_N) → Prop} (hcl : c ≤ 1000) (hx : x + 11 ≤ L) (hL : L ≤ 5632) (ok : Ok c S) (hC : RC N S) (hM : RM N S) (hk : ∀ N1 S1, RC N1 S1 → RM N1 S1 → Ok (c + 1) S1 → Pd (k (N1, nI (x + 11)))) : Pd (fW_law_1697 xs L 0 0 k N (nI x)) := by
  simp (disch := omega) only [fW_law_1697, i_2, i_3, i_4, i_5, i_6, i_7, i_8, i_9, i_10, nI_p1, nI_add, ix_n, nI_tc, n_leF, or_self, ↓reduceIte]
  exact law_go (op_close ok hC hM _ _) (fun N1 S1 a b k => hk N1 S1 a b k.up)
theorem lw_count {xs : Nat → Int32} {L x c : Nat} {N : qz_N} {S : St} {k : qz_N × Int32 → Option (Int32 × qz_N)} {Pd : Option (Int32 × qz_N) → Prop} (hcl : c ≤ 1000) (hx : x + 11 ≤ L) (hL : L ≤ 5632) (ok : Ok c S) (hC : RC N S) (hM : RM N S) (hk : ∀ N1 S1, RC N1 S1 → RM N1 S1 → Ok (c + 1) S1 → Pd (k (N1, nI (x + 11)))) : Pd (fW_law_1731 xs L 0 0 k N (nI x)) := by
  simp (disch := omega) only [fW_law_1731, i_2, i_3, i_4, i_5, i_6, i_7, i_8, i_9, i_10, nI_p1, nI_add, ix_n, nI_tc, n_leF, or_self, ↓reduceIte]
  exact law_go (Alike.same hC hM (op_count hC hM (fun l hl => (ok.2.2.2.2.2.2 l hl).1) _) ok) (fun N1 S1 a b k => hk N1 S1 a b k.up)
theorem lw_none {xs : Nat → Int32} {L x c : Nat} {N : qz_N} {S : St} {k : qz_N × Int32 → Option (Int32 × qz_N)} {Pd : Option (Int32 × qz_N) → Prop} (ok : Ok c S) (hC : RC N S) (hM : RM N S) (hk : ∀ N1 S1, RC N1 S1 → RM N1 S1 → Ok (c + 1) S1 → Pd (k (N1, nI (x + 11)))) : Pd (fW_law_1754 xs L 0 0 k N (nI x)) := by
  unfold fW_law_1754
  rw [qz_let_eq, i_11, nI_add]
  exact hk N S hC hM ok.up
theorem pd_ite {α : Type} {Pd : α → Prop} {P : Prop} [Decidable P] {a b : α} (ha : Pd a) (hb : Pd b) : Pd (if P then a else b) := by
  by_cases h : P
  · rw [if_pos h]; exact ha
  · rw [if_neg h]; exact hb
theorem law_step {xs : Nat → Int32} {L x c : Nat} {N : qz_N} {S : St} {k : qz_N × Int32 → Option (Int32 × qz_N)} {Pd : Option (Int32 × qz_N) → Prop} (hcl : c ≤ 1000) (hx : x + 11 ≤ L) (hL : L ≤ 5632) (ok : Ok c S) (hC : RC N S) (hM : RM N S) (hk : ∀ N1 S1, RC N1 S1 → RM N1 S1 → Ok (c + 1) S1 → Pd (k (N1, nI (x + 11)))) : Pd (fW_law_18b xs L 0 0 k N (nI x)) := by
  have h0 : ¬ (Int32.ofNat L - (11 : Int32) < nI x) := by
    show ¬ (nI L - nI 11 < nI x)
    rw [ix_s (by omega), ix_lt (by omega) (by omega)]
    omega
  unfold fW_law_18b
  rw [if_neg h0, if_neg (show ¬ (nI x < 0 ∨ L ≤ (nI x).toNatClampNeg) by rw [nI_tc (by omega)]; exact fun z => z.elim (nI_pos (by omega)) (by omega))]
  refine pd_ite (Pd := Pd) (lw_mint hcl hx hL ok hC hM hk) ?_
  refine pd_ite (Pd := Pd) (lw_balance hcl hx hL ok hC hM hk) ?_
  refine pd_ite (Pd := Pd) (lw_total hcl hx hL ok hC hM hk) ?_
  refine pd_ite (Pd := Pd) (lw_house hcl hx hL ok hC hM hk) ?_
  refine pd_ite (Pd := Pd) (lw_pool hcl hx hL ok hC hM hk) ?_
  refine pd_ite (Pd := Pd) (lw_of hcl hx hL ok hC hM hk) ?_
  refine pd_ite (Pd := Pd) (lw_join hcl hx hL ok hC hM hk) ?_
  refine pd_ite (Pd := Pd) (lw_leave hcl hx hL ok hC hM hk) ?_
  refine pd_ite (Pd := Pd) (lw_swap hcl hx hL ok hC hM hk) ?_
  refine pd_ite (Pd := Pd) (lw_quote hcl hx hL ok hC hM hk) ?_
  refine pd_ite (Pd := Pd) (lw_flash hcl hx hL ok hC hM hk) ?_
  refine pd_ite (Pd := Pd) (lw_tick hcl hx hL ok hC hM hk) ?_
  refine pd_ite (Pd := Pd) (lw_mark hcl hx hL ok hC hM hk) ?_
  refine pd_ite (Pd := Pd) (lw_mean hcl hx hL ok hC hM hk) ?_
  refine pd_ite (Pd := Pd) (lw_batch hcl hx hL ok hC hM hk) ?_
  refine pd_ite (Pd := Pd) (lw_order hcl hx hL ok hC hM hk) ?_
  refine pd_ite (Pd := Pd) (lw_clear hcl hx hL ok hC hM hk) ?_
  refine pd_ite (Pd := Pd) (lw_dealt hcl hx hL ok hC hM hk) ?_
  refine pd_ite (Pd := Pd) (lw_rate hcl hx hL ok hC hM hk) ?_
  refine pd_ite (Pd := Pd) (lw_lend hcl hx hL ok hC hM hk) ?_
  refine pd_ite (Pd := Pd) (lw_redeem hcl hx hL ok hC hM hk) ?_
  refine pd_ite (Pd := Pd) (lw_vault hcl hx hL ok hC hM hk) ?_
  refine pd_ite (Pd := Pd) (lw_loan hcl hx hL ok hC hM hk) ?_
  refine pd_ite (Pd := Pd) (lw_ofLoan hcl hx hL ok hC hM hk) ?_
  refine pd_ite (Pd := Pd) (lw_pay hcl hx hL ok hC hM hk) ?_
  refine pd_ite (Pd := Pd) (lw_close hcl hx hL ok hC hM hk) ?_
  refine pd_ite (Pd := Pd) (lw_count hcl hx hL ok hC hM hk) ?_
  exact lw_none ok hC hM hk
theorem law_all {xs : Nat → Int32} {L : Nat} (hL : L ≤ 5632) {N : qz_N} {S : St} (ok : Ok 0 S) (hC : RC N S) (hM : RM N S) : ∃ r : Int32 × qz_N, r.1 = 1 ∧ fW_law_18 xs L 0 0 1100 (N, 0) = some r := by
  unfold fW_law_18
  refine lpP (P := fun m => ∃ r : Int32 × qz_N, r.1 = 1 ∧ m = some r) (fun i a => ∃ N S, RC N S ∧ RM N S ∧ Ok i S ∧ a = (N, nI (11 * i))) (L / 11) ?_ ?_ (L / 11) 0 1100 _ (by omega) (by omega) ⟨N, S, hC, hM, ok, rfl⟩
  · rintro i a hi ⟨N, S, hC, hM, ok, rfl⟩ k hk
    show ∃ r : Int32 × qz_N, r.1 = 1 ∧ fW_law_18b xs L 0 0 k N (nI (11 * i)) = some r
    exact law_step (Pd := fun m => ∃ r : Int32 × qz_N, r.1 = 1 ∧ m = some r) (c := i) (by omega) (by omega) hL ok hC hM (fun N1 S1 a b c => hk _ ⟨N1, S1, a, b, c, by rw [show 11 * (i + 1) = 11 * i + 11 by omega]⟩)
  · rintro a ⟨N, S, hC, hM, ok, rfl⟩ k
    show ∃ r : Int32 × qz_N, r.1 = 1 ∧ fW_law_18b xs L 0 0 k N (nI (11 * (L / 11))) = some r
    refine ⟨(1, N), rfl, ?_⟩
    unfold fW_law_18b
    have h0 : Int32.ofNat L - (11 : Int32) < nI (11 * (L / 11)) := by
      show nI L - nI 11 < nI (11 * (L / 11))
      by_cases c : 11 ≤ L
      · rw [ix_s c, ix_lt (by omega) (by omega)]
        omega
      · have : L / 11 = 0 := by omega
        rw [this]
        have : L = 0 ∨ L = 1 ∨ L = 2 ∨ L = 3 ∨ L = 4 ∨ L = 5 ∨ L = 6 ∨ L = 7 ∨ L = 8 ∨ L = 9 ∨ L = 10 := by omega
        rcases this with rfl | rfl | rfl | rfl | rfl | rfl | rfl | rfl | rfl | rfl | rfl <;> decide
    rw [if_pos h0]
def sI : St := fun f _ _ => if f = 17 then 1 else if f = 29 then 1000000000 else 0
def ckN (N : qz_N) : Bool := ((List.range 38).all fun f => (List.range 40).all fun i => (List.range 6).all fun j => (!dCL f i j || qz_gl N (lCL f i j).1 (lCL f i j).2.1 (lCL f i j).2.2 == lN (sI f i j)) && (!dCI f i j || qz_gi N (lCI f i j).1 (lCI f i j).2.1 (lCI f i j).2.2 == nI (sI f i j)) && (!dML f i j || qz_gl N (lML f i j).1 (lML f i j).2.1 (lML f i j).2.2 == lN (sI f i j)) && (!dMI f i j || qz_gi N (lMI f i j).1 (lMI f i j).2.1 (lMI f i j).2.2 == nI (sI f i j))) && (List.range 8).all fun k => qz_gi N 32 0 k == -1
theorem ck_ok {N : qz_N} (h : ckN N = true) : RC N sI ∧ RM N sI := by
  unfold ckN at h
  rw [Bool.and_eq_true] at h
  obtain ⟨h1, h2⟩ := h
  have key : ∀ f i j, f < 38 → i < 40 → j < 6 → (dCL f i j = true → qz_gl N (lCL f i j).1 (lCL f i j).2.1 (lCL f i j).2.2 = lN (sI f i j)) ∧ (dCI f i j = true → qz_gi N (lCI f i j).1 (lCI f i j).2.1 (lCI f i j).2.2 = nI (sI f i j)) ∧ (dML f i j = true → qz_gl N (lML f i j).1 (lML f i j).2.1 (lML f i j).2.2 = lN (sI f i j)) ∧ (dMI f i j = true → qz_gi N (lMI f i j).1 (lMI f i j).2.1 (lMI f i j).2.2 = nI (sI f i j)) := by
    intro f i j hf hi hj
    have := List.all_eq_true.mp (List.all_eq_true.mp (List.all_eq_true.mp h1 f (List.mem_range.mpr hf)) i (List.mem_range.mpr hi)) j (List.mem_range.mpr hj)
    rw [Bool.and_eq_true, Bool.and_eq_true, Bool.and_eq_true, Bool.or_eq_true, Bool.or_eq_true, Bool.or_eq_true, Bool.or_eq_true, beq_iff_eq, beq_iff_eq, beq_iff_eq, beq_iff_eq] at this
    obtain ⟨⟨⟨a1, a2⟩, a3⟩, a4⟩ := this
    refine ⟨fun d => a1.resolve_left ?_, fun d => a2.resolve_left ?_, fun d => a3.resolve_left ?_, fun d => a4.resolve_left ?_⟩ <;> (rw [d]; decide)
  refine ⟨⟨fun f i j d => ?_, fun f i j d => ?_⟩, ⟨⟨fun f i j d => ?_, fun f i j d => ?_⟩, fun k hk => ?_, fun k hk => ?_, fun k hk => ?_⟩⟩
  · obtain ⟨a, b, c⟩ := bCL f i j d
    exact (key f i j a b c).1 d
  · obtain ⟨a, b, c⟩ := bCI f i j d
    exact (key f i j a b c).2.1 d
  · obtain ⟨a, b, c⟩ := bML f i j d
    exact (key f i j a b c).2.2.1 d
  · obtain ⟨a, b, c⟩ := bMI f i j d
    exact (key f i j a b c).2.2.2 d
  · have := List.all_eq_true.mp h2 k (List.mem_range.mpr hk)
    rw [beq_iff_eq] at this
    rw [this]; rfl
  · exact absurd hk (Nat.not_lt_zero _)
  · exact absurd hk (Nat.not_lt_zero _)
theorem sI_0 {f : Nat} (h17 : f ≠ 17) (h29 : f ≠ 29) (i j : Nat) : sI f i j = 0 := by
  unfold sI; rw [if_neg h17, if_neg h29]
theorem ok_0 : Ok 0 sI := by
  have z := @sI_0
  refine ⟨fun t ht => ⟨?_, ?_⟩, ⟨?_, fun q hq => ⟨?_, ?_, ?_, ?_, ?_, ?_⟩⟩, fun q hq => ⟨?_, ?_, ?_⟩, ⟨?_, ?_, ?_, ?_, ?_, ?_⟩, ⟨?_, ?_, ?_⟩, fun t ht => ⟨?_, ?_, ?_, ?_, ?_⟩, fun l hl => ⟨?_, ?_, ?_, ?_, ?_, ?_⟩⟩
  · have b1 : cB (sI 0) t = 0 := sg_0 (fun p _ => rfl)
    have b2 : cR (sI 4) (sI 7) t = 0 := sg_0 (fun q _ => by
      show (if sI 4 q 0 = t then sI 7 q 0 else 0) + (if sI 4 q 1 = t then sI 7 q 1 else 0) = 0
      rw [z (by decide) (by decide) q 0, z (f := 7) (by decide) (by decide) q 0, z (f := 7) (by decide) (by decide) q 1, ite_self, ite_self])
    have b3 : cO (sI 16) (sI 17) (sI 18) (sI 20) (sI 21) (sI 22) t = 0 := rfl
    have b4 : cL (sI 4) (sI 31) (sI 33) (sI 34) (sI 35) t = 0 := sg_0 (fun l _ => if_neg (fun y => y.1 rfl))
    rw [b1, b2, b3, b4]
    rfl
  · exact Nat.zero_le _
  · exact Nat.zero_le _
  · exact (by decide : 0 < 4)
  · exact (by decide : 0 < 4)
  · exact Nat.zero_le _
  · exact Nat.zero_le _
  · intro h; exact absurd h (Nat.not_lt_zero _)
  · intro _; exact ⟨rfl, rfl, rfl⟩
  · exact sg_0 (fun _ _ => rfl)
  · intro _; exact Nat.le_refl _
  · intro _; exact Nat.zero_le _
  · exact (by decide : 0 < 4)
  · exact (by decide : 1 < 4)
  · exact (by decide : 0 ≠ 1)
  · exact Nat.zero_le _
  · exact Nat.zero_le _
  · intro i hi; exact absurd hi (Nat.not_lt_zero _)
  · exact Nat.le_refl _
  · intro q _; exact Nat.le_refl _
  · intro k _
    exact ⟨Nat.zero_le _, (by decide : 0 < 6), fun h => absurd rfl h⟩
  · exact Nat.le_refl _
  · exact (by decide : 1000000000 ≤ 1000000000000)
  · exact Nat.zero_le _
  · exact sg_0 (fun _ _ => rfl)
  · exact Nat.zero_le _
  · exact Nat.zero_le _
  · exact (by decide : 0 < 6)
  · exact (by decide : 0 < 6)
  · exact Nat.zero_le _
  · exact Nat.zero_le _
  · intro h; exact absurd rfl h
