theorem nar1 : vp_nar .boolean (1 : Int32) = 1 := by decide
theorem nar0 : vp_nar .boolean (0 : Int32) = 0 := by decide
def valV (S : St) (i j c : Nat) : Nat := if S 7 i j = 0 then 0 else min (c * S 7 i (1 - j) / S 7 i j) 1000000000000000000
theorem val_b (S : St) (i j c : Nat) : valV S i j c ≤ 1000000000000000000 := by
  unfold valV; split <;> omega
theorem E_val {N : qz_N} {S : St} (hC : RC N S) {c i j a : Nat} (ok : Ok c S) (hi : i < 6) (hj : j < 2) (ha : a ≤ 100000000000000) : fP_valueOf i (nI j) (lN a) N = some (lN (valV S i j a), N) := by
  have b0 := ok.res hi hj
  have b1 := ok.res hi (j := 1 - j) (by omega)
  have e1 : fP_reserveAt i (1 - nI j) N = some (lN (S 7 i (1 - j)), N) := by rw [ix_1s (by omega)]; exact E_resAt hC hi (by omega)
  unfold valV
  by_cases z : S 7 i j = 0
  · simp (disch := omega) only [fP_valueOf, ↓bd (E_resAt hC hi hj), l_0, l_1, l_60, l_80, l_100, l_105, l_k, l_xk, l_m, l_g, l_xg, l_t, l_ct, l_ex, l_mx, l_lt, l_le, l_eq, l_div, l_ite, lN_add, lN_sub, lN_mul, lN_addneg, ix_2m, ix_6m, ix_4m, ix_m4, ix_1s, ix_s, ix_s2, ix_s9, ix_s7, ix_s5, ix_s1, nI_add, nI_p1, ix_n, ix_z, ix_1, ix_eq, ix_le, ix_lt, ix_le0, nI_tc, n_leT, n_leF, n_ltT, n_ltF, n_eqT, n_eqF, or_self, or_false, false_or, ↓reduceIte, ↓qz_letL, ↓qz_letI, qz_oc_s, qz_oc_n, Option.bind_some, ne10, not_false_eq_true, l_x]
  · rw [if_neg z]
    simp (disch := omega) only [fP_valueOf, ↓bd (E_resAt hC hi hj), l_0, l_eq, ix_2m, ix_6m, ix_4m, ix_m4, ix_1s, ix_s, ix_s2, ix_s9, ix_s7, ix_s5, ix_s1, nI_add, nI_p1, ix_n, ix_z, ix_1, ix_eq, ix_le, ix_lt, ix_le0, nI_tc, n_leT, n_leF, n_ltT, n_ltF, n_eqT, n_eqF, or_self, or_false, false_or, ↓reduceIte, ↓qz_letL, ↓qz_letI, qz_oc_s, qz_oc_n, Option.bind_some, ne10, not_false_eq_true, l_x]
    rw [bd (E_resAt hC hi (by omega)), bd (A_timesOver (by omega) (by omega) (by omega) (by omega) N)]
    generalize a * S 7 i (1 - j) / S 7 i j = q
    show some (if lN (min q 9223372036854775807) < lN 1000000000000000000 then lN (min q 9223372036854775807) else lN 1000000000000000000, N) = _
    rw [ifc (l_lt (by omega) (by omega)), l_ite, show (if min q 9223372036854775807 < 1000000000000000000 then min q 9223372036854775807 else 1000000000000000000) = min q 1000000000000000000 by split <;> omega]
theorem M_val {N : qz_N} {S : St} (hM : RM N S) {c i j a : Nat} (ok : Ok c S) (hi : i < 6) (hj : j < 2) (ha : a ≤ 100000000000000) : ∃ N', fM_valueOf 0 (nI i) (nI j) (lN a) N = some (lN (valV S i j a), N') ∧ Sc N N' := by
  have b0 := ok.res hi hj
  have b1 := ok.res hi (j := 1 - j) (by omega)
  unfold valV
  by_cases z : S 7 i j = 0
  · refine ⟨N, ?_, Sc.rf⟩
    simp (disch := omega) only [fM_valueOf, l_0, l_1, l_60, l_80, l_100, l_105, l_k, l_xk, l_m, l_g, l_xg, l_t, l_ct, l_ex, l_mx, l_lt, l_le, l_eq, l_div, l_ite, lN_add, lN_sub, lN_mul, lN_addneg, ix_2m, ix_6m, ix_4m, ix_m4, ix_1s, ix_s, ix_s2, ix_s9, ix_s7, ix_s5, ix_s1, nI_add, nI_p1, ix_n, ix_z, ix_1, ix_eq, ix_le, ix_lt, ix_le0, nI_tc, n_leT, n_leF, n_ltT, n_ltF, n_eqT, n_eqF, or_self, or_false, false_or, ↓reduceIte, ↓qz_letL, ↓qz_letI, qz_oc_s, qz_oc_n, Option.bind_some, ne10, not_false_eq_true, l_x, rM7 hM i j hi hj]
  · rw [if_neg z]
    obtain ⟨N1, e1, s1, r1, -⟩ := ar_begin (N := N) a (by omega)
    obtain ⟨N2, e2, s2, r2, -⟩ := ar_times (S 7 i (1 - j)) (by omega) r1 (by rw [BB6]; omega)
    obtain ⟨N3, e3, s3, r3, -⟩ := M_keepBig r2
    obtain ⟨N4, e4, s4, r4, k4⟩ := ar_begin (N := N3) 1000000000000000000 (by omega)
    obtain ⟨N5, e5, s5, r5, k5⟩ := ar_times (S 7 i j) (by omega) r4 (by rw [BB6]; omega)
    have c1 : a * S 7 i (1 - j) ≤ 100000000000000 * 100000000000000 := Nat.mul_le_mul ha b1
    have r6 : ar N5 53 6 (dg (a * S 7 i (1 - j))) := ar_keep (ar_keep r3 (fun q => k4 53 0 q (by decide))) (fun q => k5 53 0 q (by decide) (by decide) (by decide))
    have e6 := M_less r6 r5 (by rw [BB6]; omega) (by rw [BB6]; omega)
    have sc := (((s1.tr s2).tr s3).tr s4).tr s5
    have h1 := hM.scr s1
    have h5 := hM.scr sc
    by_cases g : a * S 7 i (1 - j) < 1000000000000000000 * S 7 i j
    · have hq : a * S 7 i (1 - j) / S 7 i j < 1000000000000000000 := by
        apply Nat.div_lt_of_lt_mul; rw [Nat.mul_comm (S 7 i j)]; exact g
      rw [if_pos g] at e6
      obtain ⟨N6, e7, s6⟩ := M_pt (a := a) (b := S 7 i (1 - j)) (d := S 7 i j) (by omega) (by omega) (by omega) (by omega) (by omega) N5
      refine ⟨N6, ?_, sc.tr s6⟩
      simp (disch := omega) only [fM_valueOf, l_0, l_eq, l_ex, ix_2m, ix_6m, ix_4m, ix_m4, ix_1s, ix_s, ix_s2, ix_s9, ix_s7, ix_s5, ix_s1, nI_add, nI_p1, ix_n, ix_z, ix_1, ix_eq, ix_le, ix_lt, ix_le0, nI_tc, n_leT, n_leF, n_ltT, n_ltF, n_eqT, n_eqF, or_self, or_false, false_or, ↓reduceIte, ↓qz_letL, ↓qz_letI, qz_oc_s, qz_oc_n, Option.bind_some, ne10, not_false_eq_true, l_x, rM7 hM i j hi hj, ↓bd e1, rM7c h1 i j hi hj, ↓bd e2, ↓bd e3, ↓bd e4, ↓bd e5, ↓bd e6, rM7c h5 i j hi hj, ↓bd e7]
      rw [Nat.min_eq_left (by omega)]
    · have hq : 1000000000000000000 ≤ a * S 7 i (1 - j) / S 7 i j := by
        rw [Nat.le_div_iff_mul_le (by omega)]; omega
      rw [if_neg g] at e6
      refine ⟨N5, ?_, sc⟩
      simp (disch := omega) only [fM_valueOf, l_0, l_eq, l_ex, ix_2m, ix_6m, ix_4m, ix_m4, ix_1s, ix_s, ix_s2, ix_s9, ix_s7, ix_s5, ix_s1, nI_add, nI_p1, ix_n, ix_z, ix_1, ix_eq, ix_le, ix_lt, ix_le0, nI_tc, n_leT, n_leF, n_ltT, n_ltF, n_eqT, n_eqF, or_self, or_false, false_or, ↓reduceIte, ↓qz_letL, ↓qz_letI, qz_oc_s, qz_oc_n, Option.bind_some, ne10, not_false_eq_true, l_x, rM7 hM i j hi hj, ↓bd e1, rM7c h1 i j hi hj, ↓bd e2, ↓bd e3, ↓bd e4, ↓bd e5, ↓bd e6]
      rw [Nat.min_eq_right hq]
theorem M_above {N : qz_N} {a b c d : Nat} (ha : a < 9223372036854775808) (hb : b < 9223372036854775808) (hc : c < 9223372036854775808) (hd : d < 9223372036854775808) : ∃ N', fM_isAbove 0 (lN a) (lN b) (lN c) (lN d) N = some (if c * d < a * b then 1 else 0, N') ∧ Sc N N' := by
  obtain ⟨N1, e1, s1, r1, -⟩ := ar_begin (N := N) c (by omega)
  obtain ⟨N2, e2, s2, r2, -⟩ := ar_times d (by omega) r1 (by rw [BB6]; omega)
  obtain ⟨N3, e3, s3, r3, -⟩ := M_keepBig r2
  obtain ⟨N4, e4, s4, r4, k4⟩ := ar_begin (N := N3) a (by omega)
  obtain ⟨N5, e5, s5, r5, k5⟩ := ar_times b (by omega) r4 (by rw [BB6]; omega)
  have c1 : c * d < 9223372036854775808 * 9223372036854775808 := Nat.mul_lt_mul'' hc hd
  have c2 : a * b < 9223372036854775808 * 9223372036854775808 := Nat.mul_lt_mul'' ha hb
  have r6 : ar N5 53 6 (dg (c * d)) := ar_keep (ar_keep r3 (fun q => k4 53 0 q (by decide))) (fun q => k5 53 0 q (by decide) (by decide) (by decide))
  have e6 := M_less r6 r5 (by rw [BB6]; omega) (by rw [BB6]; omega)
  refine ⟨N5, ?_, (((s1.tr s2).tr s3).tr s4).tr s5⟩
  unfold fM_isAbove
  rw [bd e1, bd e2, bd e3, bd e4, bd e5, bd e6]
  by_cases g : c * d < a * b
  · rw [if_pos g]
    show (if vp_nar .boolean (1 : Int32) = 1 then some ((1 : Int32), N5) else none) = _
    rw [if_pos nar1]
  · rw [if_neg g]
    show (if vp_nar .boolean (0 : Int32) = 0 then some ((0 : Int32), N5) else none) = _
    rw [if_pos nar0]
def fr (o : Nat → Nat) (d i : Nat) : Nat := match d with
  | 0 => i
  | d + 1 => if o i = 0 then i else fr o d (i + 1)
theorem fr_le (o : Nat → Nat) : ∀ d i, fr o d i ≤ i + d := by
  intro d
  induction d with
  | zero => intro i; exact Nat.le_refl _
  | succ d ih =>
    intro i
    show (if o i = 0 then i else fr o d (i + 1)) ≤ _
    have := ih (i + 1)
    split <;> omega
theorem fr_0 (o : Nat → Nat) : ∀ d i, fr o d i < i + d → o (fr o d i) = 0 := by
  intro d
  induction d with
  | zero => intro i h; exact absurd h (by show ¬ i < i + 0; omega)
  | succ d ih =>
    intro i h
    have e : fr o (d + 1) i = if o i = 0 then i else fr o d (i + 1) := rfl
    rw [e] at h ⊢
    by_cases c : o i = 0
    · rw [if_pos c]; exact c
    · rw [if_neg c] at h ⊢
      exact ih (i + 1) (by omega)
theorem E_free {N : qz_N} {S : St} (hC : RC N S) (h1 : ∀ l, l < 10 → S 31 l 0 ≤ 1) : fE_freeLoan 0 N = some (if fr (fun l => S 31 l 0) 10 0 = 10 then -1 else nI (fr (fun l => S 31 l 0) 10 0), N) := by
  unfold fE_freeLoan fE_freeLoan_2
  have key : ∀ d i n, i + d = 10 → d < n → qz_loop (fun k a => fE_freeLoan_2b 0 k a.1 a.2) n (N, nI i) = some (if fr (fun l => S 31 l 0) d i = 10 then -1 else nI (fr (fun l => S 31 l 0) d i), N) := by
    intro d
    induction d with
    | zero =>
      intro i n hi hn
      obtain ⟨m, rfl⟩ : ∃ m, n = m + 1 := ⟨n - 1, by omega⟩
      have : i = 10 := by omega
      subst this
      rfl
    | succ d ih =>
      intro i n hi hn
      obtain ⟨m, rfl⟩ : ∃ m, n = m + 1 := ⟨n - 1, by omega⟩
      have hb := h1 i (by omega)
      have e : fr (fun l => S 31 l 0) (d + 1) i = if S 31 i 0 = 0 then i else fr (fun l => S 31 l 0) d (i + 1) := rfl
      have e2 := ih (i + 1) m (by omega) (by omega)
      rw [e]
      show fE_freeLoan_2b 0 (qz_loop _ m) N (nI i) = _
      generalize qz_loop (fun k a => fE_freeLoan_2b 0 k a.1 a.2) m = K at *
      by_cases c : S 31 i 0 = 0
      · rw [if_pos c, if_neg (by omega)]
        simp (disch := omega) only [fE_freeLoan_2b, i_10, ix_2m, ix_6m, ix_4m, ix_m4, ix_1s, ix_s, ix_s2, ix_s9, ix_s7, ix_s5, ix_s1, nI_add, nI_p1, ix_n, ix_z, ix_1, ix_eq, ix_le, ix_lt, ix_le0, nI_tc, n_leT, n_leF, n_ltT, n_ltF, n_eqT, n_eqF, or_self, or_false, false_or, ↓reduceIte, ↓qz_letL, ↓qz_letI, qz_oc_s, qz_oc_n, Option.bind_some, ne10, not_false_eq_true, l_x, rC31 hC i (by omega)]
      · rw [if_neg c, ← e2]
        simp (disch := omega) only [fE_freeLoan_2b, i_10, ix_2m, ix_6m, ix_4m, ix_m4, ix_1s, ix_s, ix_s2, ix_s9, ix_s7, ix_s5, ix_s1, nI_add, nI_p1, ix_n, ix_z, ix_1, ix_eq, ix_le, ix_lt, ix_le0, nI_tc, n_leT, n_leF, n_ltT, n_ltF, n_eqT, n_eqF, or_self, or_false, false_or, ↓reduceIte, ↓qz_letL, ↓qz_letI, qz_oc_s, qz_oc_n, Option.bind_some, ne10, not_false_eq_true, l_x, rC31 hC i (by omega)]
  exact key 10 0 1100 (by decide) (by decide)
theorem M_free {N : qz_N} {S : St} (hM : RM N S) (h1 : ∀ l, l < 10 → S 31 l 0 ≤ 1) {x1 x2 x3 : Int32} {x4 x6 : Int64} : fM_loan_42 0 1100 (N, x1, x2, x3, x4, x6, 0) = fM_loan_65 0 N x1 x2 x3 x4 x6 (nI (fr (fun l => S 31 l 0) 10 0)) := by
  unfold fM_loan_42
  have key : ∀ d i n, i + d = 10 → d < n → qz_loop (fun k a => fM_loan_42b 0 k a.1 a.2.1 a.2.2.1 a.2.2.2.1 a.2.2.2.2.1 a.2.2.2.2.2.1 a.2.2.2.2.2.2) n (N, x1, x2, x3, x4, x6, nI i) = fM_loan_65 0 N x1 x2 x3 x4 x6 (nI (fr (fun l => S 31 l 0) d i)) := by
    intro d
    induction d with
    | zero =>
      intro i n hi hn
      obtain ⟨m, rfl⟩ : ∃ m, n = m + 1 := ⟨n - 1, by omega⟩
      have : i = 10 := by omega
      subst this
      show fM_loan_42b 0 (qz_loop _ m) N x1 x2 x3 x4 x6 (nI 10) = _
      unfold fM_loan_42b
      rw [if_pos (by decide)]
      rfl
    | succ d ih =>
      intro i n hi hn
      obtain ⟨m, rfl⟩ : ∃ m, n = m + 1 := ⟨n - 1, by omega⟩
      have hb := h1 i (by omega)
      have e : fr (fun l => S 31 l 0) (d + 1) i = if S 31 i 0 = 0 then i else fr (fun l => S 31 l 0) d (i + 1) := rfl
      have e2 := ih (i + 1) m (by omega) (by omega)
      rw [e]
      show fM_loan_42b 0 (qz_loop _ m) N x1 x2 x3 x4 x6 (nI i) = _
      generalize qz_loop (fun k a => fM_loan_42b 0 k a.1 a.2.1 a.2.2.1 a.2.2.2.1 a.2.2.2.2.1 a.2.2.2.2.2.1 a.2.2.2.2.2.2) m = K at *
      by_cases c : S 31 i 0 = 0
      · rw [if_pos c]
        simp (disch := omega) only [fM_loan_42b, i_10, ix_2m, ix_6m, ix_4m, ix_m4, ix_1s, ix_s, ix_s2, ix_s9, ix_s7, ix_s5, ix_s1, nI_add, nI_p1, ix_n, ix_z, ix_1, ix_eq, ix_le, ix_lt, ix_le0, nI_tc, n_leT, n_leF, n_ltT, n_ltF, n_eqT, n_eqF, or_self, or_false, false_or, ↓reduceIte, ↓qz_letL, ↓qz_letI, qz_oc_s, qz_oc_n, Option.bind_some, ne10, not_false_eq_true, l_x, rM31 hM i (by omega)]
      · rw [if_neg c, ← e2]
        simp (disch := omega) only [fM_loan_42b, i_10, ix_2m, ix_6m, ix_4m, ix_m4, ix_1s, ix_s, ix_s2, ix_s9, ix_s7, ix_s5, ix_s1, nI_add, nI_p1, ix_n, ix_z, ix_1, ix_eq, ix_le, ix_lt, ix_le0, nI_tc, n_leT, n_leF, n_ltT, n_ltF, n_eqT, n_eqF, or_self, or_false, false_or, ↓reduceIte, ↓qz_letL, ↓qz_letI, qz_oc_s, qz_oc_n, Option.bind_some, ne10, not_false_eq_true, l_x, rM31 hM i (by omega)]
  exact key 10 0 1100 (by decide) (by decide)
theorem cL_up {tok o o' pl pl' sd sd' cv cv' : Sl} {l : Nat} (hl : l < 10) (ho : ∀ a, a ≠ l → o' a 0 = o a 0) (hp : ∀ a, a ≠ l → pl' a 0 = pl a 0) (hs : ∀ a, a ≠ l → sd' a 0 = sd a 0) (hc : ∀ a, a ≠ l → cv' a 0 = cv a 0) (t : Nat) : cL tok o' pl' sd' cv' t + (if o l 0 ≠ 0 ∧ tok (pl l 0) (sd l 0) = t then cv l 0 else 0) = cL tok o pl sd cv t + (if o' l 0 ≠ 0 ∧ tok (pl' l 0) (sd' l 0) = t then cv' l 0 else 0) := by
  exact sg_upd (f := fun l => if o l 0 ≠ 0 ∧ ct tok pl sd l = t then cv l 0 else 0) (g := fun l => if o' l 0 ≠ 0 ∧ ct tok pl' sd' l = t then cv' l 0 else 0) hl (fun a _ ha => by
    show (if o' a 0 ≠ 0 ∧ tok (pl' a 0) (sd' a 0) = t then cv' a 0 else 0) = (if o a 0 ≠ 0 ∧ tok (pl a 0) (sd a 0) = t then cv a 0 else 0)
    rw [ho a ha, hp a ha, hs a ha, hc a ha])
theorem cD_up {tok o o' pl pl' sd sd' un un' vi : Sl} {l : Nat} (hl : l < 10) (ho : ∀ a, a ≠ l → o' a 0 = o a 0) (hp : ∀ a, a ≠ l → pl' a 0 = pl a 0) (hs : ∀ a, a ≠ l → sd' a 0 = sd a 0) (hc : ∀ a, a ≠ l → un' a 0 = un a 0) (t : Nat) : cD tok o' pl' sd' un' vi t + (if o l 0 ≠ 0 ∧ tok (pl l 0) (1 - sd l 0) = t then cdiv (un l 0 * vi (tok (pl l 0) (1 - sd l 0)) 0) 1000000000 else 0) = cD tok o pl sd un vi t + (if o' l 0 ≠ 0 ∧ tok (pl' l 0) (1 - sd' l 0) = t then cdiv (un' l 0 * vi (tok (pl' l 0) (1 - sd' l 0)) 0) 1000000000 else 0) := by
  exact sg_upd (f := fun l => if o l 0 ≠ 0 ∧ dt tok pl sd l = t then debt tok pl sd un vi l else 0) (g := fun l => if o' l 0 ≠ 0 ∧ dt tok pl' sd' l = t then debt tok pl' sd' un' vi l else 0) hl (fun a _ ha => by
    show (if o' a 0 ≠ 0 ∧ tok (pl' a 0) (1 - sd' a 0) = t then cdiv (un' a 0 * vi (tok (pl' a 0) (1 - sd' a 0)) 0) 1000000000 else 0) = (if o a 0 ≠ 0 ∧ tok (pl a 0) (1 - sd a 0) = t then cdiv (un a 0 * vi (tok (pl a 0) (1 - sd a 0)) 0) 1000000000 else 0)
    rw [ho a ha, hp a ha, hs a ha, hc a ha])
theorem ok_L {S S' : St} {c : Nat} (ok : Ok c S) (he : ∀ f, f ≠ 0 → f ≠ 26 → ¬ (31 ≤ f ∧ f ≤ 36) → S' f = S f) (h1' : ∀ t, t < 4 → cB (S' 0) t + S' 26 t 0 + cL (S 4) (S' 31) (S' 33) (S' 34) (S' 35) t = cB (S 0) t + S 26 t 0 + cL (S 4) (S 31) (S 33) (S 34) (S 35) t) (h6 : ∀ t, t < 4 → S 26 t 0 + cD (S 4) (S 31) (S 33) (S 34) (S 36) (S 29) t ≤ S' 26 t 0 + cD (S 4) (S' 31) (S' 33) (S' 34) (S' 36) (S 29) t) (h7' : ∀ l, l < 10 → S' 31 l 0 ≤ 1 ∧ S' 32 l 0 < 6 ∧ S' 33 l 0 < 6 ∧ S' 34 l 0 ≤ 1 ∧ S' 36 l 0 ≤ 100000000000000 ∧ (S' 31 l 0 ≠ 0 → S' 33 l 0 < S 3 0 0)) : Ok c S' := by
  obtain ⟨h1, h2, h3, h4, h5, h6', h7⟩ := ok
  unfold Ok
  rw [he 1 (by decide) (by decide) (by decide), he 2 (by decide) (by decide) (by decide), he 3 (by decide) (by decide) (by decide), he 4 (by decide) (by decide) (by decide), he 5 (by decide) (by decide) (by decide), he 6 (by decide) (by decide) (by decide), he 7 (by decide) (by decide) (by decide), he 8 (by decide) (by decide) (by decide), he 9 (by decide) (by decide) (by decide), he 10 (by decide) (by decide) (by decide), he 11 (by decide) (by decide) (by decide), he 12 (by decide) (by decide) (by decide), he 13 (by decide) (by decide) (by decide), he 14 (by decide) (by decide) (by decide), he 15 (by decide) (by decide) (by decide), he 16 (by decide) (by decide) (by decide), he 17 (by decide) (by decide) (by decide), he 18 (by decide) (by decide) (by decide), he 19 (by decide) (by decide) (by decide), he 20 (by decide) (by decide) (by decide), he 21 (by decide) (by decide) (by decide), he 22 (by decide) (by decide) (by decide), he 24 (by decide) (by decide) (by decide), he 27 (by decide) (by decide) (by decide), he 28 (by decide) (by decide) (by decide), he 29 (by decide) (by decide) (by decide), he 30 (by decide) (by decide) (by decide), he 37 (by decide) (by decide) (by decide)]
  refine ⟨?_, h2, h3, h4, h5, ?_, h7'⟩
  · intro t ht
    obtain ⟨a1, a2⟩ := h1 t ht
    have := h1' t ht
    refine ⟨?_, a2⟩
    omega
  · intro t ht
    obtain ⟨a1, a2, a3, a4, a5⟩ := h6' t ht
    have := h6 t ht
    exact ⟨a1, a2, a3, a4, by omega⟩
theorem cB_add {bal : Sl} {p t0 a : Nat} (hp : p < 6) (t : Nat) : cB (up2 bal p t0 (bal p t0 + a)) t = cB bal t + (if t = t0 then a else 0) := by
  have := cB_up (bal := bal) (p := p) (t0 := t0) (v := bal p t0 + a) hp t
  by_cases c : t = t0
  · rw [if_pos c, if_pos c] at this; rw [if_pos c]; omega
  · rw [if_neg c, if_neg c] at this; rw [if_neg c]; omega
theorem cB_sub {bal : Sl} {p t0 a : Nat} (hp : p < 6) (ha : a ≤ bal p t0) (t : Nat) : cB (up2 bal p t0 (bal p t0 - a)) t + (if t = t0 then a else 0) = cB bal t := by
  have := cB_up (bal := bal) (p := p) (t0 := t0) (v := bal p t0 - a) hp t
  by_cases c : t = t0
  · rw [if_pos c, if_pos c] at this; rw [if_pos c]; omega
  · rw [if_neg c, if_neg c] at this; rw [if_neg c]; omega
theorem E_lo0 {N : qz_N} {S : St} (hC : RC N S) {x : Int32} (h : x < 0 ∨ nI 10 ≤ x) : fE_loanAt 0 x N = some (none, N) := by
  unfold fE_loanAt
  by_cases c : x < 0
  · rw [if_pos c]
  · rw [if_neg c, i_10, if_pos (h.resolve_left c)]
theorem E_lo1 {N : qz_N} {S : St} (hC : RC N S) {l : Nat} (hl : l < 10) (h : S 31 l 0 = 0) : fE_loanAt 0 (nI l) N = some (none, N) := by
  simp (disch := omega) only [fE_loanAt, i_10, ix_2m, ix_6m, ix_4m, ix_m4, ix_1s, ix_s, ix_s2, ix_s9, ix_s7, ix_s5, ix_s1, nI_add, nI_p1, ix_n, ix_z, ix_1, ix_eq, ix_le, ix_lt, ix_le0, nI_tc, n_leT, n_leF, n_ltT, n_ltF, n_eqT, n_eqF, or_self, or_false, false_or, ↓reduceIte, ↓qz_letL, ↓qz_letI, qz_oc_s, qz_oc_n, Option.bind_some, ne10, not_false_eq_true, l_x, rC31 hC l hl]
theorem E_lo2 {N : qz_N} {S : St} (hC : RC N S) {l : Nat} (hl : l < 10) (hb : S 31 l 0 ≤ 1) (h : S 31 l 0 ≠ 0) : fE_loanAt 0 (nI l) N = some (some l, N) := by
  simp (disch := omega) only [fE_loanAt, i_10, ix_2m, ix_6m, ix_4m, ix_m4, ix_1s, ix_s, ix_s2, ix_s9, ix_s7, ix_s5, ix_s1, nI_add, nI_p1, ix_n, ix_z, ix_1, ix_eq, ix_le, ix_lt, ix_le0, nI_tc, n_leT, n_leF, n_ltT, n_ltF, n_eqT, n_eqF, or_self, or_false, false_or, ↓reduceIte, ↓qz_letL, ↓qz_letI, qz_oc_s, qz_oc_n, Option.bind_some, ne10, not_false_eq_true, l_x, rC31 hC l hl]
theorem M_lo0 {N : qz_N} {S : St} (hM : RM N S) {x : Int32} (h : x < 0 ∨ nI 10 ≤ x) : fM_isOpen 0 x N = some (0, N) := by
  unfold fM_isOpen
  by_cases c : x < 0
  · rw [if_pos c]
  · rw [if_neg c, i_10, if_pos (h.resolve_left c)]
theorem M_lo1 {N : qz_N} {S : St} (hM : RM N S) {l : Nat} (hl : l < 10) (h : S 31 l 0 = 0) : fM_isOpen 0 (nI l) N = some (0, N) := by
  simp (disch := omega) only [fM_isOpen, i_10, ix_2m, ix_6m, ix_4m, ix_m4, ix_1s, ix_s, ix_s2, ix_s9, ix_s7, ix_s5, ix_s1, nI_add, nI_p1, ix_n, ix_z, ix_1, ix_eq, ix_le, ix_lt, ix_le0, nI_tc, n_leT, n_leF, n_ltT, n_ltF, n_eqT, n_eqF, or_self, or_false, false_or, ↓reduceIte, ↓qz_letL, ↓qz_letI, qz_oc_s, qz_oc_n, Option.bind_some, ne10, not_false_eq_true, l_x, rM31 hM l hl]
theorem M_lo2 {N : qz_N} {S : St} (hM : RM N S) {l : Nat} (hl : l < 10) (hb : S 31 l 0 ≤ 1) (h : S 31 l 0 ≠ 0) : fM_isOpen 0 (nI l) N = some (1, N) := by
  simp (disch := omega) only [fM_isOpen, i_10, ix_2m, ix_6m, ix_4m, ix_m4, ix_1s, ix_s, ix_s2, ix_s9, ix_s7, ix_s5, ix_s1, nI_add, nI_p1, ix_n, ix_z, ix_1, ix_eq, ix_le, ix_lt, ix_le0, nI_tc, n_leT, n_leF, n_ltT, n_ltF, n_eqT, n_eqF, or_self, or_false, false_or, ↓reduceIte, ↓qz_letL, ↓qz_letI, qz_oc_s, qz_oc_n, Option.bind_some, ne10, not_false_eq_true, l_x, rM31 hM l hl]
theorem loc {S : St} {c : Nat} (ok : Ok c S) (x : Int32) : ((∀ N, RC N S → fE_loanAt 0 x N = some (none, N)) ∧ ∀ N, RM N S → fM_isOpen 0 x N = some (0, N)) ∨ ∃ l, l < 10 ∧ S 31 l 0 ≠ 0 ∧ x = nI l := by
  rcases ixc x (n := 10) (by decide) with h | ⟨l, hl, rfl⟩
  · exact Or.inl ⟨fun N hC => E_lo0 hC h, fun N hM => M_lo0 hM h⟩
  · by_cases z : S 31 l 0 = 0
    · exact Or.inl ⟨fun N hC => E_lo1 hC hl z, fun N hM => M_lo1 hM hl z⟩
    · exact Or.inr ⟨l, hl, z, rfl⟩
theorem E_covV {N : qz_N} {S : St} (hC : RC N S) {c l : Nat} (ok : Ok c S) (hl : l < 10) (ho : S 31 l 0 ≠ 0) : fE_coverValue 0 l N = some (lN (valV S (S 33 l 0) (S 34 l 0) (S 35 l 0)), N) := by
  obtain ⟨a1, a2, a3, a4, a5, a6⟩ := ok.2.2.2.2.2.2 l hl
  have hc := ok.cov hl ho
  simp (disch := omega) only [fE_coverValue, ix_2m, ix_6m, ix_4m, ix_m4, ix_1s, ix_s, ix_s2, ix_s9, ix_s7, ix_s5, ix_s1, nI_add, nI_p1, ix_n, ix_z, ix_1, ix_eq, ix_le, ix_lt, ix_le0, nI_tc, n_leT, n_leF, n_ltT, n_ltF, n_eqT, n_eqF, or_self, or_false, false_or, ↓reduceIte, ↓qz_letL, ↓qz_letI, qz_oc_s, qz_oc_n, Option.bind_some, ne10, not_false_eq_true, l_x, rC33 hC l hl, rC34 hC l hl, rC35 hC l hl, ↓bd (E_val hC ok a3 (show S 34 l 0 < 2 by omega) hc)]
theorem M_covV {N : qz_N} {S : St} (hM : RM N S) {c l : Nat} (ok : Ok c S) (hl : l < 10) (ho : S 31 l 0 ≠ 0) : ∃ N', fM_coverValue 0 (nI l) N = some (lN (valV S (S 33 l 0) (S 34 l 0) (S 35 l 0)), N') ∧ Sc N N' := by
  obtain ⟨a1, a2, a3, a4, a5, a6⟩ := ok.2.2.2.2.2.2 l hl
  have hc := ok.cov hl ho
  obtain ⟨N', e, s⟩ := M_val hM ok a3 (show S 34 l 0 < 2 by omega) hc
  refine ⟨N', ?_, s⟩
  simp (disch := omega) only [fM_coverValue, ix_2m, ix_6m, ix_4m, ix_m4, ix_1s, ix_s, ix_s2, ix_s9, ix_s7, ix_s5, ix_s1, nI_add, nI_p1, ix_n, ix_z, ix_1, ix_eq, ix_le, ix_lt, ix_le0, nI_tc, n_leT, n_leF, n_ltT, n_ltF, n_eqT, n_eqF, or_self, or_false, false_or, ↓reduceIte, ↓qz_letL, ↓qz_letI, qz_oc_s, qz_oc_n, Option.bind_some, ne10, not_false_eq_true, l_x, rM33 hM l hl, rM34 hM l hl, rM35 hM l hl, ↓bd e]
def unc (S : St) (l : Nat) : Prop := 4 * valV S (S 33 l 0) (S 34 l 0) (S 35 l 0) < 5 * debt (S 4) (S 33) (S 34) (S 36) (S 29) l
theorem E_unc {N : qz_N} {S : St} (hC : RC N S) {c l : Nat} (ok : Ok c S) (hl : l < 10) (ho : S 31 l 0 ≠ 0) : ∃ v : Int32, fE_isUncovered 0 l N = some (v, N) ∧ (unc S l → v = 1) ∧ (¬ unc S l → v = 0) := by
  have b1 := val_b S (S 33 l 0) (S 34 l 0) (S 35 l 0)
  have b2 := (debt_b ok hl).2
  have e1 := E_debt hC ok hl
  have e2 := E_covV hC ok hl ho
  unfold unc
  generalize valV S (S 33 l 0) (S 34 l 0) (S 35 l 0) = v at *
  generalize debt (S 4) (S 33) (S 34) (S 36) (S 29) l = d at *
  by_cases g : 4 * v < 5 * d
  · refine ⟨1, ?_, fun _ => rfl, fun z => absurd g z⟩
    simp (disch := omega) only [fE_isUncovered, ↓bd e1, ↓bd e2, l_4, l_5, lN_mul, l_le, ix_2m, ix_6m, ix_4m, ix_m4, ix_1s, ix_s, ix_s2, ix_s9, ix_s7, ix_s5, ix_s1, nI_add, nI_p1, ix_n, ix_z, ix_1, ix_eq, ix_le, ix_lt, ix_le0, nI_tc, n_leT, n_leF, n_ltT, n_ltF, n_eqT, n_eqF, or_self, or_false, false_or, ↓reduceIte, ↓qz_letL, ↓qz_letI, qz_oc_s, qz_oc_n, Option.bind_some, ne10, not_false_eq_true, l_x]
  · refine ⟨0, ?_, fun z => absurd z g, fun _ => rfl⟩
    simp (disch := omega) only [fE_isUncovered, ↓bd e1, ↓bd e2, l_4, l_5, lN_mul, l_le, ix_2m, ix_6m, ix_4m, ix_m4, ix_1s, ix_s, ix_s2, ix_s9, ix_s7, ix_s5, ix_s1, nI_add, nI_p1, ix_n, ix_z, ix_1, ix_eq, ix_le, ix_lt, ix_le0, nI_tc, n_leT, n_leF, n_ltT, n_ltF, n_eqT, n_eqF, or_self, or_false, false_or, ↓reduceIte, ↓qz_letL, ↓qz_letI, qz_oc_s, qz_oc_n, Option.bind_some, ne10, not_false_eq_true, l_x]
theorem M_unc {N : qz_N} {S : St} (hM : RM N S) {c l : Nat} (ok : Ok c S) (hl : l < 10) (ho : S 31 l 0 ≠ 0) : ∃ v : Int32, (∃ N', fM_isUncovered 0 (nI l) N = some (v, N') ∧ Sc N N') ∧ (unc S l → v = 1) ∧ (¬ unc S l → v = 0) := by
  have b1 := val_b S (S 33 l 0) (S 34 l 0) (S 35 l 0)
  have b2 := (debt_b ok hl).2
  obtain ⟨N1, e1, s1⟩ := M_debt hM ok hl
  obtain ⟨N2, e2, s2⟩ := M_covV (hM.scr s1) ok hl ho
  unfold unc
  generalize valV S (S 33 l 0) (S 34 l 0) (S 35 l 0) = v at *
  generalize debt (S 4) (S 33) (S 34) (S 36) (S 29) l = d at *
  obtain ⟨N3, e3, s3⟩ := M_above (N := N2) (a := 100) (b := d) (c := 80) (d := v) (by decide) (by omega) (by decide) (by omega)
  have sc := (s1.tr s2).tr s3
  have e : fM_isUncovered 0 (nI l) N = some (if 80 * v < 100 * d then 1 else 0, N3) := by
    unfold fM_isUncovered
    rw [bd e1]
    show Option.bind (fM_coverValue 0 (nI l) N1) _ = _
    rw [bd e2]
    show Option.bind (fM_isAbove 0 100 (lN d) 80 (lN v) N2) _ = _
    rw [l_100, l_80, bd e3]
    by_cases g : 80 * v < 100 * d
    · rw [if_pos g]
      show (if vp_nar .boolean (1 : Int32) = 1 then some ((1 : Int32), N3) else none) = _
      rw [if_pos nar1]
    · rw [if_neg g]
      show (if vp_nar .boolean (0 : Int32) = 0 then some ((0 : Int32), N3) else none) = _
      rw [if_pos nar0]
  by_cases g : 80 * v < 100 * d
  · rw [if_pos g] at e
    exact ⟨1, ⟨N3, e, sc⟩, fun _ => rfl, fun z => by omega⟩
  · rw [if_neg g] at e
    exact ⟨0, ⟨N3, e, sc⟩, fun z => by omega, fun _ => rfl⟩
theorem i_7 : (7 : Int32) = nI 7 := rfl
theorem op_ofLoan {N : qz_N} {S : St} {c : Nat} (ok : Ok c S) (hC : RC N S) (hM : RM N S) (x y : Int32) : Alike N (fE_ofLoan 0 x y) (fM_ofLoan 0 x y) (Ok c) := by
  rcases loc ok x with ⟨g1, g2⟩ | ⟨l, hl, ho, rfl⟩
  · exact Alike.mk' (r := -2) hM (GoC.of (by simp (disch := omega) only [fE_ofLoan, ↓bd (g1 _ hC), ix_2m, ix_6m, ix_4m, ix_m4, ix_1s, ix_s, ix_s2, ix_s9, ix_s7, ix_s5, ix_s1, nI_add, nI_p1, ix_n, ix_z, ix_1, ix_eq, ix_le, ix_lt, ix_le0, nI_tc, n_leT, n_leF, n_ltT, n_ltF, n_eqT, n_eqF, or_self, or_false, false_or, ↓reduceIte, ↓qz_letL, ↓qz_letI, qz_oc_s, qz_oc_n, Option.bind_some, ne10, not_false_eq_true, l_x]) hC) (fun N1 hM => GoM.of (by simp (disch := omega) only [fM_ofLoan, ↓bd (g2 _ hM), ix_2m, ix_6m, ix_4m, ix_m4, ix_1s, ix_s, ix_s2, ix_s9, ix_s7, ix_s5, ix_s1, nI_add, nI_p1, ix_n, ix_z, ix_1, ix_eq, ix_le, ix_lt, ix_le0, nI_tc, n_leT, n_leF, n_ltT, n_ltF, n_eqT, n_eqF, or_self, or_false, false_or, ↓reduceIte, ↓qz_letL, ↓qz_letI, qz_oc_s, qz_oc_n, Option.bind_some, ne10, not_false_eq_true, l_x]) hM) ok
  obtain ⟨a1, a2, a3, a4, a5, a6⟩ := ok.2.2.2.2.2.2 l hl
  rcases ixc y (n := 8) (by decide) with hy | ⟨j, hj, rfl⟩
  · rcases hy with hy | hy
    · exact Alike.mk' (r := -2) hM (GoC.of (by simp (disch := omega) only [fE_ofLoan, ↓bd (E_lo2 hC hl a1 ho), i_2, i_3, i_4, i_5, i_6, i_7, ix_2m, ix_6m, ix_4m, ix_m4, ix_1s, ix_s, ix_s2, ix_s9, ix_s7, ix_s5, ix_s1, nI_add, nI_p1, ix_n, ix_z, ix_1, ix_eq, ix_le, ix_lt, ix_le0, nI_tc, n_leT, n_leF, n_ltT, n_ltF, n_eqT, n_eqF, or_self, or_false, false_or, ↓reduceIte, ↓qz_letL, ↓qz_letI, qz_oc_s, qz_oc_n, Option.bind_some, ne10, not_false_eq_true, l_x, ng_eq hy, ng_0 hy, ng_1 hy]) hC) (fun N1 hM => GoM.of (by simp (disch := omega) only [fM_ofLoan, ↓bd (M_lo2 hM hl a1 ho), i_2, i_3, i_4, i_5, i_6, i_7, ix_2m, ix_6m, ix_4m, ix_m4, ix_1s, ix_s, ix_s2, ix_s9, ix_s7, ix_s5, ix_s1, nI_add, nI_p1, ix_n, ix_z, ix_1, ix_eq, ix_le, ix_lt, ix_le0, nI_tc, n_leT, n_leF, n_ltT, n_ltF, n_eqT, n_eqF, or_self, or_false, false_or, ↓reduceIte, ↓qz_letL, ↓qz_letI, qz_oc_s, qz_oc_n, Option.bind_some, ne10, not_false_eq_true, l_x, ng_eq hy, ng_0 hy, ng_1 hy]) hM) ok
    · exact Alike.mk' (r := -2) hM (GoC.of (by simp (disch := omega) only [fE_ofLoan, ↓bd (E_lo2 hC hl a1 ho), i_2, i_3, i_4, i_5, i_6, i_7, ix_2m, ix_6m, ix_4m, ix_m4, ix_1s, ix_s, ix_s2, ix_s9, ix_s7, ix_s5, ix_s1, nI_add, nI_p1, ix_n, ix_z, ix_1, ix_eq, ix_le, ix_lt, ix_le0, nI_tc, n_leT, n_leF, n_ltT, n_ltF, n_eqT, n_eqF, or_self, or_false, false_or, ↓reduceIte, ↓qz_letL, ↓qz_letI, qz_oc_s, qz_oc_n, Option.bind_some, ne10, not_false_eq_true, l_x, bg_eq hy, bg_0 hy, bg_1 hy]) hC) (fun N1 hM => GoM.of (by simp (disch := omega) only [fM_ofLoan, ↓bd (M_lo2 hM hl a1 ho), i_2, i_3, i_4, i_5, i_6, i_7, ix_2m, ix_6m, ix_4m, ix_m4, ix_1s, ix_s, ix_s2, ix_s9, ix_s7, ix_s5, ix_s1, nI_add, nI_p1, ix_n, ix_z, ix_1, ix_eq, ix_le, ix_lt, ix_le0, nI_tc, n_leT, n_leF, n_ltT, n_ltF, n_eqT, n_eqF, or_self, or_false, false_or, ↓reduceIte, ↓qz_letL, ↓qz_letI, qz_oc_s, qz_oc_n, Option.bind_some, ne10, not_false_eq_true, l_x, bg_eq hy, bg_0 hy, bg_1 hy]) hM) ok
  rcases (show j = 0 ∨ j = 1 ∨ j = 2 ∨ j = 3 ∨ j = 4 ∨ j = 5 ∨ j = 6 ∨ j = 7 by omega) with rfl | rfl | rfl | rfl | rfl | rfl | rfl | rfl
  · exact Alike.mk' (r := lN (S 32 l 0)) hM (GoC.of (by simp (disch := omega) only [fE_ofLoan, ↓bd (E_lo2 hC hl a1 ho), i_2, i_3, i_4, i_5, i_6, i_7, ix_2m, ix_6m, ix_4m, ix_m4, ix_1s, ix_s, ix_s2, ix_s9, ix_s7, ix_s5, ix_s1, nI_add, nI_p1, ix_n, ix_z, ix_1, ix_eq, ix_le, ix_lt, ix_le0, nI_tc, n_leT, n_leF, n_ltT, n_ltF, n_eqT, n_eqF, or_self, or_false, false_or, ↓reduceIte, ↓qz_letL, ↓qz_letI, qz_oc_s, qz_oc_n, Option.bind_some, ne10, not_false_eq_true, l_x, rC32 hC l hl]) hC) (fun N1 hM => GoM.of (by simp (disch := omega) only [fM_ofLoan, ↓bd (M_lo2 hM hl a1 ho), i_2, i_3, i_4, i_5, i_6, i_7, ix_2m, ix_6m, ix_4m, ix_m4, ix_1s, ix_s, ix_s2, ix_s9, ix_s7, ix_s5, ix_s1, nI_add, nI_p1, ix_n, ix_z, ix_1, ix_eq, ix_le, ix_lt, ix_le0, nI_tc, n_leT, n_leF, n_ltT, n_ltF, n_eqT, n_eqF, or_self, or_false, false_or, ↓reduceIte, ↓qz_letL, ↓qz_letI, qz_oc_s, qz_oc_n, Option.bind_some, ne10, not_false_eq_true, l_x, rM32 hM l hl]) hM) ok
  · exact Alike.mk' (r := lN (S 33 l 0)) hM (GoC.of (by simp (disch := omega) only [fE_ofLoan, ↓bd (E_lo2 hC hl a1 ho), i_2, i_3, i_4, i_5, i_6, i_7, ix_2m, ix_6m, ix_4m, ix_m4, ix_1s, ix_s, ix_s2, ix_s9, ix_s7, ix_s5, ix_s1, nI_add, nI_p1, ix_n, ix_z, ix_1, ix_eq, ix_le, ix_lt, ix_le0, nI_tc, n_leT, n_leF, n_ltT, n_ltF, n_eqT, n_eqF, or_self, or_false, false_or, ↓reduceIte, ↓qz_letL, ↓qz_letI, qz_oc_s, qz_oc_n, Option.bind_some, ne10, not_false_eq_true, l_x, rC33 hC l hl]) hC) (fun N1 hM => GoM.of (by simp (disch := omega) only [fM_ofLoan, ↓bd (M_lo2 hM hl a1 ho), i_2, i_3, i_4, i_5, i_6, i_7, ix_2m, ix_6m, ix_4m, ix_m4, ix_1s, ix_s, ix_s2, ix_s9, ix_s7, ix_s5, ix_s1, nI_add, nI_p1, ix_n, ix_z, ix_1, ix_eq, ix_le, ix_lt, ix_le0, nI_tc, n_leT, n_leF, n_ltT, n_ltF, n_eqT, n_eqF, or_self, or_false, false_or, ↓reduceIte, ↓qz_letL, ↓qz_letI, qz_oc_s, qz_oc_n, Option.bind_some, ne10, not_false_eq_true, l_x, rM33 hM l hl]) hM) ok
  · exact Alike.mk' (r := lN (S 34 l 0)) hM (GoC.of (by simp (disch := omega) only [fE_ofLoan, ↓bd (E_lo2 hC hl a1 ho), i_2, i_3, i_4, i_5, i_6, i_7, ix_2m, ix_6m, ix_4m, ix_m4, ix_1s, ix_s, ix_s2, ix_s9, ix_s7, ix_s5, ix_s1, nI_add, nI_p1, ix_n, ix_z, ix_1, ix_eq, ix_le, ix_lt, ix_le0, nI_tc, n_leT, n_leF, n_ltT, n_ltF, n_eqT, n_eqF, or_self, or_false, false_or, ↓reduceIte, ↓qz_letL, ↓qz_letI, qz_oc_s, qz_oc_n, Option.bind_some, ne10, not_false_eq_true, l_x, rC34 hC l hl]) hC) (fun N1 hM => GoM.of (by simp (disch := omega) only [fM_ofLoan, ↓bd (M_lo2 hM hl a1 ho), i_2, i_3, i_4, i_5, i_6, i_7, ix_2m, ix_6m, ix_4m, ix_m4, ix_1s, ix_s, ix_s2, ix_s9, ix_s7, ix_s5, ix_s1, nI_add, nI_p1, ix_n, ix_z, ix_1, ix_eq, ix_le, ix_lt, ix_le0, nI_tc, n_leT, n_leF, n_ltT, n_ltF, n_eqT, n_eqF, or_self, or_false, false_or, ↓reduceIte, ↓qz_letL, ↓qz_letI, qz_oc_s, qz_oc_n, Option.bind_some, ne10, not_false_eq_true, l_x, rM34 hM l hl]) hM) ok
  · exact Alike.mk' (r := lN (S 35 l 0)) hM (GoC.of (by simp (disch := omega) only [fE_ofLoan, ↓bd (E_lo2 hC hl a1 ho), i_2, i_3, i_4, i_5, i_6, i_7, ix_2m, ix_6m, ix_4m, ix_m4, ix_1s, ix_s, ix_s2, ix_s9, ix_s7, ix_s5, ix_s1, nI_add, nI_p1, ix_n, ix_z, ix_1, ix_eq, ix_le, ix_lt, ix_le0, nI_tc, n_leT, n_leF, n_ltT, n_ltF, n_eqT, n_eqF, or_self, or_false, false_or, ↓reduceIte, ↓qz_letL, ↓qz_letI, qz_oc_s, qz_oc_n, Option.bind_some, ne10, not_false_eq_true, l_x, rC35 hC l hl]) hC) (fun N1 hM => GoM.of (by simp (disch := omega) only [fM_ofLoan, ↓bd (M_lo2 hM hl a1 ho), i_2, i_3, i_4, i_5, i_6, i_7, ix_2m, ix_6m, ix_4m, ix_m4, ix_1s, ix_s, ix_s2, ix_s9, ix_s7, ix_s5, ix_s1, nI_add, nI_p1, ix_n, ix_z, ix_1, ix_eq, ix_le, ix_lt, ix_le0, nI_tc, n_leT, n_leF, n_ltT, n_ltF, n_eqT, n_eqF, or_self, or_false, false_or, ↓reduceIte, ↓qz_letL, ↓qz_letI, qz_oc_s, qz_oc_n, Option.bind_some, ne10, not_false_eq_true, l_x, rM35 hM l hl]) hM) ok
  · exact Alike.mk' (r := lN (S 36 l 0)) hM (GoC.of (by simp (disch := omega) only [fE_ofLoan, ↓bd (E_lo2 hC hl a1 ho), i_2, i_3, i_4, i_5, i_6, i_7, ix_2m, ix_6m, ix_4m, ix_m4, ix_1s, ix_s, ix_s2, ix_s9, ix_s7, ix_s5, ix_s1, nI_add, nI_p1, ix_n, ix_z, ix_1, ix_eq, ix_le, ix_lt, ix_le0, nI_tc, n_leT, n_leF, n_ltT, n_ltF, n_eqT, n_eqF, or_self, or_false, false_or, ↓reduceIte, ↓qz_letL, ↓qz_letI, qz_oc_s, qz_oc_n, Option.bind_some, ne10, not_false_eq_true, l_x, rC36 hC l hl]) hC) (fun N1 hM => GoM.of (by simp (disch := omega) only [fM_ofLoan, ↓bd (M_lo2 hM hl a1 ho), i_2, i_3, i_4, i_5, i_6, i_7, ix_2m, ix_6m, ix_4m, ix_m4, ix_1s, ix_s, ix_s2, ix_s9, ix_s7, ix_s5, ix_s1, nI_add, nI_p1, ix_n, ix_z, ix_1, ix_eq, ix_le, ix_lt, ix_le0, nI_tc, n_leT, n_leF, n_ltT, n_ltF, n_eqT, n_eqF, or_self, or_false, false_or, ↓reduceIte, ↓qz_letL, ↓qz_letI, qz_oc_s, qz_oc_n, Option.bind_some, ne10, not_false_eq_true, l_x, rM36 hM l hl]) hM) ok
  · refine Alike.mk' (r := lN (debt (S 4) (S 33) (S 34) (S 36) (S 29) l)) hM (GoC.of (by simp (disch := omega) only [fE_ofLoan, ↓bd (E_lo2 hC hl a1 ho), i_2, i_3, i_4, i_5, i_6, i_7, ix_2m, ix_6m, ix_4m, ix_m4, ix_1s, ix_s, ix_s2, ix_s9, ix_s7, ix_s5, ix_s1, nI_add, nI_p1, ix_n, ix_z, ix_1, ix_eq, ix_le, ix_lt, ix_le0, nI_tc, n_leT, n_leF, n_ltT, n_ltF, n_eqT, n_eqF, or_self, or_false, false_or, ↓reduceIte, ↓qz_letL, ↓qz_letI, qz_oc_s, qz_oc_n, Option.bind_some, ne10, not_false_eq_true, l_x, ↓bd (E_debt hC ok hl)]) hC) (fun N1 hM => ?_) ok
    simp (disch := omega) only [fM_ofLoan, ↓bd (M_lo2 hM hl a1 ho), i_2, i_3, i_4, i_5, i_6, i_7, ix_2m, ix_6m, ix_4m, ix_m4, ix_1s, ix_s, ix_s2, ix_s9, ix_s7, ix_s5, ix_s1, nI_add, nI_p1, ix_n, ix_z, ix_1, ix_eq, ix_le, ix_lt, ix_le0, nI_tc, n_leT, n_leF, n_ltT, n_ltF, n_eqT, n_eqF, or_self, or_false, false_or, ↓reduceIte, ↓qz_letL, ↓qz_letI, qz_oc_s, qz_oc_n, Option.bind_some, ne10, not_false_eq_true, l_x]
    exact GoM.scr (M_debt hM ok hl) hM KC.rf (fun N1 hM k1 => GoM.ret hM k1)
  · refine Alike.mk' (r := lN (valV S (S 33 l 0) (S 34 l 0) (S 35 l 0))) hM (GoC.of (by simp (disch := omega) only [fE_ofLoan, ↓bd (E_lo2 hC hl a1 ho), i_2, i_3, i_4, i_5, i_6, i_7, ix_2m, ix_6m, ix_4m, ix_m4, ix_1s, ix_s, ix_s2, ix_s9, ix_s7, ix_s5, ix_s1, nI_add, nI_p1, ix_n, ix_z, ix_1, ix_eq, ix_le, ix_lt, ix_le0, nI_tc, n_leT, n_leF, n_ltT, n_ltF, n_eqT, n_eqF, or_self, or_false, false_or, ↓reduceIte, ↓qz_letL, ↓qz_letI, qz_oc_s, qz_oc_n, Option.bind_some, ne10, not_false_eq_true, l_x, ↓bd (E_covV hC ok hl ho)]) hC) (fun N1 hM => ?_) ok
    simp (disch := omega) only [fM_ofLoan, ↓bd (M_lo2 hM hl a1 ho), i_2, i_3, i_4, i_5, i_6, i_7, ix_2m, ix_6m, ix_4m, ix_m4, ix_1s, ix_s, ix_s2, ix_s9, ix_s7, ix_s5, ix_s1, nI_add, nI_p1, ix_n, ix_z, ix_1, ix_eq, ix_le, ix_lt, ix_le0, nI_tc, n_leT, n_leF, n_ltT, n_ltF, n_eqT, n_eqF, or_self, or_false, false_or, ↓reduceIte, ↓qz_letL, ↓qz_letI, qz_oc_s, qz_oc_n, Option.bind_some, ne10, not_false_eq_true, l_x]
    exact GoM.scr (M_covV hM ok hl ho) hM KC.rf (fun N1 hM k1 => GoM.ret hM k1)
  · obtain ⟨v, ev, v1, v0⟩ := E_unc hC ok hl ho
    by_cases g : unc S l
    · obtain rfl := v1 g
      refine Alike.mk' (r := 1) hM (GoC.of (by simp (disch := omega) only [fE_ofLoan, ↓bd (E_lo2 hC hl a1 ho), i_2, i_3, i_4, i_5, i_6, i_7, ix_2m, ix_6m, ix_4m, ix_m4, ix_1s, ix_s, ix_s2, ix_s9, ix_s7, ix_s5, ix_s1, nI_add, nI_p1, ix_n, ix_z, ix_1, ix_eq, ix_le, ix_lt, ix_le0, nI_tc, n_leT, n_leF, n_ltT, n_ltF, n_eqT, n_eqF, or_self, or_false, false_or, ↓reduceIte, ↓qz_letL, ↓qz_letI, qz_oc_s, qz_oc_n, Option.bind_some, ne10, not_false_eq_true, l_x, ↓bd ev]) hC) (fun N1 hM => ?_) ok
      obtain ⟨w, ew, w1, w0⟩ := M_unc hM ok hl ho
      obtain rfl := w1 g
      simp (disch := omega) only [fM_ofLoan, ↓bd (M_lo2 hM hl a1 ho), i_2, i_3, i_4, i_5, i_6, i_7, ix_2m, ix_6m, ix_4m, ix_m4, ix_1s, ix_s, ix_s2, ix_s9, ix_s7, ix_s5, ix_s1, nI_add, nI_p1, ix_n, ix_z, ix_1, ix_eq, ix_le, ix_lt, ix_le0, nI_tc, n_leT, n_leF, n_ltT, n_ltF, n_eqT, n_eqF, or_self, or_false, false_or, ↓reduceIte, ↓qz_letL, ↓qz_letI, qz_oc_s, qz_oc_n, Option.bind_some, ne10, not_false_eq_true, l_x]
      refine GoM.scr ew hM KC.rf (fun N1 hM k1 => GoM.neg ne10 (GoM.ret hM k1))
    · obtain rfl := v0 g
      refine Alike.mk' (r := 0) hM (GoC.of (by simp (disch := omega) only [fE_ofLoan, ↓bd (E_lo2 hC hl a1 ho), i_2, i_3, i_4, i_5, i_6, i_7, ix_2m, ix_6m, ix_4m, ix_m4, ix_1s, ix_s, ix_s2, ix_s9, ix_s7, ix_s5, ix_s1, nI_add, nI_p1, ix_n, ix_z, ix_1, ix_eq, ix_le, ix_lt, ix_le0, nI_tc, n_leT, n_leF, n_ltT, n_ltF, n_eqT, n_eqF, or_self, or_false, false_or, ↓reduceIte, ↓qz_letL, ↓qz_letI, qz_oc_s, qz_oc_n, Option.bind_some, ne10, not_false_eq_true, l_x, ↓bd ev]) hC) (fun N1 hM => ?_) ok
      obtain ⟨w, ew, w1, w0⟩ := M_unc hM ok hl ho
      obtain rfl := w0 g
      simp (disch := omega) only [fM_ofLoan, ↓bd (M_lo2 hM hl a1 ho), i_2, i_3, i_4, i_5, i_6, i_7, ix_2m, ix_6m, ix_4m, ix_m4, ix_1s, ix_s, ix_s2, ix_s9, ix_s7, ix_s5, ix_s1, nI_add, nI_p1, ix_n, ix_z, ix_1, ix_eq, ix_le, ix_lt, ix_le0, nI_tc, n_leT, n_leF, n_ltT, n_ltF, n_eqT, n_eqF, or_self, or_false, false_or, ↓reduceIte, ↓qz_letL, ↓qz_letI, qz_oc_s, qz_oc_n, Option.bind_some, ne10, not_false_eq_true, l_x]
      refine GoM.scr ew hM KC.rf (fun N1 hM k1 => GoM.pos rfl (GoM.ret hM k1))
