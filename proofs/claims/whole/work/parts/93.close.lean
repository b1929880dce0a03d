def gV (x y cov due : Nat) : Nat := if x = 0 ∨ y = 0 then cov else min cov (cdiv (due * x) y)
theorem gV_le {x y cov due : Nat} : gV x y cov due ≤ cov := by
  unfold gV; split <;> omega
theorem cdiv_dq {m y : Nat} (h : 0 < y) : m / y ≤ cdiv m y ∧ cdiv m y ≤ m / y + 1 := by
  rw [cdiv_eq h]; split <;> omega
theorem E_gets {N : qz_N} {S : St} (hC : RC N S) {c i j due cov : Nat} (ok : Ok c S) (hi : i < 6) (hj : j < 2) (hd : due < 1000000000000000000) (hc : cov ≤ 100000000000000) : ∃ LV : Int64, fP_leastOfValue i (nI j) (lN due) N = some (LV, N) ∧ (if LV < lN cov then LV else lN cov) = lN (gV (S 7 i j) (S 7 i (1 - j)) cov due) := by
  have b0 := ok.res hi hj
  have b1 := ok.res hi (j := 1 - j) (by omega)
  have e1 : fP_reserveAt i (1 - nI j) N = some (lN (S 7 i (1 - j)), N) := by rw [ix_1s (by omega)]; exact E_resAt hC hi (by omega)
  have nm : ¬ (9223372036854775807 < cov) := by omega
  by_cases z : S 7 i j = 0 ∨ S 7 i (1 - j) = 0
  · refine ⟨lN 9223372036854775807, ?_, ?_⟩
    · unfold fP_leastOfValue
      rw [bd (E_resAt hC hi hj)]
      show Option.bind (fP_reserveAt i (1 - nI j) N) _ = _
      rw [bd e1]
      show (if lN (S 7 i j) = 0 then _ else if lN (S 7 i (1 - j)) = 0 then _ else _) = _
      rw [l_0, ifc (l_eq (by omega) (by omega)), ifc (l_eq (by omega) (by omega))]
      rcases z with z | z
      · rw [if_pos z]; rfl
      · rw [if_pos z, ite_self]; rfl
    · rw [ifc (l_lt (by omega) (by omega)), if_neg nm]
      unfold gV
      rw [if_pos z]
  · have z0 : S 7 i j ≠ 0 := fun h => z (Or.inl h)
    have z1 : S 7 i (1 - j) ≠ 0 := fun h => z (Or.inr h)
    have eA := A_timesOverUp (a := due) (b := S 7 i j) (d := S 7 i (1 - j)) (by omega) (by omega) (by omega) (by omega) N
    have dq := cdiv_dq (m := due * S 7 i j) (y := S 7 i (1 - j)) (by omega)
    refine ⟨lN (if due * S 7 i j / S 7 i (1 - j) < 9223372036854775807 then cdiv (due * S 7 i j) (S 7 i (1 - j)) else 9223372036854775807), ?_, ?_⟩
    rotate_left
    · unfold gV
      rw [if_neg z]
      generalize due * S 7 i j / S 7 i (1 - j) = q at *
      generalize cdiv (due * S 7 i j) (S 7 i (1 - j)) = w at *
      rw [ifc (l_lt (a := if q < 9223372036854775807 then w else 9223372036854775807) (by split <;> omega) (by omega)), l_ite]
      rw [show (if (if q < 9223372036854775807 then w else 9223372036854775807) < cov then (if q < 9223372036854775807 then w else 9223372036854775807) else cov) = min cov w by (repeat' split) <;> omega]
    · unfold fP_leastOfValue
      rw [bd (E_resAt hC hi hj)]
      show Option.bind (fP_reserveAt i (1 - nI j) N) _ = _
      rw [bd e1]
      show (if lN (S 7 i j) = 0 then _ else if lN (S 7 i (1 - j)) = 0 then _ else _) = _
      rw [l_0, ifc (l_eq (by omega) (by omega)), ifc (l_eq (by omega) (by omega)), if_neg z0, if_neg z1]
      exact bd eA _
def cM_close2 (o : Nat) (x1 x2 t : Int32) (d due v15 v16 v17 : Int64) (N : qz_N) : Option (Int64 × qz_N) :=
    if v15 ≤ (0 : Int64) then
      fM_close_243 o N x1 x2 t d v17
    else
    if v16 ≤ (0 : Int64) then
      fM_close_243 o N x1 x2 t d v17
    else
    if (1000000000000000000 : Int64) < due then
      fM_close_243 o N x1 x2 t d v17
    else
    (fM_begin o due N).bind fun q30 =>
    (fM_times o v15 q30.2).bind fun q32 =>
    (fM_over o v16 q32.2).bind fun q34 =>
    if (qz_gl q34.2 7 o 41) ≤ (0 : Int64) then
      fM_close_181 o q34.2 x1 x2 t d v16 v17 q34.1 (0 : Int32)
    else
    fM_close_181 o q34.2 x1 x2 t d v16 v17 q34.1 (1 : Int32)
theorem fM_close_cut (o : Nat) (x1 : Int32) (x2 : Int32) (N : qz_N) : fM_close o x1 x2 N =
  (fM_isPlayer x1 N).bind fun q1 =>
  if q1.1 = 0 then
    some ((-2 : Int64), q1.2)
  else
  (fM_isOpen o x2 q1.2).bind fun q3 =>
  if q3.1 = 0 then
    some ((-2 : Int64), q3.2)
  else
  (fM_debtToken o x2 q3.2).bind fun q5 =>
  (fM_debtOf o x2 q5.2).bind fun q7 =>
  (fM_isUncovered o x2 q7.2).bind fun q9 =>
  if q9.1 = 0 then
    some ((-3 : Int64), q9.2)
  else
  (fM_has o x1 q5.1 q9.2).bind fun q11 =>
  if q7.1 ≤ q11.1 then
    (fM_partUp o q7.1 (105 : Int64) (100 : Int64) q11.2).bind fun q13 =>
    if x2 < 0 ∨ 10 ≤ x2.toNatClampNeg then none else
    if x2 < 0 ∨ 10 ≤ x2.toNatClampNeg then none else
    if (((2 : Int32) * (qz_gi q13.2 48 o x2.toNatClampNeg)) + (qz_gi q13.2 49 o x2.toNatClampNeg)) < 0 ∨ 12 ≤ (((2 : Int32) * (qz_gi q13.2 48 o x2.toNatClampNeg)) + (qz_gi q13.2 49 o x2.toNatClampNeg)).toNatClampNeg then none else
    qz_let (qz_gl q13.2 27 o (((2 : Int32) * (qz_gi q13.2 48 o x2.toNatClampNeg)) + (qz_gi q13.2 49 o x2.toNatClampNeg)).toNatClampNeg) fun v15 =>
    if x2 < 0 ∨ 10 ≤ x2.toNatClampNeg then none else
    if x2 < 0 ∨ 10 ≤ x2.toNatClampNeg then none else
    if ((((2 : Int32) * (qz_gi q13.2 48 o x2.toNatClampNeg)) + (1 : Int32)) - (qz_gi q13.2 49 o x2.toNatClampNeg)) < 0 ∨ 12 ≤ ((((2 : Int32) * (qz_gi q13.2 48 o x2.toNatClampNeg)) + (1 : Int32)) - (qz_gi q13.2 49 o x2.toNatClampNeg)).toNatClampNeg then none else
    qz_let (qz_gl q13.2 27 o ((((2 : Int32) * (qz_gi q13.2 48 o x2.toNatClampNeg)) + (1 : Int32)) - (qz_gi q13.2 49 o x2.toNatClampNeg)).toNatClampNeg) fun v16 =>
    if x2 < 0 ∨ 10 ≤ x2.toNatClampNeg then none else
    qz_let (qz_gl q13.2 50 o x2.toNatClampNeg) fun v17 =>
    cM_close2 o x1 x2 q5.1 q7.1 q13.1 v15 v16 v17 q13.2
  else
  some ((-3 : Int64), q11.2) := rfl
theorem l_le0 {a : Nat} (h : a < 9223372036854775808) : (lN a ≤ (0 : Int64)) = (a = 0) := by
  rw [l_0, l_le h (by decide)]; exact propext Nat.le_zero
theorem M_gets {N N0 : qz_N} {S : St} (hM : RM N S) (k0 : KC N0 N) {l x y cov due : Nat} (hl : l < 10) (hx : x ≤ 100000000000000) (hy : y ≤ 100000000000000) (hd : due < 1000000000000000000) (hc : cov ≤ 100000000000000) (ec : S 35 l 0 = cov) {x1 t : Int32} {d r : Int64} {S' : St} (g : ∀ N1, RM N1 S → KC N0 N1 → GoM N0 (fM_close_243 0 N1 x1 (nI l) t d (lN (gV x y cov due))) r S') : GoM N0 (cM_close2 0 x1 (nI l) t d (lN due) (lN x) (lN y) (lN cov) N) r S' := by
  unfold cM_close2
  rw [ifc (l_le0 (by omega)), ifc (l_le0 (by omega))]
  by_cases z0 : x = 0
  · rw [if_pos z0]
    unfold gV at g
    rw [if_pos (Or.inl z0)] at g
    exact g N hM k0
  rw [if_neg z0]
  by_cases z1 : y = 0
  · rw [if_pos z1]
    unfold gV at g
    rw [if_pos (Or.inr z1)] at g
    exact g N hM k0
  rw [if_neg z1, l_ex, ifc (l_lt (by decide) (by omega)), if_neg (by omega)]
  have c1 : due * x ≤ 1000000000000000000 * 100000000000000 := Nat.mul_le_mul (by omega) hx
  have c2 : cov * y ≤ 100000000000000 * 100000000000000 := Nat.mul_le_mul hc hy
  obtain ⟨N1, e1, s1, r1, -⟩ := ar_begin (N := N) due (by omega)
  obtain ⟨N2, e2, s2, r2, -⟩ := ar_times x (by omega) r1 (by rw [BB6]; omega)
  obtain ⟨N3, e3, s3, m3, k3⟩ := M_over (D := y) r2 (by rw [pw180]; exact Nat.div_eq_of_lt (by omega)) (by omega) (by omega)
  have r3 : ar N3 52 6 (dg (due * x)) := ar_keep r2 (fun j => k3 52 0 j (by omega))
  rw [bd e1]
  show GoM N0 (Option.bind (fM_times 0 (lN x) N1) _) r S'
  rw [bd e2]
  show GoM N0 (Option.bind (fM_over 0 (lN y) N2) _) r S'
  rw [bd e3]
  show GoM N0 (if qz_gl N3 7 0 41 ≤ 0 then fM_close_181 0 N3 x1 (nI l) t d (lN y) (lN cov) (lN (qcap (due * x / y))) 0 else fM_close_181 0 N3 x1 (nI l) t d (lN y) (lN cov) (lN (qcap (due * x / y))) 1) r S'
  have hr := Nat.mod_lt (due * x) (show 0 < y by omega)
  rw [m3, ifc (l_le0 (by omega))]
  have hM3 := hM.scr ((s1.tr s2).tr s3)
  have k3' := k0.tr ((s1.tr s2).tr s3).KC
  have key : ∀ b : Int32, (b = 0 ↔ due * x % y = 0) → GoM N0 (fM_close_181 0 N3 x1 (nI l) t d (lN y) (lN cov) (lN (qcap (due * x / y))) b) r S' := by
    intro b hb
    obtain ⟨N4, e4, s4, r4, -⟩ := M_keepBig r3
    obtain ⟨N5, e5, s5, r5, k5⟩ := ar_begin (N := N4) cov (by omega)
    obtain ⟨N6, e6, s6, r6, k6⟩ := ar_times y (by omega) r5 (by rw [BB6]; omega)
    have r7 : ar N6 53 6 (dg (due * x)) := ar_keep (ar_keep r4 (fun q => k5 53 0 q (by decide))) (fun q => k6 53 0 q (by decide) (by decide) (by decide))
    have e7 := M_less r7 r6 (by rw [BB6]; omega) (by rw [BB6]; omega)
    have e8 := M_isAlike r7 r6 (by rw [BB6]; omega) (by rw [BB6]; omega)
    have hM4 := hM3.scr s4
    have hM6 := (hM4.scr s5).scr s6
    have k6' := k3'.tr ((s4.tr s5).tr s6).KC
    unfold fM_close_181
    rw [bd e4]
    show GoM N0 (if nI l < 0 ∨ 10 ≤ (nI l).toNatClampNeg then none else (fM_begin 0 (qz_gl N4 50 0 (nI l).toNatClampNeg) N4).bind _) r S'
    rw [if_neg (nI_ok (n := 10) hl (by decide)), nI_tc (by omega), rM35 hM4 l hl, ec, bd e5]
    show GoM N0 (Option.bind (fM_times 0 (lN y) N5) _) r S'
    rw [bd e6]
    show GoM N0 (Option.bind (fM_keptIsLess 0 N6) _) r S'
    rw [bd e7]
    have tail : due * x ≤ cov * y → GoM N0 (fM_close_217 0 N6 x1 (nI l) t d (lN cov) (lN (qcap (due * x / y))) b) r S' := by
      intro hle
      have q1 : due * x / y ≤ cov := mq_lt (by omega) hle
      have q2 := cdiv_le (s := y) (by omega) hle
      have q3 := cdiv_eq (a := due * x) (d := y) (by omega)
      have qc : qcap (due * x / y) = due * x / y := by unfold qcap; rw [if_pos (by omega)]
      unfold gV at g
      rw [if_neg (by omega), Nat.min_eq_right q2] at g
      unfold fM_close_217
      rw [qc]
      have fin : ∀ w, w = cdiv (due * x) y → GoM N0 (fM_close_233 0 N6 x1 (nI l) t d (lN w) (lN cov)) r S' := by
        rintro w rfl
        unfold fM_close_233 fM_least
        rw [ifc (l_le (by omega) (by omega)), if_pos q2]
        exact g N6 hM6 k6'
      by_cases c3 : due * x % y = 0
      · rw [if_pos (hb.mpr c3)]
        rw [if_pos c3] at q3
        exact fin _ q3.symm
      · rw [if_neg (fun z => c3 (hb.mp z)), l_1, lN_add]
        rw [if_neg c3] at q3
        exact fin _ q3.symm
    by_cases c4 : due * x < cov * y
    · rw [if_pos c4]
      exact tail (by omega)
    · rw [if_neg c4]
      show GoM N0 (Option.bind (fM_isAlike 0 N6) _) r S'
      rw [bd e8]
      by_cases c5 : due * x = cov * y
      · rw [if_pos c5]
        exact tail (by omega)
      · rw [if_neg c5]
        have q4 : cov ≤ cdiv (due * x) y := by
          have := (cdiv_dq (m := due * x) (y := y) (by omega)).1
          have : cov ≤ due * x / y := by rw [Nat.le_div_iff_mul_le (by omega)]; omega
          omega
        unfold gV at g
        rw [if_neg (by omega), Nat.min_eq_left q4] at g
        exact g N6 hM6 k6'
  by_cases c3 : due * x % y = 0
  · rw [if_pos c3]
    exact key 0 ⟨fun _ => c3, fun _ => rfl⟩
  · rw [if_neg c3]
    exact key 1 ⟨fun z => absurd z ne10, fun z => absurd z c3⟩
def cE_close2 (o : Nat) (j4 : Nat) (x1 t : Int32) (d : Int64) (N : qz_N) : Option (Int64 × qz_N) :=
      (fA_timesOverUp d (105 : Int64) (100 : Int64) N).bind fun q17 =>
      if (qz_gi q17.2 6 j4 2) < 0 ∨ 6 ≤ (qz_gi q17.2 6 j4 2).toNatClampNeg then none else
      (fP_leastOfValue ((qz_gi q17.2 6 j4 2).toNatClampNeg) (qz_gi q17.2 6 j4 3) q17.1 q17.2).bind fun q20 =>
      qz_let (if q20.1 < (qz_gl q17.2 6 j4 4) then q20.1 else (qz_gl q17.2 6 j4 4)) fun v22 =>
      (fU_take o x1 t d q20.2).bind fun q23 =>
      if t < 0 ∨ 4 ≤ t.toNatClampNeg then none else
      qz_let (qz_sl q23.2 5 t.toNatClampNeg 1 ((qz_gl q23.2 5 t.toNatClampNeg 1) + d)) fun N26 =>
      (fE_coverToken o j4 N26).bind fun q27 =>
      (fU_give o x1 q27.1 v22 q27.2).bind fun q29 =>
      (fE_coverToken o j4 q29.2).bind fun q31 =>
      (fU_give o (qz_gi q29.2 6 j4 1) q31.1 ((qz_gl q31.2 6 j4 4) - v22) q31.2).bind fun q33 =>
      qz_let (qz_si q33.2 6 j4 0 (0 : Int32)) fun N35 =>
      some (v22, N35)
theorem fE_close_cut (o : Nat) (x1 : Int32) (x2 : Int32) (N : qz_N) : fE_close o x1 x2 N =
  (fE_loanAt o x2 N).bind fun q1 => qz_oc q1
    (fun N3 =>
    (fE_isPlayer x1 N3).bind fun q5 =>
    if q5.1 = 0 then
      some ((-2 : Int64), q5.2)
    else
    some ((-2 : Int64), q5.2))
    fun N3 j4 =>
    (fE_isPlayer x1 N3).bind fun q7 =>
    if q7.1 = 0 then
      some ((-2 : Int64), q7.2)
    else
    (fE_debtOf o j4 q7.2).bind fun q9 =>
    (fE_debtToken o j4 q9.2).bind fun q11 =>
    (fE_isUncovered o j4 q11.2).bind fun q13 =>
    if q13.1 = 0 then
      some ((-3 : Int64), q13.2)
    else
    (fU_held o x1 q11.1 q13.2).bind fun q15 =>
    if q9.1 ≤ q15.1 then cE_close2 o j4 x1 q11.1 q9.1 q15.2
    else
    some ((-3 : Int64), q15.2) := rfl
theorem op_close {N : qz_N} {S : St} {c : Nat} (ok : Ok c S) (hC : RC N S) (hM : RM N S) (y x : Int32) : Alike N (fE_close 0 y x) (fM_close 0 y x) (Ok c) := by
  rcases ixc y (n := 6) (by decide) with hy | ⟨p, hp, rfl⟩
  · refine Alike.mk' (r := -2) hM (GoC.of ?_ hC) (fun N1 hM => GoM.of (by simp (disch := omega) only [fM_close_cut, ↓bd (M_pl0 hy _), ix_2m, ix_6m, ix_4m, ix_m4, ix_1s, ix_s, ix_s2, ix_s9, ix_s7, ix_s5, ix_s1, nI_add, nI_p1, ix_n, ix_z, ix_1, ix_eq, ix_le, ix_lt, ix_le0, nI_tc, n_leT, n_leF, n_ltT, n_ltF, n_eqT, n_eqF, or_self, or_false, false_or, ↓reduceIte, ↓qz_letL, ↓qz_letI, qz_oc_s, qz_oc_n, Option.bind_some, ne10, not_false_eq_true, l_x]) hM) ok
    rcases loc ok x with ⟨g1, g2⟩ | ⟨l, hl, ho, rfl⟩
    · simp (disch := omega) only [fE_close_cut, ↓bd (g1 _ hC), ↓bd (E_pl0 hy _), ix_2m, ix_6m, ix_4m, ix_m4, ix_1s, ix_s, ix_s2, ix_s9, ix_s7, ix_s5, ix_s1, nI_add, nI_p1, ix_n, ix_z, ix_1, ix_eq, ix_le, ix_lt, ix_le0, nI_tc, n_leT, n_leF, n_ltT, n_ltF, n_eqT, n_eqF, or_self, or_false, false_or, ↓reduceIte, ↓qz_letL, ↓qz_letI, qz_oc_s, qz_oc_n, Option.bind_some, ne10, not_false_eq_true, l_x]
    · simp (disch := omega) only [fE_close_cut, ↓bd (E_lo2 hC hl (ok.2.2.2.2.2.2 l hl).1 ho), ↓bd (E_pl0 hy _), ix_2m, ix_6m, ix_4m, ix_m4, ix_1s, ix_s, ix_s2, ix_s9, ix_s7, ix_s5, ix_s1, nI_add, nI_p1, ix_n, ix_z, ix_1, ix_eq, ix_le, ix_lt, ix_le0, nI_tc, n_leT, n_leF, n_ltT, n_ltF, n_eqT, n_eqF, or_self, or_false, false_or, ↓reduceIte, ↓qz_letL, ↓qz_letI, qz_oc_s, qz_oc_n, Option.bind_some, ne10, not_false_eq_true, l_x]
  rcases loc ok x with ⟨g1, g2⟩ | ⟨l, hl, ho, rfl⟩
  · exact Alike.mk' (r := -2) hM (GoC.of (by simp (disch := omega) only [fE_close_cut, ↓bd (g1 _ hC), ↓bd (E_pl1 hp _), ix_2m, ix_6m, ix_4m, ix_m4, ix_1s, ix_s, ix_s2, ix_s9, ix_s7, ix_s5, ix_s1, nI_add, nI_p1, ix_n, ix_z, ix_1, ix_eq, ix_le, ix_lt, ix_le0, nI_tc, n_leT, n_leF, n_ltT, n_ltF, n_eqT, n_eqF, or_self, or_false, false_or, ↓reduceIte, ↓qz_letL, ↓qz_letI, qz_oc_s, qz_oc_n, Option.bind_some, ne10, not_false_eq_true, l_x]) hC) (fun N1 hM => GoM.of (by simp (disch := omega) only [fM_close_cut, ↓bd (M_pl1 hp _), ↓bd (g2 _ hM), ix_2m, ix_6m, ix_4m, ix_m4, ix_1s, ix_s, ix_s2, ix_s9, ix_s7, ix_s5, ix_s1, nI_add, nI_p1, ix_n, ix_z, ix_1, ix_eq, ix_le, ix_lt, ix_le0, nI_tc, n_leT, n_leF, n_ltT, n_ltF, n_eqT, n_eqF, or_self, or_false, false_or, ↓reduceIte, ↓qz_letL, ↓qz_letI, qz_oc_s, qz_oc_n, Option.bind_some, ne10, not_false_eq_true, l_x]) hM) ok
  obtain ⟨a1, a2, a3, a4, a5, a6⟩ := ok.2.2.2.2.2.2 l hl
  have ht := ok.dt hl
  have hc := ok.ct hl
  have db := (debt_b ok hl).2
  have bb := ok.bal hp ht
  have cb := ok.cov hl ho
  have eD := E_debt hC ok hl
  have et := E_debTok hC ok hl
  have mD := fun N1 (hM : RM N1 S) => M_debt hM ok hl
  have mt := fun N1 (hM : RM N1 S) => M_debTok hM ok hl
  obtain ⟨v, ev, v1, v0⟩ := E_unc hC ok hl ho
  by_cases g : unc S l
  case neg =>
    obtain rfl := v0 g
    refine Alike.mk' (r := -3) hM (GoC.of (by simp (disch := omega) only [fE_close_cut, ↓bd (E_lo2 hC hl a1 ho), ↓bd (E_pl1 hp _), ↓bd eD, ↓bd et, ↓bd ev, ix_2m, ix_6m, ix_4m, ix_m4, ix_1s, ix_s, ix_s2, ix_s9, ix_s7, ix_s5, ix_s1, nI_add, nI_p1, ix_n, ix_z, ix_1, ix_eq, ix_le, ix_lt, ix_le0, nI_tc, n_leT, n_leF, n_ltT, n_ltF, n_eqT, n_eqF, or_self, or_false, false_or, ↓reduceIte, ↓qz_letL, ↓qz_letI, qz_oc_s, qz_oc_n, Option.bind_some, ne10, not_false_eq_true, l_x]) hC) (fun N1 hM => ?_) ok
    simp (disch := omega) only [fM_close_cut, ↓bd (M_pl1 hp _), ↓bd (M_lo2 hM hl a1 ho), ↓bd (mt _ hM), ix_2m, ix_6m, ix_4m, ix_m4, ix_1s, ix_s, ix_s2, ix_s9, ix_s7, ix_s5, ix_s1, nI_add, nI_p1, ix_n, ix_z, ix_1, ix_eq, ix_le, ix_lt, ix_le0, nI_tc, n_leT, n_leF, n_ltT, n_ltF, n_eqT, n_eqF, or_self, or_false, false_or, ↓reduceIte, ↓qz_letL, ↓qz_letI, qz_oc_s, qz_oc_n, Option.bind_some, ne10, not_false_eq_true, l_x]
    refine GoM.scr (mD _ hM) hM KC.rf (fun N1 hM k1 => ?_)
    obtain ⟨w, ew, w1, w0⟩ := M_unc hM ok hl ho
    obtain rfl := w0 g
    exact GoM.scr ew hM k1 (fun N1 hM k1 => GoM.pos rfl (GoM.ret hM k1))
  obtain rfl := v1 g
  by_cases ha : debt (S 4) (S 33) (S 34) (S 36) (S 29) l ≤ S 0 p (dt (S 4) (S 33) (S 34) l)
  case neg =>
    refine Alike.mk' (r := -3) hM (GoC.of (by simp (disch := omega) only [fE_close_cut, ↓bd (E_lo2 hC hl a1 ho), ↓bd (E_pl1 hp _), ↓bd eD, ↓bd et, ↓bd ev, ↓bd (E_held hC hp ht), ix_2m, ix_6m, ix_4m, ix_m4, ix_1s, ix_s, ix_s2, ix_s9, ix_s7, ix_s5, ix_s1, nI_add, nI_p1, ix_n, ix_z, ix_1, ix_eq, ix_le, ix_lt, ix_le0, nI_tc, n_leT, n_leF, n_ltT, n_ltF, n_eqT, n_eqF, or_self, or_false, false_or, ↓reduceIte, ↓qz_letL, ↓qz_letI, qz_oc_s, qz_oc_n, Option.bind_some, ne10, not_false_eq_true, l_x, l_le]) hC) (fun N1 hM => ?_) ok
    simp (disch := omega) only [fM_close_cut, ↓bd (M_pl1 hp _), ↓bd (M_lo2 hM hl a1 ho), ↓bd (mt _ hM), ix_2m, ix_6m, ix_4m, ix_m4, ix_1s, ix_s, ix_s2, ix_s9, ix_s7, ix_s5, ix_s1, nI_add, nI_p1, ix_n, ix_z, ix_1, ix_eq, ix_le, ix_lt, ix_le0, nI_tc, n_leT, n_leF, n_ltT, n_ltF, n_eqT, n_eqF, or_self, or_false, false_or, ↓reduceIte, ↓qz_letL, ↓qz_letI, qz_oc_s, qz_oc_n, Option.bind_some, ne10, not_false_eq_true, l_x]
    refine GoM.scr (mD _ hM) hM KC.rf (fun N1 hM k1 => ?_)
    obtain ⟨w, ew, w1, w0⟩ := M_unc hM ok hl ho
    obtain rfl := w1 g
    refine GoM.scr ew hM k1 (fun N1 hM k1 => GoM.neg ne10 ?_)
    simp (disch := omega) only [↓bd (M_has hM hp ht), l_le, ix_2m, ix_6m, ix_4m, ix_m4, ix_1s, ix_s, ix_s2, ix_s9, ix_s7, ix_s5, ix_s1, nI_add, nI_p1, ix_n, ix_z, ix_1, ix_eq, ix_le, ix_lt, ix_le0, nI_tc, n_leT, n_leF, n_ltT, n_ltF, n_eqT, n_eqF, or_self, or_false, false_or, ↓reduceIte, ↓qz_letL, ↓qz_letI, qz_oc_s, qz_oc_n, Option.bind_some, ne10, not_false_eq_true, l_x]
    exact GoM.ret hM k1
  have j2 : S 34 l 0 < 2 := by omega
  have b0 := ok.res a3 j2
  have b1 := ok.res a3 (j := 1 - S 34 l 0) (by omega)
  have hq : debt (S 4) (S 33) (S 34) (S 36) (S 29) l * 105 / 100 < 9223372036854775807 := by omega
  have eU := A_timesOverUp' (a := debt (S 4) (S 33) (S 34) (S 36) (S 29) l) (b := 105) (d := 100) (by omega) (by decide) (by decide) (by decide) hq N
  have mU := fun N1 => M_partUp (a := debt (S 4) (S 33) (S 34) (S 36) (S 29) l) (b := 105) (d := 100) (by omega) (by decide) (by decide) (by decide) hq N1
  have due_b : cdiv (debt (S 4) (S 33) (S 34) (S 36) (S 29) l * 105) 100 < 1000000000000000000 := by
    have := (cdiv_dq (m := debt (S 4) (S 33) (S 34) (S 36) (S 29) l * 105) (y := 100) (by decide)).2
    omega
  obtain ⟨LV, e1, e2⟩ := E_gets hC (due := cdiv (debt (S 4) (S 33) (S 34) (S 36) (S 29) l * 105) 100) (cov := S 35 l 0) ok a3 j2 due_b cb
  have mG := fun N1 N0 (hM : RM N1 S) (k0 : KC N0 N1) (x1 t : Int32) (d r : Int64) (S' : St) => M_gets hM k0 hl b0 b1 due_b cb rfl (x1 := x1) (t := t) (d := d) (r := r) (S' := S')
  have gle := gV_le (x := S 7 (S 33 l 0) (S 34 l 0)) (y := S 7 (S 33 l 0) (1 - S 34 l 0)) (cov := S 35 l 0) (due := cdiv (debt (S 4) (S 33) (S 34) (S 36) (S 29) l * 105) 100)
  generalize gV (S 7 (S 33 l 0) (S 34 l 0)) (S 7 (S 33 l 0) (1 - S 34 l 0)) (S 35 l 0) (cdiv (debt (S 4) (S 33) (S 34) (S 36) (S 29) l * 105) 100) = G at *
  generalize cdiv (debt (S 4) (S 33) (S 34) (S 36) (S 29) l * 105) 100 = due at *
  obtain ⟨S1, hS1⟩ : ∃ S1 : St, S1 = qz_u3 (qz_u3 S 0 p (dt (S 4) (S 33) (S 34) l) (S 0 p (dt (S 4) (S 33) (S 34) l) - debt (S 4) (S 33) (S 34) (S 36) (S 29) l)) 26 (dt (S 4) (S 33) (S 34) l) 0 (S 26 (dt (S 4) (S 33) (S 34) l) 0 + debt (S 4) (S 33) (S 34) (S 36) (S 29) l) := ⟨_, rfl⟩
  obtain ⟨S2, hS2⟩ : ∃ S2 : St, S2 = qz_u3 S1 0 p (ct (S 4) (S 33) (S 34) l) (S1 0 p (ct (S 4) (S 33) (S 34) l) + G) := ⟨_, rfl⟩
  have ke := ok_end (g := G) (w := S 36 l 0) (S1 := S1) (S2 := S2) ok hp a2 hl ho ha gle a5 (by rw [u3_id (f := 36) (by simp (disch := omega) only [u3_f, u3_s, u3_i, u3_j]), hS1]) hS2
  have f1 : S1 4 = S 4 ∧ S1 32 = S 32 ∧ S1 33 = S 33 ∧ S1 34 = S 34 ∧ S1 35 = S 35 := by
    rw [hS1]
    refine ⟨?_, ?_, ?_, ?_, ?_⟩ <;> simp (disch := omega) only [u3_f]
  have f2 : S2 4 = S 4 ∧ S2 32 = S 32 ∧ S2 33 = S 33 ∧ S2 34 = S 34 ∧ S2 35 = S 35 := by
    rw [hS2]
    simp (disch := omega) only [u3_f]
    exact f1
  have ct1 : ∀ N, RC N S1 → fE_coverToken 0 l N = some (nI (ct (S 4) (S 33) (S 34) l), N) := by
    intro N hC
    simp (disch := omega) only [fE_coverToken, ix_2m, ix_6m, ix_4m, ix_m4, ix_1s, ix_s, ix_s2, ix_s9, ix_s7, ix_s5, ix_s1, nI_add, nI_p1, ix_n, ix_z, ix_1, ix_eq, ix_le, ix_lt, ix_le0, nI_tc, n_leT, n_leF, n_ltT, n_ltF, n_eqT, n_eqF, or_self, or_false, false_or, ↓reduceIte, ↓qz_letL, ↓qz_letI, qz_oc_s, qz_oc_n, Option.bind_some, ne10, not_false_eq_true, l_x, rC33 hC l hl, rC34 hC l hl, f1]
    rw [bd (E_tokAt hC a3 j2), f1.1]
    rfl
  have ct2 : ∀ N, RC N S2 → fE_coverToken 0 l N = some (nI (ct (S 4) (S 33) (S 34) l), N) := by
    intro N hC
    simp (disch := omega) only [fE_coverToken, ix_2m, ix_6m, ix_4m, ix_m4, ix_1s, ix_s, ix_s2, ix_s9, ix_s7, ix_s5, ix_s1, nI_add, nI_p1, ix_n, ix_z, ix_1, ix_eq, ix_le, ix_lt, ix_le0, nI_tc, n_leT, n_leF, n_ltT, n_ltF, n_eqT, n_eqF, or_self, or_false, false_or, ↓reduceIte, ↓qz_letL, ↓qz_letI, qz_oc_s, qz_oc_n, Option.bind_some, ne10, not_false_eq_true, l_x, rC33 hC l hl, rC34 hC l hl, f2]
    rw [bd (E_tokAt hC a3 j2), f2.1]
    rfl
  have mt1 : ∀ N, RM N S1 → fM_coverToken 0 (nI l) N = some (nI (ct (S 4) (S 33) (S 34) l), N) := by
    intro N hM
    simp (disch := omega) only [fM_coverToken, ix_2m, ix_6m, ix_4m, ix_m4, ix_1s, ix_s, ix_s2, ix_s9, ix_s7, ix_s5, ix_s1, nI_add, nI_p1, ix_n, ix_z, ix_1, ix_eq, ix_le, ix_lt, ix_le0, nI_tc, n_leT, n_leF, n_ltT, n_ltF, n_eqT, n_eqF, or_self, or_false, false_or, ↓reduceIte, ↓qz_letL, ↓qz_letI, qz_oc_s, qz_oc_n, Option.bind_some, ne10, not_false_eq_true, l_x, rM33 hM l hl, rM34 hM l hl, f1]
    rw [rM4 hM (S 33 l 0) (S 34 l 0) a3 j2, f1.1]
    rfl
  have mt2 : ∀ N, RM N S2 → fM_coverToken 0 (nI l) N = some (nI (ct (S 4) (S 33) (S 34) l), N) := by
    intro N hM
    simp (disch := omega) only [fM_coverToken, ix_2m, ix_6m, ix_4m, ix_m4, ix_1s, ix_s, ix_s2, ix_s9, ix_s7, ix_s5, ix_s1, nI_add, nI_p1, ix_n, ix_z, ix_1, ix_eq, ix_le, ix_lt, ix_le0, nI_tc, n_leT, n_leF, n_ltT, n_ltF, n_eqT, n_eqF, or_self, or_false, false_or, ↓reduceIte, ↓qz_letL, ↓qz_letI, qz_oc_s, qz_oc_n, Option.bind_some, ne10, not_false_eq_true, l_x, rM33 hM l hl, rM34 hM l hl, f2]
    rw [rM4 hM (S 33 l 0) (S 34 l 0) a3 j2, f2.1]
    rfl
  refine Alike.mk' (r := lN G) hM ?_ (fun N1 hM => ?_) ke
  · simp (disch := omega) only [fE_close_cut, ↓bd (E_lo2 hC hl a1 ho), ↓bd (E_pl1 hp _), ↓bd eD, ↓bd et, ↓bd ev, ↓bd (E_held hC hp ht), ix_2m, ix_6m, ix_4m, ix_m4, ix_1s, ix_s, ix_s2, ix_s9, ix_s7, ix_s5, ix_s1, nI_add, nI_p1, ix_n, ix_z, ix_1, ix_eq, ix_le, ix_lt, ix_le0, nI_tc, n_leT, n_leF, n_ltT, n_ltF, n_eqT, n_eqF, or_self, or_false, false_or, ↓reduceIte, ↓qz_letL, ↓qz_letI, qz_oc_s, qz_oc_n, Option.bind_some, ne10, not_false_eq_true, l_x, l_le]
    unfold cE_close2
    rw [l_105, l_100]
    refine GoC.eq eU ?_
    show GoC N (if (qz_gi N 6 l 2) < 0 ∨ 6 ≤ (qz_gi N 6 l 2).toNatClampNeg then none else (fP_leastOfValue ((qz_gi N 6 l 2).toNatClampNeg) (qz_gi N 6 l 3) (lN due) N).bind _) (lN G) _
    rw [rC33 hC l hl, rC34 hC l hl, if_neg (nI_ok (n := 6) a3 (by decide)), nI_tc (by omega), bd e1]
    show GoC N (qz_let (if LV < (qz_gl N 6 l 4) then LV else (qz_gl N 6 l 4)) _) (lN G) _
    rw [rC35 hC l hl, e2, qz_let_eq]
    refine GoC.call (E_take hC hp ht ha) KM.rf (fun N1 hC k1 => ?_)
    rw [if_neg (nI_ok (n := 4) ht (by decide)), nI_tc (by omega)]
    show GoC N (qz_let (qz_sl N1 5 (dt (S 4) (S 33) (S 34) l) 1 (qz_gl N1 5 (dt (S 4) (S 33) (S 34) l) 1 + _)) _) (lN G) _
    rw [rC26 hC _ ht, u3_f (by decide), lN_add]
    refine GoC.wr (wC26 hC (dt (S 4) (S 33) (S 34) l) (S 26 (dt (S 4) (S 33) (S 34) l) 0 + debt (S 4) (S 33) (S 34) (S 36) (S 29) l) ht) (k1.tr (KM.sl (by decide))) (fun N1 hC k1 => ?_)
    rw [← hS1] at hC
    refine GoC.eq (ct1 _ hC) ?_
    refine GoC.call (E_give hC hp hc) k1 (fun N1 hC k1 => ?_)
    rw [← hS2] at hC
    refine GoC.eq (ct2 _ hC) ?_
    show GoC N (Option.bind (fU_give 0 (qz_gi N1 6 l 1) (nI (ct (S 4) (S 33) (S 34) l)) (qz_gl N1 6 l 4 - lN G) N1) _) (lN G) _
    rw [rC32 hC l hl, rC35 hC l hl, f2.2.1, f2.2.2.2.2, lN_sub gle]
    refine GoC.call (E_give hC a2 hc) k1 (fun N1 hC k1 => ?_)
    exact GoC.wr (wC31 hC l 0 hl) (k1.tr (KM.si (by decide))) (fun N1 hC k1 => GoC.ret hC k1)
  · simp (disch := omega) only [fM_close_cut, ↓bd (M_pl1 hp _), ↓bd (M_lo2 hM hl a1 ho), ↓bd (mt _ hM), ix_2m, ix_6m, ix_4m, ix_m4, ix_1s, ix_s, ix_s2, ix_s9, ix_s7, ix_s5, ix_s1, nI_add, nI_p1, ix_n, ix_z, ix_1, ix_eq, ix_le, ix_lt, ix_le0, nI_tc, n_leT, n_leF, n_ltT, n_ltF, n_eqT, n_eqF, or_self, or_false, false_or, ↓reduceIte, ↓qz_letL, ↓qz_letI, qz_oc_s, qz_oc_n, Option.bind_some, ne10, not_false_eq_true, l_x]
    refine GoM.scr (mD _ hM) hM KC.rf (fun N1 hM k1 => ?_)
    obtain ⟨w, ew, w1, w0⟩ := M_unc hM ok hl ho
    obtain rfl := w1 g
    refine GoM.scr ew hM k1 (fun N1 hM k1 => GoM.neg ne10 ?_)
    simp (disch := omega) only [↓bd (M_has hM hp ht), l_le, ix_2m, ix_6m, ix_4m, ix_m4, ix_1s, ix_s, ix_s2, ix_s9, ix_s7, ix_s5, ix_s1, nI_add, nI_p1, ix_n, ix_z, ix_1, ix_eq, ix_le, ix_lt, ix_le0, nI_tc, n_leT, n_leF, n_ltT, n_ltF, n_eqT, n_eqF, or_self, or_false, false_or, ↓reduceIte, ↓qz_letL, ↓qz_letI, qz_oc_s, qz_oc_n, Option.bind_some, ne10, not_false_eq_true, l_x, l_105, l_100]
    refine GoM.scr (mU _) hM k1 (fun N1 hM k1 => ?_)
    simp (disch := omega) only [rM33 hM l hl, rM34 hM l hl, rM35 hM l hl, ix_2m, ix_6m, ix_4m, ix_m4, ix_1s, ix_s, ix_s2, ix_s9, ix_s7, ix_s5, ix_s1, nI_add, nI_p1, ix_n, ix_z, ix_1, ix_eq, ix_le, ix_lt, ix_le0, nI_tc, n_leT, n_leF, n_ltT, n_ltF, n_eqT, n_eqF, or_self, or_false, false_or, ↓reduceIte, ↓qz_letL, ↓qz_letI, qz_oc_s, qz_oc_n, Option.bind_some, ne10, not_false_eq_true, l_x]
    rw [rM7 hM (S 33 l 0) (S 34 l 0) a3 j2, rM7c hM (S 33 l 0) (S 34 l 0) a3 j2]
    refine mG _ _ hM k1 _ _ _ _ _ (fun N1 hM k1 => ?_)
    unfold fM_close_243
    refine GoM.call (M_give hM hp ht (lN_addneg ha)) k1 (fun N1 hM k1 => ?_)
    rw [if_neg (nI_ok (n := 4) ht (by decide)), if_neg (nI_ok (n := 4) ht (by decide)), nI_tc (by omega)]
    show GoM _ (qz_let (qz_sl N1 41 0 (dt (S 4) (S 33) (S 34) l) (qz_gl N1 41 0 (dt (S 4) (S 33) (S 34) l) + _)) _) (lN G) _
    rw [rM26 hM _ ht, u3_f (by decide), lN_add]
    refine GoM.wr (wM26 hM (dt (S 4) (S 33) (S 34) l) (S 26 (dt (S 4) (S 33) (S 34) l) 0 + debt (S 4) (S 33) (S 34) (S 36) (S 29) l) ht) (k1.tr (KC.sl (by decide))) (fun N1 hM k1 => ?_)
    rw [← hS1] at hM
    refine GoM.eq (mt1 _ hM) ?_
    refine GoM.call (M_give hM hp hc (lN_add _ _)) k1 (fun N1 hM k1 => ?_)
    rw [← hS2] at hM
    rw [if_neg (nI_ok (n := 10) hl (by decide))]
    refine GoM.eq (mt2 _ hM) ?_
    rw [if_neg (nI_ok (n := 10) hl (by decide)), nI_tc (by omega)]
    show GoM _ (Option.bind (fM_give 0 (qz_gi N1 47 0 l) (nI (ct (S 4) (S 33) (S 34) l)) (qz_gl N1 50 0 l - lN G) N1) _) (lN G) _
    rw [rM32 hM l hl, rM35 hM l hl, f2.2.1, f2.2.2.2.2, lN_sub gle]
    refine GoM.call (M_give hM a2 hc (lN_add _ _)) k1 (fun N1 hM k1 => ?_)
    rw [if_neg (show ¬ (nI l < 0 ∨ 10 ≤ l) from fun z => z.elim (nI_pos (by omega)) (by omega)), nar0]
    exact GoM.wr (wM31 hM l 0 hl) (k1.tr (KC.si (by decide))) (fun N1 hM k1 => GoM.ret hM k1)
