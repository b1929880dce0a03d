theorem ix_m1 {l : Nat} (h : l < 2147483648) : (nI l = (-1 : Int32)) = False := eq_false (fun z => nI_pos h (by rw [z]; decide))
def stL (S : St) (p i j a d l u : Nat) : St := qz_u3 (qz_u3 (qz_u3 (qz_u3 (qz_u3 (qz_u3 (qz_u3 (qz_u3 (qz_u3 S 0 p (S 4 i j) (S 0 p (S 4 i j) - a)) 0 p (S 4 i (1 - j)) (S 0 p (S 4 i (1 - j)) + d)) 26 (S 4 i (1 - j)) 0 (S 26 (S 4 i (1 - j)) 0 - d)) 31 l 0 1) 32 l 0 p) 33 l 0 i) 34 l 0 j) 35 l 0 a) 36 l 0 u
theorem uni_le {d v : Nat} (h1 : 1000000000 ≤ v) : cdiv (d * 1000000000) v ≤ d := cdiv_le (by omega) (Nat.mul_le_mul_left d h1)
theorem uni_ge {d v : Nat} (h1 : 1000000000 ≤ v) : d ≤ cdiv (cdiv (d * 1000000000) v * v) 1000000000 := by
  have h2 := cdiv_ge (m := d * 1000000000) (s := v) (by omega)
  have h3 := cdiv_ge (m := cdiv (d * 1000000000) v * v) (s := 1000000000) (by decide)
  generalize cdiv (d * 1000000000) v * v = z at *
  omega
theorem sd_ne {S : St} {c i j : Nat} (ok : Ok c S) (hi : i < S 3 0 0) (hj : j < 2) : S 4 i (1 - j) ≠ S 4 i j := by
  have h6 := ok.np
  have := (ok.2.1.2 i (by omega)).2.2.2.2.1 hi
  rcases (show j = 0 ∨ j = 1 by omega) with rfl | rfl
  · exact Ne.symm this
  · exact this
theorem up_n {h : Sl} {t0 v a : Nat} (ha : a ≠ t0) : up2 h t0 0 v a 0 = h a 0 := up2_i ha
theorem ok_loan {S : St} {c p i j a d l : Nat} (ok : Ok c S) (hp : p < 6) (hi : i < S 3 0 0) (hj : j < 2) (ha : a ≤ S 0 p (S 4 i j)) (hd : d ≤ S 26 (S 4 i (1 - j)) 0) (hl : l < 10) (ho : S 31 l 0 = 0) : Ok c (stL S p i j a d l (cdiv (d * 1000000000) (S 29 (S 4 i (1 - j)) 0))) := by
  have h6 := ok.np
  have hne := sd_ne ok hi hj
  have ht := ok.tok (q := i) (j := 1 - j) (by omega) (by omega)
  have o6 := ok.2.2.2.2.2.1 _ ht
  have vb := ok.vhas ht
  have ul := uni_le (d := d) o6.1
  have ug := uni_ge (d := d) o6.1
  refine ok_L ok (fun f f0 f26 fr => ?_) (fun t ht' => ?_) (fun t ht' => ?_) (fun q hq => ?_)
  · unfold stL
    rw [u3_f (by omega), u3_f (by omega), u3_f (by omega), u3_f (by omega), u3_f (by omega), u3_f (by omega), u3_f (by omega), u3_f (by omega), u3_f (by omega)]
  · unfold stL
    simp (disch := omega) only [u3_f, u3_e]
    have r1 := cB_sub (bal := S 0) (p := p) (t0 := S 4 i j) (a := a) hp ha t
    have r2 := cB_add (bal := up2 (S 0) p (S 4 i j) (S 0 p (S 4 i j) - a)) (p := p) (t0 := S 4 i (1 - j)) (a := d) hp t
    rw [up2_j hne] at r2
    have r3 := cL_up (tok := S 4) (o := S 31) (o' := up2 (S 31) l 0 1) (pl := S 33) (pl' := up2 (S 33) l 0 i) (sd := S 34) (sd' := up2 (S 34) l 0 j) (cv := S 35) (cv' := up2 (S 35) l 0 a) hl (fun _ h => up_n h) (fun _ h => up_n h) (fun _ h => up_n h) (fun _ h => up_n h) t
    rw [if_neg (fun z => z.1 ho), up2_s, up2_s, up2_s, up2_s] at r3
    rw [up_g, r2]
    by_cases c1 : t = S 4 i j
    · have c2 : ¬ t = S 4 i (1 - j) := by omega
      rw [if_pos c1] at r1
      rw [if_pos ⟨by decide, c1.symm⟩] at r3
      rw [if_neg c2, if_neg c2]
      omega
    · rw [if_neg c1] at r1
      rw [if_neg (fun z => c1 z.2.symm)] at r3
      by_cases c2 : t = S 4 i (1 - j)
      · rw [if_pos c2, if_pos c2]
        rw [← c2] at hd ⊢
        omega
      · rw [if_neg c2, if_neg c2]
        omega
  · unfold stL
    simp (disch := omega) only [u3_f, u3_e]
    have r3 := cD_up (tok := S 4) (o := S 31) (o' := up2 (S 31) l 0 1) (pl := S 33) (pl' := up2 (S 33) l 0 i) (sd := S 34) (sd' := up2 (S 34) l 0 j) (un := S 36) (un' := up2 (S 36) l 0 (cdiv (d * 1000000000) (S 29 (S 4 i (1 - j)) 0))) (vi := S 29) hl (fun _ h => up_n h) (fun _ h => up_n h) (fun _ h => up_n h) (fun _ h => up_n h) t
    rw [if_neg (fun z => z.1 ho), up2_s, up2_s, up2_s, up2_s] at r3
    rw [up_g]
    by_cases c2 : t = S 4 i (1 - j)
    · rw [if_pos ⟨by decide, c2.symm⟩] at r3
      rw [if_pos c2]
      have e26 : S 26 t 0 = S 26 (S 4 i (1 - j)) 0 := by rw [c2]
      omega
    · rw [if_neg (fun z => c2 z.2.symm)] at r3
      rw [if_neg c2]
      omega
  · obtain ⟨a1, a2, a3, a4, a5, a6⟩ := ok.2.2.2.2.2.2 q hq
    unfold stL
    simp (disch := omega) only [u3_f, u3_e]
    rw [up_g, up_g, up_g, up_g, up_g]
    by_cases c2 : q = l
    · rw [if_pos c2, if_pos c2, if_pos c2, if_pos c2, if_pos c2]
      exact ⟨by decide, hp, by omega, by omega, by omega, fun _ => hi⟩
    · rw [if_neg c2, if_neg c2, if_neg c2, if_neg c2, if_neg c2]
      exact ⟨a1, a2, a3, a4, a5, a6⟩
theorem E_units {N : qz_N} {S : St} (hC : RC N S) {t d : Nat} (ht : t < 4) (h1 : 1000000000 ≤ S 29 t 0) (h2 : S 29 t 0 ≤ 1000000000000) (hd : d < 1000000000000000000) : fV_unitsOf t (lN d) N = some (lN (cdiv (d * 1000000000) (S 29 t 0)), N) := by
  have hq : d * 1000000000 / S 29 t 0 ≤ d := div_le_of h1 (by omega)
  unfold fV_unitsOf
  rw [rC29 hC t ht, l_g, bd (A_timesOverUp' (by omega) (by decide) (by omega) (by omega) (by omega) N)]
theorem M_units {N : qz_N} {v d : Nat} (h1 : 1000000000 ≤ v) (h2 : v ≤ 1000000000000) (hd : d < 1000000000000000000) : ∃ N', fM_partUp 0 (lN d) (lN 1000000000) (lN v) N = some (lN (cdiv (d * 1000000000) v), N') ∧ Sc N N' := by
  have hq : d * 1000000000 / v ≤ d := div_le_of h1 (by omega)
  exact M_partUp (by omega) (by decide) (by omega) (by omega) (by omega) N
theorem E_begin {N : qz_N} {S : St} (hC : RC N S) {l p i j a u : Nat} (hl : l < 10) : GoC N (fL_begin l (nI p) (nI i) (nI j) (lN a) (lN u) N) () (qz_u3 (qz_u3 (qz_u3 (qz_u3 (qz_u3 (qz_u3 S 31 l 0 1) 32 l 0 p) 33 l 0 i) 34 l 0 j) 35 l 0 a) 36 l 0 u) := by
  unfold fL_begin
  refine GoC.wr (wC31 hC l 1 hl) (KM.si (by decide)) (fun N1 hC k1 => ?_)
  refine GoC.wr (wC32 hC l p hl) (k1.tr (KM.si (by decide))) (fun N1 hC k1 => ?_)
  refine GoC.wr (wC33 hC l i hl) (k1.tr (KM.si (by decide))) (fun N1 hC k1 => ?_)
  refine GoC.wr (wC34 hC l j hl) (k1.tr (KM.si (by decide))) (fun N1 hC k1 => ?_)
  refine GoC.wr (wC35 hC l a hl) (k1.tr (KM.sl (by decide))) (fun N1 hC k1 => ?_)
  exact GoC.wr (wC36 hC l u hl) (k1.tr (KM.sl (by decide))) (fun N1 hC k1 => GoC.ret hC k1)
def cE_loan2 (o : Nat) (j4 : Nat) (x1 : Int32) (x2 : Int32) (x3 : Int32) (x4 : Int64) (x6 : Int64) (n : Int32) (t : Int32) (N : qz_N) : Option (Int32 × qz_N) :=
  (fP_tokenAt j4 x3 N).bind fun q22 =>
  (fU_take o x1 q22.1 x4 q22.2).bind fun q24 =>
  qz_let (qz_sl q24.2 5 t.toNatClampNeg 1 ((qz_gl q24.2 5 t.toNatClampNeg 1) - x6)) fun N26 =>
  (fP_tokenAt j4 ((1 : Int32) - x3) N26).bind fun q27 =>
  (fU_give o x1 q27.1 x6 q27.2).bind fun q29 =>
  if n < 0 ∨ 10 ≤ n.toNatClampNeg then none else
  (fV_unitsOf t.toNatClampNeg x6 q29.2).bind fun q32 =>
  (fL_begin n.toNatClampNeg x1 x2 x3 x4 q32.1 q32.2).bind fun q34 =>
  some (n, q34.2)
def cE_loan1 (o : Nat) (j4 : Nat) (x1 : Int32) (x2 : Int32) (x3 : Int32) (x4 : Int64) (x6 : Int64) (N : qz_N) : Option (Int32 × qz_N) :=
  (fE_freeLoan o N).bind fun q11 =>
  (fP_tokenAt j4 ((1 : Int32) - x3) q11.2).bind fun q13 =>
  if q13.1 < 0 ∨ 4 ≤ q13.1.toNatClampNeg then none else
  if q11.1 = (-1 : Int32) then
    some ((-3 : Int32), q13.2)
  else
  (fP_tokenAt j4 x3 q13.2).bind fun q16 =>
  (fU_held o x1 q16.1 q16.2).bind fun q18 =>
  if q18.1 < x4 then
    some ((-3 : Int32), q18.2)
  else
  if x6 ≤ (qz_gl q18.2 5 q13.1.toNatClampNeg 1) then
    (fP_valueOf j4 x3 x4 q18.2).bind fun q20 =>
    if ((5 : Int64) * x6) ≤ ((3 : Int64) * q20.1) then
      cE_loan2 o j4 x1 x2 x3 x4 x6 q11.1 q13.1 q20.2
    else
    some ((-3 : Int32), q20.2)
  else
  some ((-3 : Int32), q18.2)
theorem fE_loan_cut (o : Nat) (x1 : Int32) (x2 : Int32) (x3 : Int32) (x4 : Int64) (x6 : Int64) (N : qz_N) : fE_loan o x1 x2 x3 x4 x6 N = (fE_poolAt o x2 N).bind fun q1 => qz_oc q1
    (fun N3 =>
    (fE_isPlayer x1 N3).bind fun q5 =>
    if q5.1 = 0 then
      some ((-2 : Int32), q5.2)
    else
    some ((-2 : Int32), q5.2))
    fun N3 j4 =>
    (fE_isPlayer x1 N3).bind fun q7 =>
    if q7.1 = 0 then
      some ((-2 : Int32), q7.2)
    else
    (fE_isSide x3 q7.2).bind fun q9 =>
    if q9.1 = 0 then
      some ((-2 : Int32), q9.2)
    else
    if x4 < (1 : Int64) then
      some ((-2 : Int32), q9.2)
    else
    if (1 : Int64) ≤ x6 then
      cE_loan1 o j4 x1 x2 x3 x4 x6 q9.2
    else
    some ((-2 : Int32), q9.2) := rfl
def cM_loan2 (y0 : Nat) (x1 : Int32) (x2 : Int32) (x3 : Int32) (x4 : Int64) (x6 : Int64) (x8 : Int32) (v7 v8 : Int32) (N : qz_N) : Option (Int32 × qz_N) :=
    if x8 < 0 ∨ 10 ≤ x8.toNatClampNeg then none else
    qz_let (qz_si N 46 y0 x8.toNatClampNeg (vp_nar .boolean (1 : Int32))) fun N15 =>
    if x8 < 0 ∨ 10 ≤ x8.toNatClampNeg then none else
    qz_let (qz_si N15 47 y0 x8.toNatClampNeg x1) fun N16 =>
    if x8 < 0 ∨ 10 ≤ x8.toNatClampNeg then none else
    qz_let (qz_si N16 48 y0 x8.toNatClampNeg x2) fun N17 =>
    if x8 < 0 ∨ 10 ≤ x8.toNatClampNeg then none else
    qz_let (qz_si N17 49 y0 x8.toNatClampNeg x3) fun N18 =>
    if x8 < 0 ∨ 10 ≤ x8.toNatClampNeg then none else
    qz_let (qz_sl N18 50 y0 x8.toNatClampNeg x4) fun N19 =>
    if v8 < 0 ∨ 4 ≤ v8.toNatClampNeg then none else
    (fM_partUp y0 x6 (1000000000 : Int64) (qz_gl N19 44 y0 v8.toNatClampNeg) N19).bind fun q20 =>
    if x8 < 0 ∨ 10 ≤ x8.toNatClampNeg then none else
    qz_let (qz_sl q20.2 51 y0 x8.toNatClampNeg q20.1) fun N22 =>
    (fM_give y0 x1 v7 (-x4) N22).bind fun q23 =>
    (fM_give y0 x1 v8 x6 q23.2).bind fun q25 =>
    if v8 < 0 ∨ 4 ≤ v8.toNatClampNeg then none else
    if v8 < 0 ∨ 4 ≤ v8.toNatClampNeg then none else
    qz_let (qz_sl q25.2 41 y0 v8.toNatClampNeg ((qz_gl q25.2 41 y0 v8.toNatClampNeg) - x6)) fun N27 =>
    some (x8, N27)
theorem fM_loan_cut (y0 : Nat) (N : qz_N) (x1 : Int32) (x2 : Int32) (x3 : Int32) (x4 : Int64) (x6 : Int64) (x8 : Int32) : fM_loan_65 y0 N x1 x2 x3 x4 x6 x8 =
  if (((2 : Int32) * x2) + x3) < 0 ∨ 12 ≤ (((2 : Int32) * x2) + x3).toNatClampNeg then none else
  qz_let (qz_gi N 24 y0 (((2 : Int32) * x2) + x3).toNatClampNeg) fun v7 =>
  if ((((2 : Int32) * x2) + (1 : Int32)) - x3) < 0 ∨ 12 ≤ ((((2 : Int32) * x2) + (1 : Int32)) - x3).toNatClampNeg then none else
  qz_let (qz_gi N 24 y0 ((((2 : Int32) * x2) + (1 : Int32)) - x3).toNatClampNeg) fun v8 =>
  if x8 = (10 : Int32) then
    some ((-3 : Int32), N)
  else
  (fM_has y0 x1 v7 N).bind fun q9 =>
  if q9.1 < x4 then
    some ((-3 : Int32), q9.2)
  else
  if v8 < 0 ∨ 4 ≤ v8.toNatClampNeg then none else
  if (qz_gl q9.2 41 y0 v8.toNatClampNeg) < x6 then
    some ((-3 : Int32), q9.2)
  else
  (fM_valueOf y0 x2 x3 x4 q9.2).bind fun q11 =>
  (fM_isAbove y0 (100 : Int64) x6 (60 : Int64) q11.1 q11.2).bind fun q13 =>
  if q13.1 = 0 then cM_loan2 y0 x1 x2 x3 x4 x6 x8 v7 v8 q13.2
  else
  some ((-3 : Int32), q13.2) := rfl
theorem op_loan {N : qz_N} {S : St} {c : Nat} (ok : Ok c S) (hC : RC N S) (hM : RM N S) (y x s : Int32) (z1 z2 : Int64) : Alike N (fE_loan 0 y x s z1 z2) (fM_loan 0 y x s z1 z2) (Ok c) := by
  have h6 := ok.np
  rcases ixc y (n := 6) (by decide) with hy | ⟨p, hp, rfl⟩
  · refine Alike.mk' (r := -2) hM (GoC.of ?_ hC) (fun N1 hM => GoM.of (by simp (disch := omega) only [fM_loan, ↓bd (M_pl0 hy _), ix_2m, ix_6m, ix_4m, ix_m4, ix_1s, ix_s, ix_s2, ix_s9, ix_s7, ix_s5, ix_s1, nI_add, nI_p1, ix_n, ix_z, ix_1, ix_eq, ix_le, ix_lt, ix_le0, nI_tc, n_leT, n_leF, n_ltT, n_ltF, n_eqT, n_eqF, or_self, or_false, false_or, ↓reduceIte, ↓qz_letL, ↓qz_letI, qz_oc_s, qz_oc_n, Option.bind_some, ne10, not_false_eq_true, l_x]) hM) ok
    rcases ixc x (n := S 3 0 0) (by omega) with hx | ⟨i, hx, rfl⟩
    · simp (disch := omega) only [fE_loan_cut, ↓bd (E_po0 hC hx), ↓bd (E_pl0 hy _), ix_2m, ix_6m, ix_4m, ix_m4, ix_1s, ix_s, ix_s2, ix_s9, ix_s7, ix_s5, ix_s1, nI_add, nI_p1, ix_n, ix_z, ix_1, ix_eq, ix_le, ix_lt, ix_le0, nI_tc, n_leT, n_leF, n_ltT, n_ltF, n_eqT, n_eqF, or_self, or_false, false_or, ↓reduceIte, ↓qz_letL, ↓qz_letI, qz_oc_s, qz_oc_n, Option.bind_some, ne10, not_false_eq_true, l_x]
    · simp (disch := omega) only [fE_loan_cut, ↓bd (E_po1 hC h6 hx), ↓bd (E_pl0 hy _), ix_2m, ix_6m, ix_4m, ix_m4, ix_1s, ix_s, ix_s2, ix_s9, ix_s7, ix_s5, ix_s1, nI_add, nI_p1, ix_n, ix_z, ix_1, ix_eq, ix_le, ix_lt, ix_le0, nI_tc, n_leT, n_leF, n_ltT, n_ltF, n_eqT, n_eqF, or_self, or_false, false_or, ↓reduceIte, ↓qz_letL, ↓qz_letI, qz_oc_s, qz_oc_n, Option.bind_some, ne10, not_false_eq_true, l_x]
  rcases ixc x (n := S 3 0 0) (by omega) with hx | ⟨i, hx, rfl⟩
  · exact Alike.mk' (r := -2) hM (GoC.of (by simp (disch := omega) only [fE_loan_cut, ↓bd (E_po0 hC hx), ↓bd (E_pl1 hp _), ix_2m, ix_6m, ix_4m, ix_m4, ix_1s, ix_s, ix_s2, ix_s9, ix_s7, ix_s5, ix_s1, nI_add, nI_p1, ix_n, ix_z, ix_1, ix_eq, ix_le, ix_lt, ix_le0, nI_tc, n_leT, n_leF, n_ltT, n_ltF, n_eqT, n_eqF, or_self, or_false, false_or, ↓reduceIte, ↓qz_letL, ↓qz_letI, qz_oc_s, qz_oc_n, Option.bind_some, ne10, not_false_eq_true, l_x]) hC) (fun N1 hM => GoM.of (by simp (disch := omega) only [fM_loan, ↓bd (M_pl1 hp _), ↓bd (M_po0 hM hx), ix_2m, ix_6m, ix_4m, ix_m4, ix_1s, ix_s, ix_s2, ix_s9, ix_s7, ix_s5, ix_s1, nI_add, nI_p1, ix_n, ix_z, ix_1, ix_eq, ix_le, ix_lt, ix_le0, nI_tc, n_leT, n_leF, n_ltT, n_ltF, n_eqT, n_eqF, or_self, or_false, false_or, ↓reduceIte, ↓qz_letL, ↓qz_letI, qz_oc_s, qz_oc_n, Option.bind_some, ne10, not_false_eq_true, l_x]) hM) ok
  rcases sdc s with hs | ⟨j, hj, rfl⟩
  · exact Alike.mk' (r := -2) hM (GoC.of (by simp (disch := omega) only [fE_loan_cut, ↓bd (E_po1 hC h6 hx), ↓bd (E_pl1 hp _), ↓bd (E_sd0 hs _), ix_2m, ix_6m, ix_4m, ix_m4, ix_1s, ix_s, ix_s2, ix_s9, ix_s7, ix_s5, ix_s1, nI_add, nI_p1, ix_n, ix_z, ix_1, ix_eq, ix_le, ix_lt, ix_le0, nI_tc, n_leT, n_leF, n_ltT, n_ltF, n_eqT, n_eqF, or_self, or_false, false_or, ↓reduceIte, ↓qz_letL, ↓qz_letI, qz_oc_s, qz_oc_n, Option.bind_some, ne10, not_false_eq_true, l_x]) hC) (fun N1 hM => GoM.of (by simp (disch := omega) only [fM_loan, ↓bd (M_pl1 hp _), ↓bd (M_po1 hM h6 hx), ↓bd (M_sd0 hs _), ix_2m, ix_6m, ix_4m, ix_m4, ix_1s, ix_s, ix_s2, ix_s9, ix_s7, ix_s5, ix_s1, nI_add, nI_p1, ix_n, ix_z, ix_1, ix_eq, ix_le, ix_lt, ix_le0, nI_tc, n_leT, n_leF, n_ltT, n_ltF, n_eqT, n_eqF, or_self, or_false, false_or, ↓reduceIte, ↓qz_letL, ↓qz_letI, qz_oc_s, qz_oc_n, Option.bind_some, ne10, not_false_eq_true, l_x]) hM) ok
  rcases l_gi (x := z1) with hz | ⟨a, u1, u2, rfl⟩
  · exact Alike.mk' (r := -2) hM (GoC.of (by simp (disch := omega) only [fE_loan_cut, ↓bd (E_po1 hC h6 hx), ↓bd (E_pl1 hp _), ↓bd (E_sd1 hj _), ix_2m, ix_6m, ix_4m, ix_m4, ix_1s, ix_s, ix_s2, ix_s9, ix_s7, ix_s5, ix_s1, nI_add, nI_p1, ix_n, ix_z, ix_1, ix_eq, ix_le, ix_lt, ix_le0, nI_tc, n_leT, n_leF, n_ltT, n_ltF, n_eqT, n_eqF, or_self, or_false, false_or, ↓reduceIte, ↓qz_letL, ↓qz_letI, qz_oc_s, qz_oc_n, Option.bind_some, ne10, not_false_eq_true, l_x, l_1, hz]) hC) (fun N1 hM => GoM.of (by simp (disch := omega) only [fM_loan, ↓bd (M_pl1 hp _), ↓bd (M_po1 hM h6 hx), ↓bd (M_sd1 hj _), ix_2m, ix_6m, ix_4m, ix_m4, ix_1s, ix_s, ix_s2, ix_s9, ix_s7, ix_s5, ix_s1, nI_add, nI_p1, ix_n, ix_z, ix_1, ix_eq, ix_le, ix_lt, ix_le0, nI_tc, n_leT, n_leF, n_ltT, n_ltF, n_eqT, n_eqF, or_self, or_false, false_or, ↓reduceIte, ↓qz_letL, ↓qz_letI, qz_oc_s, qz_oc_n, Option.bind_some, ne10, not_false_eq_true, l_x, l_1, hz]) hM) ok
  rcases l_gi (x := z2) with hz | ⟨d, v1, v2, rfl⟩
  · exact Alike.mk' (r := -2) hM (GoC.of (by simp (disch := omega) only [fE_loan_cut, ↓bd (E_po1 hC h6 hx), ↓bd (E_pl1 hp _), ↓bd (E_sd1 hj _), ix_2m, ix_6m, ix_4m, ix_m4, ix_1s, ix_s, ix_s2, ix_s9, ix_s7, ix_s5, ix_s1, nI_add, nI_p1, ix_n, ix_z, ix_1, ix_eq, ix_le, ix_lt, ix_le0, nI_tc, n_leT, n_leF, n_ltT, n_ltF, n_eqT, n_eqF, or_self, or_false, false_or, ↓reduceIte, ↓qz_letL, ↓qz_letI, qz_oc_s, qz_oc_n, Option.bind_some, ne10, not_false_eq_true, l_x, l_1, l_lt, l_nle hz]) hC) (fun N1 hM => GoM.of (by simp (disch := omega) only [fM_loan, ↓bd (M_pl1 hp _), ↓bd (M_po1 hM h6 hx), ↓bd (M_sd1 hj _), ix_2m, ix_6m, ix_4m, ix_m4, ix_1s, ix_s, ix_s2, ix_s9, ix_s7, ix_s5, ix_s1, nI_add, nI_p1, ix_n, ix_z, ix_1, ix_eq, ix_le, ix_lt, ix_le0, nI_tc, n_leT, n_leF, n_ltT, n_ltF, n_eqT, n_eqF, or_self, or_false, false_or, ↓reduceIte, ↓qz_letL, ↓qz_letI, qz_oc_s, qz_oc_n, Option.bind_some, ne10, not_false_eq_true, l_x, l_1, l_lt, l_nle hz]) hM) ok
  have hi : i < 6 := by omega
  have hne := sd_ne ok hx hj
  have t0 := ok.tok hi hj
  have t1 := ok.tok hi (j := 1 - j) (by omega)
  have b0 := ok.bal hp t0
  have b1 := ok.vhas t1
  have o31 : ∀ l, l < 10 → S 31 l 0 ≤ 1 := fun l hl => (ok.2.2.2.2.2.2 l hl).1
  have hfr := fr_le (fun l => S 31 l 0) 10 0
  have hf0 := fr_0 (fun l => S 31 l 0) 10 0
  have eF := E_free hC o31
  have eM : ∀ N1, RM N1 S → fM_loan 0 (nI p) (nI i) (nI j) (lN a) (lN d) N1 = fM_loan_65 0 N1 (nI p) (nI i) (nI j) (lN a) (lN d) (nI (fr (fun l => S 31 l 0) 10 0)) := by
    intro N1 hM
    rw [← M_free hM o31]
    simp (disch := omega) only [fM_loan, ↓bd (M_pl1 hp _), ↓bd (M_po1 hM h6 hx), ↓bd (M_sd1 hj _), ix_2m, ix_6m, ix_4m, ix_m4, ix_1s, ix_s, ix_s2, ix_s9, ix_s7, ix_s5, ix_s1, nI_add, nI_p1, ix_n, ix_z, ix_1, ix_eq, ix_le, ix_lt, ix_le0, nI_tc, n_leT, n_leF, n_ltT, n_ltF, n_eqT, n_eqF, or_self, or_false, false_or, ↓reduceIte, ↓qz_letL, ↓qz_letI, qz_oc_s, qz_oc_n, Option.bind_some, ne10, not_false_eq_true, l_x, l_1, l_lt, l_le]
  generalize fr (fun l => S 31 l 0) 10 0 = l at *
  have et1 : ∀ N, RC N S → fP_tokenAt i (nI (1 - j)) N = some (nI (S 4 i (1 - j)), N) := fun N hC => E_tokAt hC hi (by omega)
  by_cases hl : l = 10
  · subst hl
    rw [if_pos rfl] at eF
    exact Alike.mk' (r := -3) hM (GoC.of (by simp (disch := omega) only [fE_loan_cut, ↓bd (E_po1 hC h6 hx), ↓bd (E_pl1 hp _), ↓bd (E_sd1 hj _), ix_2m, ix_6m, ix_4m, ix_m4, ix_1s, ix_s, ix_s2, ix_s9, ix_s7, ix_s5, ix_s1, nI_add, nI_p1, ix_n, ix_z, ix_1, ix_eq, ix_le, ix_lt, ix_le0, nI_tc, n_leT, n_leF, n_ltT, n_ltF, n_eqT, n_eqF, or_self, or_false, false_or, ↓reduceIte, ↓qz_letL, ↓qz_letI, qz_oc_s, qz_oc_n, Option.bind_some, ne10, not_false_eq_true, l_x, l_1, l_lt, l_le, cE_loan1, ↓bd eF, ↓bd (et1 _ hC)]) hC) (fun N1 hM => GoM.of (by rw [eM _ hM]; simp (disch := omega) only [fM_loan_cut, ix_2m, ix_6m, ix_4m, ix_m4, ix_1s, ix_s, ix_s2, ix_s9, ix_s7, ix_s5, ix_s1, nI_add, nI_p1, ix_n, ix_z, ix_1, ix_eq, ix_le, ix_lt, ix_le0, nI_tc, n_leT, n_leF, n_ltT, n_ltF, n_eqT, n_eqF, or_self, or_false, false_or, ↓reduceIte, ↓qz_letL, ↓qz_letI, qz_oc_s, qz_oc_n, Option.bind_some, ne10, not_false_eq_true, l_x, i_10]) hM) ok
  have hl : l < 10 := by omega
  rw [if_neg (by omega)] at eF
  have ho : S 31 l 0 = 0 := hf0 (by omega)
  by_cases ha : a ≤ S 0 p (S 4 i j)
  case neg => exact Alike.mk' (r := -3) hM (GoC.of (by simp (disch := omega) only [fE_loan_cut, ↓bd (E_po1 hC h6 hx), ↓bd (E_pl1 hp _), ↓bd (E_sd1 hj _), ix_2m, ix_6m, ix_4m, ix_m4, ix_1s, ix_s, ix_s2, ix_s9, ix_s7, ix_s5, ix_s1, nI_add, nI_p1, ix_n, ix_z, ix_1, ix_eq, ix_le, ix_lt, ix_le0, nI_tc, n_leT, n_leF, n_ltT, n_ltF, n_eqT, n_eqF, or_self, or_false, false_or, ↓reduceIte, ↓qz_letL, ↓qz_letI, qz_oc_s, qz_oc_n, Option.bind_some, ne10, not_false_eq_true, l_x, l_1, l_lt, l_le, cE_loan1, ↓bd eF, ↓bd (et1 _ hC), ix_m1, ↓bd (E_tokAt hC hi hj), ↓bd (E_held hC hp t0)]) hC) (fun N1 hM => GoM.of (by rw [eM _ hM]; simp (disch := omega) only [fM_loan_cut, ix_2m, ix_6m, ix_4m, ix_m4, ix_1s, ix_s, ix_s2, ix_s9, ix_s7, ix_s5, ix_s1, nI_add, nI_p1, ix_n, ix_z, ix_1, ix_eq, ix_le, ix_lt, ix_le0, nI_tc, n_leT, n_leF, n_ltT, n_ltF, n_eqT, n_eqF, or_self, or_false, false_or, ↓reduceIte, ↓qz_letL, ↓qz_letI, qz_oc_s, qz_oc_n, Option.bind_some, ne10, not_false_eq_true, l_x, i_10, rM4 hM i j hi hj, rM4c hM i j hi hj, ↓bd (M_has hM hp t0), l_lt]) hM) ok
  by_cases hd : d ≤ S 26 (S 4 i (1 - j)) 0
  case neg => exact Alike.mk' (r := -3) hM (GoC.of (by simp (disch := omega) only [fE_loan_cut, ↓bd (E_po1 hC h6 hx), ↓bd (E_pl1 hp _), ↓bd (E_sd1 hj _), ix_2m, ix_6m, ix_4m, ix_m4, ix_1s, ix_s, ix_s2, ix_s9, ix_s7, ix_s5, ix_s1, nI_add, nI_p1, ix_n, ix_z, ix_1, ix_eq, ix_le, ix_lt, ix_le0, nI_tc, n_leT, n_leF, n_ltT, n_ltF, n_eqT, n_eqF, or_self, or_false, false_or, ↓reduceIte, ↓qz_letL, ↓qz_letI, qz_oc_s, qz_oc_n, Option.bind_some, ne10, not_false_eq_true, l_x, l_1, l_lt, l_le, cE_loan1, ↓bd eF, ↓bd (et1 _ hC), ix_m1, ↓bd (E_tokAt hC hi hj), ↓bd (E_held hC hp t0), rC26 hC _ t1]) hC) (fun N1 hM => GoM.of (by rw [eM _ hM]; simp (disch := omega) only [fM_loan_cut, ix_2m, ix_6m, ix_4m, ix_m4, ix_1s, ix_s, ix_s2, ix_s9, ix_s7, ix_s5, ix_s1, nI_add, nI_p1, ix_n, ix_z, ix_1, ix_eq, ix_le, ix_lt, ix_le0, nI_tc, n_leT, n_leF, n_ltT, n_ltF, n_eqT, n_eqF, or_self, or_false, false_or, ↓reduceIte, ↓qz_letL, ↓qz_letI, qz_oc_s, qz_oc_n, Option.bind_some, ne10, not_false_eq_true, l_x, i_10, rM4 hM i j hi hj, rM4c hM i j hi hj, ↓bd (M_has hM hp t0), l_lt, rM26 hM _ t1]) hM) ok
  have eV := E_val hC ok hi hj (a := a) (by omega)
  have mV := fun N1 (hM : RM N1 S) => M_val hM ok hi hj (a := a) (by omega)
  have vb := val_b S i j a
  generalize valV S i j a = v at *
  have o6 := ok.2.2.2.2.2.1 _ t1
  by_cases hv : 5 * d ≤ 3 * v
  case neg =>
    refine Alike.mk' (r := -3) hM (GoC.of (by simp (disch := omega) only [fE_loan_cut, ↓bd (E_po1 hC h6 hx), ↓bd (E_pl1 hp _), ↓bd (E_sd1 hj _), ix_2m, ix_6m, ix_4m, ix_m4, ix_1s, ix_s, ix_s2, ix_s9, ix_s7, ix_s5, ix_s1, nI_add, nI_p1, ix_n, ix_z, ix_1, ix_eq, ix_le, ix_lt, ix_le0, nI_tc, n_leT, n_leF, n_ltT, n_ltF, n_eqT, n_eqF, or_self, or_false, false_or, ↓reduceIte, ↓qz_letL, ↓qz_letI, qz_oc_s, qz_oc_n, Option.bind_some, ne10, not_false_eq_true, l_x, l_1, l_lt, l_le, cE_loan1, ↓bd eF, ↓bd (et1 _ hC), ix_m1, ↓bd (E_tokAt hC hi hj), ↓bd (E_held hC hp t0), rC26 hC _ t1, ↓bd eV, l_3, l_5, lN_mul]) hC) (fun N1 hM => ?_) ok
    rw [eM _ hM]
    simp (disch := omega) only [fM_loan_cut, ix_2m, ix_6m, ix_4m, ix_m4, ix_1s, ix_s, ix_s2, ix_s9, ix_s7, ix_s5, ix_s1, nI_add, nI_p1, ix_n, ix_z, ix_1, ix_eq, ix_le, ix_lt, ix_le0, nI_tc, n_leT, n_leF, n_ltT, n_ltF, n_eqT, n_eqF, or_self, or_false, false_or, ↓reduceIte, ↓qz_letL, ↓qz_letI, qz_oc_s, qz_oc_n, Option.bind_some, ne10, not_false_eq_true, l_x, i_10, rM4 hM i j hi hj, rM4c hM i j hi hj, ↓bd (M_has hM hp t0), l_lt, rM26 hM _ t1]
    refine GoM.scr (mV _ hM) hM KC.rf (fun N1 hM k1 => ?_)
    rw [l_100, l_60]
    obtain ⟨N2, e2, s2⟩ := M_above (N := N1) (a := 100) (b := d) (c := 60) (d := v) (by decide) (by omega) (by decide) (by omega)
    rw [if_pos (by omega)] at e2
    refine GoM.scr ⟨N2, e2, s2⟩ hM k1 (fun N1 hM k1 => ?_)
    exact GoM.neg ne10 (GoM.ret hM k1)
  refine Alike.mk' (r := nI l) (S' := stL S p i j a d l (cdiv (d * 1000000000) (S 29 (S 4 i (1 - j)) 0))) hM ?_ (fun N1 hM => ?_) (ok_loan ok hp hx hj ha hd hl ho)
  · simp (disch := omega) only [fE_loan_cut, ↓bd (E_po1 hC h6 hx), ↓bd (E_pl1 hp _), ↓bd (E_sd1 hj _), ix_2m, ix_6m, ix_4m, ix_m4, ix_1s, ix_s, ix_s2, ix_s9, ix_s7, ix_s5, ix_s1, nI_add, nI_p1, ix_n, ix_z, ix_1, ix_eq, ix_le, ix_lt, ix_le0, nI_tc, n_leT, n_leF, n_ltT, n_ltF, n_eqT, n_eqF, or_self, or_false, false_or, ↓reduceIte, ↓qz_letL, ↓qz_letI, qz_oc_s, qz_oc_n, Option.bind_some, ne10, not_false_eq_true, l_x, l_1, l_lt, l_le, cE_loan1, ↓bd eF, ↓bd (et1 _ hC), ix_m1, ↓bd (E_tokAt hC hi hj), ↓bd (E_held hC hp t0), rC26 hC _ t1, ↓bd eV, l_3, l_5, lN_mul]
    unfold cE_loan2
    refine GoC.eq (E_tokAt hC hi hj) ?_
    refine GoC.call (E_take hC hp t0 ha) KM.rf (fun N1 hC k1 => ?_)
    simp (disch := omega) only [ix_2m, ix_6m, ix_4m, ix_m4, ix_1s, ix_s, ix_s2, ix_s9, ix_s7, ix_s5, ix_s1, nI_add, nI_p1, ix_n, ix_z, ix_1, ix_eq, ix_le, ix_lt, ix_le0, nI_tc, n_leT, n_leF, n_ltT, n_ltF, n_eqT, n_eqF, or_self, or_false, false_or, ↓reduceIte, ↓qz_letL, ↓qz_letI, qz_oc_s, qz_oc_n, Option.bind_some, ne10, not_false_eq_true, l_x, rC26 hC _ t1, u3_f, u3_s, u3_i, u3_j, lN_sub]
    refine GoC.wr (wC26 hC (S 4 i (1 - j)) (S 26 (S 4 i (1 - j)) 0 - d) t1) (k1.tr (KM.sl (by decide))) (fun N1 hC k1 => ?_)
    have e4 := E_tokAt hC hi (j := 1 - j) (by omega)
    simp (disch := omega) only [u3_f, u3_s, u3_i, u3_j] at e4
    refine GoC.eq e4 ?_
    refine GoC.call (E_give hC hp t1) k1 (fun N1 hC k1 => ?_)
    simp (disch := omega) only [u3_f, u3_s, u3_i, u3_j] at hC
    have e5 := E_units hC (t := S 4 i (1 - j)) (d := d) t1 (by simp (disch := omega) only [u3_f, u3_s, u3_i, u3_j]; exact o6.1) (by simp (disch := omega) only [u3_f, u3_s, u3_i, u3_j]; exact o6.2.1) (by omega)
    simp (disch := omega) only [u3_f, u3_s, u3_i, u3_j] at e5
    refine GoC.eq e5 ?_
    refine GoC.call (E_begin hC (p := p) (i := i) (j := j) (a := a) (u := cdiv (d * 1000000000) (S 29 (S 4 i (1 - j)) 0)) hl) k1 (fun N1 hC k1 => GoC.st (GoC.ret hC k1) ?_)
    unfold stL
    simp (disch := omega) only [u3_f, u3_s, u3_i, u3_j, u3_lt]
  · rw [eM _ hM]
    simp (disch := omega) only [fM_loan_cut, ix_2m, ix_6m, ix_4m, ix_m4, ix_1s, ix_s, ix_s2, ix_s9, ix_s7, ix_s5, ix_s1, nI_add, nI_p1, ix_n, ix_z, ix_1, ix_eq, ix_le, ix_lt, ix_le0, nI_tc, n_leT, n_leF, n_ltT, n_ltF, n_eqT, n_eqF, or_self, or_false, false_or, ↓reduceIte, ↓qz_letL, ↓qz_letI, qz_oc_s, qz_oc_n, Option.bind_some, ne10, not_false_eq_true, l_x, i_10, rM4 hM i j hi hj, rM4c hM i j hi hj, ↓bd (M_has hM hp t0), l_lt, rM26 hM _ t1]
    refine GoM.scr (mV _ hM) hM KC.rf (fun N1 hM k1 => ?_)
    rw [l_100, l_60]
    obtain ⟨N2, e2, s2⟩ := M_above (N := N1) (a := 100) (b := d) (c := 60) (d := v) (by decide) (by omega) (by decide) (by omega)
    rw [if_neg (by omega)] at e2
    refine GoM.scr ⟨N2, e2, s2⟩ hM k1 (fun N1 hM k1 => ?_)
    refine GoM.pos rfl ?_
    simp (disch := omega) only [cM_loan2, nar1, ix_2m, ix_6m, ix_4m, ix_m4, ix_1s, ix_s, ix_s2, ix_s9, ix_s7, ix_s5, ix_s1, nI_add, nI_p1, ix_n, ix_z, ix_1, ix_eq, ix_le, ix_lt, ix_le0, nI_tc, n_leT, n_leF, n_ltT, n_ltF, n_eqT, n_eqF, or_self, or_false, false_or, ↓reduceIte, ↓qz_letL, ↓qz_letI, qz_oc_s, qz_oc_n, Option.bind_some, ne10, not_false_eq_true, l_x]
    refine GoM.wr (wM31 hM l 1 hl) (k1.tr (KC.si (by decide))) (fun N1 hM k1 => ?_)
    refine GoM.wr (wM32 hM l p hl) (k1.tr (KC.si (by decide))) (fun N1 hM k1 => ?_)
    refine GoM.wr (wM33 hM l i hl) (k1.tr (KC.si (by decide))) (fun N1 hM k1 => ?_)
    refine GoM.wr (wM34 hM l j hl) (k1.tr (KC.si (by decide))) (fun N1 hM k1 => ?_)
    refine GoM.wr (wM35 hM l a hl) (k1.tr (KC.sl (by decide))) (fun N1 hM k1 => ?_)
    simp (disch := omega) only [rM29 hM _ t1, l_g, u3_f, u3_s, u3_i, u3_j]
    refine GoM.scr (M_units (v := S 29 (S 4 i (1 - j)) 0) (d := d) o6.1 o6.2.1 (by omega)) hM k1 (fun N1 hM k1 => ?_)
    refine GoM.wr (wM36 hM l (cdiv (d * 1000000000) (S 29 (S 4 i (1 - j)) 0)) hl) (k1.tr (KC.sl (by decide))) (fun N1 hM k1 => ?_)
    refine GoM.call (M_give hM (w := S 0 p (S 4 i j) - a) hp t0 (by simp (disch := omega) only [u3_f, u3_s, u3_i, u3_j, lN_addneg])) k1 (fun N1 hM k1 => ?_)
    refine GoM.call (M_give hM (w := S 0 p (S 4 i (1 - j)) + d) hp t1 (by simp (disch := omega) only [u3_f, u3_s, u3_i, u3_j, lN_add])) k1 (fun N1 hM k1 => ?_)
    simp (disch := omega) only [ix_2m, ix_6m, ix_4m, ix_m4, ix_1s, ix_s, ix_s2, ix_s9, ix_s7, ix_s5, ix_s1, nI_add, nI_p1, ix_n, ix_z, ix_1, ix_eq, ix_le, ix_lt, ix_le0, nI_tc, n_leT, n_leF, n_ltT, n_ltF, n_eqT, n_eqF, or_self, or_false, false_or, ↓reduceIte, ↓qz_letL, ↓qz_letI, qz_oc_s, qz_oc_n, Option.bind_some, ne10, not_false_eq_true, l_x, rM26 hM _ t1, u3_f, u3_s, u3_i, u3_j, lN_sub]
    refine GoM.wr (wM26 hM (S 4 i (1 - j)) (S 26 (S 4 i (1 - j)) 0 - d) t1) (k1.tr (KC.sl (by decide))) (fun N1 hM k1 => GoM.st (GoM.ret hM k1) ?_)
    unfold stL
    simp (disch := omega) only [u3_f, u3_s, u3_i, u3_j, u3_lt]
theorem pay_un {u v D T : Nat} (hv : 1000000000 ≤ v) (hD : D = cdiv (u * v) 1000000000) (h1 : 1 ≤ T ∨ D ≤ T) : cdiv ((D - T) * 1000000000) v ≤ u := by
  refine cdiv_le (by omega) ?_
  by_cases c : D ≤ T
  · rw [show D - T = 0 by omega, Nat.zero_mul]; exact Nat.zero_le _
  · unfold cdiv at hD
    generalize u * v = z at *
    omega
theorem ok_pay {S : St} {c p l T : Nat} (ok : Ok c S) (hp : p < 6) (hl : l < 10) (ho : S 31 l 0 ≠ 0) (h1 : 1 ≤ T ∨ debt (S 4) (S 33) (S 34) (S 36) (S 29) l ≤ T) (hT : T ≤ debt (S 4) (S 33) (S 34) (S 36) (S 29) l) (ha : T ≤ S 0 p (dt (S 4) (S 33) (S 34) l)) : Ok c (qz_u3 (qz_u3 (qz_u3 S 0 p (dt (S 4) (S 33) (S 34) l) (S 0 p (dt (S 4) (S 33) (S 34) l) - T)) 26 (dt (S 4) (S 33) (S 34) l) 0 (S 26 (dt (S 4) (S 33) (S 34) l) 0 + T)) 36 l 0 (cdiv ((debt (S 4) (S 33) (S 34) (S 36) (S 29) l - T) * 1000000000) (S 29 (dt (S 4) (S 33) (S 34) l) 0))) := by
  have ht := ok.dt hl
  have o6 := ok.2.2.2.2.2.1 _ ht
  have ul := pay_un (u := S 36 l 0) (v := S 29 (dt (S 4) (S 33) (S 34) l) 0) (D := debt (S 4) (S 33) (S 34) (S 36) (S 29) l) (T := T) o6.1 rfl h1
  have ug := uni_ge (d := debt (S 4) (S 33) (S 34) (S 36) (S 29) l - T) o6.1
  have o7 := ok.2.2.2.2.2.2 l hl
  have eD : debt (S 4) (S 33) (S 34) (S 36) (S 29) l = cdiv (S 36 l 0 * S 29 (dt (S 4) (S 33) (S 34) l) 0) 1000000000 := rfl
  have et : dt (S 4) (S 33) (S 34) l = S 4 (S 33 l 0) (1 - S 34 l 0) := rfl
  generalize cdiv ((debt (S 4) (S 33) (S 34) (S 36) (S 29) l - T) * 1000000000) (S 29 (dt (S 4) (S 33) (S 34) l) 0) = w at *
  refine ok_L ok (fun f f0 f26 fr => ?_) (fun t ht' => ?_) (fun t ht' => ?_) (fun q hq => ?_)
  · rw [u3_f (by omega), u3_f (by omega), u3_f (by omega)]
  · simp (disch := omega) only [u3_f, u3_e]
    have r1 := cB_sub (bal := S 0) (p := p) (t0 := dt (S 4) (S 33) (S 34) l) (a := T) hp ha t
    rw [up_g]
    by_cases c1 : t = dt (S 4) (S 33) (S 34) l
    · rw [if_pos c1] at r1 ⊢
      have e26 : S 26 t 0 = S 26 (dt (S 4) (S 33) (S 34) l) 0 := by rw [← c1]
      omega
    · rw [if_neg c1] at r1 ⊢
      omega
  · simp (disch := omega) only [u3_f, u3_e]
    have r3 := cD_up (tok := S 4) (o := S 31) (o' := S 31) (pl := S 33) (pl' := S 33) (sd := S 34) (sd' := S 34) (un := S 36) (un' := up2 (S 36) l 0 w) (vi := S 29) hl (fun _ h => rfl) (fun _ h => rfl) (fun _ h => rfl) (fun _ h => up_n h) t
    rw [up2_s, ← et, ← eD] at r3
    rw [up_g]
    by_cases c2 : t = dt (S 4) (S 33) (S 34) l
    · rw [if_pos ⟨ho, c2.symm⟩, if_pos ⟨ho, c2.symm⟩] at r3
      rw [if_pos c2]
      have e26 : S 26 t 0 = S 26 (dt (S 4) (S 33) (S 34) l) 0 := by rw [← c2]
      omega
    · rw [if_neg (fun z => c2 z.2.symm), if_neg (fun z => c2 z.2.symm)] at r3
      rw [if_neg c2]
      omega
  · obtain ⟨a1, a2, a3, a4, a5, a6⟩ := ok.2.2.2.2.2.2 q hq
    simp (disch := omega) only [u3_f, u3_e]
    rw [up_g]
    refine ⟨a1, a2, a3, a4, ?_, a6⟩
    split
    · omega
    · exact a5
theorem ok_end {S : St} {c p l q g : Nat} (ok : Ok c S) (hp : p < 6) (hq : q < 6) (hl : l < 10) (ho : S 31 l 0 ≠ 0) (ha : debt (S 4) (S 33) (S 34) (S 36) (S 29) l ≤ S 0 p (dt (S 4) (S 33) (S 34) l)) (hg : g ≤ S 35 l 0) {S1 S2 : St} {w : Nat} (hw : w ≤ 100000000000000) (e1 : S1 = qz_u3 (qz_u3 (qz_u3 S 0 p (dt (S 4) (S 33) (S 34) l) (S 0 p (dt (S 4) (S 33) (S 34) l) - debt (S 4) (S 33) (S 34) (S 36) (S 29) l)) 26 (dt (S 4) (S 33) (S 34) l) 0 (S 26 (dt (S 4) (S 33) (S 34) l) 0 + debt (S 4) (S 33) (S 34) (S 36) (S 29) l)) 36 l 0 w) (e2 : S2 = qz_u3 S1 0 p (ct (S 4) (S 33) (S 34) l) (S1 0 p (ct (S 4) (S 33) (S 34) l) + g)) : Ok c (qz_u3 (qz_u3 S2 0 q (ct (S 4) (S 33) (S 34) l) (S2 0 q (ct (S 4) (S 33) (S 34) l) + (S 35 l 0 - g))) 31 l 0 0) := by
  have eD : debt (S 4) (S 33) (S 34) (S 36) (S 29) l = cdiv (S 36 l 0 * S 29 (dt (S 4) (S 33) (S 34) l) 0) 1000000000 := rfl
  have et : dt (S 4) (S 33) (S 34) l = S 4 (S 33 l 0) (1 - S 34 l 0) := rfl
  have ec : ct (S 4) (S 33) (S 34) l = S 4 (S 33 l 0) (S 34 l 0) := rfl
  have s0 : S1 0 = up2 (S 0) p (dt (S 4) (S 33) (S 34) l) (S 0 p (dt (S 4) (S 33) (S 34) l) - debt (S 4) (S 33) (S 34) (S 36) (S 29) l) := by
    rw [e1]; simp (disch := omega) only [u3_f, u3_e]
  have s0' : S2 0 = up2 (S1 0) p (ct (S 4) (S 33) (S 34) l) (S1 0 p (ct (S 4) (S 33) (S 34) l) + g) := by
    rw [e2, u3_e]
  have hf : ∀ f, f ≠ 0 → f ≠ 26 → f ≠ 36 → S2 f = S f := by
    intro f f0 f26 f36
    rw [e2, u3_f f0, e1, u3_f f36, u3_f f26, u3_f f0]
  have h26 : S2 26 = up2 (S 26) (dt (S 4) (S 33) (S 34) l) 0 (S 26 (dt (S 4) (S 33) (S 34) l) 0 + debt (S 4) (S 33) (S 34) (S 36) (S 29) l) := by
    rw [e2, e1]; simp (disch := omega) only [u3_f, u3_e]
  have h36 : S2 36 = up2 (S 36) l 0 w := by
    rw [e2, e1]; simp (disch := omega) only [u3_f, u3_e]
  refine ok_L ok (fun f f0 f26 fr => ?_) (fun t ht' => ?_) (fun t ht' => ?_) (fun k hk => ?_)
  · rw [u3_f (by omega), u3_f (by omega), hf f f0 f26 (by omega)]
  · simp (disch := omega) only [u3_f, u3_e, hf]
    have r1 := cB_sub (bal := S 0) (p := p) (t0 := dt (S 4) (S 33) (S 34) l) (a := debt (S 4) (S 33) (S 34) (S 36) (S 29) l) hp ha t
    rw [← s0] at r1
    have r2 := cB_add (bal := S1 0) (p := p) (t0 := ct (S 4) (S 33) (S 34) l) (a := g) hp t
    rw [← s0'] at r2
    have r4 := cB_add (bal := S2 0) (p := q) (t0 := ct (S 4) (S 33) (S 34) l) (a := S 35 l 0 - g) hq t
    have r3 := cL_up (tok := S 4) (o := S 31) (o' := up2 (S 31) l 0 0) (pl := S 33) (pl' := S 33) (sd := S 34) (sd' := S 34) (cv := S 35) (cv' := S 35) hl (fun _ h => up_n h) (fun _ h => rfl) (fun _ h => rfl) (fun _ h => rfl) t
    rw [if_neg (show ¬ (up2 (S 31) l 0 0 l 0 ≠ 0 ∧ _) from fun z => z.1 up2_s), ← ec] at r3
    rw [h26, up_g, r4]
    generalize debt (S 4) (S 33) (S 34) (S 36) (S 29) l = D at *
    by_cases c1 : t = ct (S 4) (S 33) (S 34) l
    · rw [if_pos c1] at r2 ⊢
      rw [if_pos ⟨ho, c1.symm⟩] at r3
      by_cases c2 : t = dt (S 4) (S 33) (S 34) l
      · rw [if_pos c2] at r1 ⊢
        have e26 : S 26 t 0 = S 26 (dt (S 4) (S 33) (S 34) l) 0 := by rw [← c2]
        omega
      · rw [if_neg c2] at r1 ⊢
        omega
    · rw [if_neg c1] at r2 ⊢
      rw [if_neg (fun z => c1 z.2.symm)] at r3
      by_cases c2 : t = dt (S 4) (S 33) (S 34) l
      · rw [if_pos c2] at r1 ⊢
        have e26 : S 26 t 0 = S 26 (dt (S 4) (S 33) (S 34) l) 0 := by rw [← c2]
        omega
      · rw [if_neg c2] at r1 ⊢
        omega
  · simp (disch := omega) only [u3_f, u3_e, hf]
    have r3 := cD_up (tok := S 4) (o := S 31) (o' := up2 (S 31) l 0 0) (pl := S 33) (pl' := S 33) (sd := S 34) (sd' := S 34) (un := S 36) (un' := up2 (S 36) l 0 w) (vi := S 29) hl (fun _ h => up_n h) (fun _ h => rfl) (fun _ h => rfl) (fun _ h => up_n h) t
    rw [if_neg (show ¬ (up2 (S 31) l 0 0 l 0 ≠ 0 ∧ _) from fun z => z.1 up2_s), ← et, ← eD] at r3
    rw [h26, h36, up_g]
    by_cases c2 : t = dt (S 4) (S 33) (S 34) l
    · rw [if_pos ⟨ho, c2.symm⟩] at r3
      rw [if_pos c2]
      have e26 : S 26 t 0 = S 26 (dt (S 4) (S 33) (S 34) l) 0 := by rw [← c2]
      omega
    · rw [if_neg (fun z => c2 z.2.symm)] at r3
      rw [if_neg c2]
      omega
  · obtain ⟨a1, a2, a3, a4, a5, a6⟩ := ok.2.2.2.2.2.2 k hk
    simp (disch := omega) only [u3_f, u3_e, hf]
    rw [h36, up_g, up_g]
    refine ⟨by split <;> omega, a2, a3, a4, by split <;> omega, fun z => a6 ?_⟩
    intro z2
    rw [z2] at z
    exact z (by split <;> rfl)
def cE_pay2 (o : Nat) (j4 : Nat) (x1 : Int32) (d v11 : Int64) (t : Int32) (N : qz_N) : Option (Int64 × qz_N) :=
        (fU_take o x1 t v11 N).bind fun q16 =>
        if t < 0 ∨ 4 ≤ t.toNatClampNeg then none else
        qz_let (qz_sl q16.2 5 t.toNatClampNeg 1 ((qz_gl q16.2 5 t.toNatClampNeg 1) + v11)) fun N19 =>
        if t < 0 ∨ 4 ≤ t.toNatClampNeg then none else
        (fV_unitsOf t.toNatClampNeg (d - v11) N19).bind fun q21 =>
        qz_let (qz_sl q21.2 6 j4 5 q21.1) fun N23 =>
        if v11 = d then
          (fE_coverToken o j4 N23).bind fun q24 =>
          (fU_give o (qz_gi N23 6 j4 1) q24.1 (qz_gl q24.2 6 j4 4) q24.2).bind fun q26 =>
          qz_let (qz_si q26.2 6 j4 0 (0 : Int32)) fun N28 =>
          some (v11, N28)
        else
        some (v11, N23)
theorem fE_pay_cut (o : Nat) (x1 : Int32) (x2 : Int32) (x3 : Int64) (N : qz_N) : fE_pay o x1 x2 x3 N =
  (fE_loanAt o x2 N).bind fun q1 => qz_oc q1
    (fun N3 =>
    (fE_isPlayer x1 N3).bind fun q5 =>
    if q5.1 = 0 then
      some ((-2 : Int64), q5.2)
    else
    some ((-2 : Int64), q5.2))
    fun N3 j4 =>
    (fE_isPlayer x1 N3).bind fun q7 =>
    if q7.1 = 0 then
      some ((-2 : Int64), q7.2)
    else
    if (1 : Int64) ≤ x3 then
      (fE_debtOf o j4 q7.2).bind fun q9 =>
      qz_let (if q9.1 < x3 then q9.1 else x3) fun v11 =>
      (fE_debtToken o j4 q9.2).bind fun q12 =>
      (fU_held o x1 q12.1 q12.2).bind fun q14 =>
      if v11 ≤ q14.1 then cE_pay2 o j4 x1 q9.1 v11 q12.1 q14.2
      else
      some ((-3 : Int64), q14.2)
    else
    some ((-2 : Int64), q7.2) := rfl
def cM_pay2 (o : Nat) (x1 x2 : Int32) (d v9 : Int64) (t : Int32) (N : qz_N) : Option (Int64 × qz_N) :=
      (fM_give o x1 t (-v9) N).bind fun q13 =>
      if t < 0 ∨ 4 ≤ t.toNatClampNeg then none else
      if t < 0 ∨ 4 ≤ t.toNatClampNeg then none else
      qz_let (qz_sl q13.2 41 o t.toNatClampNeg ((qz_gl q13.2 41 o t.toNatClampNeg) + v9)) fun N15 =>
      if t < 0 ∨ 4 ≤ t.toNatClampNeg then none else
      (fM_partUp o (d - v9) (1000000000 : Int64) (qz_gl N15 44 o t.toNatClampNeg) N15).bind fun q16 =>
      if x2 < 0 ∨ 10 ≤ x2.toNatClampNeg then none else
      qz_let (qz_sl q16.2 51 o x2.toNatClampNeg q16.1) fun N18 =>
      if d = v9 then
        if x2 < 0 ∨ 10 ≤ x2.toNatClampNeg then none else
        (fM_coverToken o x2 N18).bind fun q19 =>
        if x2 < 0 ∨ 10 ≤ x2.toNatClampNeg then none else
        (fM_give o (qz_gi N18 47 o x2.toNatClampNeg) q19.1 (qz_gl q19.2 50 o x2.toNatClampNeg) q19.2).bind fun q21 =>
        if x2 < 0 ∨ 10 ≤ x2.toNatClampNeg then none else
        qz_let (qz_si q21.2 46 o x2.toNatClampNeg (vp_nar .boolean (0 : Int32))) fun N23 =>
        some (v9, N23)
      else
      some (v9, N18)
theorem fM_pay_cut (o : Nat) (x1 : Int32) (x2 : Int32) (x3 : Int64) (N : qz_N) : fM_pay o x1 x2 x3 N =
  (fM_isPlayer x1 N).bind fun q1 =>
  if q1.1 = 0 then
    some ((-2 : Int64), q1.2)
  else
  (fM_isOpen o x2 q1.2).bind fun q3 =>
  if q3.1 = 0 then
    some ((-2 : Int64), q3.2)
  else
  if (1 : Int64) ≤ x3 then
    (fM_debtToken o x2 q3.2).bind fun q5 =>
    (fM_debtOf o x2 q5.2).bind fun q7 =>
    (fM_least x3 q7.1 q7.2).bind fun q9 =>
    (fM_has o x1 q5.1 q9.2).bind fun q11 =>
    if q9.1 ≤ q11.1 then cM_pay2 o x1 x2 q7.1 q9.1 q5.1 q11.2
    else
    some ((-3 : Int64), q11.2)
  else
  some ((-2 : Int64), q3.2) := rfl
theorem op_pay {N : qz_N} {S : St} {c : Nat} (ok : Ok c S) (hC : RC N S) (hM : RM N S) (y x : Int32) (z : Int64) : Alike N (fE_pay 0 y x z) (fM_pay 0 y x z) (Ok c) := by
  rcases ixc y (n := 6) (by decide) with hy | ⟨p, hp, rfl⟩
  · refine Alike.mk' (r := -2) hM (GoC.of ?_ hC) (fun N1 hM => GoM.of (by simp (disch := omega) only [fM_pay_cut, ↓bd (M_pl0 hy _), ix_2m, ix_6m, ix_4m, ix_m4, ix_1s, ix_s, ix_s2, ix_s9, ix_s7, ix_s5, ix_s1, nI_add, nI_p1, ix_n, ix_z, ix_1, ix_eq, ix_le, ix_lt, ix_le0, nI_tc, n_leT, n_leF, n_ltT, n_ltF, n_eqT, n_eqF, or_self, or_false, false_or, ↓reduceIte, ↓qz_letL, ↓qz_letI, qz_oc_s, qz_oc_n, Option.bind_some, ne10, not_false_eq_true, l_x]) hM) ok
    rcases loc ok x with ⟨g1, g2⟩ | ⟨l, hl, ho, rfl⟩
    · simp (disch := omega) only [fE_pay_cut, ↓bd (g1 _ hC), ↓bd (E_pl0 hy _), ix_2m, ix_6m, ix_4m, ix_m4, ix_1s, ix_s, ix_s2, ix_s9, ix_s7, ix_s5, ix_s1, nI_add, nI_p1, ix_n, ix_z, ix_1, ix_eq, ix_le, ix_lt, ix_le0, nI_tc, n_leT, n_leF, n_ltT, n_ltF, n_eqT, n_eqF, or_self, or_false, false_or, ↓reduceIte, ↓qz_letL, ↓qz_letI, qz_oc_s, qz_oc_n, Option.bind_some, ne10, not_false_eq_true, l_x]
    · simp (disch := omega) only [fE_pay_cut, ↓bd (E_lo2 hC hl (ok.2.2.2.2.2.2 l hl).1 ho), ↓bd (E_pl0 hy _), ix_2m, ix_6m, ix_4m, ix_m4, ix_1s, ix_s, ix_s2, ix_s9, ix_s7, ix_s5, ix_s1, nI_add, nI_p1, ix_n, ix_z, ix_1, ix_eq, ix_le, ix_lt, ix_le0, nI_tc, n_leT, n_leF, n_ltT, n_ltF, n_eqT, n_eqF, or_self, or_false, false_or, ↓reduceIte, ↓qz_letL, ↓qz_letI, qz_oc_s, qz_oc_n, Option.bind_some, ne10, not_false_eq_true, l_x]
  rcases loc ok x with ⟨g1, g2⟩ | ⟨l, hl, ho, rfl⟩
  · exact Alike.mk' (r := -2) hM (GoC.of (by simp (disch := omega) only [fE_pay_cut, ↓bd (g1 _ hC), ↓bd (E_pl1 hp _), ix_2m, ix_6m, ix_4m, ix_m4, ix_1s, ix_s, ix_s2, ix_s9, ix_s7, ix_s5, ix_s1, nI_add, nI_p1, ix_n, ix_z, ix_1, ix_eq, ix_le, ix_lt, ix_le0, nI_tc, n_leT, n_leF, n_ltT, n_ltF, n_eqT, n_eqF, or_self, or_false, false_or, ↓reduceIte, ↓qz_letL, ↓qz_letI, qz_oc_s, qz_oc_n, Option.bind_some, ne10, not_false_eq_true, l_x]) hC) (fun N1 hM => GoM.of (by simp (disch := omega) only [fM_pay_cut, ↓bd (M_pl1 hp _), ↓bd (g2 _ hM), ix_2m, ix_6m, ix_4m, ix_m4, ix_1s, ix_s, ix_s2, ix_s9, ix_s7, ix_s5, ix_s1, nI_add, nI_p1, ix_n, ix_z, ix_1, ix_eq, ix_le, ix_lt, ix_le0, nI_tc, n_leT, n_leF, n_ltT, n_ltF, n_eqT, n_eqF, or_self, or_false, false_or, ↓reduceIte, ↓qz_letL, ↓qz_letI, qz_oc_s, qz_oc_n, Option.bind_some, ne10, not_false_eq_true, l_x]) hM) ok
  obtain ⟨a1, a2, a3, a4, a5, a6⟩ := ok.2.2.2.2.2.2 l hl
  rcases l_gi (x := z) with hz | ⟨m, h1, h2, rfl⟩
  · exact Alike.mk' (r := -2) hM (GoC.of (by simp (disch := omega) only [fE_pay_cut, ↓bd (E_lo2 hC hl a1 ho), ↓bd (E_pl1 hp _), ix_2m, ix_6m, ix_4m, ix_m4, ix_1s, ix_s, ix_s2, ix_s9, ix_s7, ix_s5, ix_s1, nI_add, nI_p1, ix_n, ix_z, ix_1, ix_eq, ix_le, ix_lt, ix_le0, nI_tc, n_leT, n_leF, n_ltT, n_ltF, n_eqT, n_eqF, or_self, or_false, false_or, ↓reduceIte, ↓qz_letL, ↓qz_letI, qz_oc_s, qz_oc_n, Option.bind_some, ne10, not_false_eq_true, l_x, l_1, l_nle hz]) hC) (fun N1 hM => GoM.of (by simp (disch := omega) only [fM_pay_cut, ↓bd (M_pl1 hp _), ↓bd (M_lo2 hM hl a1 ho), ix_2m, ix_6m, ix_4m, ix_m4, ix_1s, ix_s, ix_s2, ix_s9, ix_s7, ix_s5, ix_s1, nI_add, nI_p1, ix_n, ix_z, ix_1, ix_eq, ix_le, ix_lt, ix_le0, nI_tc, n_leT, n_leF, n_ltT, n_ltF, n_eqT, n_eqF, or_self, or_false, false_or, ↓reduceIte, ↓qz_letL, ↓qz_letI, qz_oc_s, qz_oc_n, Option.bind_some, ne10, not_false_eq_true, l_x, l_1, l_nle hz]) hM) ok
  have ht := ok.dt hl
  have hc := ok.ct hl
  have o6 := ok.2.2.2.2.2.1 _ ht
  have db := (debt_b ok hl).2
  have bb := ok.bal hp ht
  have cb := ok.cov hl ho
  have eD := E_debt hC ok hl
  have et := E_debTok hC ok hl
  have kP := fun T h1 hT ha => ok_pay (T := T) ok hp hl ho h1 hT ha
  have kE := fun ha w hw => ok_end (g := 0) (w := w) ok hp a2 hl ho ha (Nat.zero_le _) hw rfl (u3_id (Nat.add_zero _)).symm
  have ul := fun T h1 => pay_un (u := S 36 l 0) (v := S 29 (dt (S 4) (S 33) (S 34) l) 0) (D := debt (S 4) (S 33) (S 34) (S 36) (S 29) l) (T := T) o6.1 rfl h1
  obtain ⟨T, hT⟩ : ∃ T, T = if debt (S 4) (S 33) (S 34) (S 36) (S 29) l ≤ m then debt (S 4) (S 33) (S 34) (S 36) (S 29) l else m := ⟨_, rfl⟩
  have eT : (if lN (debt (S 4) (S 33) (S 34) (S 36) (S 29) l) < lN m then lN (debt (S 4) (S 33) (S 34) (S 36) (S 29) l) else lN m) = lN T := by
    rw [ifc (l_lt (by omega) (by omega)), l_ite, hT, show (if debt (S 4) (S 33) (S 34) (S 36) (S 29) l < m then debt (S 4) (S 33) (S 34) (S 36) (S 29) l else m) = if debt (S 4) (S 33) (S 34) (S 36) (S 29) l ≤ m then debt (S 4) (S 33) (S 34) (S 36) (S 29) l else m by split <;> split <;> omega]
  have eL : ∀ N, fM_least (lN m) (lN (debt (S 4) (S 33) (S 34) (S 36) (S 29) l)) N = some (lN T, N) := by
    intro N
    unfold fM_least
    rw [ifc (l_le (by omega) (by omega)), hT]
    split <;> rfl
  have T1 : T ≤ debt (S 4) (S 33) (S 34) (S 36) (S 29) l := by rw [hT]; split <;> omega
  have T2 : 1 ≤ T ∨ debt (S 4) (S 33) (S 34) (S 36) (S 29) l ≤ T := by rw [hT]; split <;> omega
  have u1 := ul T T2
  clear hT ul
  have mD := fun N1 (hM : RM N1 S) => M_debt hM ok hl
  have mt := fun N1 (hM : RM N1 S) => M_debTok hM ok hl
  by_cases ha : T ≤ S 0 p (dt (S 4) (S 33) (S 34) l)
  case neg =>
    refine Alike.mk' (r := -3) hM (GoC.of (by simp (disch := omega) only [fE_pay_cut, ↓bd (E_lo2 hC hl a1 ho), ↓bd (E_pl1 hp _), ↓bd eD, ↓eT, ↓bd et, ↓bd (E_held hC hp ht), ix_2m, ix_6m, ix_4m, ix_m4, ix_1s, ix_s, ix_s2, ix_s9, ix_s7, ix_s5, ix_s1, nI_add, nI_p1, ix_n, ix_z, ix_1, ix_eq, ix_le, ix_lt, ix_le0, nI_tc, n_leT, n_leF, n_ltT, n_ltF, n_eqT, n_eqF, or_self, or_false, false_or, ↓reduceIte, ↓qz_letL, ↓qz_letI, qz_oc_s, qz_oc_n, Option.bind_some, ne10, not_false_eq_true, l_x, l_1, l_le]) hC) (fun N1 hM => ?_) ok
    simp (disch := omega) only [fM_pay_cut, ↓bd (M_pl1 hp _), ↓bd (M_lo2 hM hl a1 ho), ↓bd (mt _ hM), ix_2m, ix_6m, ix_4m, ix_m4, ix_1s, ix_s, ix_s2, ix_s9, ix_s7, ix_s5, ix_s1, nI_add, nI_p1, ix_n, ix_z, ix_1, ix_eq, ix_le, ix_lt, ix_le0, nI_tc, n_leT, n_leF, n_ltT, n_ltF, n_eqT, n_eqF, or_self, or_false, false_or, ↓reduceIte, ↓qz_letL, ↓qz_letI, qz_oc_s, qz_oc_n, Option.bind_some, ne10, not_false_eq_true, l_x, l_1, l_le]
    refine GoM.scr (mD _ hM) hM KC.rf (fun N1 hM k1 => ?_)
    simp (disch := omega) only [↓bd (eL _), ↓bd (M_has hM hp ht), l_le, ix_2m, ix_6m, ix_4m, ix_m4, ix_1s, ix_s, ix_s2, ix_s9, ix_s7, ix_s5, ix_s1, nI_add, nI_p1, ix_n, ix_z, ix_1, ix_eq, ix_le, ix_lt, ix_le0, nI_tc, n_leT, n_leF, n_ltT, n_ltF, n_eqT, n_eqF, or_self, or_false, false_or, ↓reduceIte, ↓qz_letL, ↓qz_letI, qz_oc_s, qz_oc_n, Option.bind_some, ne10, not_false_eq_true, l_x]
    exact GoM.ret hM k1
  have hS1 : ∀ S1 : St, S1 = qz_u3 (qz_u3 (qz_u3 S 0 p (dt (S 4) (S 33) (S 34) l) (S 0 p (dt (S 4) (S 33) (S 34) l) - T)) 26 (dt (S 4) (S 33) (S 34) l) 0 (S 26 (dt (S 4) (S 33) (S 34) l) 0 + T)) 36 l 0 (cdiv ((debt (S 4) (S 33) (S 34) (S 36) (S 29) l - T) * 1000000000) (S 29 (dt (S 4) (S 33) (S 34) l) 0)) → S1 4 = S 4 ∧ S1 32 = S 32 ∧ S1 33 = S 33 ∧ S1 34 = S 34 ∧ S1 35 = S 35 := by
    rintro S1 rfl
    refine ⟨?_, ?_, ?_, ?_, ?_⟩ <;> simp (disch := omega) only [u3_f]
  have gC : ∀ {r S'}, (∀ N1, RC N1 (qz_u3 (qz_u3 (qz_u3 S 0 p (dt (S 4) (S 33) (S 34) l) (S 0 p (dt (S 4) (S 33) (S 34) l) - T)) 26 (dt (S 4) (S 33) (S 34) l) 0 (S 26 (dt (S 4) (S 33) (S 34) l) 0 + T)) 36 l 0 (cdiv ((debt (S 4) (S 33) (S 34) (S 36) (S 29) l - T) * 1000000000) (S 29 (dt (S 4) (S 33) (S 34) l) 0))) → KM N N1 → GoC N (if lN T = lN (debt (S 4) (S 33) (S 34) (S 36) (S 29) l) then
          (fE_coverToken 0 l N1).bind fun q24 =>
          (fU_give 0 (qz_gi N1 6 l 1) q24.1 (qz_gl q24.2 6 l 4) q24.2).bind fun q26 =>
          qz_let (qz_si q26.2 6 l 0 (0 : Int32)) fun N28 =>
          some (lN T, N28)
        else
        some (lN T, N1)) r S') → GoC N (fE_pay 0 (nI p) (nI l) (lN m) N) r S' := by
    intro r S' g
    simp (disch := omega) only [fE_pay_cut, ↓bd (E_lo2 hC hl a1 ho), ↓bd (E_pl1 hp _), ↓bd eD, ↓eT, ↓bd et, ↓bd (E_held hC hp ht), ix_2m, ix_6m, ix_4m, ix_m4, ix_1s, ix_s, ix_s2, ix_s9, ix_s7, ix_s5, ix_s1, nI_add, nI_p1, ix_n, ix_z, ix_1, ix_eq, ix_le, ix_lt, ix_le0, nI_tc, n_leT, n_leF, n_ltT, n_ltF, n_eqT, n_eqF, or_self, or_false, false_or, ↓reduceIte, ↓qz_letL, ↓qz_letI, qz_oc_s, qz_oc_n, Option.bind_some, ne10, not_false_eq_true, l_x, l_1, l_le]
    unfold cE_pay2
    refine GoC.call (E_take hC hp ht ha) KM.rf (fun N1 hC k1 => ?_)
    simp (disch := omega) only [ix_2m, ix_6m, ix_4m, ix_m4, ix_1s, ix_s, ix_s2, ix_s9, ix_s7, ix_s5, ix_s1, nI_add, nI_p1, ix_n, ix_z, ix_1, ix_eq, ix_le, ix_lt, ix_le0, nI_tc, n_leT, n_leF, n_ltT, n_ltF, n_eqT, n_eqF, or_self, or_false, false_or, ↓reduceIte, ↓qz_letL, ↓qz_letI, qz_oc_s, qz_oc_n, Option.bind_some, ne10, not_false_eq_true, l_x, rC26 hC _ ht, u3_f, u3_s, u3_i, u3_j, lN_add]
    refine GoC.wr (wC26 hC (dt (S 4) (S 33) (S 34) l) (S 26 (dt (S 4) (S 33) (S 34) l) 0 + T) ht) (k1.tr (KM.sl (by decide))) (fun N1 hC k1 => ?_)
    have e5 := E_units hC (t := dt (S 4) (S 33) (S 34) l) (d := debt (S 4) (S 33) (S 34) (S 36) (S 29) l - T) ht (by simp (disch := omega) only [u3_f, u3_s, u3_i, u3_j]; exact o6.1) (by simp (disch := omega) only [u3_f, u3_s, u3_i, u3_j]; exact o6.2.1) (by omega)
    simp (disch := omega) only [u3_f, u3_s, u3_i, u3_j] at e5
    rw [lN_sub T1]
    refine GoC.eq e5 ?_
    exact GoC.wr (wC36 hC l _ hl) (k1.tr (KM.sl (by decide))) (fun N1 hC k1 => g N1 hC k1)
  have gM : ∀ N, RM N S → ∀ {r S'}, (∀ N1, RM N1 (qz_u3 (qz_u3 (qz_u3 S 0 p (dt (S 4) (S 33) (S 34) l) (S 0 p (dt (S 4) (S 33) (S 34) l) - T)) 26 (dt (S 4) (S 33) (S 34) l) 0 (S 26 (dt (S 4) (S 33) (S 34) l) 0 + T)) 36 l 0 (cdiv ((debt (S 4) (S 33) (S 34) (S 36) (S 29) l - T) * 1000000000) (S 29 (dt (S 4) (S 33) (S 34) l) 0))) → KC N N1 → GoM N (if lN (debt (S 4) (S 33) (S 34) (S 36) (S 29) l) = lN T then
          (fM_coverToken 0 (nI l) N1).bind fun q19 =>
          (fM_give 0 (qz_gi N1 47 0 l) q19.1 (qz_gl q19.2 50 0 l) q19.2).bind fun q21 =>
          qz_let (qz_si q21.2 46 0 l (0 : Int32)) fun N28 =>
          some (lN T, N28)
        else
        some (lN T, N1)) r S') → GoM N (fM_pay 0 (nI p) (nI l) (lN m) N) r S' := by
    intro N hM r S' g
    simp (disch := omega) only [fM_pay_cut, ↓bd (M_pl1 hp _), ↓bd (M_lo2 hM hl a1 ho), ↓bd (mt _ hM), ix_2m, ix_6m, ix_4m, ix_m4, ix_1s, ix_s, ix_s2, ix_s9, ix_s7, ix_s5, ix_s1, nI_add, nI_p1, ix_n, ix_z, ix_1, ix_eq, ix_le, ix_lt, ix_le0, nI_tc, n_leT, n_leF, n_ltT, n_ltF, n_eqT, n_eqF, or_self, or_false, false_or, ↓reduceIte, ↓qz_letL, ↓qz_letI, qz_oc_s, qz_oc_n, Option.bind_some, ne10, not_false_eq_true, l_x, l_1, l_le]
    refine GoM.scr (mD _ hM) hM KC.rf (fun N1 hM k1 => ?_)
    simp (disch := omega) only [↓bd (eL _), ↓bd (M_has hM hp ht), l_le, ix_2m, ix_6m, ix_4m, ix_m4, ix_1s, ix_s, ix_s2, ix_s9, ix_s7, ix_s5, ix_s1, nI_add, nI_p1, ix_n, ix_z, ix_1, ix_eq, ix_le, ix_lt, ix_le0, nI_tc, n_leT, n_leF, n_ltT, n_ltF, n_eqT, n_eqF, or_self, or_false, false_or, ↓reduceIte, ↓qz_letL, ↓qz_letI, qz_oc_s, qz_oc_n, Option.bind_some, ne10, not_false_eq_true, l_x]
    unfold cM_pay2
    refine GoM.call (M_give hM hp ht (lN_addneg ha)) k1 (fun N1 hM k1 => ?_)
    simp (disch := omega) only [ix_2m, ix_6m, ix_4m, ix_m4, ix_1s, ix_s, ix_s2, ix_s9, ix_s7, ix_s5, ix_s1, nI_add, nI_p1, ix_n, ix_z, ix_1, ix_eq, ix_le, ix_lt, ix_le0, nI_tc, n_leT, n_leF, n_ltT, n_ltF, n_eqT, n_eqF, or_self, or_false, false_or, ↓reduceIte, ↓qz_letL, ↓qz_letI, qz_oc_s, qz_oc_n, Option.bind_some, ne10, not_false_eq_true, l_x, rM26 hM _ ht, u3_f, u3_s, u3_i, u3_j, lN_add]
    refine GoM.wr (wM26 hM (dt (S 4) (S 33) (S 34) l) (S 26 (dt (S 4) (S 33) (S 34) l) 0 + T) ht) (k1.tr (KC.sl (by decide))) (fun N1 hM k1 => ?_)
    simp (disch := omega) only [rM29 hM _ ht, u3_f, u3_s, u3_i, u3_j, l_g, lN_sub, nar0]
    refine GoM.scr (M_units (v := S 29 (dt (S 4) (S 33) (S 34) l) 0) (d := debt (S 4) (S 33) (S 34) (S 36) (S 29) l - T) o6.1 o6.2.1 (by omega)) hM k1 (fun N1 hM k1 => ?_)
    exact GoM.wr (wM36 hM l _ hl) (k1.tr (KC.sl (by decide))) (fun N1 hM k1 => g N1 hM k1)
  by_cases full : T = debt (S 4) (S 33) (S 34) (S 36) (S 29) l
  · have kE' := kE (by omega) (cdiv ((debt (S 4) (S 33) (S 34) (S 36) (S 29) l - T) * 1000000000) (S 29 (dt (S 4) (S 33) (S 34) l) 0)) (by omega)
    subst full
    have ok1 := kP _ T2 T1 ha
    obtain ⟨f4, f32, f33, f34, f35⟩ := hS1 _ rfl
    rw [Nat.sub_zero] at kE'
    generalize hS : qz_u3 (qz_u3 (qz_u3 S 0 p (dt (S 4) (S 33) (S 34) l) (S 0 p (dt (S 4) (S 33) (S 34) l) - debt (S 4) (S 33) (S 34) (S 36) (S 29) l)) 26 (dt (S 4) (S 33) (S 34) l) 0 (S 26 (dt (S 4) (S 33) (S 34) l) 0 + debt (S 4) (S 33) (S 34) (S 36) (S 29) l)) 36 l 0 (cdiv ((debt (S 4) (S 33) (S 34) (S 36) (S 29) l - debt (S 4) (S 33) (S 34) (S 36) (S 29) l) * 1000000000) (S 29 (dt (S 4) (S 33) (S 34) l) 0)) = S1 at *
    refine Alike.mk' (r := lN (debt (S 4) (S 33) (S 34) (S 36) (S 29) l)) hM (gC (fun N1 hC k1 => ?_)) (fun N hM => gM N hM (fun N1 hM k1 => ?_)) kE'
    · rw [if_pos rfl]
      have e1 := E_covTok hC ok1 hl
      rw [f4, f33, f34] at e1
      refine GoC.eq e1 ?_
      rw [rC32 hC l hl, rC35 hC l hl, f32, f35]
      refine GoC.call (E_give hC a2 hc) k1 (fun N1 hC k1 => ?_)
      exact GoC.wr (wC31 hC l 0 hl) (k1.tr (KM.si (by decide))) (fun N1 hC k1 => GoC.ret hC k1)
    · rw [if_pos rfl]
      have e1 := M_covTok hM ok1 hl
      rw [f4, f33, f34] at e1
      refine GoM.eq e1 ?_
      rw [rM32 hM l hl, rM35 hM l hl, f32, f35]
      refine GoM.call (M_give hM a2 hc (lN_add _ _)) k1 (fun N1 hM k1 => ?_)
      exact GoM.wr (wM31 hM l 0 hl) (k1.tr (KC.si (by decide))) (fun N1 hM k1 => GoM.ret hM k1)
  · refine Alike.mk' (r := lN T) hM (gC (fun N1 hC k1 => ?_)) (fun N hM => gM N hM (fun N1 hM k1 => ?_)) (kP T T2 T1 ha)
    · rw [ifc (l_eq (by omega) (by omega)), if_neg full]
      exact GoC.ret hC k1
    · rw [ifc (l_eq (by omega) (by omega)), if_neg (fun z => full z.symm)]
      exact GoM.ret hM k1
