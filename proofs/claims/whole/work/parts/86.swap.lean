theorem u3_lt {S : St} {f i j v f' i' j' w : Nat} (h : f' < f) : qz_u3 (qz_u3 S f i j v) f' i' j' w = qz_u3 (qz_u3 S f' i' j' w) f i j v := u3_c (by omega)
def stP (S : St) (p i b0 b1 x y s w : Nat) : St := qz_u3 (qz_u3 (qz_u3 (qz_u3 (qz_u3 (qz_u3 S 0 p (S 4 i 0) b0) 0 p (S 4 i 1) b1) 7 i 0 x) 7 i 1 y) 8 i 0 s) 9 i p w
theorem ok_P {S : St} {c p i b0 b1 x y s w : Nat} (ok : Ok c S) (hp : p < 6) (hi : i < S 3 0 0) (e0 : b0 + x = S 0 p (S 4 i 0) + S 7 i 0) (e1 : b1 + y = S 0 p (S 4 i 1) + S 7 i 1) (es : w + S 8 i 0 = S 9 i p + s) (hk0 : S 5 i 0 = 0 → s * s ≤ x * y) (hk1 : S 5 i 0 ≠ 0 → s ≤ x + y) : Ok c (stP S p i b0 b1 x y s w) := by
  have h6 := ok.np
  have hi6 : i < 6 := by omega
  obtain ⟨h1, h2, h3, h4, h5, h6', h7⟩ := ok
  unfold Ok stP
  simp (disch := omega) only [u3_f, u3_e]
  refine ⟨?_, ?_, ?_, h4, h5, h6', h7⟩
  · intro t ht
    obtain ⟨a1, a2⟩ := h1 t ht
    refine ⟨?_, a2⟩
    have d := (h2.2 i hi6).2.2.2.2.1 hi
    have r1 := cB_up (bal := up2 (S 0) p (S 4 i 0) b0) (p := p) (t0 := S 4 i 1) (v := b1) hp t
    have r2 := cB_up (bal := S 0) (p := p) (t0 := S 4 i 0) (v := b0) hp t
    have r3 := cR_up (tok := S 4) (res := up2 (S 7) i 0 x) (q := i) (j := 1) (v := y) hi6 (by decide) t
    have r4 := cR_up (tok := S 4) (res := S 7) (q := i) (j := 0) (v := x) hi6 (by decide) t
    rw [up2_j (Ne.symm d)] at r1
    rw [up2_j (by decide)] at r3
    by_cases c0 : t = S 4 i 0
    · have c1 : ¬ t = S 4 i 1 := by omega
      rw [if_neg c1, if_neg c1] at r1
      rw [if_pos c0, if_pos c0] at r2
      rw [if_neg (Ne.symm c1), if_neg (Ne.symm c1)] at r3
      rw [if_pos c0.symm, if_pos c0.symm] at r4
      omega
    · by_cases c1 : t = S 4 i 1
      · rw [if_pos c1, if_pos c1] at r1
        rw [if_neg c0, if_neg c0] at r2
        rw [if_pos c1.symm, if_pos c1.symm] at r3
        rw [if_neg (Ne.symm c0), if_neg (Ne.symm c0)] at r4
        omega
      · rw [if_neg c1, if_neg c1] at r1
        rw [if_neg c0, if_neg c0] at r2
        rw [if_neg (Ne.symm c1), if_neg (Ne.symm c1)] at r3
        rw [if_neg (Ne.symm c0), if_neg (Ne.symm c0)] at r4
        omega
  · refine ⟨h2.1, fun q hq => ?_⟩
    obtain ⟨a1, a2, a3, a4, a5, a6⟩ := h2.2 q hq
    refine ⟨a1, a2, a3, a4, a5, fun hn => ?_⟩
    have hne : q ≠ i := by omega
    rw [up2_i hne, up2_i hne, up2_i hne, up2_i hne, up2_i hne]
    exact a6 hn
  · intro q hq
    obtain ⟨a1, a2, a3⟩ := h3 q hq
    by_cases hne : q = i
    · subst hne
      rw [up2_s, up2_s, up2_j (by decide), up2_s]
      refine ⟨?_, hk0, hk1⟩
      have r := sg_upd (f := fun a => S 9 q a) (g := fun a => up2 (S 9) q p w q a) hp (fun a _ ha => up2_j ha)
      simp only [up2_s] at r
      show sg (fun a => up2 (S 9) q p w q a) 6 = s
      omega
    · rw [up2_i hne, up2_i hne, up2_i hne, up2_i hne, up2_i hne, sg_congr (g := fun a => S 9 q a) (fun a _ => up2_i hne)]
      exact ⟨a1, a2, a3⟩
theorem sw_prod {x y a A o s : Nat} (hA : A ≤ 10000 * a) (hd : 0 < 10000 * x + A) (ho : o = y * A / (10000 * x + A)) (hs : s * s ≤ x * y) : s * s ≤ (x + a) * (y - o) := by
  have h1 : o * (10000 * x + A) ≤ y * A := by rw [ho]; exact Nat.div_mul_le_self _ _
  have h2 : o ≤ y := by rw [ho]; exact div_le_of (by omega) hd
  obtain ⟨z, rfl⟩ : ∃ z, y = o + z := ⟨y - o, by omega⟩
  rw [Nat.add_sub_cancel_left]
  have h3 : (10000 * x + A) * z ≤ (10000 * x + 10000 * a) * z := Nat.mul_le_mul_right z (by omega)
  have e1 : o * (10000 * x + A) = 10000 * (o * x) + o * A := by grind
  have e2 : (o + z) * A = o * A + z * A := by grind
  have e3 : (10000 * x + A) * z = 10000 * (x * z) + z * A := by grind
  have e4 : (10000 * x + 10000 * a) * z = 10000 * ((x + a) * z) := by grind
  have e5 : x * (o + z) = o * x + x * z := by grind
  rw [e5] at hs
  rw [e3, e4] at h3
  rw [e1, e2] at h1
  omega
theorem sw_sum {x y a A o s : Nat} (hA : A ≤ 10000 * a) (ho : o ≤ A / 10000) (hy : o ≤ y) (hs : s ≤ x + y) : s ≤ x + a + (y - o) := by
  omega
theorem fee_a (a f : Nat) : a * (10000 - f) ≤ 10000 * a := by
  rw [Nat.mul_comm 10000]; exact Nat.mul_le_mul_left a (by omega)
theorem out_0 {S : St} {i j a : Nat} (h1 : 1 ≤ a) (hf : S 6 i 0 ≤ 1000) {s : Nat} (hs : S 5 i 0 = 0 → s * s ≤ S 7 i j * S 7 i (1 - j)) (k : S 5 i 0 = 0) : s * s ≤ (S 7 i j + a) * (S 7 i (1 - j) - outV S i j a) := by
  have b2 := out_p h1 hf
  refine sw_prod (fee_a a (S 6 i 0)) (by omega) ?_ (hs k)
  unfold outV; rw [if_pos k]
theorem out_1 {S : St} {i j a : Nat} (h1 : 1 ≤ a) (hf : S 6 i 0 ≤ 1000) {s : Nat} (hs : S 5 i 0 ≠ 0 → s ≤ S 7 i j + S 7 i (1 - j)) (k : S 5 i 0 ≠ 0) : s ≤ S 7 i j + a + (S 7 i (1 - j) - outV S i j a) := by
  refine sw_sum (fee_a a (S 6 i 0)) ?_ (out_le h1 hf) (hs k)
  unfold outV; rw [if_neg k]; split <;> omega
theorem E_swapS {N N0 : qz_N} {S : St} (hC : RC N S) (k0 : KM N0 N) {c p i j a o : Nat} (ok : Ok c S) (hp : p < 6) (hi : i < S 3 0 0) (hj : j < 2) (ha : a ≤ S 0 p (S 4 i j)) (ho : o ≤ S 7 i (1 - j)) : GoC N0 ((fE_bringIn 0 (nI p) i (nI j) (lN a) N).bind fun q17 => (fE_takeOut 0 (nI p) i ((1 : Int32) - nI j) (lN o) q17.2).bind fun q19 => some (lN o, q19.2)) (lN o) (qz_u3 (qz_u3 (qz_u3 (qz_u3 S 0 p (S 4 i j) (S 0 p (S 4 i j) - a)) 0 p (S 4 i (1 - j)) (S 0 p (S 4 i (1 - j)) + o)) 7 i j (S 7 i j + a)) 7 i (1 - j) (S 7 i (1 - j) - o)) := by
  have h6 := ok.np
  have hi6 : i < 6 := by omega
  have hd : S 4 i (1 - j) ≠ S 4 i j := by
    have := (ok.2.1.2 i hi6).2.2.2.2.1 hi
    rcases (show j = 0 ∨ j = 1 by omega) with rfl | rfl
    · exact Ne.symm this
    · exact this
  refine GoC.call (E_bringIn hC hp hi6 hj (ok.tok hi6 hj) ha) k0 (fun N1 h1 k1 => ?_)
  have w := E_takeOut h1 (p := p) (i := i) (j := 1 - j) (a := o) hp hi6 (by omega) (by simp (disch := omega) only [u3_f, u3_s, u3_i, u3_j]; exact ok.tok hi6 (by omega)) (by simp (disch := omega) only [u3_f, u3_s, u3_i, u3_j]; exact ho)
  rw [ix_1s (by omega)]
  refine GoC.call w k1 (fun N2 h2 k2 => GoC.st (GoC.ret h2 k2) ?_)
  simp (disch := omega) only [u3_f, u3_s, u3_i, u3_j, u3_lt]
theorem wMl {N : qz_N} {S : St} {i j v : Nat} {w : Int64} (h : RM N S) (hi : i < 6) (hj : j < 2) (hw : w = lN v) : RM (qz_sl N 27 0 (2 * i + j) w) (qz_u3 S 7 i j v) := by
  rw [hw]; exact wM7 h i j v hi hj
theorem stP4 {S : St} {p i j a o : Nat} (hd : S 4 i 0 ≠ S 4 i 1) (hj : j < 2) : qz_u3 (qz_u3 (qz_u3 (qz_u3 S 0 p (S 4 i j) (S 0 p (S 4 i j) - a)) 0 p (S 4 i (1 - j)) (S 0 p (S 4 i (1 - j)) + o)) 7 i j (S 7 i j + a)) 7 i (1 - j) (S 7 i (1 - j) - o) = if j = 0 then stP S p i (S 0 p (S 4 i 0) - a) (S 0 p (S 4 i 1) + o) (S 7 i 0 + a) (S 7 i 1 - o) (S 8 i 0) (S 9 i p) else stP S p i (S 0 p (S 4 i 0) + o) (S 0 p (S 4 i 1) - a) (S 7 i 0 - o) (S 7 i 1 + a) (S 8 i 0) (S 9 i p) := by
  unfold stP
  rw [u3_id (f := 9) (by simp (disch := omega) only [u3_f, u3_s, u3_i, u3_j]), u3_id (f := 8) (by simp (disch := omega) only [u3_f, u3_s, u3_i, u3_j]), u3_id (f := 9) (by simp (disch := omega) only [u3_f, u3_s, u3_i, u3_j]), u3_id (f := 8) (by simp (disch := omega) only [u3_f, u3_s, u3_i, u3_j])]
  rcases (show j = 0 ∨ j = 1 by omega) with rfl | rfl
  · rw [if_pos rfl]
  · rw [if_neg (by decide)]
    show qz_u3 (qz_u3 (qz_u3 (qz_u3 S 0 p (S 4 i 1) (S 0 p (S 4 i 1) - a)) 0 p (S 4 i 0) (S 0 p (S 4 i 0) + o)) 7 i 1 (S 7 i 1 + a)) 7 i 0 (S 7 i 0 - o) = _
    rw [u3_c (f := 7) (f' := 7) (by omega), u3_c (f := 0) (f' := 0) (by omega)]
theorem op_swap {N : qz_N} {S : St} {c : Nat} (ok : Ok c S) (hC : RC N S) (hM : RM N S) (y x s : Int32) (z : Int64) : Alike N (fE_swap 0 y x s z) (fM_swap 0 y x s z) (Ok c) := by
  have h6 := ok.np
  rcases ixc y (n := 6) (by decide) with hy | ⟨p, hp, rfl⟩
  · refine Alike.mk' (r := -2) hM (GoC.of ?_ hC) (fun N1 hM => GoM.of (by simp (disch := omega) only [fM_swap, ↓bd (M_pl0 hy _), ix_2m, ix_6m, ix_4m, ix_m4, ix_1s, ix_s, ix_s2, ix_s9, ix_s7, ix_s5, ix_s1, nI_add, nI_p1, ix_n, ix_z, ix_1, ix_eq, ix_le, ix_lt, ix_le0, nI_tc, n_leT, n_leF, n_ltT, n_ltF, n_eqT, n_eqF, or_self, or_false, false_or, ↓reduceIte, ↓qz_letL, ↓qz_letI, qz_oc_s, qz_oc_n, Option.bind_some, ne10, not_false_eq_true, l_x]) hM) ok
    rcases ixc x (n := S 3 0 0) (by omega) with hx | ⟨i, hx, rfl⟩
    · simp (disch := omega) only [fE_swap, ↓bd (E_po0 hC hx), ↓bd (E_pl0 hy _), ix_2m, ix_6m, ix_4m, ix_m4, ix_1s, ix_s, ix_s2, ix_s9, ix_s7, ix_s5, ix_s1, nI_add, nI_p1, ix_n, ix_z, ix_1, ix_eq, ix_le, ix_lt, ix_le0, nI_tc, n_leT, n_leF, n_ltT, n_ltF, n_eqT, n_eqF, or_self, or_false, false_or, ↓reduceIte, ↓qz_letL, ↓qz_letI, qz_oc_s, qz_oc_n, Option.bind_some, ne10, not_false_eq_true, l_x]
    · simp (disch := omega) only [fE_swap, ↓bd (E_po1 hC h6 hx), ↓bd (E_pl0 hy _), ix_2m, ix_6m, ix_4m, ix_m4, ix_1s, ix_s, ix_s2, ix_s9, ix_s7, ix_s5, ix_s1, nI_add, nI_p1, ix_n, ix_z, ix_1, ix_eq, ix_le, ix_lt, ix_le0, nI_tc, n_leT, n_leF, n_ltT, n_ltF, n_eqT, n_eqF, or_self, or_false, false_or, ↓reduceIte, ↓qz_letL, ↓qz_letI, qz_oc_s, qz_oc_n, Option.bind_some, ne10, not_false_eq_true, l_x]
  rcases ixc x (n := S 3 0 0) (by omega) with hx | ⟨i, hx, rfl⟩
  · exact Alike.mk' (r := -2) hM (GoC.of (by simp (disch := omega) only [fE_swap, ↓bd (E_po0 hC hx), ↓bd (E_pl1 hp _), ix_2m, ix_6m, ix_4m, ix_m4, ix_1s, ix_s, ix_s2, ix_s9, ix_s7, ix_s5, ix_s1, nI_add, nI_p1, ix_n, ix_z, ix_1, ix_eq, ix_le, ix_lt, ix_le0, nI_tc, n_leT, n_leF, n_ltT, n_ltF, n_eqT, n_eqF, or_self, or_false, false_or, ↓reduceIte, ↓qz_letL, ↓qz_letI, qz_oc_s, qz_oc_n, Option.bind_some, ne10, not_false_eq_true, l_x]) hC) (fun N1 hM => GoM.of (by simp (disch := omega) only [fM_swap, ↓bd (M_pl1 hp _), ↓bd (M_po0 hM hx), ix_2m, ix_6m, ix_4m, ix_m4, ix_1s, ix_s, ix_s2, ix_s9, ix_s7, ix_s5, ix_s1, nI_add, nI_p1, ix_n, ix_z, ix_1, ix_eq, ix_le, ix_lt, ix_le0, nI_tc, n_leT, n_leF, n_ltT, n_ltF, n_eqT, n_eqF, or_self, or_false, false_or, ↓reduceIte, ↓qz_letL, ↓qz_letI, qz_oc_s, qz_oc_n, Option.bind_some, ne10, not_false_eq_true, l_x]) hM) ok
  rcases sdc s with hs | ⟨j, hj, rfl⟩
  · exact Alike.mk' (r := -2) hM (GoC.of (by simp (disch := omega) only [fE_swap, ↓bd (E_po1 hC h6 hx), ↓bd (E_pl1 hp _), ↓bd (E_sd0 hs _), ix_2m, ix_6m, ix_4m, ix_m4, ix_1s, ix_s, ix_s2, ix_s9, ix_s7, ix_s5, ix_s1, nI_add, nI_p1, ix_n, ix_z, ix_1, ix_eq, ix_le, ix_lt, ix_le0, nI_tc, n_leT, n_leF, n_ltT, n_ltF, n_eqT, n_eqF, or_self, or_false, false_or, ↓reduceIte, ↓qz_letL, ↓qz_letI, qz_oc_s, qz_oc_n, Option.bind_some, ne10, not_false_eq_true, l_x]) hC) (fun N1 hM => GoM.of (by simp (disch := omega) only [fM_swap, ↓bd (M_pl1 hp _), ↓bd (M_po1 hM h6 hx), ↓bd (M_sd0 hs _), ix_2m, ix_6m, ix_4m, ix_m4, ix_1s, ix_s, ix_s2, ix_s9, ix_s7, ix_s5, ix_s1, nI_add, nI_p1, ix_n, ix_z, ix_1, ix_eq, ix_le, ix_lt, ix_le0, nI_tc, n_leT, n_leF, n_ltT, n_ltF, n_eqT, n_eqF, or_self, or_false, false_or, ↓reduceIte, ↓qz_letL, ↓qz_letI, qz_oc_s, qz_oc_n, Option.bind_some, ne10, not_false_eq_true, l_x]) hM) ok
  rcases l_gi (x := z) with hz | ⟨a, h1, h2, rfl⟩
  · exact Alike.mk' (r := -2) hM (GoC.of (by simp (disch := omega) only [fE_swap, ↓bd (E_po1 hC h6 hx), ↓bd (E_pl1 hp _), ↓bd (E_sd1 hj _), ix_2m, ix_6m, ix_4m, ix_m4, ix_1s, ix_s, ix_s2, ix_s9, ix_s7, ix_s5, ix_s1, nI_add, nI_p1, ix_n, ix_z, ix_1, ix_eq, ix_le, ix_lt, ix_le0, nI_tc, n_leT, n_leF, n_ltT, n_ltF, n_eqT, n_eqF, or_self, or_false, false_or, ↓reduceIte, ↓qz_letL, ↓qz_letI, qz_oc_s, qz_oc_n, Option.bind_some, ne10, not_false_eq_true, l_x, l_1, l_nle hz]) hC) (fun N1 hM => GoM.of (by simp (disch := omega) only [fM_swap, ↓bd (M_pl1 hp _), ↓bd (M_po1 hM h6 hx), ↓bd (M_sd1 hj _), ix_2m, ix_6m, ix_4m, ix_m4, ix_1s, ix_s, ix_s2, ix_s9, ix_s7, ix_s5, ix_s1, nI_add, nI_p1, ix_n, ix_z, ix_1, ix_eq, ix_le, ix_lt, ix_le0, nI_tc, n_leT, n_leF, n_ltT, n_ltF, n_eqT, n_eqF, or_self, or_false, false_or, ↓reduceIte, ↓qz_letL, ↓qz_letI, qz_oc_s, qz_oc_n, Option.bind_some, ne10, not_false_eq_true, l_x, l_1, l_nle hz]) hM) ok
  have hi : i < 6 := by omega
  have ht := ok.tok hi hj
  have bb := ok.bal hp ht
  by_cases hb : a ≤ S 0 p (S 4 i j)
  · have ha : a ≤ 100000000000000 := by omega
    have b := E_oute hC ok hi hj h1 ha
    by_cases z : outV S i j a = 0
    · refine Alike.mk' (r := -3) hM (GoC.of (by simp (disch := omega) only [fE_swap, ↓bd (E_po1 hC h6 hx), ↓bd (E_pl1 hp _), ↓bd (E_sd1 hj _), ix_2m, ix_6m, ix_4m, ix_m4, ix_1s, ix_s, ix_s2, ix_s9, ix_s7, ix_s5, ix_s1, nI_add, nI_p1, ix_n, ix_z, ix_1, ix_eq, ix_le, ix_lt, ix_le0, nI_tc, n_leT, n_leF, n_ltT, n_ltF, n_eqT, n_eqF, or_self, or_false, false_or, ↓reduceIte, ↓qz_letL, ↓qz_letI, qz_oc_s, qz_oc_n, Option.bind_some, ne10, not_false_eq_true, l_x, l_0, l_1, l_60, l_80, l_100, l_105, l_k, l_xk, l_m, l_g, l_xg, l_t, l_ct, l_ex, l_mx, l_lt, l_le, l_eq, l_div, l_ite, lN_add, lN_sub, lN_mul, lN_addneg, ↓bd (E_tokAt hC hi hj), ↓bd (E_held hC hp ht), ↓bd (E_out hC ok _ hj h1 ha)]) hC) (fun N1 hM => ?_) ok
      simp (disch := omega) only [fM_swap, ↓bd (M_pl1 hp _), ↓bd (M_po1 hM h6 hx), ↓bd (M_sd1 hj _), ix_2m, ix_6m, ix_4m, ix_m4, ix_1s, ix_s, ix_s2, ix_s9, ix_s7, ix_s5, ix_s1, nI_add, nI_p1, ix_n, ix_z, ix_1, ix_eq, ix_le, ix_lt, ix_le0, nI_tc, n_leT, n_leF, n_ltT, n_ltF, n_eqT, n_eqF, or_self, or_false, false_or, ↓reduceIte, ↓qz_letL, ↓qz_letI, qz_oc_s, qz_oc_n, Option.bind_some, ne10, not_false_eq_true, l_x, l_0, l_1, l_60, l_80, l_100, l_105, l_k, l_xk, l_m, l_g, l_xg, l_t, l_ct, l_ex, l_mx, l_lt, l_le, l_eq, l_div, l_ite, lN_add, lN_sub, lN_mul, lN_addneg, rM4 hM i j hi hj, ↓bd (M_has hM hp ht)]
      refine GoM.scr (M_out hM ok hi hj h1 ha) hM KC.rf (fun N1 h1 k1 => ?_)
      simp (disch := omega) only [ix_2m, ix_6m, ix_4m, ix_m4, ix_1s, ix_s, ix_s2, ix_s9, ix_s7, ix_s5, ix_s1, nI_add, nI_p1, ix_n, ix_z, ix_1, ix_eq, ix_le, ix_lt, ix_le0, nI_tc, n_leT, n_leF, n_ltT, n_ltF, n_eqT, n_eqF, or_self, or_false, false_or, ↓reduceIte, ↓qz_letL, ↓qz_letI, qz_oc_s, qz_oc_n, Option.bind_some, ne10, not_false_eq_true, l_x, l_0, l_1, l_60, l_80, l_100, l_105, l_k, l_xk, l_m, l_g, l_xg, l_t, l_ct, l_ex, l_mx, l_lt, l_le, l_eq, l_div, l_ite, lN_add, lN_sub, lN_mul, lN_addneg]
      exact GoM.ret h1 k1
    · have hd := (ok.2.1.2 i hi).2.2.2.2.1 hx
      have ho := out_le (S := S) (i := i) (j := j) h1 (ok.fee hi)
      refine Alike.mk' (r := lN (outV S i j a)) (S' := qz_u3 (qz_u3 (qz_u3 (qz_u3 S 0 p (S 4 i j) (S 0 p (S 4 i j) - a)) 0 p (S 4 i (1 - j)) (S 0 p (S 4 i (1 - j)) + outV S i j a)) 7 i j (S 7 i j + a)) 7 i (1 - j) (S 7 i (1 - j) - outV S i j a)) hM ?_ (fun N1 hM => ?_) ?_
      · simp (disch := omega) only [fE_swap, ↓bd (E_po1 hC h6 hx), ↓bd (E_pl1 hp _), ↓bd (E_sd1 hj _), ix_2m, ix_6m, ix_4m, ix_m4, ix_1s, ix_s, ix_s2, ix_s9, ix_s7, ix_s5, ix_s1, nI_add, nI_p1, ix_n, ix_z, ix_1, ix_eq, ix_le, ix_lt, ix_le0, nI_tc, n_leT, n_leF, n_ltT, n_ltF, n_eqT, n_eqF, or_self, or_false, false_or, ↓reduceIte, ↓qz_letL, ↓qz_letI, qz_oc_s, qz_oc_n, Option.bind_some, ne10, not_false_eq_true, l_x, l_0, l_1, l_60, l_80, l_100, l_105, l_k, l_xk, l_m, l_g, l_xg, l_t, l_ct, l_ex, l_mx, l_lt, l_le, l_eq, l_div, l_ite, lN_add, lN_sub, lN_mul, lN_addneg, ↓bd (E_tokAt hC hi hj), ↓bd (E_held hC hp ht), ↓bd (E_out hC ok _ hj h1 ha)]
        have w := E_swapS hC KM.rf ok hp hx hj hb ho
        rw [ix_1s (by omega)] at w
        exact w
      · simp (disch := omega) only [fM_swap, ↓bd (M_pl1 hp _), ↓bd (M_po1 hM h6 hx), ↓bd (M_sd1 hj _), ix_2m, ix_6m, ix_4m, ix_m4, ix_1s, ix_s, ix_s2, ix_s9, ix_s7, ix_s5, ix_s1, nI_add, nI_p1, ix_n, ix_z, ix_1, ix_eq, ix_le, ix_lt, ix_le0, nI_tc, n_leT, n_leF, n_ltT, n_ltF, n_eqT, n_eqF, or_self, or_false, false_or, ↓reduceIte, ↓qz_letL, ↓qz_letI, qz_oc_s, qz_oc_n, Option.bind_some, ne10, not_false_eq_true, l_x, l_0, l_1, l_60, l_80, l_100, l_105, l_k, l_xk, l_m, l_g, l_xg, l_t, l_ct, l_ex, l_mx, l_lt, l_le, l_eq, l_div, l_ite, lN_add, lN_sub, lN_mul, lN_addneg, rM4 hM i j hi hj, ↓bd (M_has hM hp ht)]
        refine GoM.scr (M_out hM ok hi hj h1 ha) hM KC.rf (fun N1 hM k1 => ?_)
        simp (disch := omega) only [ix_2m, ix_6m, ix_4m, ix_m4, ix_1s, ix_s, ix_s2, ix_s9, ix_s7, ix_s5, ix_s1, nI_add, nI_p1, ix_n, ix_z, ix_1, ix_eq, ix_le, ix_lt, ix_le0, nI_tc, n_leT, n_leF, n_ltT, n_ltF, n_eqT, n_eqF, or_self, or_false, false_or, ↓reduceIte, ↓qz_letL, ↓qz_letI, qz_oc_s, qz_oc_n, Option.bind_some, ne10, not_false_eq_true, l_x, l_0, l_1, l_60, l_80, l_100, l_105, l_k, l_xk, l_m, l_g, l_xg, l_t, l_ct, l_ex, l_mx, l_lt, l_le, l_eq, l_div, l_ite, lN_add, lN_sub, lN_mul, lN_addneg]
        refine GoM.call (M_give hM hp ht (lN_addneg hb)) k1 (fun N1 hM k1 => ?_)
        have hd' : S 4 i (1 - j) ≠ S 4 i j := by
          rcases (show j = 0 ∨ j = 1 by omega) with rfl | rfl
          · exact Ne.symm hd
          · exact hd
        have ht' := ok.tok hi (j := 1 - j) (by omega)
        simp (disch := omega) only [ix_2m, ix_6m, ix_4m, ix_m4, ix_1s, ix_s, ix_s2, ix_s9, ix_s7, ix_s5, ix_s1, nI_add, nI_p1, ix_n, ix_z, ix_1, ix_eq, ix_le, ix_lt, ix_le0, nI_tc, n_leT, n_leF, n_ltT, n_ltF, n_eqT, n_eqF, or_self, or_false, false_or, ↓reduceIte, ↓qz_letL, ↓qz_letI, qz_oc_s, qz_oc_n, Option.bind_some, ne10, not_false_eq_true, l_x, rM4c hM i j hi hj, u3_f, u3_s, u3_i, u3_j]
        refine GoM.call (M_give hM (w := S 0 p (S 4 i (1 - j)) + outV S i j a) hp ht' (by simp (disch := omega) only [u3_f, u3_s, u3_i, u3_j, lN_add])) k1 (fun N1 hM k1 => ?_)
        simp (disch := omega) only [ix_2m, ix_6m, ix_4m, ix_m4, ix_1s, ix_s, ix_s2, ix_s9, ix_s7, ix_s5, ix_s1, nI_add, nI_p1, ix_n, ix_z, ix_1, ix_eq, ix_le, ix_lt, ix_le0, nI_tc, n_leT, n_leF, n_ltT, n_ltF, n_eqT, n_eqF, or_self, or_false, false_or, ↓reduceIte, ↓qz_letL, ↓qz_letI, qz_oc_s, qz_oc_n, Option.bind_some, ne10, not_false_eq_true, l_x, rM7 hM i j hi hj, u3_f, u3_s, u3_i, u3_j, lN_add]
        refine GoM.wr (wMl hM (v := S 7 i j + a) hi hj rfl) (k1.tr (KC.sl (by decide))) (fun N1 hM k1 => ?_)
        simp (disch := omega) only [ix_2m, ix_6m, ix_4m, ix_m4, ix_1s, ix_s, ix_s2, ix_s9, ix_s7, ix_s5, ix_s1, nI_add, nI_p1, ix_n, ix_z, ix_1, ix_eq, ix_le, ix_lt, ix_le0, nI_tc, n_leT, n_leF, n_ltT, n_ltF, n_eqT, n_eqF, or_self, or_false, false_or, ↓reduceIte, ↓qz_letL, ↓qz_letI, qz_oc_s, qz_oc_n, Option.bind_some, ne10, not_false_eq_true, l_x, rM7c hM i j hi hj, u3_f, u3_s, u3_i, u3_j, lN_sub]
        rw [show 2 * i + 1 - j = 2 * i + (1 - j) by omega]
        exact GoM.wr (wMl hM (v := S 7 i (1 - j) - outV S i j a) hi (by omega) rfl) (k1.tr (KC.sl (by decide))) (fun N1 hM k1 => GoM.ret hM k1)
      · rw [stP4 hd hj]
        have o3 := ok.2.2.1 i hi
        rcases (show j = 0 ∨ j = 1 by omega) with rfl | rfl
        · rw [if_pos rfl]
          have ho' : outV S i 0 a ≤ S 7 i 1 := ho
          exact ok_P ok hp hx (by omega) (by omega) (by omega) (fun k => out_0 (j := 0) h1 (ok.fee hi) o3.2.1 k) (fun k => out_1 (j := 0) h1 (ok.fee hi) o3.2.2 k)
        · rw [if_neg (by decide)]
          have ho' : outV S i 1 a ≤ S 7 i 0 := ho
          refine ok_P ok hp hx (by omega) (by omega) (by omega) (fun k => ?_) (fun k => ?_)
          · have := out_0 (j := 1) h1 (ok.fee hi) (s := S 8 i 0) (fun k => (Nat.mul_comm (S 7 i 0) (S 7 i 1)) ▸ o3.2.1 k) k
            rw [Nat.mul_comm (S 7 i 0 - _)]; exact this
          · have := out_1 (j := 1) h1 (ok.fee hi) (s := S 8 i 0) (fun k => (Nat.add_comm (S 7 i 0) (S 7 i 1)) ▸ o3.2.2 k) k
            rw [Nat.add_comm (S 7 i 0 - _)]; exact this
  · refine Alike.mk' (r := -3) hM (GoC.of (by simp (disch := omega) only [fE_swap, ↓bd (E_po1 hC h6 hx), ↓bd (E_pl1 hp _), ↓bd (E_sd1 hj _), ix_2m, ix_6m, ix_4m, ix_m4, ix_1s, ix_s, ix_s2, ix_s9, ix_s7, ix_s5, ix_s1, nI_add, nI_p1, ix_n, ix_z, ix_1, ix_eq, ix_le, ix_lt, ix_le0, nI_tc, n_leT, n_leF, n_ltT, n_ltF, n_eqT, n_eqF, or_self, or_false, false_or, ↓reduceIte, ↓qz_letL, ↓qz_letI, qz_oc_s, qz_oc_n, Option.bind_some, ne10, not_false_eq_true, l_x, l_0, l_1, l_60, l_80, l_100, l_105, l_k, l_xk, l_m, l_g, l_xg, l_t, l_ct, l_ex, l_mx, l_lt, l_le, l_eq, l_div, l_ite, lN_add, lN_sub, lN_mul, lN_addneg, ↓bd (E_tokAt hC hi hj), ↓bd (E_held hC hp ht)]) hC) (fun N1 hM => GoM.of (by simp (disch := omega) only [fM_swap, ↓bd (M_pl1 hp _), ↓bd (M_po1 hM h6 hx), ↓bd (M_sd1 hj _), ix_2m, ix_6m, ix_4m, ix_m4, ix_1s, ix_s, ix_s2, ix_s9, ix_s7, ix_s5, ix_s1, nI_add, nI_p1, ix_n, ix_z, ix_1, ix_eq, ix_le, ix_lt, ix_le0, nI_tc, n_leT, n_leF, n_ltT, n_ltF, n_eqT, n_eqF, or_self, or_false, false_or, ↓reduceIte, ↓qz_letL, ↓qz_letI, qz_oc_s, qz_oc_n, Option.bind_some, ne10, not_false_eq_true, l_x, l_0, l_1, l_60, l_80, l_100, l_105, l_k, l_xk, l_m, l_g, l_xg, l_t, l_ct, l_ex, l_mx, l_lt, l_le, l_eq, l_div, l_ite, lN_add, lN_sub, lN_mul, lN_addneg, rM4 hM i j hi hj, ↓bd (M_has hM hp ht)]) hM) ok
theorem E_payOf {N : qz_N} {S : St} (hC : RC N S) {c i j n : Nat} (ok : Ok c S) (hi : i < 6) (hj : j < 2) (hn : n ≤ S 8 i 0) (h0 : 1 ≤ n) : fP_payOf i (lN n) (nI j) N = some (lN (n * S 7 i j / S 8 i 0), N) := by
  have b1 := ok.sh hi
  have b2 := ok.res hi hj
  have b3 : n * S 7 i j / S 8 i 0 ≤ S 7 i j := by
    rw [Nat.mul_comm]; exact div_le_of (by omega) (by omega)
  unfold fP_payOf
  rw [E_resAt hC hi hj, Option.bind_some, rC8 hC i hi, A_to (by omega) (by omega) (by omega) (by omega) (by omega)]
  rfl
theorem lv_side {x s n a : Nat} (ha : a * s ≤ n * x) : x * (s - n) ≤ (x - a) * s := by
  rw [Nat.mul_sub, Nat.sub_mul]
  have := Nat.mul_comm n x
  omega
theorem jn_side {x s n a : Nat} (ha : n * x ≤ a * s) : x * (s + n) ≤ (x + a) * s := by
  rw [Nat.mul_add, Nat.add_mul]
  have := Nat.mul_comm n x
  omega
theorem mv_prod {x y z w s m : Nat} (h0 : 0 < s) (h1 : x * m ≤ z * s) (h2 : y * m ≤ w * s) (hs : s * s ≤ x * y) : m * m ≤ z * w := by
  have h3 := Nat.mul_le_mul h1 h2
  have h4 := Nat.mul_le_mul hs (Nat.le_refl (m * m))
  have e1 : x * m * (y * m) = x * y * (m * m) := by grind
  have e2 : z * s * (w * s) = s * s * (z * w) := by grind
  rw [e1, e2] at h3
  exact Nat.le_of_mul_le_mul_left (Nat.le_trans h4 h3) (Nat.mul_pos h0 h0)
theorem mv_sum {x y z w s m : Nat} (h0 : 0 < s) (h1 : x * m ≤ z * s) (h2 : y * m ≤ w * s) (hs : s ≤ x + y) : m ≤ z + w := by
  have h4 := Nat.mul_le_mul hs (Nat.le_refl m)
  have e1 : (x + y) * m = x * m + y * m := by grind
  have e2 : z * s + w * s = s * (z + w) := by grind
  refine Nat.le_of_mul_le_mul_left (c := s) ?_ h0
  omega
theorem E_move2 {N N0 : qz_N} {S : St} (hC : RC N S) (k0 : KM N0 N) {c p i a b n : Nat} {β : Type} {r : β} (ok : Ok c S) (hp : p < 6) (hi : i < S 3 0 0) (ha : a ≤ S 7 i 0) (hb : b ≤ S 7 i 1) (hn : n ≤ S 9 i p) : GoC N0 ((fE_takeOut 0 (nI p) i (0 : Int32) (lN a) N).bind fun q13 => (fE_takeOut 0 (nI p) i (1 : Int32) (lN b) q13.2).bind fun q15 => (fP_addShares i (nI p) (-lN n) q15.2).bind fun q17 => some (r, q17.2)) r (stP S p i (S 0 p (S 4 i 0) + a) (S 0 p (S 4 i 1) + b) (S 7 i 0 - a) (S 7 i 1 - b) (S 8 i 0 - n) (S 9 i p - n)) := by
  have h6 := ok.np
  have hi6 : i < 6 := by omega
  have hd := (ok.2.1.2 i hi6).2.2.2.2.1 hi
  have hns := ok.shof hi6 hp
  refine GoC.call (E_takeOut hC (j := 0) hp hi6 (by decide) (ok.tok hi6 (by decide)) ha) k0 (fun N1 h1 k1 => ?_)
  have w := E_takeOut h1 (p := p) (i := i) (j := 1) (a := b) hp hi6 (by omega) (by simp (disch := omega) only [u3_f, u3_s, u3_i, u3_j]; exact ok.tok hi6 (by omega)) (by simp (disch := omega) only [u3_f, u3_s, u3_i, u3_j]; exact hb)
  refine GoC.call w k1 (fun N2 h2 k2 => ?_)
  refine GoC.call (E_addSh h2 (p := p) (i := i) (v := S 9 i p - n) (w := S 8 i 0 - n) hp hi6 (by simp (disch := omega) only [u3_f, u3_s, u3_i, u3_j, lN_addneg]) (by simp (disch := omega) only [u3_f, u3_s, u3_i, u3_j, lN_addneg])) k2 (fun N3 h3 k3 => GoC.st (GoC.ret h3 k3) ?_)
  unfold stP
  simp (disch := omega) only [u3_f, u3_s, u3_i, u3_j, u3_lt]
theorem op_leave {N : qz_N} {S : St} {c : Nat} (ok : Ok c S) (hC : RC N S) (hM : RM N S) (y x : Int32) (z : Int64) : Alike N (fE_leave 0 y x z) (fM_leave 0 y x z) (Ok c) := by
  have h6 := ok.np
  rcases ixc y (n := 6) (by decide) with hy | ⟨p, hp, rfl⟩
  · refine Alike.mk' (r := -2) hM (GoC.of ?_ hC) (fun N1 hM => GoM.of (by simp (disch := omega) only [fM_leave, ↓bd (M_pl0 hy _), ix_2m, ix_6m, ix_4m, ix_m4, ix_1s, ix_s, ix_s2, ix_s9, ix_s7, ix_s5, ix_s1, nI_add, nI_p1, ix_n, ix_z, ix_1, ix_eq, ix_le, ix_lt, ix_le0, nI_tc, n_leT, n_leF, n_ltT, n_ltF, n_eqT, n_eqF, or_self, or_false, false_or, ↓reduceIte, ↓qz_letL, ↓qz_letI, qz_oc_s, qz_oc_n, Option.bind_some, ne10, not_false_eq_true, l_x]) hM) ok
    rcases ixc x (n := S 3 0 0) (by omega) with hx | ⟨i, hx, rfl⟩
    · simp (disch := omega) only [fE_leave, ↓bd (E_po0 hC hx), ↓bd (E_pl0 hy _), ix_2m, ix_6m, ix_4m, ix_m4, ix_1s, ix_s, ix_s2, ix_s9, ix_s7, ix_s5, ix_s1, nI_add, nI_p1, ix_n, ix_z, ix_1, ix_eq, ix_le, ix_lt, ix_le0, nI_tc, n_leT, n_leF, n_ltT, n_ltF, n_eqT, n_eqF, or_self, or_false, false_or, ↓reduceIte, ↓qz_letL, ↓qz_letI, qz_oc_s, qz_oc_n, Option.bind_some, ne10, not_false_eq_true, l_x]
    · simp (disch := omega) only [fE_leave, ↓bd (E_po1 hC h6 hx), ↓bd (E_pl0 hy _), ix_2m, ix_6m, ix_4m, ix_m4, ix_1s, ix_s, ix_s2, ix_s9, ix_s7, ix_s5, ix_s1, nI_add, nI_p1, ix_n, ix_z, ix_1, ix_eq, ix_le, ix_lt, ix_le0, nI_tc, n_leT, n_leF, n_ltT, n_ltF, n_eqT, n_eqF, or_self, or_false, false_or, ↓reduceIte, ↓qz_letL, ↓qz_letI, qz_oc_s, qz_oc_n, Option.bind_some, ne10, not_false_eq_true, l_x]
  rcases ixc x (n := S 3 0 0) (by omega) with hx | ⟨i, hx, rfl⟩
  · exact Alike.mk' (r := -2) hM (GoC.of (by simp (disch := omega) only [fE_leave, ↓bd (E_po0 hC hx), ↓bd (E_pl1 hp _), ix_2m, ix_6m, ix_4m, ix_m4, ix_1s, ix_s, ix_s2, ix_s9, ix_s7, ix_s5, ix_s1, nI_add, nI_p1, ix_n, ix_z, ix_1, ix_eq, ix_le, ix_lt, ix_le0, nI_tc, n_leT, n_leF, n_ltT, n_ltF, n_eqT, n_eqF, or_self, or_false, false_or, ↓reduceIte, ↓qz_letL, ↓qz_letI, qz_oc_s, qz_oc_n, Option.bind_some, ne10, not_false_eq_true, l_x]) hC) (fun N1 hM => GoM.of (by simp (disch := omega) only [fM_leave, ↓bd (M_pl1 hp _), ↓bd (M_po0 hM hx), ix_2m, ix_6m, ix_4m, ix_m4, ix_1s, ix_s, ix_s2, ix_s9, ix_s7, ix_s5, ix_s1, nI_add, nI_p1, ix_n, ix_z, ix_1, ix_eq, ix_le, ix_lt, ix_le0, nI_tc, n_leT, n_leF, n_ltT, n_ltF, n_eqT, n_eqF, or_self, or_false, false_or, ↓reduceIte, ↓qz_letL, ↓qz_letI, qz_oc_s, qz_oc_n, Option.bind_some, ne10, not_false_eq_true, l_x]) hM) ok
  rcases l_gi (x := z) with hz | ⟨n, h1, h2, rfl⟩
  · exact Alike.mk' (r := -2) hM (GoC.of (by simp (disch := omega) only [fE_leave, ↓bd (E_po1 hC h6 hx), ↓bd (E_pl1 hp _), ix_2m, ix_6m, ix_4m, ix_m4, ix_1s, ix_s, ix_s2, ix_s9, ix_s7, ix_s5, ix_s1, nI_add, nI_p1, ix_n, ix_z, ix_1, ix_eq, ix_le, ix_lt, ix_le0, nI_tc, n_leT, n_leF, n_ltT, n_ltF, n_eqT, n_eqF, or_self, or_false, false_or, ↓reduceIte, ↓qz_letL, ↓qz_letI, qz_oc_s, qz_oc_n, Option.bind_some, ne10, not_false_eq_true, l_x, l_1, l_nle hz]) hC) (fun N1 hM => GoM.of (by simp (disch := omega) only [fM_leave, ↓bd (M_pl1 hp _), ↓bd (M_po1 hM h6 hx), ix_2m, ix_6m, ix_4m, ix_m4, ix_1s, ix_s, ix_s2, ix_s9, ix_s7, ix_s5, ix_s1, nI_add, nI_p1, ix_n, ix_z, ix_1, ix_eq, ix_le, ix_lt, ix_le0, nI_tc, n_leT, n_leF, n_ltT, n_ltF, n_eqT, n_eqF, or_self, or_false, false_or, ↓reduceIte, ↓qz_letL, ↓qz_letI, qz_oc_s, qz_oc_n, Option.bind_some, ne10, not_false_eq_true, l_x, l_1, l_nle hz]) hM) ok
  have hi : i < 6 := by omega
  have bs := ok.sh hi
  have bp := ok.shof hi hp
  by_cases hb : n ≤ S 9 i p
  · have hd := (ok.2.1.2 i hi).2.2.2.2.1 hx
    have t0 := ok.tok hi (j := 0) (by decide)
    have t1 := ok.tok hi (j := 1) (by decide)
    have b0 := ok.res hi (j := 0) (by decide)
    have b1 := ok.res hi (j := 1) (by decide)
    have e0 : fP_payOf i (lN n) 0 N = some (lN (n * S 7 i 0 / S 8 i 0), N) := E_payOf hC (j := 0) ok hi (by decide) (by omega) h1
    have e1 : fP_payOf i (lN n) 1 N = some (lN (n * S 7 i 1 / S 8 i 0), N) := E_payOf hC (j := 1) ok hi (by decide) (by omega) h1
    have l0 : n * S 7 i 0 / S 8 i 0 ≤ S 7 i 0 := by rw [Nat.mul_comm]; exact div_le_of (by omega) (by omega)
    have l1 : n * S 7 i 1 / S 8 i 0 ≤ S 7 i 1 := by rw [Nat.mul_comm]; exact div_le_of (by omega) (by omega)
    have m0 := M_pt (a := n) (b := S 7 i 0) (d := S 8 i 0) (by omega) (by omega) (by omega) (by omega) (by omega)
    have m1 := M_pt (a := n) (b := S 7 i 1) (d := S 8 i 0) (by omega) (by omega) (by omega) (by omega) (by omega)
    have d0 := Nat.div_mul_le_self (n * S 7 i 0) (S 8 i 0)
    have d1 := Nat.div_mul_le_self (n * S 7 i 1) (S 8 i 0)
    generalize n * S 7 i 0 / S 8 i 0 = a at *
    generalize n * S 7 i 1 / S 8 i 0 = b at *
    refine Alike.mk' (r := lN a) (S' := stP S p i (S 0 p (S 4 i 0) + a) (S 0 p (S 4 i 1) + b) (S 7 i 0 - a) (S 7 i 1 - b) (S 8 i 0 - n) (S 9 i p - n)) hM ?_ (fun N1 hM => ?_) ?_
    · simp (disch := omega) only [fE_leave, ↓bd (E_po1 hC h6 hx), ↓bd (E_pl1 hp _), ix_2m, ix_6m, ix_4m, ix_m4, ix_1s, ix_s, ix_s2, ix_s9, ix_s7, ix_s5, ix_s1, nI_add, nI_p1, ix_n, ix_z, ix_1, ix_eq, ix_le, ix_lt, ix_le0, nI_tc, n_leT, n_leF, n_ltT, n_ltF, n_eqT, n_eqF, or_self, or_false, false_or, ↓reduceIte, ↓qz_letL, ↓qz_letI, qz_oc_s, qz_oc_n, Option.bind_some, ne10, not_false_eq_true, l_x, l_0, l_1, l_60, l_80, l_100, l_105, l_k, l_xk, l_m, l_g, l_xg, l_t, l_ct, l_ex, l_mx, l_lt, l_le, l_eq, l_div, l_ite, lN_add, lN_sub, lN_mul, lN_addneg, rC9 hC i p hi hp, ↓bd e0, ↓bd e1]
      exact E_move2 hC KM.rf ok hp hx l0 l1 hb
    · simp (disch := omega) only [fM_leave, ↓bd (M_pl1 hp _), ↓bd (M_po1 hM h6 hx), ix_2m, ix_6m, ix_4m, ix_m4, ix_1s, ix_s, ix_s2, ix_s9, ix_s7, ix_s5, ix_s1, nI_add, nI_p1, ix_n, ix_z, ix_1, ix_eq, ix_le, ix_lt, ix_le0, nI_tc, n_leT, n_leF, n_ltT, n_ltF, n_eqT, n_eqF, or_self, or_false, false_or, ↓reduceIte, ↓qz_letL, ↓qz_letI, qz_oc_s, qz_oc_n, Option.bind_some, ne10, not_false_eq_true, l_x, l_0, l_1, l_60, l_80, l_100, l_105, l_k, l_xk, l_m, l_g, l_xg, l_t, l_ct, l_ex, l_mx, l_lt, l_le, l_eq, l_div, l_ite, lN_add, lN_sub, lN_mul, lN_addneg, rM9 hM i p hi hp, rM7a hM i hi, rM8 hM i hi]
      refine GoM.scr (m0 _) hM KC.rf (fun N1 hM k1 => ?_)
      simp (disch := omega) only [ix_2m, ix_6m, ix_4m, ix_m4, ix_1s, ix_s, ix_s2, ix_s9, ix_s7, ix_s5, ix_s1, nI_add, nI_p1, ix_n, ix_z, ix_1, ix_eq, ix_le, ix_lt, ix_le0, nI_tc, n_leT, n_leF, n_ltT, n_ltF, n_eqT, n_eqF, or_self, or_false, false_or, ↓reduceIte, ↓qz_letL, ↓qz_letI, qz_oc_s, qz_oc_n, Option.bind_some, ne10, not_false_eq_true, l_x, rM7 hM i 1 hi, rM8 hM i hi]
      refine GoM.scr (m1 _) hM k1 (fun N1 hM k1 => ?_)
      simp (disch := omega) only [ix_2m, ix_6m, ix_4m, ix_m4, ix_1s, ix_s, ix_s2, ix_s9, ix_s7, ix_s5, ix_s1, nI_add, nI_p1, ix_n, ix_z, ix_1, ix_eq, ix_le, ix_lt, ix_le0, nI_tc, n_leT, n_leF, n_ltT, n_ltF, n_eqT, n_eqF, or_self, or_false, false_or, ↓reduceIte, ↓qz_letL, ↓qz_letI, qz_oc_s, qz_oc_n, Option.bind_some, ne10, not_false_eq_true, l_x, rM7a hM i hi, lN_sub]
      refine GoM.wr (wMl hM (j := 0) (v := S 7 i 0 - a) hi (by decide) rfl) (k1.tr (KC.sl (by decide))) (fun N1 hM k1 => ?_)
      simp (disch := omega) only [ix_2m, ix_6m, ix_4m, ix_m4, ix_1s, ix_s, ix_s2, ix_s9, ix_s7, ix_s5, ix_s1, nI_add, nI_p1, ix_n, ix_z, ix_1, ix_eq, ix_le, ix_lt, ix_le0, nI_tc, n_leT, n_leF, n_ltT, n_ltF, n_eqT, n_eqF, or_self, or_false, false_or, ↓reduceIte, ↓qz_letL, ↓qz_letI, qz_oc_s, qz_oc_n, Option.bind_some, ne10, not_false_eq_true, l_x, rM7 hM i 1 hi, u3_f, u3_s, u3_i, u3_j, lN_sub]
      refine GoM.wr (wMl hM (j := 1) (v := S 7 i 1 - b) hi (by decide) rfl) (k1.tr (KC.sl (by decide))) (fun N1 hM k1 => ?_)
      simp (disch := omega) only [ix_2m, ix_6m, ix_4m, ix_m4, ix_1s, ix_s, ix_s2, ix_s9, ix_s7, ix_s5, ix_s1, nI_add, nI_p1, ix_n, ix_z, ix_1, ix_eq, ix_le, ix_lt, ix_le0, nI_tc, n_leT, n_leF, n_ltT, n_ltF, n_eqT, n_eqF, or_self, or_false, false_or, ↓reduceIte, ↓qz_letL, ↓qz_letI, qz_oc_s, qz_oc_n, Option.bind_some, ne10, not_false_eq_true, l_x, rM4a hM i hi, u3_f, u3_s, u3_i, u3_j]
      refine GoM.call (M_give hM (w := S 0 p (S 4 i 0) + a) hp t0 (by simp (disch := omega) only [u3_f, u3_s, u3_i, u3_j, lN_add])) k1 (fun N1 hM k1 => ?_)
      simp (disch := omega) only [ix_2m, ix_6m, ix_4m, ix_m4, ix_1s, ix_s, ix_s2, ix_s9, ix_s7, ix_s5, ix_s1, nI_add, nI_p1, ix_n, ix_z, ix_1, ix_eq, ix_le, ix_lt, ix_le0, nI_tc, n_leT, n_leF, n_ltT, n_ltF, n_eqT, n_eqF, or_self, or_false, false_or, ↓reduceIte, ↓qz_letL, ↓qz_letI, qz_oc_s, qz_oc_n, Option.bind_some, ne10, not_false_eq_true, l_x, rM4 hM i 1 hi, u3_f, u3_s, u3_i, u3_j]
      refine GoM.call (M_give hM (w := S 0 p (S 4 i 1) + b) hp t1 (by simp (disch := omega) only [u3_f, u3_s, u3_i, u3_j, lN_add])) k1 (fun N1 hM k1 => ?_)
      simp (disch := omega) only [ix_2m, ix_6m, ix_4m, ix_m4, ix_1s, ix_s, ix_s2, ix_s9, ix_s7, ix_s5, ix_s1, nI_add, nI_p1, ix_n, ix_z, ix_1, ix_eq, ix_le, ix_lt, ix_le0, nI_tc, n_leT, n_leF, n_ltT, n_ltF, n_eqT, n_eqF, or_self, or_false, false_or, ↓reduceIte, ↓qz_letL, ↓qz_letI, qz_oc_s, qz_oc_n, Option.bind_some, ne10, not_false_eq_true, l_x, rM9 hM i p hi hp, u3_f, u3_s, u3_i, u3_j, lN_sub]
      refine GoM.wr (wM9 hM i p (S 9 i p - n) hi hp) (k1.tr (KC.sl (by decide))) (fun N1 hM k1 => ?_)
      simp (disch := omega) only [ix_2m, ix_6m, ix_4m, ix_m4, ix_1s, ix_s, ix_s2, ix_s9, ix_s7, ix_s5, ix_s1, nI_add, nI_p1, ix_n, ix_z, ix_1, ix_eq, ix_le, ix_lt, ix_le0, nI_tc, n_leT, n_leF, n_ltT, n_ltF, n_eqT, n_eqF, or_self, or_false, false_or, ↓reduceIte, ↓qz_letL, ↓qz_letI, qz_oc_s, qz_oc_n, Option.bind_some, ne10, not_false_eq_true, l_x, rM8 hM i hi, u3_f, u3_s, u3_i, u3_j, lN_sub]
      refine GoM.wr (wM8 hM i (S 8 i 0 - n) hi) (k1.tr (KC.sl (by decide))) (fun N1 hM k1 => GoM.st (GoM.ret hM k1) ?_)
      unfold stP
      simp (disch := omega) only [u3_f, u3_s, u3_i, u3_j, u3_lt]
    · have o3 := ok.2.2.1 i hi
      exact ok_P ok hp hx (by omega) (by omega) (by omega) (fun k => mv_prod (by omega) (lv_side d0) (lv_side d1) (o3.2.1 k)) (fun k => mv_sum (by omega) (lv_side d0) (lv_side d1) (o3.2.2 k))
  · exact Alike.mk' (r := -3) hM (GoC.of (by simp (disch := omega) only [fE_leave, ↓bd (E_po1 hC h6 hx), ↓bd (E_pl1 hp _), ix_2m, ix_6m, ix_4m, ix_m4, ix_1s, ix_s, ix_s2, ix_s9, ix_s7, ix_s5, ix_s1, nI_add, nI_p1, ix_n, ix_z, ix_1, ix_eq, ix_le, ix_lt, ix_le0, nI_tc, n_leT, n_leF, n_ltT, n_ltF, n_eqT, n_eqF, or_self, or_false, false_or, ↓reduceIte, ↓qz_letL, ↓qz_letI, qz_oc_s, qz_oc_n, Option.bind_some, ne10, not_false_eq_true, l_x, l_0, l_1, l_60, l_80, l_100, l_105, l_k, l_xk, l_m, l_g, l_xg, l_t, l_ct, l_ex, l_mx, l_lt, l_le, l_eq, l_div, l_ite, lN_add, lN_sub, lN_mul, lN_addneg, rC9 hC i p hi hp]) hC) (fun N1 hM => GoM.of (by simp (disch := omega) only [fM_leave, ↓bd (M_pl1 hp _), ↓bd (M_po1 hM h6 hx), ix_2m, ix_6m, ix_4m, ix_m4, ix_1s, ix_s, ix_s2, ix_s9, ix_s7, ix_s5, ix_s1, nI_add, nI_p1, ix_n, ix_z, ix_1, ix_eq, ix_le, ix_lt, ix_le0, nI_tc, n_leT, n_leF, n_ltT, n_ltF, n_eqT, n_eqF, or_self, or_false, false_or, ↓reduceIte, ↓qz_letL, ↓qz_letI, qz_oc_s, qz_oc_n, Option.bind_some, ne10, not_false_eq_true, l_x, l_0, l_1, l_60, l_80, l_100, l_105, l_k, l_xk, l_m, l_g, l_xg, l_t, l_ct, l_ex, l_mx, l_lt, l_le, l_eq, l_div, l_ite, lN_add, lN_sub, lN_mul, lN_addneg, rM9 hM i p hi hp]) hM) ok
