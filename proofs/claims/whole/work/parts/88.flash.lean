def flL (f X a : Nat) : Nat := 10000 * X - f * a
def mayV (S : St) (i X Y a b : Nat) : Prop := (S 5 i 0 = 0 ∧ 10000 * S 7 i 0 * (10000 * S 7 i 1) ≤ flL (S 6 i 0) X a * flL (S 6 i 0) Y b) ∨ (S 5 i 0 ≠ 0 ∧ 10000 * (S 7 i 0 + S 7 i 1) ≤ flL (S 6 i 0) X a + flL (S 6 i 0) Y b)
theorem fl_le {f X a : Nat} (hf : f ≤ 1000) (ha : a ≤ X) : f * a ≤ 10000 * X := Nat.mul_le_mul (by omega) ha
theorem E_may {N : qz_N} {S : St} (hC : RC N S) {c i X Y a b : Nat} (ok : Ok c S) (hi : i < 6) (ha : a ≤ X) (hb : b ≤ Y) (hX : X ≤ 300000000000000) (hY : Y ≤ 300000000000000) : ∃ v : Int32, fP_mayBecome i (lN X) (lN Y) (lN a) (lN b) N = some (v, N) ∧ (mayV S i X Y a b → v = 1) ∧ (¬ mayV S i X Y a b → v = 0) := by
  have bf := ok.fee hi
  have bk := ok.kind hi
  have b0 := ok.res hi (j := 0) (by decide)
  have b1 := ok.res hi (j := 1) (by decide)
  have f1 := fl_le bf ha
  have f2 := fl_le bf hb
  by_cases k : S 5 i 0 = 0
  · obtain ⟨r, er, -, hr⟩ := A_cmp (a := 10000 * X - S 6 i 0 * a) (b := 10000 * Y - S 6 i 0 * b) (c := 10000 * S 7 i 0) (d := 10000 * S 7 i 1) (by omega) (by omega) (by omega) (by omega) N
    have e : fP_mayBecome i (lN X) (lN Y) (lN a) (lN b) N = if r < 0 then some (0, N) else some (1, N) := by
      simp (disch := omega) only [fP_mayBecome, ix_2m, ix_6m, ix_4m, ix_m4, ix_1s, ix_s, ix_s2, ix_s9, ix_s7, ix_s5, ix_s1, nI_add, nI_p1, ix_n, ix_z, ix_1, ix_eq, ix_le, ix_lt, ix_le0, nI_tc, n_leT, n_leF, n_ltT, n_ltF, n_eqT, n_eqF, or_self, or_false, false_or, ↓reduceIte, ↓qz_letL, ↓qz_letI, qz_oc_s, qz_oc_n, Option.bind_some, ne10, not_false_eq_true, l_x, l_0, l_1, l_60, l_80, l_100, l_105, l_k, l_xk, l_m, l_g, l_xg, l_t, l_ct, l_ex, l_mx, l_lt, l_le, l_eq, l_div, l_ite, lN_add, lN_sub, lN_mul, lN_addneg, rC6 hC i hi, rC5 hC i hi, rC7a hC i hi, rC7b hC i hi]
      rw [bd er]
    unfold mayV flL
    by_cases c1 : r < 0
    · refine ⟨0, by rw [e, if_pos c1], fun h => ?_, fun _ => rfl⟩
      have := hr.mp c1
      omega
    · refine ⟨1, by rw [e, if_neg c1], fun _ => rfl, fun h => ?_⟩
      exfalso
      refine c1 (hr.mpr ?_)
      omega
  · unfold mayV flL
    by_cases c1 : 10000 * (S 7 i 0 + S 7 i 1) ≤ 10000 * X - S 6 i 0 * a + (10000 * Y - S 6 i 0 * b)
    · refine ⟨1, ?_, fun _ => rfl, fun h => absurd (Or.inr ⟨k, c1⟩) h⟩
      simp (disch := omega) only [fP_mayBecome, ix_2m, ix_6m, ix_4m, ix_m4, ix_1s, ix_s, ix_s2, ix_s9, ix_s7, ix_s5, ix_s1, nI_add, nI_p1, ix_n, ix_z, ix_1, ix_eq, ix_le, ix_lt, ix_le0, nI_tc, n_leT, n_leF, n_ltT, n_ltF, n_eqT, n_eqF, or_self, or_false, false_or, ↓reduceIte, ↓qz_letL, ↓qz_letI, qz_oc_s, qz_oc_n, Option.bind_some, ne10, not_false_eq_true, l_x, l_0, l_1, l_60, l_80, l_100, l_105, l_k, l_xk, l_m, l_g, l_xg, l_t, l_ct, l_ex, l_mx, l_lt, l_le, l_eq, l_div, l_ite, lN_add, lN_sub, lN_mul, lN_addneg, rC6 hC i hi, rC5 hC i hi, rC7a hC i hi, rC7b hC i hi]
    · refine ⟨0, ?_, fun h => by omega, fun _ => rfl⟩
      simp (disch := omega) only [fP_mayBecome, ix_2m, ix_6m, ix_4m, ix_m4, ix_1s, ix_s, ix_s2, ix_s9, ix_s7, ix_s5, ix_s1, nI_add, nI_p1, ix_n, ix_z, ix_1, ix_eq, ix_le, ix_lt, ix_le0, nI_tc, n_leT, n_leF, n_ltT, n_ltF, n_eqT, n_eqF, or_self, or_false, false_or, ↓reduceIte, ↓qz_letL, ↓qz_letI, qz_oc_s, qz_oc_n, Option.bind_some, ne10, not_false_eq_true, l_x, l_0, l_1, l_60, l_80, l_100, l_105, l_k, l_xk, l_m, l_g, l_xg, l_t, l_ct, l_ex, l_mx, l_lt, l_le, l_eq, l_div, l_ite, lN_add, lN_sub, lN_mul, lN_addneg, rC6 hC i hi, rC5 hC i hi, rC7a hC i hi, rC7b hC i hi]
theorem ar_keep {N N1 : qz_N} {c n : Nat} {f : Nat → Nat} (h : ar N c n f) (k : ∀ j, qz_gl N1 c 0 j = qz_gl N c 0 j) : ar N1 c n f := fun j hj => by rw [k, h j hj]
theorem M_cmp2 {N : qz_N} {L R A B : Nat} (hL : L < 9223372036854775808) (hR : R < 9223372036854775808) (hA : A < 9223372036854775808) (hB : B < 9223372036854775808) {β : Type} {K : qz_N → Option (β × qz_N)} {b r : β} {S S' : St} {N0 : qz_N} (hM : RM N S) (k0 : KC N0 N) (g1 : A * B ≤ L * R → ∀ N1, RM N1 S → KC N0 N1 → GoM N0 (K N1) r S') (g2 : ¬ A * B ≤ L * R → ∀ N1, RM N1 S → KC N0 N1 → GoM N0 (some (b, N1)) r S') : GoM N0 ((fM_begin 0 (lN L) N).bind fun q24 => (fM_times 0 (lN R) q24.2).bind fun q26 => (fM_keepBig 0 q26.2).bind fun q28 => (fM_begin 0 (lN A) q28.2).bind fun q30 => (fM_times 0 (lN B) q30.2).bind fun q32 => (fM_keptIsLess 0 q32.2).bind fun q34 => if q34.1 = 0 then K q34.2 else some (b, q34.2)) r S' := by
  obtain ⟨N1, e1, s1, r1, -⟩ := ar_begin (N := N) L (by omega)
  obtain ⟨N2, e2, s2, r2, -⟩ := ar_times R (by omega) r1 (by rw [BB6]; omega)
  obtain ⟨N3, e3, s3, r3, -⟩ := M_keepBig r2
  obtain ⟨N4, e4, s4, r4, k4⟩ := ar_begin (N := N3) A (by omega)
  obtain ⟨N5, e5, s5, r5, k5⟩ := ar_times B (by omega) r4 (by rw [BB6]; omega)
  have c1 : L * R < 9223372036854775808 * 9223372036854775808 := Nat.mul_lt_mul'' hL hR
  have c2 : A * B < 9223372036854775808 * 9223372036854775808 := Nat.mul_lt_mul'' hA hB
  have r6 : ar N5 53 6 (dg (L * R)) := ar_keep (ar_keep r3 (fun j => k4 53 0 j (by decide))) (fun j => k5 53 0 j (by decide) (by decide) (by decide))
  have e6 := M_less r6 r5 (by rw [BB6]; omega) (by rw [BB6]; omega)
  rw [e1, Option.bind_some, e2, Option.bind_some, e3, Option.bind_some, e4, Option.bind_some, e5, Option.bind_some, e6, Option.bind_some]
  have sc := (((s1.tr s2).tr s3).tr s4).tr s5
  by_cases c : A * B ≤ L * R
  · rw [if_neg (show ¬ L * R < A * B by omega), if_pos rfl]
    exact g1 c N5 (hM.scr sc) (k0.tr sc.KC)
  · rw [if_pos (show L * R < A * B by omega), if_neg ne10]
    exact g2 c N5 (hM.scr sc) (k0.tr sc.KC)
theorem u3_abab {S : St} {f i j j' a b a' b' : Nat} (h : j ≠ j') : qz_u3 (qz_u3 (qz_u3 (qz_u3 S f i j a) f i j' b) f i j a') f i j' b' = qz_u3 (qz_u3 S f i j a') f i j' b' := by
  rw [u3_c (f := f) (i := i) (j := j') (f' := f) (i' := i) (j' := j) (by omega), u3_u3, u3_u3]
theorem E_fl4 {N N0 : qz_N} {S : St} (hC : RC N S) (k0 : KM N0 N) {c p i t u a b : Nat} (ok : Ok c S) (hp : p < 6) (hi : i < S 3 0 0) (ht : t ≤ S 7 i 0) (hu : u ≤ S 7 i 1) (ha : a ≤ S 0 p (S 4 i 0) + t) (hb : b ≤ S 0 p (S 4 i 1) + u) : GoC N0 ((fE_takeOut 0 (nI p) i (0 : Int32) (lN t) N).bind fun q15 => (fE_takeOut 0 (nI p) i (1 : Int32) (lN u) q15.2).bind fun q17 => (fE_bringIn 0 (nI p) i (0 : Int32) (lN a) q17.2).bind fun q19 => (fE_bringIn 0 (nI p) i (1 : Int32) (lN b) q19.2).bind fun q21 => some ((1 : Int32), q21.2)) 1 (stP S p i (S 0 p (S 4 i 0) + t - a) (S 0 p (S 4 i 1) + u - b) (S 7 i 0 - t + a) (S 7 i 1 - u + b) (S 8 i 0) (S 9 i p)) := by
  have h6 := ok.np
  have hi6 : i < 6 := by omega
  have hd := (ok.2.1.2 i hi6).2.2.2.2.1 hi
  have t0 := ok.tok hi6 (j := 0) (by decide)
  have t1 := ok.tok hi6 (j := 1) (by decide)
  refine GoC.call (E_takeOut hC (j := 0) hp hi6 (by decide) t0 ht) k0 (fun N1 h1 k1 => ?_)
  have w := E_takeOut h1 (p := p) (i := i) (j := 1) (a := u) hp hi6 (by omega) (by simp (disch := omega) only [u3_f, u3_s, u3_i, u3_j]; exact t1) (by simp (disch := omega) only [u3_f, u3_s, u3_i, u3_j]; exact hu)
  refine GoC.call w k1 (fun N1 h1 k1 => ?_)
  have w := E_bringIn h1 (p := p) (i := i) (j := 0) (a := a) hp hi6 (by omega) (by simp (disch := omega) only [u3_f, u3_s, u3_i, u3_j]; exact t0) (by simp (disch := omega) only [u3_f, u3_s, u3_i, u3_j]; exact ha)
  refine GoC.call w k1 (fun N1 h1 k1 => ?_)
  have w := E_bringIn h1 (p := p) (i := i) (j := 1) (a := b) hp hi6 (by omega) (by simp (disch := omega) only [u3_f, u3_s, u3_i, u3_j]; exact t1) (by simp (disch := omega) only [u3_f, u3_s, u3_i, u3_j]; exact hb)
  refine GoC.call w k1 (fun N1 h1 k1 => GoC.st (GoC.ret h1 k1) ?_)
  unfold stP
  simp (disch := omega) only [u3_f, u3_s, u3_i, u3_j, u3_lt]
  rw [u3_abab (by decide), u3_abab hd, u3_id (f := 9) (by simp (disch := omega) only [u3_f, u3_s, u3_i, u3_j]), u3_id (f := 8) (by simp (disch := omega) only [u3_f, u3_s, u3_i, u3_j])]
theorem M_fl3 {N N0 : qz_N} {S : St} (hM : RM N S) (k1 : KC N0 N) {c p i t u a b : Nat} (ok : Ok c S) (hp : p < 6) (hx : i < S 3 0 0) (ha : a ≤ S 0 p (S 4 i 0) + t) (hb : b ≤ S 0 p (S 4 i 1) + u) : GoM N0 (fM_flash_319 0 N (nI p) (nI i) (lN t) (lN u) (lN a) (lN b) (nI (S 4 i 0)) (nI (S 4 i 1)) (lN (S 7 i 0 - t + a)) (lN (S 7 i 1 - u + b))) 1 (stP S p i (S 0 p (S 4 i 0) + t - a) (S 0 p (S 4 i 1) + u - b) (S 7 i 0 - t + a) (S 7 i 1 - u + b) (S 8 i 0) (S 9 i p)) := by
  have h6 := ok.np
  have hi : i < 6 := by omega
  have hd := (ok.2.1.2 i hi).2.2.2.2.1 hx
  have t0 := ok.tok hi (j := 0) (by decide)
  have t1 := ok.tok hi (j := 1) (by decide)
  have aux : ∀ h t a : Nat, a ≤ h + t → lN h + (lN t - lN a) = lN (h + t - a) := by
    intro h t a ha
    rw [← lN_sub ha, ← lN_add, Int64.sub_eq_add_neg, Int64.sub_eq_add_neg, Int64.add_assoc]
  unfold fM_flash_319
  refine GoM.call (M_give hM hp t0 (aux _ _ _ ha)) k1 (fun N1 hM k1 => ?_)
  refine GoM.call (M_give hM (w := S 0 p (S 4 i 1) + u - b) hp t1 (by simp (disch := omega) only [u3_f, u3_s, u3_i, u3_j]; exact aux _ _ _ hb)) k1 (fun N1 hM k1 => ?_)
  simp (disch := omega) only [ix_2m, ix_6m, ix_4m, ix_m4, ix_1s, ix_s, ix_s2, ix_s9, ix_s7, ix_s5, ix_s1, nI_add, nI_p1, ix_n, ix_z, ix_1, ix_eq, ix_le, ix_lt, ix_le0, nI_tc, n_leT, n_leF, n_ltT, n_ltF, n_eqT, n_eqF, or_self, or_false, false_or, ↓reduceIte, ↓qz_letL, ↓qz_letI, qz_oc_s, qz_oc_n, Option.bind_some, ne10, not_false_eq_true, l_x]
  refine GoM.wr (wMl hM (j := 0) (v := S 7 i 0 - t + a) hi (by decide) rfl) (k1.tr (KC.sl (by decide))) (fun N1 hM k1 => ?_)
  refine GoM.wr (wMl hM (j := 1) (v := S 7 i 1 - u + b) hi (by decide) rfl) (k1.tr (KC.sl (by decide))) (fun N1 hM k1 => GoM.st (GoM.ret hM k1) ?_)
  unfold stP
  rw [u3_id (f := 9) (by simp (disch := omega) only [u3_f, u3_s, u3_i, u3_j]), u3_id (f := 8) (by simp (disch := omega) only [u3_f, u3_s, u3_i, u3_j])]
theorem fl_prod {x y X Y L R s : Nat} (hL : L ≤ 10000 * X) (hR : R ≤ 10000 * Y) (h : 10000 * x * (10000 * y) ≤ L * R) (hs : s * s ≤ x * y) : s * s ≤ X * Y := by
  have h1 := Nat.mul_le_mul hL hR
  have e1 : 10000 * x * (10000 * y) = 100000000 * (x * y) := by grind
  have e2 : 10000 * X * (10000 * Y) = 100000000 * (X * Y) := by grind
  omega
theorem op_flash {N : qz_N} {S : St} {c : Nat} (ok : Ok c S) (hC : RC N S) (hM : RM N S) (y x : Int32) (z1 z2 z3 z4 : Int64) : Alike N (fE_flash 0 y x z1 z2 z3 z4) (fM_flash 0 y x z1 z2 z3 z4) (Ok c) := by
  have h6 := ok.np
  rcases ixc y (n := 6) (by decide) with hy | ⟨p, hp, rfl⟩
  · refine Alike.mk' (r := -2) hM (GoC.of ?_ hC) (fun N1 hM => GoM.of (by simp (disch := omega) only [fM_flash, ↓bd (M_pl0 hy _), ix_2m, ix_6m, ix_4m, ix_m4, ix_1s, ix_s, ix_s2, ix_s9, ix_s7, ix_s5, ix_s1, nI_add, nI_p1, ix_n, ix_z, ix_1, ix_eq, ix_le, ix_lt, ix_le0, nI_tc, n_leT, n_leF, n_ltT, n_ltF, n_eqT, n_eqF, or_self, or_false, false_or, ↓reduceIte, ↓qz_letL, ↓qz_letI, qz_oc_s, qz_oc_n, Option.bind_some, ne10, not_false_eq_true, l_x]) hM) ok
    rcases ixc x (n := S 3 0 0) (by omega) with hx | ⟨i, hx, rfl⟩
    · simp (disch := omega) only [fE_flash, ↓bd (E_po0 hC hx), ↓bd (E_pl0 hy _), ix_2m, ix_6m, ix_4m, ix_m4, ix_1s, ix_s, ix_s2, ix_s9, ix_s7, ix_s5, ix_s1, nI_add, nI_p1, ix_n, ix_z, ix_1, ix_eq, ix_le, ix_lt, ix_le0, nI_tc, n_leT, n_leF, n_ltT, n_ltF, n_eqT, n_eqF, or_self, or_false, false_or, ↓reduceIte, ↓qz_letL, ↓qz_letI, qz_oc_s, qz_oc_n, Option.bind_some, ne10, not_false_eq_true, l_x]
    · simp (disch := omega) only [fE_flash, ↓bd (E_po1 hC h6 hx), ↓bd (E_pl0 hy _), ix_2m, ix_6m, ix_4m, ix_m4, ix_1s, ix_s, ix_s2, ix_s9, ix_s7, ix_s5, ix_s1, nI_add, nI_p1, ix_n, ix_z, ix_1, ix_eq, ix_le, ix_lt, ix_le0, nI_tc, n_leT, n_leF, n_ltT, n_ltF, n_eqT, n_eqF, or_self, or_false, false_or, ↓reduceIte, ↓qz_letL, ↓qz_letI, qz_oc_s, qz_oc_n, Option.bind_some, ne10, not_false_eq_true, l_x]
  rcases ixc x (n := S 3 0 0) (by omega) with hx | ⟨i, hx, rfl⟩
  · exact Alike.mk' (r := -2) hM (GoC.of (by simp (disch := omega) only [fE_flash, ↓bd (E_po0 hC hx), ↓bd (E_pl1 hp _), ix_2m, ix_6m, ix_4m, ix_m4, ix_1s, ix_s, ix_s2, ix_s9, ix_s7, ix_s5, ix_s1, nI_add, nI_p1, ix_n, ix_z, ix_1, ix_eq, ix_le, ix_lt, ix_le0, nI_tc, n_leT, n_leF, n_ltT, n_ltF, n_eqT, n_eqF, or_self, or_false, false_or, ↓reduceIte, ↓qz_letL, ↓qz_letI, qz_oc_s, qz_oc_n, Option.bind_some, ne10, not_false_eq_true, l_x]) hC) (fun N1 hM => GoM.of (by simp (disch := omega) only [fM_flash, ↓bd (M_pl1 hp _), ↓bd (M_po0 hM hx), ix_2m, ix_6m, ix_4m, ix_m4, ix_1s, ix_s, ix_s2, ix_s9, ix_s7, ix_s5, ix_s1, nI_add, nI_p1, ix_n, ix_z, ix_1, ix_eq, ix_le, ix_lt, ix_le0, nI_tc, n_leT, n_leF, n_ltT, n_ltF, n_eqT, n_eqF, or_self, or_false, false_or, ↓reduceIte, ↓qz_letL, ↓qz_letI, qz_oc_s, qz_oc_n, Option.bind_some, ne10, not_false_eq_true, l_x]) hM) ok
  rcases l_g0 (x := z1) with hz | ⟨t, bt, rfl⟩
  · exact Alike.mk' (r := -2) hM (GoC.of (by simp (disch := omega) only [fE_flash, ↓bd (E_po1 hC h6 hx), ↓bd (E_pl1 hp _), ix_2m, ix_6m, ix_4m, ix_m4, ix_1s, ix_s, ix_s2, ix_s9, ix_s7, ix_s5, ix_s1, nI_add, nI_p1, ix_n, ix_z, ix_1, ix_eq, ix_le, ix_lt, ix_le0, nI_tc, n_leT, n_leF, n_ltT, n_ltF, n_eqT, n_eqF, or_self, or_false, false_or, ↓reduceIte, ↓qz_letL, ↓qz_letI, qz_oc_s, qz_oc_n, Option.bind_some, ne10, not_false_eq_true, l_x, l_0, hz]) hC) (fun N1 hM => GoM.of (by simp (disch := omega) only [fM_flash, ↓bd (M_pl1 hp _), ↓bd (M_po1 hM h6 hx), ix_2m, ix_6m, ix_4m, ix_m4, ix_1s, ix_s, ix_s2, ix_s9, ix_s7, ix_s5, ix_s1, nI_add, nI_p1, ix_n, ix_z, ix_1, ix_eq, ix_le, ix_lt, ix_le0, nI_tc, n_leT, n_leF, n_ltT, n_ltF, n_eqT, n_eqF, or_self, or_false, false_or, ↓reduceIte, ↓qz_letL, ↓qz_letI, qz_oc_s, qz_oc_n, Option.bind_some, ne10, not_false_eq_true, l_x, l_0, hz]) hM) ok
  rcases l_g0 (x := z2) with hz | ⟨u, bu, rfl⟩
  · exact Alike.mk' (r := -2) hM (GoC.of (by simp (disch := omega) only [fE_flash, ↓bd (E_po1 hC h6 hx), ↓bd (E_pl1 hp _), ix_2m, ix_6m, ix_4m, ix_m4, ix_1s, ix_s, ix_s2, ix_s9, ix_s7, ix_s5, ix_s1, nI_add, nI_p1, ix_n, ix_z, ix_1, ix_eq, ix_le, ix_lt, ix_le0, nI_tc, n_leT, n_leF, n_ltT, n_ltF, n_eqT, n_eqF, or_self, or_false, false_or, ↓reduceIte, ↓qz_letL, ↓qz_letI, qz_oc_s, qz_oc_n, Option.bind_some, ne10, not_false_eq_true, l_x, l_0, l_lt, hz]) hC) (fun N1 hM => GoM.of (by simp (disch := omega) only [fM_flash, ↓bd (M_pl1 hp _), ↓bd (M_po1 hM h6 hx), ix_2m, ix_6m, ix_4m, ix_m4, ix_1s, ix_s, ix_s2, ix_s9, ix_s7, ix_s5, ix_s1, nI_add, nI_p1, ix_n, ix_z, ix_1, ix_eq, ix_le, ix_lt, ix_le0, nI_tc, n_leT, n_leF, n_ltT, n_ltF, n_eqT, n_eqF, or_self, or_false, false_or, ↓reduceIte, ↓qz_letL, ↓qz_letI, qz_oc_s, qz_oc_n, Option.bind_some, ne10, not_false_eq_true, l_x, l_0, l_lt, hz]) hM) ok
  rcases l_g0 (x := z3) with hz | ⟨a, ba, rfl⟩
  · exact Alike.mk' (r := -2) hM (GoC.of (by simp (disch := omega) only [fE_flash, ↓bd (E_po1 hC h6 hx), ↓bd (E_pl1 hp _), ix_2m, ix_6m, ix_4m, ix_m4, ix_1s, ix_s, ix_s2, ix_s9, ix_s7, ix_s5, ix_s1, nI_add, nI_p1, ix_n, ix_z, ix_1, ix_eq, ix_le, ix_lt, ix_le0, nI_tc, n_leT, n_leF, n_ltT, n_ltF, n_eqT, n_eqF, or_self, or_false, false_or, ↓reduceIte, ↓qz_letL, ↓qz_letI, qz_oc_s, qz_oc_n, Option.bind_some, ne10, not_false_eq_true, l_x, l_0, l_lt, hz]) hC) (fun N1 hM => GoM.of (by simp (disch := omega) only [fM_flash, ↓bd (M_pl1 hp _), ↓bd (M_po1 hM h6 hx), ix_2m, ix_6m, ix_4m, ix_m4, ix_1s, ix_s, ix_s2, ix_s9, ix_s7, ix_s5, ix_s1, nI_add, nI_p1, ix_n, ix_z, ix_1, ix_eq, ix_le, ix_lt, ix_le0, nI_tc, n_leT, n_leF, n_ltT, n_ltF, n_eqT, n_eqF, or_self, or_false, false_or, ↓reduceIte, ↓qz_letL, ↓qz_letI, qz_oc_s, qz_oc_n, Option.bind_some, ne10, not_false_eq_true, l_x, l_0, l_lt, hz]) hM) ok
  rcases l_g0 (x := z4) with hz | ⟨b, bb, rfl⟩
  · exact Alike.mk' (r := -2) hM (GoC.of (by simp (disch := omega) only [fE_flash, ↓bd (E_po1 hC h6 hx), ↓bd (E_pl1 hp _), ix_2m, ix_6m, ix_4m, ix_m4, ix_1s, ix_s, ix_s2, ix_s9, ix_s7, ix_s5, ix_s1, nI_add, nI_p1, ix_n, ix_z, ix_1, ix_eq, ix_le, ix_lt, ix_le0, nI_tc, n_leT, n_leF, n_ltT, n_ltF, n_eqT, n_eqF, or_self, or_false, false_or, ↓reduceIte, ↓qz_letL, ↓qz_letI, qz_oc_s, qz_oc_n, Option.bind_some, ne10, not_false_eq_true, l_x, l_0, l_lt, l_nle0 hz]) hC) (fun N1 hM => GoM.of (by simp (disch := omega) only [fM_flash, ↓bd (M_pl1 hp _), ↓bd (M_po1 hM h6 hx), ix_2m, ix_6m, ix_4m, ix_m4, ix_1s, ix_s, ix_s2, ix_s9, ix_s7, ix_s5, ix_s1, nI_add, nI_p1, ix_n, ix_z, ix_1, ix_eq, ix_le, ix_lt, ix_le0, nI_tc, n_leT, n_leF, n_ltT, n_ltF, n_eqT, n_eqF, or_self, or_false, false_or, ↓reduceIte, ↓qz_letL, ↓qz_letI, qz_oc_s, qz_oc_n, Option.bind_some, ne10, not_false_eq_true, l_x, l_0, l_lt, hz]) hM) ok
  by_cases hz : t = 0 ∧ u = 0
  · obtain ⟨rfl, rfl⟩ := hz
    exact Alike.mk' (r := -2) hM (GoC.of (by simp (disch := omega) only [fE_flash, ↓bd (E_po1 hC h6 hx), ↓bd (E_pl1 hp _), ix_2m, ix_6m, ix_4m, ix_m4, ix_1s, ix_s, ix_s2, ix_s9, ix_s7, ix_s5, ix_s1, nI_add, nI_p1, ix_n, ix_z, ix_1, ix_eq, ix_le, ix_lt, ix_le0, nI_tc, n_leT, n_leF, n_ltT, n_ltF, n_eqT, n_eqF, or_self, or_false, false_or, ↓reduceIte, ↓qz_letL, ↓qz_letI, qz_oc_s, qz_oc_n, Option.bind_some, ne10, not_false_eq_true, l_x, l_0, l_1, l_60, l_80, l_100, l_105, l_k, l_xk, l_m, l_g, l_xg, l_t, l_ct, l_ex, l_mx, l_lt, l_le, l_eq, l_div, l_ite, lN_add, lN_sub, lN_mul, lN_addneg]) hC) (fun N1 hM => GoM.of (by simp (disch := omega) only [fM_flash, ↓bd (M_pl1 hp _), ↓bd (M_po1 hM h6 hx), ix_2m, ix_6m, ix_4m, ix_m4, ix_1s, ix_s, ix_s2, ix_s9, ix_s7, ix_s5, ix_s1, nI_add, nI_p1, ix_n, ix_z, ix_1, ix_eq, ix_le, ix_lt, ix_le0, nI_tc, n_leT, n_leF, n_ltT, n_ltF, n_eqT, n_eqF, or_self, or_false, false_or, ↓reduceIte, ↓qz_letL, ↓qz_letI, qz_oc_s, qz_oc_n, Option.bind_some, ne10, not_false_eq_true, l_x, l_0, l_1, l_60, l_80, l_100, l_105, l_k, l_xk, l_m, l_g, l_xg, l_t, l_ct, l_ex, l_mx, l_lt, l_le, l_eq, l_div, l_ite, lN_add, lN_sub, lN_mul, lN_addneg]) hM) ok
  have eC : fE_flash 0 (nI p) (nI i) (lN t) (lN u) (lN a) (lN b) N = fE_flash_62 0 i N (nI p) (lN t) (lN u) (lN a) (lN b) := by
    simp (disch := omega) only [fE_flash, ↓bd (E_po1 hC h6 hx), ↓bd (E_pl1 hp _), ix_2m, ix_6m, ix_4m, ix_m4, ix_1s, ix_s, ix_s2, ix_s9, ix_s7, ix_s5, ix_s1, nI_add, nI_p1, ix_n, ix_z, ix_1, ix_eq, ix_le, ix_lt, ix_le0, nI_tc, n_leT, n_leF, n_ltT, n_ltF, n_eqT, n_eqF, or_self, or_false, false_or, ↓reduceIte, ↓qz_letL, ↓qz_letI, qz_oc_s, qz_oc_n, Option.bind_some, ne10, not_false_eq_true, l_x, l_0, l_lt, l_le, l_eq]
    by_cases c1 : t = 0
    · simp (disch := omega) only [ix_2m, ix_6m, ix_4m, ix_m4, ix_1s, ix_s, ix_s2, ix_s9, ix_s7, ix_s5, ix_s1, nI_add, nI_p1, ix_n, ix_z, ix_1, ix_eq, ix_le, ix_lt, ix_le0, nI_tc, n_leT, n_leF, n_ltT, n_ltF, n_eqT, n_eqF, or_self, or_false, false_or, ↓reduceIte, ↓qz_letL, ↓qz_letI, qz_oc_s, qz_oc_n, Option.bind_some, ne10, not_false_eq_true, l_x]
    · simp (disch := omega) only [ix_2m, ix_6m, ix_4m, ix_m4, ix_1s, ix_s, ix_s2, ix_s9, ix_s7, ix_s5, ix_s1, nI_add, nI_p1, ix_n, ix_z, ix_1, ix_eq, ix_le, ix_lt, ix_le0, nI_tc, n_leT, n_leF, n_ltT, n_ltF, n_eqT, n_eqF, or_self, or_false, false_or, ↓reduceIte, ↓qz_letL, ↓qz_letI, qz_oc_s, qz_oc_n, Option.bind_some, ne10, not_false_eq_true, l_x]
  have eM : ∀ N1, RM N1 S → fM_flash 0 (nI p) (nI i) (lN t) (lN u) (lN a) (lN b) N1 = fM_flash_58 0 N1 (nI p) (nI i) (lN t) (lN u) (lN a) (lN b) := by
    intro N1 hM
    simp (disch := omega) only [fM_flash, ↓bd (M_pl1 hp _), ↓bd (M_po1 hM h6 hx), ix_2m, ix_6m, ix_4m, ix_m4, ix_1s, ix_s, ix_s2, ix_s9, ix_s7, ix_s5, ix_s1, nI_add, nI_p1, ix_n, ix_z, ix_1, ix_eq, ix_le, ix_lt, ix_le0, nI_tc, n_leT, n_leF, n_ltT, n_ltF, n_eqT, n_eqF, or_self, or_false, false_or, ↓reduceIte, ↓qz_letL, ↓qz_letI, qz_oc_s, qz_oc_n, Option.bind_some, ne10, not_false_eq_true, l_x, l_0, l_lt, l_le, l_eq]
    by_cases c1 : t = 0
    · simp (disch := omega) only [ix_2m, ix_6m, ix_4m, ix_m4, ix_1s, ix_s, ix_s2, ix_s9, ix_s7, ix_s5, ix_s1, nI_add, nI_p1, ix_n, ix_z, ix_1, ix_eq, ix_le, ix_lt, ix_le0, nI_tc, n_leT, n_leF, n_ltT, n_ltF, n_eqT, n_eqF, or_self, or_false, false_or, ↓reduceIte, ↓qz_letL, ↓qz_letI, qz_oc_s, qz_oc_n, Option.bind_some, ne10, not_false_eq_true, l_x]
    · simp (disch := omega) only [ix_2m, ix_6m, ix_4m, ix_m4, ix_1s, ix_s, ix_s2, ix_s9, ix_s7, ix_s5, ix_s1, nI_add, nI_p1, ix_n, ix_z, ix_1, ix_eq, ix_le, ix_lt, ix_le0, nI_tc, n_leT, n_leF, n_ltT, n_ltF, n_eqT, n_eqF, or_self, or_false, false_or, ↓reduceIte, ↓qz_letL, ↓qz_letI, qz_oc_s, qz_oc_n, Option.bind_some, ne10, not_false_eq_true, l_x]
  have hi : i < 6 := by omega
  have hd := (ok.2.1.2 i hi).2.2.2.2.1 hx
  have t0 := ok.tok hi (j := 0) (by decide)
  have t1 := ok.tok hi (j := 1) (by decide)
  have b0 := ok.bal hp t0
  have b1 := ok.bal hp t1
  have r0 := ok.res hi (j := 0) (by decide)
  have r1 := ok.res hi (j := 1) (by decide)
  by_cases c1 : t ≤ S 7 i 0
  case neg => exact Alike.mk' (r := -2) hM (GoC.of (by rw [eC]; simp (disch := omega) only [fE_flash_62, ix_2m, ix_6m, ix_4m, ix_m4, ix_1s, ix_s, ix_s2, ix_s9, ix_s7, ix_s5, ix_s1, nI_add, nI_p1, ix_n, ix_z, ix_1, ix_eq, ix_le, ix_lt, ix_le0, nI_tc, n_leT, n_leF, n_ltT, n_ltF, n_eqT, n_eqF, or_self, or_false, false_or, ↓reduceIte, ↓qz_letL, ↓qz_letI, qz_oc_s, qz_oc_n, Option.bind_some, ne10, not_false_eq_true, l_x, l_lt, rC7a hC i hi]) hC) (fun N1 hM => GoM.of (by rw [eM _ hM]; simp (disch := omega) only [fM_flash_58, ix_2m, ix_6m, ix_4m, ix_m4, ix_1s, ix_s, ix_s2, ix_s9, ix_s7, ix_s5, ix_s1, nI_add, nI_p1, ix_n, ix_z, ix_1, ix_eq, ix_le, ix_lt, ix_le0, nI_tc, n_leT, n_leF, n_ltT, n_ltF, n_eqT, n_eqF, or_self, or_false, false_or, ↓reduceIte, ↓qz_letL, ↓qz_letI, qz_oc_s, qz_oc_n, Option.bind_some, ne10, not_false_eq_true, l_x, l_lt, rM7a hM i hi, rM7 hM i 1 hi]) hM) ok
  by_cases c2 : u ≤ S 7 i 1
  case neg => exact Alike.mk' (r := -2) hM (GoC.of (by rw [eC]; simp (disch := omega) only [fE_flash_62, ix_2m, ix_6m, ix_4m, ix_m4, ix_1s, ix_s, ix_s2, ix_s9, ix_s7, ix_s5, ix_s1, nI_add, nI_p1, ix_n, ix_z, ix_1, ix_eq, ix_le, ix_lt, ix_le0, nI_tc, n_leT, n_leF, n_ltT, n_ltF, n_eqT, n_eqF, or_self, or_false, false_or, ↓reduceIte, ↓qz_letL, ↓qz_letI, qz_oc_s, qz_oc_n, Option.bind_some, ne10, not_false_eq_true, l_x, l_lt, l_le, rC7a hC i hi, rC7b hC i hi]) hC) (fun N1 hM => GoM.of (by rw [eM _ hM]; simp (disch := omega) only [fM_flash_58, ix_2m, ix_6m, ix_4m, ix_m4, ix_1s, ix_s, ix_s2, ix_s9, ix_s7, ix_s5, ix_s1, nI_add, nI_p1, ix_n, ix_z, ix_1, ix_eq, ix_le, ix_lt, ix_le0, nI_tc, n_leT, n_leF, n_ltT, n_ltF, n_eqT, n_eqF, or_self, or_false, false_or, ↓reduceIte, ↓qz_letL, ↓qz_letI, qz_oc_s, qz_oc_n, Option.bind_some, ne10, not_false_eq_true, l_x, l_lt, l_le, rM7a hM i hi, rM7 hM i 1 hi]) hM) ok
  by_cases c3 : a ≤ S 0 p (S 4 i 0) + t
  case neg => exact Alike.mk' (r := -3) hM (GoC.of (by rw [eC]; simp (disch := omega) only [fE_flash_62, ix_2m, ix_6m, ix_4m, ix_m4, ix_1s, ix_s, ix_s2, ix_s9, ix_s7, ix_s5, ix_s1, nI_add, nI_p1, ix_n, ix_z, ix_1, ix_eq, ix_le, ix_lt, ix_le0, nI_tc, n_leT, n_leF, n_ltT, n_ltF, n_eqT, n_eqF, or_self, or_false, false_or, ↓reduceIte, ↓qz_letL, ↓qz_letI, qz_oc_s, qz_oc_n, Option.bind_some, ne10, not_false_eq_true, l_x, l_lt, l_le, lN_add, rC7a hC i hi, rC7b hC i hi, rC4a hC i hi, ↓bd (E_held hC hp t0)]) hC) (fun N1 hM => GoM.of (by rw [eM _ hM]; simp (disch := omega) only [fM_flash_58, ix_2m, ix_6m, ix_4m, ix_m4, ix_1s, ix_s, ix_s2, ix_s9, ix_s7, ix_s5, ix_s1, nI_add, nI_p1, ix_n, ix_z, ix_1, ix_eq, ix_le, ix_lt, ix_le0, nI_tc, n_leT, n_leF, n_ltT, n_ltF, n_eqT, n_eqF, or_self, or_false, false_or, ↓reduceIte, ↓qz_letL, ↓qz_letI, qz_oc_s, qz_oc_n, Option.bind_some, ne10, not_false_eq_true, l_x, l_lt, l_le, lN_add, rM7a hM i hi, rM7 hM i 1 hi, rM4a hM i hi, rM4 hM i 1 hi, ↓bd (M_has hM hp t0)]) hM) ok
  by_cases c4 : b ≤ S 0 p (S 4 i 1) + u
  case neg => exact Alike.mk' (r := -3) hM (GoC.of (by rw [eC]; simp (disch := omega) only [fE_flash_62, ix_2m, ix_6m, ix_4m, ix_m4, ix_1s, ix_s, ix_s2, ix_s9, ix_s7, ix_s5, ix_s1, nI_add, nI_p1, ix_n, ix_z, ix_1, ix_eq, ix_le, ix_lt, ix_le0, nI_tc, n_leT, n_leF, n_ltT, n_ltF, n_eqT, n_eqF, or_self, or_false, false_or, ↓reduceIte, ↓qz_letL, ↓qz_letI, qz_oc_s, qz_oc_n, Option.bind_some, ne10, not_false_eq_true, l_x, l_lt, l_le, lN_add, rC7a hC i hi, rC7b hC i hi, rC4a hC i hi, rC4b hC i hi, ↓bd (E_held hC hp t0), ↓bd (E_held hC hp t1)]) hC) (fun N1 hM => GoM.of (by rw [eM _ hM]; simp (disch := omega) only [fM_flash_58, ix_2m, ix_6m, ix_4m, ix_m4, ix_1s, ix_s, ix_s2, ix_s9, ix_s7, ix_s5, ix_s1, nI_add, nI_p1, ix_n, ix_z, ix_1, ix_eq, ix_le, ix_lt, ix_le0, nI_tc, n_leT, n_leF, n_ltT, n_ltF, n_eqT, n_eqF, or_self, or_false, false_or, ↓reduceIte, ↓qz_letL, ↓qz_letI, qz_oc_s, qz_oc_n, Option.bind_some, ne10, not_false_eq_true, l_x, l_lt, l_le, lN_add, rM7a hM i hi, rM7 hM i 1 hi, rM4a hM i hi, rM4 hM i 1 hi, ↓bd (M_has hM hp t0), ↓bd (M_has hM hp t1)]) hM) ok
  obtain ⟨w, ew, w1, w0⟩ := E_may hC (X := S 7 i 0 - t + a) (Y := S 7 i 1 - u + b) (a := a) (b := b) ok hi (by omega) (by omega) (by omega) (by omega)
  have bf := ok.fee hi
  have bk := ok.kind hi
  have f1 := fl_le (a := a) (X := S 7 i 0 - t + a) bf (by omega)
  have f2 := fl_le (a := b) (X := S 7 i 1 - u + b) bf (by omega)
  have fe : S 6 i 0 * (a + b) = S 6 i 0 * a + S 6 i 0 * b := Nat.mul_add _ _ _
  have gC : GoC N (fE_flash_62 0 i N (nI p) (lN t) (lN u) (lN a) (lN b)) (if w = 0 then -3 else 1) (if w = 0 then S else stP S p i (S 0 p (S 4 i 0) + t - a) (S 0 p (S 4 i 1) + u - b) (S 7 i 0 - t + a) (S 7 i 1 - u + b) (S 8 i 0) (S 9 i p)) := by
    simp (disch := omega) only [fE_flash_62, ix_2m, ix_6m, ix_4m, ix_m4, ix_1s, ix_s, ix_s2, ix_s9, ix_s7, ix_s5, ix_s1, nI_add, nI_p1, ix_n, ix_z, ix_1, ix_eq, ix_le, ix_lt, ix_le0, nI_tc, n_leT, n_leF, n_ltT, n_ltF, n_eqT, n_eqF, or_self, or_false, false_or, ↓reduceIte, ↓qz_letL, ↓qz_letI, qz_oc_s, qz_oc_n, Option.bind_some, ne10, not_false_eq_true, l_x, l_lt, l_le, lN_add, lN_sub, rC7a hC i hi, rC7b hC i hi, rC4a hC i hi, rC4b hC i hi, ↓bd (E_held hC hp t0), ↓bd (E_held hC hp t1), ↓bd ew]
    by_cases z : w = 0
    · rw [if_pos z, if_pos z, if_pos z]; exact GoC.ret hC KM.rf
    · rw [if_neg z, if_neg z, if_neg z]; exact E_fl4 hC KM.rf ok hp hx c1 c2 c3 c4
  have gM : ∀ N1, RM N1 S → GoM N1 (fM_flash_58 0 N1 (nI p) (nI i) (lN t) (lN u) (lN a) (lN b)) (if w = 0 then -3 else 1) (if w = 0 then S else stP S p i (S 0 p (S 4 i 0) + t - a) (S 0 p (S 4 i 1) + u - b) (S 7 i 0 - t + a) (S 7 i 1 - u + b) (S 8 i 0) (S 9 i p)) := by
    intro N1 hM
    simp (disch := omega) only [fM_flash_58, ix_2m, ix_6m, ix_4m, ix_m4, ix_1s, ix_s, ix_s2, ix_s9, ix_s7, ix_s5, ix_s1, nI_add, nI_p1, ix_n, ix_z, ix_1, ix_eq, ix_le, ix_lt, ix_le0, nI_tc, n_leT, n_leF, n_ltT, n_ltF, n_eqT, n_eqF, or_self, or_false, false_or, ↓reduceIte, ↓qz_letL, ↓qz_letI, qz_oc_s, qz_oc_n, Option.bind_some, ne10, not_false_eq_true, l_x, l_lt, l_le, lN_add, lN_sub, rM7a hM i hi, rM7 hM i 1 hi, rM4a hM i hi, rM4 hM i 1 hi, ↓bd (M_has hM hp t0), ↓bd (M_has hM hp t1), rM5 hM i hi, rM6 hM i hi, l_xk, lN_mul, l_0]
    by_cases k : S 5 i 0 = 0
    · rw [if_pos k]
      refine M_cmp2 (K := fun N2 => fM_flash_319 0 N2 (nI p) (nI i) (lN t) (lN u) (lN a) (lN b) (nI (S 4 i 0)) (nI (S 4 i 1)) (lN (S 7 i 0 - t + a)) (lN (S 7 i 1 - u + b))) (b := -3) (L := 10000 * (S 7 i 0 - t + a) - S 6 i 0 * a) (R := 10000 * (S 7 i 1 - u + b) - S 6 i 0 * b) (A := 10000 * S 7 i 0) (B := 10000 * S 7 i 1) (by omega) (by omega) (by omega) (by omega) hM KC.rf (fun z N1 hM k1 => ?_) (fun z N1 hM k1 => ?_)
      · rw [w1 (Or.inl ⟨k, z⟩), if_neg ne10, if_neg ne10]
        exact M_fl3 hM k1 ok hp hx c3 c4
      · have nm : ¬ mayV S i (S 7 i 0 - t + a) (S 7 i 1 - u + b) a b := by
          rintro (⟨_, g⟩ | ⟨g, _⟩)
          · exact z g
          · exact g k
        rw [w0 nm, if_pos rfl, if_pos rfl]
        exact GoM.ret hM k1
    · rw [if_neg k]
      by_cases z : 10000 * (S 7 i 0 + S 7 i 1) ≤ 10000 * (S 7 i 0 - t + a + (S 7 i 1 - u + b)) - S 6 i 0 * (a + b)
      · rw [if_pos z, w1 (Or.inr ⟨k, by unfold flL; omega⟩), if_neg ne10, if_neg ne10]
        exact M_fl3 hM KC.rf ok hp hx c3 c4
      · have nm : ¬ mayV S i (S 7 i 0 - t + a) (S 7 i 1 - u + b) a b := by
          rintro (⟨g, _⟩ | ⟨_, g⟩)
          · exact k g
          · unfold flL at g; omega
        rw [if_neg z, w0 nm, if_pos rfl, if_pos rfl]
        exact GoM.ret hM KC.rf
  refine Alike.mk' hM (by rw [eC]; exact gC) (fun N1 hM => by rw [eM _ hM]; exact gM N1 hM) ?_
  by_cases m : mayV S i (S 7 i 0 - t + a) (S 7 i 1 - u + b) a b
  · rw [w1 m, if_neg ne10]
    have o3 := ok.2.2.1 i hi
    refine ok_P ok hp hx (by omega) (by omega) (by omega) (fun k => ?_) (fun k => ?_)
    · rcases m with ⟨_, m⟩ | ⟨z, _⟩
      · exact fl_prod (by unfold flL; omega) (by unfold flL; omega) m (o3.2.1 k)
      · exact absurd k z
    · rcases m with ⟨z, _⟩ | ⟨_, m⟩
      · exact absurd z k
      · have := o3.2.2 k
        unfold flL at m
        omega
  · rw [w0 m, if_pos rfl]
    exact ok
