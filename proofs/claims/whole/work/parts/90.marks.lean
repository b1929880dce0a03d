theorem ix_mul (a b : Nat) : nI a * nI b = nI (a * b) := pk_mul a b
theorem ng_eq {x : Int32} (h : x < 0) {k : Nat} (hk : k < 2147483648) : (x = nI k) = False := eq_false (by rintro rfl; exact nI_pos hk h)
theorem ng_0 {x : Int32} (h : x < 0) : (x = 0) = False := ng_eq h (k := 0) (by decide)
theorem ng_1 {x : Int32} (h : x < 0) : (x = 1) = False := ng_eq h (k := 1) (by decide)
theorem ng_lt {x : Int32} (h : x < 0) {k : Nat} (hk : k < 2147483648) : (x < nI k) = True := eq_true (by
  rw [Int32.lt_iff_toInt_lt] at h ⊢; rw [nI_toInt (by omega)]; have e0 : (0 : Int32).toInt = 0 := by decide
  omega)
theorem ng_le {x : Int32} (h : x < 0) {k : Nat} (hk : k < 2147483648) : (nI k ≤ x) = False := eq_false (by
  rw [Int32.lt_iff_toInt_lt] at h; rw [Int32.le_iff_toInt_le, nI_toInt (by omega)]; have e0 : (0 : Int32).toInt = 0 := by decide
  omega)
theorem bg_eq {x : Int32} {n : Nat} (h : nI n ≤ x) (hn : n < 2147483648) {k : Nat} (hk : k < n) : (x = nI k) = False := eq_false (by
  rintro rfl
  rw [nI_leI hn (by omega)] at h; omega)
theorem bg_0 {x : Int32} {n : Nat} (h : nI n ≤ x) (hn : n < 2147483648) (hk : 0 < n) : (x = 0) = False := bg_eq h hn (k := 0) hk
theorem bg_1 {x : Int32} {n : Nat} (h : nI n ≤ x) (hn : n < 2147483648) (hk : 1 < n) : (x = 1) = False := bg_eq h hn (k := 1) hk
theorem bg_lt {x : Int32} {n : Nat} (h : nI n ≤ x) (hn : n < 2147483648) {k : Nat} (hk : k ≤ n) : (x < nI k) = False := eq_false (by
  rw [Int32.le_iff_toInt_le, nI_toInt (by omega)] at h; rw [Int32.lt_iff_toInt_lt, nI_toInt (by omega)]; omega)
theorem bg_le {x : Int32} {n : Nat} (h : nI n ≤ x) (hn : n < 2147483648) {k : Nat} (hk : k ≤ n) : (nI k ≤ x) = True := eq_true (by
  rw [Int32.le_iff_toInt_le, nI_toInt (by omega)] at h ⊢; omega)
theorem bg_gt {x : Int32} {n : Nat} (h : nI n ≤ x) (hn : n < 2147483648) {k : Nat} (hk : k < n) : (nI k < x) = True := eq_true (by
  rw [Int32.le_iff_toInt_le, nI_toInt (by omega)] at h; rw [Int32.lt_iff_toInt_lt, nI_toInt (by omega)]; omega)
theorem bg_ge {x : Int32} {n : Nat} (h : nI n ≤ x) (hn : n < 2147483648) {k : Nat} (hk : k < n) : (x ≤ nI k) = False := eq_false (by
  rw [Int32.le_iff_toInt_le, nI_toInt (by omega)] at h; rw [Int32.le_iff_toInt_le, nI_toInt (by omega)]; omega)
theorem bg_n {x : Int32} {n : Nat} (h : nI n ≤ x) (hn : n < 2147483648) : (x < 0) = False := bg_lt h hn (k := 0) (Nat.zero_le _)
theorem op_vault {N : qz_N} {S : St} {c : Nat} (ok : Ok c S) (hC : RC N S) (hM : RM N S) (x y : Int32) : Alike N (fE_vault 0 x y) (fM_vault 0 x y) (Ok c) := by
  rcases ixc x (n := 4) (by decide) with hx | ⟨t, ht, rfl⟩
  · exact Alike.mk' (r := -2) hM (GoC.of (by simp (disch := omega) only [fE_vault, ↓bd (E_tk0 hx _), ix_2m, ix_6m, ix_4m, ix_m4, ix_1s, ix_s, ix_s2, ix_s9, ix_s7, ix_s5, ix_s1, nI_add, nI_p1, ix_n, ix_z, ix_1, ix_eq, ix_le, ix_lt, ix_le0, nI_tc, n_leT, n_leF, n_ltT, n_ltF, n_eqT, n_eqF, or_self, or_false, false_or, ↓reduceIte, ↓qz_letL, ↓qz_letI, qz_oc_s, qz_oc_n, Option.bind_some, ne10, not_false_eq_true, l_x]) hC) (fun N1 hM => GoM.of (by simp (disch := omega) only [fM_vault, ↓bd (M_tk0 hx _), ix_2m, ix_6m, ix_4m, ix_m4, ix_1s, ix_s, ix_s2, ix_s9, ix_s7, ix_s5, ix_s1, nI_add, nI_p1, ix_n, ix_z, ix_1, ix_eq, ix_le, ix_lt, ix_le0, nI_tc, n_leT, n_leF, n_ltT, n_ltF, n_eqT, n_eqF, or_self, or_false, false_or, ↓reduceIte, ↓qz_letL, ↓qz_letI, qz_oc_s, qz_oc_n, Option.bind_some, ne10, not_false_eq_true, l_x]) hM) ok
  rcases ixc y (n := 11) (by decide) with hy | ⟨j, hj, rfl⟩
  · rcases hy with hy | hy
    · exact Alike.mk' (r := -2) hM (GoC.of (by simp (disch := omega) only [fE_vault, ↓bd (E_tk1 ht _), i_2, i_3, i_4, i_5, i_11, ix_2m, ix_6m, ix_4m, ix_m4, ix_1s, ix_s, ix_s2, ix_s9, ix_s7, ix_s5, ix_s1, nI_add, nI_p1, ix_n, ix_z, ix_1, ix_eq, ix_le, ix_lt, ix_le0, nI_tc, n_leT, n_leF, n_ltT, n_ltF, n_eqT, n_eqF, or_self, or_false, false_or, ↓reduceIte, ↓qz_letL, ↓qz_letI, qz_oc_s, qz_oc_n, Option.bind_some, ne10, not_false_eq_true, l_x, fV_told, ng_eq hy, ng_0 hy, ng_1 hy, ng_lt hy]) hC) (fun N1 hM => GoM.of (by simp (disch := omega) only [fM_vault, ↓bd (M_tk1 ht _), i_2, i_3, i_4, i_5, i_11, ix_2m, ix_6m, ix_4m, ix_m4, ix_1s, ix_s, ix_s2, ix_s9, ix_s7, ix_s5, ix_s1, nI_add, nI_p1, ix_n, ix_z, ix_1, ix_eq, ix_le, ix_lt, ix_le0, nI_tc, n_leT, n_leF, n_ltT, n_ltF, n_eqT, n_eqF, or_self, or_false, false_or, ↓reduceIte, ↓qz_letL, ↓qz_letI, qz_oc_s, qz_oc_n, Option.bind_some, ne10, not_false_eq_true, l_x, fM_vault_35, ng_eq hy, ng_0 hy, ng_1 hy, ng_lt hy]) hM) ok
    · exact Alike.mk' (r := -2) hM (GoC.of (by simp (disch := omega) only [fE_vault, ↓bd (E_tk1 ht _), i_2, i_3, i_4, i_5, i_11, ix_2m, ix_6m, ix_4m, ix_m4, ix_1s, ix_s, ix_s2, ix_s9, ix_s7, ix_s5, ix_s1, nI_add, nI_p1, ix_n, ix_z, ix_1, ix_eq, ix_le, ix_lt, ix_le0, nI_tc, n_leT, n_leF, n_ltT, n_ltF, n_eqT, n_eqF, or_self, or_false, false_or, ↓reduceIte, ↓qz_letL, ↓qz_letI, qz_oc_s, qz_oc_n, Option.bind_some, ne10, not_false_eq_true, l_x, fV_told, bg_eq hy, bg_0 hy, bg_1 hy, bg_lt hy, bg_le hy]) hC) (fun N1 hM => GoM.of (by simp (disch := omega) only [fM_vault, ↓bd (M_tk1 ht _), i_2, i_3, i_4, i_5, i_11, ix_2m, ix_6m, ix_4m, ix_m4, ix_1s, ix_s, ix_s2, ix_s9, ix_s7, ix_s5, ix_s1, nI_add, nI_p1, ix_n, ix_z, ix_1, ix_eq, ix_le, ix_lt, ix_le0, nI_tc, n_leT, n_leF, n_ltT, n_ltF, n_eqT, n_eqF, or_self, or_false, false_or, ↓reduceIte, ↓qz_letL, ↓qz_letI, qz_oc_s, qz_oc_n, Option.bind_some, ne10, not_false_eq_true, l_x, fM_vault_35, bg_eq hy, bg_0 hy, bg_1 hy, bg_lt hy, bg_le hy]) hM) ok
  rcases (show j = 0 ∨ j = 1 ∨ j = 2 ∨ j = 3 ∨ j = 4 ∨ 5 ≤ j by omega) with rfl | rfl | rfl | rfl | rfl | h5
  · exact Alike.mk' (r := lN (S 26 t 0)) hM (GoC.of (by simp (disch := omega) only [fE_vault, ↓bd (E_tk1 ht _), i_2, i_3, i_4, i_5, i_11, ix_2m, ix_6m, ix_4m, ix_m4, ix_1s, ix_s, ix_s2, ix_s9, ix_s7, ix_s5, ix_s1, nI_add, nI_p1, ix_n, ix_z, ix_1, ix_eq, ix_le, ix_lt, ix_le0, nI_tc, n_leT, n_leF, n_ltT, n_ltF, n_eqT, n_eqF, or_self, or_false, false_or, ↓reduceIte, ↓qz_letL, ↓qz_letI, qz_oc_s, qz_oc_n, Option.bind_some, ne10, not_false_eq_true, l_x, fV_told, rC26 hC t ht]) hC) (fun N1 hM => GoM.of (by simp (disch := omega) only [fM_vault, ↓bd (M_tk1 ht _), i_2, i_3, i_4, i_5, i_11, ix_2m, ix_6m, ix_4m, ix_m4, ix_1s, ix_s, ix_s2, ix_s9, ix_s7, ix_s5, ix_s1, nI_add, nI_p1, ix_n, ix_z, ix_1, ix_eq, ix_le, ix_lt, ix_le0, nI_tc, n_leT, n_leF, n_ltT, n_ltF, n_eqT, n_eqF, or_self, or_false, false_or, ↓reduceIte, ↓qz_letL, ↓qz_letI, qz_oc_s, qz_oc_n, Option.bind_some, ne10, not_false_eq_true, l_x, fM_vault_35, rM26 hM t ht]) hM) ok
  · refine Alike.mk' (r := lN (wV S t)) hM (GoC.of (by simp (disch := omega) only [fE_vault, ↓bd (E_tk1 ht _), i_2, i_3, i_4, i_5, i_11, ix_2m, ix_6m, ix_4m, ix_m4, ix_1s, ix_s, ix_s2, ix_s9, ix_s7, ix_s5, ix_s1, nI_add, nI_p1, ix_n, ix_z, ix_1, ix_eq, ix_le, ix_lt, ix_le0, nI_tc, n_leT, n_leF, n_ltT, n_ltF, n_eqT, n_eqF, or_self, or_false, false_or, ↓reduceIte, ↓qz_letL, ↓qz_letI, qz_oc_s, qz_oc_n, Option.bind_some, ne10, not_false_eq_true, l_x, ↓bd (E_worth hC ok ht)]) hC) (fun N1 hM => ?_) ok
    simp (disch := omega) only [fM_vault, ↓bd (M_tk1 ht _), i_2, i_3, i_4, i_5, i_11, ix_2m, ix_6m, ix_4m, ix_m4, ix_1s, ix_s, ix_s2, ix_s9, ix_s7, ix_s5, ix_s1, nI_add, nI_p1, ix_n, ix_z, ix_1, ix_eq, ix_le, ix_lt, ix_le0, nI_tc, n_leT, n_leF, n_ltT, n_ltF, n_eqT, n_eqF, or_self, or_false, false_or, ↓reduceIte, ↓qz_letL, ↓qz_letI, qz_oc_s, qz_oc_n, Option.bind_some, ne10, not_false_eq_true, l_x, fM_vault_35]
    exact GoM.scr (M_worth hM ok ht) hM KC.rf (fun N1 hM k1 => GoM.ret hM k1)
  · exact Alike.mk' (r := lN (S 27 t 0)) hM (GoC.of (by simp (disch := omega) only [fE_vault, ↓bd (E_tk1 ht _), i_2, i_3, i_4, i_5, i_11, ix_2m, ix_6m, ix_4m, ix_m4, ix_1s, ix_s, ix_s2, ix_s9, ix_s7, ix_s5, ix_s1, nI_add, nI_p1, ix_n, ix_z, ix_1, ix_eq, ix_le, ix_lt, ix_le0, nI_tc, n_leT, n_leF, n_ltT, n_ltF, n_eqT, n_eqF, or_self, or_false, false_or, ↓reduceIte, ↓qz_letL, ↓qz_letI, qz_oc_s, qz_oc_n, Option.bind_some, ne10, not_false_eq_true, l_x, fV_told, rC27 hC t ht]) hC) (fun N1 hM => GoM.of (by simp (disch := omega) only [fM_vault, ↓bd (M_tk1 ht _), i_2, i_3, i_4, i_5, i_11, ix_2m, ix_6m, ix_4m, ix_m4, ix_1s, ix_s, ix_s2, ix_s9, ix_s7, ix_s5, ix_s1, nI_add, nI_p1, ix_n, ix_z, ix_1, ix_eq, ix_le, ix_lt, ix_le0, nI_tc, n_leT, n_leF, n_ltT, n_ltF, n_eqT, n_eqF, or_self, or_false, false_or, ↓reduceIte, ↓qz_letL, ↓qz_letI, qz_oc_s, qz_oc_n, Option.bind_some, ne10, not_false_eq_true, l_x, fM_vault_35, rM27 hM t ht]) hM) ok
  · exact Alike.mk' (r := lN (S 29 t 0)) hM (GoC.of (by simp (disch := omega) only [fE_vault, ↓bd (E_tk1 ht _), i_2, i_3, i_4, i_5, i_11, ix_2m, ix_6m, ix_4m, ix_m4, ix_1s, ix_s, ix_s2, ix_s9, ix_s7, ix_s5, ix_s1, nI_add, nI_p1, ix_n, ix_z, ix_1, ix_eq, ix_le, ix_lt, ix_le0, nI_tc, n_leT, n_leF, n_ltT, n_ltF, n_eqT, n_eqF, or_self, or_false, false_or, ↓reduceIte, ↓qz_letL, ↓qz_letI, qz_oc_s, qz_oc_n, Option.bind_some, ne10, not_false_eq_true, l_x, fV_told, rC29 hC t ht]) hC) (fun N1 hM => GoM.of (by simp (disch := omega) only [fM_vault, ↓bd (M_tk1 ht _), i_2, i_3, i_4, i_5, i_11, ix_2m, ix_6m, ix_4m, ix_m4, ix_1s, ix_s, ix_s2, ix_s9, ix_s7, ix_s5, ix_s1, nI_add, nI_p1, ix_n, ix_z, ix_1, ix_eq, ix_le, ix_lt, ix_le0, nI_tc, n_leT, n_leF, n_ltT, n_ltF, n_eqT, n_eqF, or_self, or_false, false_or, ↓reduceIte, ↓qz_letL, ↓qz_letI, qz_oc_s, qz_oc_n, Option.bind_some, ne10, not_false_eq_true, l_x, fM_vault_35, rM29 hM t ht]) hM) ok
  · exact Alike.mk' (r := lN (S 30 t 0)) hM (GoC.of (by simp (disch := omega) only [fE_vault, ↓bd (E_tk1 ht _), i_2, i_3, i_4, i_5, i_11, ix_2m, ix_6m, ix_4m, ix_m4, ix_1s, ix_s, ix_s2, ix_s9, ix_s7, ix_s5, ix_s1, nI_add, nI_p1, ix_n, ix_z, ix_1, ix_eq, ix_le, ix_lt, ix_le0, nI_tc, n_leT, n_leF, n_ltT, n_ltF, n_eqT, n_eqF, or_self, or_false, false_or, ↓reduceIte, ↓qz_letL, ↓qz_letI, qz_oc_s, qz_oc_n, Option.bind_some, ne10, not_false_eq_true, l_x, fV_told, rC30 hC t ht]) hC) (fun N1 hM => GoM.of (by simp (disch := omega) only [fM_vault, ↓bd (M_tk1 ht _), i_2, i_3, i_4, i_5, i_11, ix_2m, ix_6m, ix_4m, ix_m4, ix_1s, ix_s, ix_s2, ix_s9, ix_s7, ix_s5, ix_s1, nI_add, nI_p1, ix_n, ix_z, ix_1, ix_eq, ix_le, ix_lt, ix_le0, nI_tc, n_leT, n_leF, n_ltT, n_ltF, n_eqT, n_eqF, or_self, or_false, false_or, ↓reduceIte, ↓qz_letL, ↓qz_letI, qz_oc_s, qz_oc_n, Option.bind_some, ne10, not_false_eq_true, l_x, fM_vault_35, rM30 hM t ht]) hM) ok
  · exact Alike.mk' (r := lN (S 28 t (j - 5))) hM (GoC.of (by simp (disch := omega) only [fE_vault, ↓bd (E_tk1 ht _), i_2, i_3, i_4, i_5, i_11, ix_2m, ix_6m, ix_4m, ix_m4, ix_1s, ix_s, ix_s2, ix_s9, ix_s7, ix_s5, ix_s1, nI_add, nI_p1, ix_n, ix_z, ix_1, ix_eq, ix_le, ix_lt, ix_le0, nI_tc, n_leT, n_leF, n_ltT, n_ltF, n_eqT, n_eqF, or_self, or_false, false_or, ↓reduceIte, ↓qz_letL, ↓qz_letI, qz_oc_s, qz_oc_n, Option.bind_some, ne10, not_false_eq_true, l_x, fV_told, rC28 hC t (j - 5) ht]) hC) (fun N1 hM => GoM.of (by simp (disch := omega) only [fM_vault, ↓bd (M_tk1 ht _), i_2, i_3, i_4, i_5, i_11, ix_2m, ix_6m, ix_4m, ix_m4, ix_1s, ix_s, ix_s2, ix_s9, ix_s7, ix_s5, ix_s1, nI_add, nI_p1, ix_n, ix_z, ix_1, ix_eq, ix_le, ix_lt, ix_le0, nI_tc, n_leT, n_leF, n_ltT, n_ltF, n_eqT, n_eqF, or_self, or_false, false_or, ↓reduceIte, ↓qz_letL, ↓qz_letI, qz_oc_s, qz_oc_n, Option.bind_some, ne10, not_false_eq_true, l_x, ix_mul, rM28 hM t (j - 5) ht]) hM) ok
theorem ok_pool {S : St} {c a b k f : Nat} (ok : Ok c S) (hn : S 3 0 0 < 6) (ha : a < 4) (hb : b < 4) (hab : a ≠ b) (hk : k ≤ 1) (hf : f ≤ 1000) : Ok c (qz_u3 (qz_u3 (qz_u3 (qz_u3 (qz_u3 S 3 0 0 (S 3 0 0 + 1)) 4 (S 3 0 0) 0 a) 4 (S 3 0 0) 1 b) 5 (S 3 0 0) 0 k) 6 (S 3 0 0) 0 f) := by
  obtain ⟨h1, h2, h3, h4, h5, h6', h7⟩ := ok
  unfold Ok
  simp (disch := omega) only [u3_f, u3_e]
  generalize hnp : S 3 0 0 = n at *
  have e3 : up2 (S 3) 0 0 (n + 1) 0 0 = n + 1 := up2_s
  have tk : ∀ q j, q ≠ n → up2 (up2 (S 4) n 0 a) n 1 b q j = S 4 q j := fun q j hq => by rw [up2_i hq, up2_i hq]
  have t0 : up2 (up2 (S 4) n 0 a) n 1 b n 0 = a := by rw [up2_j (by decide), up2_s]
  have t1 : up2 (up2 (S 4) n 0 a) n 1 b n 1 = b := up2_s
  have kk : ∀ q, up2 (S 5) n 0 k q 0 = if q = n then k else S 5 q 0 := fun q => up_g q
  have ff : ∀ q, up2 (S 6) n 0 f q 0 = if q = n then f else S 6 q 0 := fun q => up_g q
  generalize up2 (up2 (S 4) n 0 a) n 1 b = T at *
  generalize up2 (S 5) n 0 k = K at *
  generalize up2 (S 6) n 0 f = F at *
  generalize up2 (S 3) 0 0 (n + 1) = M at *
  have z := (h2.2 n hn).2.2.2.2.2 (by omega)
  have lo : ∀ l, l < 10 → S 31 l 0 ≠ 0 → ct T (S 33) (S 34) l = ct (S 4) (S 33) (S 34) l ∧ dt T (S 33) (S 34) l = dt (S 4) (S 33) (S 34) l := by
    intro l hl ho
    have := (h7 l hl).2.2.2.2.2 ho
    unfold ct dt
    rw [tk _ _ (by omega), tk _ _ (by omega)]
    exact ⟨rfl, rfl⟩
  refine ⟨?_, ?_, ?_, h4, ?_, ?_, ?_⟩
  · intro t ht
    obtain ⟨a1, a2⟩ := h1 t ht
    refine ⟨?_, a2⟩
    have eR : cR T (S 7) t = cR (S 4) (S 7) t := by
      unfold cR
      refine sg_congr (fun q hq => ?_)
      show (if T q 0 = t then S 7 q 0 else 0) + (if T q 1 = t then S 7 q 1 else 0) = (if S 4 q 0 = t then S 7 q 0 else 0) + (if S 4 q 1 = t then S 7 q 1 else 0)
      by_cases c : q = n
      · rw [c, z.1, z.2.1, ite_self, ite_self, ite_self, ite_self]
      · rw [tk q 0 c, tk q 1 c]
    have eL : cL T (S 31) (S 33) (S 34) (S 35) t = cL (S 4) (S 31) (S 33) (S 34) (S 35) t := by
      unfold cL
      refine sg_congr (fun l hl => ?_)
      show (if S 31 l 0 ≠ 0 ∧ ct T (S 33) (S 34) l = t then S 35 l 0 else 0) = (if S 31 l 0 ≠ 0 ∧ ct (S 4) (S 33) (S 34) l = t then S 35 l 0 else 0)
      by_cases c : S 31 l 0 = 0
      · rw [if_neg (fun z => z.1 c), if_neg (fun z => z.1 c)]
      · rw [(lo l hl c).1]
    rw [eR, eL]
    exact a1
  · refine ⟨by rw [e3]; omega, fun q hq => ?_⟩
    obtain ⟨a1, a2, a3, a4, a5, a6⟩ := h2.2 q hq
    rw [kk, ff, e3]
    by_cases c : q = n
    · rw [c, t0, t1, if_pos rfl, if_pos rfl]
      exact ⟨ha, hb, hk, hf, fun _ => hab, fun z => by omega⟩
    · rw [tk q 0 c, tk q 1 c, if_neg c, if_neg c]
      exact ⟨a1, a2, a3, a4, fun z => a5 (by omega), fun z => a6 (by omega)⟩
  · intro q hq
    obtain ⟨a1, a2, a3⟩ := h3 q hq
    rw [kk]
    by_cases c : q = n
    · rw [c] at a1 ⊢
      rw [z.2.2] at a1 ⊢
      exact ⟨a1, fun _ => Nat.zero_le _, fun _ => Nat.zero_le _⟩
    · rw [if_neg c]; exact ⟨a1, a2, a3⟩
  · refine ⟨h5.1, h5.2.1, fun q hq => ?_⟩
    obtain ⟨a1, a2, a3⟩ := h5.2.2 q hq
    refine ⟨a1, a2, fun z => ?_⟩
    obtain ⟨b1, b2⟩ := a3 z
    exact ⟨by rw [e3]; omega, b2⟩
  · intro t ht
    obtain ⟨a1, a2, a3, a4, a5⟩ := h6' t ht
    refine ⟨a1, a2, a3, a4, ?_⟩
    have eD : cD T (S 31) (S 33) (S 34) (S 36) (S 29) t = cD (S 4) (S 31) (S 33) (S 34) (S 36) (S 29) t := by
      unfold cD
      refine sg_congr (fun l hl => ?_)
      show (if S 31 l 0 ≠ 0 ∧ dt T (S 33) (S 34) l = t then debt T (S 33) (S 34) (S 36) (S 29) l else 0) = (if S 31 l 0 ≠ 0 ∧ dt (S 4) (S 33) (S 34) l = t then debt (S 4) (S 33) (S 34) (S 36) (S 29) l else 0)
      by_cases c : S 31 l 0 = 0
      · rw [if_neg (fun z => z.1 c), if_neg (fun z => z.1 c)]
      · unfold debt
        rw [(lo l hl c).2]
    rw [eD]
    exact a5
  · intro l hl
    obtain ⟨a1, a2, a3, a4, a5, a6⟩ := h7 l hl
    exact ⟨a1, a2, a3, a4, a5, fun z => by rw [e3]; have := a6 z; omega⟩
theorem i_k : (1000 : Int32) = nI 1000 := rfl
theorem i_0 : (0 : Int32) = nI 0 := rfl
theorem i_1 : (1 : Int32) = nI 1 := rfl
theorem sd_m {x : Int32} (h : ¬ x = 0 ∧ ¬ x = 1) : x < 0 ∨ nI 2 ≤ x := by
  rcases ixc x (n := 2) (by decide) with g | ⟨j, hj, rfl⟩
  · exact g
  · exfalso
    rcases (show j = 0 ∨ j = 1 by omega) with rfl | rfl
    · exact h.1 rfl
    · exact h.2 rfl
theorem op_pool {N : qz_N} {S : St} {c : Nat} (ok : Ok c S) (hC : RC N S) (hM : RM N S) (x y k f : Int32) : Alike N (fE_pool 0 x y k f) (fM_pool 0 x y k f) (Ok c) := by
  have h6 := ok.np
  rcases ixc x (n := 4) (by decide) with hx | ⟨a, ha, rfl⟩
  · exact Alike.mk' (r := -2) hM (GoC.of (by simp (disch := omega) only [fE_pool, ↓bd (E_tk0 hx _), ix_2m, ix_6m, ix_4m, ix_m4, ix_1s, ix_s, ix_s2, ix_s9, ix_s7, ix_s5, ix_s1, nI_add, nI_p1, ix_n, ix_z, ix_1, ix_eq, ix_le, ix_lt, ix_le0, nI_tc, n_leT, n_leF, n_ltT, n_ltF, n_eqT, n_eqF, or_self, or_false, false_or, ↓reduceIte, ↓qz_letL, ↓qz_letI, qz_oc_s, qz_oc_n, Option.bind_some, ne10, not_false_eq_true, l_x]) hC) (fun N1 hM => GoM.of (by simp (disch := omega) only [fM_pool, ↓bd (M_tk0 hx _), ix_2m, ix_6m, ix_4m, ix_m4, ix_1s, ix_s, ix_s2, ix_s9, ix_s7, ix_s5, ix_s1, nI_add, nI_p1, ix_n, ix_z, ix_1, ix_eq, ix_le, ix_lt, ix_le0, nI_tc, n_leT, n_leF, n_ltT, n_ltF, n_eqT, n_eqF, or_self, or_false, false_or, ↓reduceIte, ↓qz_letL, ↓qz_letI, qz_oc_s, qz_oc_n, Option.bind_some, ne10, not_false_eq_true, l_x]) hM) ok
  rcases ixc y (n := 4) (by decide) with hy | ⟨b, hb, rfl⟩
  · exact Alike.mk' (r := -2) hM (GoC.of (by simp (disch := omega) only [fE_pool, ↓bd (E_tk1 ha _), ↓bd (E_tk0 hy _), ix_2m, ix_6m, ix_4m, ix_m4, ix_1s, ix_s, ix_s2, ix_s9, ix_s7, ix_s5, ix_s1, nI_add, nI_p1, ix_n, ix_z, ix_1, ix_eq, ix_le, ix_lt, ix_le0, nI_tc, n_leT, n_leF, n_ltT, n_ltF, n_eqT, n_eqF, or_self, or_false, false_or, ↓reduceIte, ↓qz_letL, ↓qz_letI, qz_oc_s, qz_oc_n, Option.bind_some, ne10, not_false_eq_true, l_x]) hC) (fun N1 hM => GoM.of (by simp (disch := omega) only [fM_pool, ↓bd (M_tk1 ha _), ↓bd (M_tk0 hy _), ix_2m, ix_6m, ix_4m, ix_m4, ix_1s, ix_s, ix_s2, ix_s9, ix_s7, ix_s5, ix_s1, nI_add, nI_p1, ix_n, ix_z, ix_1, ix_eq, ix_le, ix_lt, ix_le0, nI_tc, n_leT, n_leF, n_ltT, n_ltF, n_eqT, n_eqF, or_self, or_false, false_or, ↓reduceIte, ↓qz_letL, ↓qz_letI, qz_oc_s, qz_oc_n, Option.bind_some, ne10, not_false_eq_true, l_x]) hM) ok
  by_cases hab : a = b
  · exact Alike.mk' (r := -2) hM (GoC.of (by simp (disch := omega) only [fE_pool, ↓bd (E_tk1 ha _), ↓bd (E_tk1 hb _), ix_2m, ix_6m, ix_4m, ix_m4, ix_1s, ix_s, ix_s2, ix_s9, ix_s7, ix_s5, ix_s1, nI_add, nI_p1, ix_n, ix_z, ix_1, ix_eq, ix_le, ix_lt, ix_le0, nI_tc, n_leT, n_leF, n_ltT, n_ltF, n_eqT, n_eqF, or_self, or_false, false_or, ↓reduceIte, ↓qz_letL, ↓qz_letI, qz_oc_s, qz_oc_n, Option.bind_some, ne10, not_false_eq_true, l_x]) hC) (fun N1 hM => GoM.of (by simp (disch := omega) only [fM_pool, ↓bd (M_tk1 ha _), ↓bd (M_tk1 hb _), ix_2m, ix_6m, ix_4m, ix_m4, ix_1s, ix_s, ix_s2, ix_s9, ix_s7, ix_s5, ix_s1, nI_add, nI_p1, ix_n, ix_z, ix_1, ix_eq, ix_le, ix_lt, ix_le0, nI_tc, n_leT, n_leF, n_ltT, n_ltF, n_eqT, n_eqF, or_self, or_false, false_or, ↓reduceIte, ↓qz_letL, ↓qz_letI, qz_oc_s, qz_oc_n, Option.bind_some, ne10, not_false_eq_true, l_x]) hM) ok
  rcases sdc k with hk | ⟨k, hk, rfl⟩
  · refine Alike.mk' (r := -2) hM (GoC.of ?_ hC) (fun N1 hM => GoM.of ?_ hM) ok
    · simp (disch := omega) only [fE_pool, ↓bd (E_tk1 ha _), ↓bd (E_tk1 hb _), ix_2m, ix_6m, ix_4m, ix_m4, ix_1s, ix_s, ix_s2, ix_s9, ix_s7, ix_s5, ix_s1, nI_add, nI_p1, ix_n, ix_z, ix_1, ix_eq, ix_le, ix_lt, ix_le0, nI_tc, n_leT, n_leF, n_ltT, n_ltF, n_eqT, n_eqF, or_self, or_false, false_or, ↓reduceIte, ↓qz_letL, ↓qz_letI, qz_oc_s, qz_oc_n, Option.bind_some, ne10, not_false_eq_true, l_x, hk.1, hk.2, rC3 hC, i_6]
      split <;> rfl
    · simp (disch := omega) only [fM_pool, ↓bd (M_tk1 ha _), ↓bd (M_tk1 hb _), ix_2m, ix_6m, ix_4m, ix_m4, ix_1s, ix_s, ix_s2, ix_s9, ix_s7, ix_s5, ix_s1, nI_add, nI_p1, ix_n, ix_z, ix_1, ix_eq, ix_le, ix_lt, ix_le0, nI_tc, n_leT, n_leF, n_ltT, n_ltF, n_eqT, n_eqF, or_self, or_false, false_or, ↓reduceIte, ↓qz_letL, ↓qz_letI, qz_oc_s, qz_oc_n, Option.bind_some, ne10, not_false_eq_true, l_x]
      rcases sd_m hk with g | g
      · rw [if_pos g]
      · rw [if_neg (by rw [bg_n g (by decide)]; exact id), i_1, if_pos (by rw [bg_gt g (by decide) (by decide)]; trivial)]
  rcases ixc f (n := 1001) (by decide) with hf | ⟨f, hf, rfl⟩
  · refine Alike.mk' (r := -2) hM (GoC.of ?_ hC) (fun N1 hM => GoM.of ?_ hM) ok
    · have e : fE_pool_40 0 N (nI a) (nI b) (nI k) f = some (-2, N) := by
        unfold fE_pool_40
        rcases hf with g | g
        · rw [if_pos g]
        · rw [if_neg (by rw [bg_n g (by decide)]; exact id), i_k, if_neg (by rw [bg_ge g (by decide) (by decide)]; exact id)]
      simp (disch := omega) only [fE_pool, ↓bd (E_tk1 ha _), ↓bd (E_tk1 hb _), ix_2m, ix_6m, ix_4m, ix_m4, ix_1s, ix_s, ix_s2, ix_s9, ix_s7, ix_s5, ix_s1, nI_add, nI_p1, ix_n, ix_z, ix_1, ix_eq, ix_le, ix_lt, ix_le0, nI_tc, n_leT, n_leF, n_ltT, n_ltF, n_eqT, n_eqF, or_self, or_false, false_or, ↓reduceIte, ↓qz_letL, ↓qz_letI, qz_oc_s, qz_oc_n, Option.bind_some, ne10, not_false_eq_true, l_x, rC3 hC, i_6, e]
      repeat' (first | rfl | split)
    · simp (disch := omega) only [fM_pool, ↓bd (M_tk1 ha _), ↓bd (M_tk1 hb _), ix_2m, ix_6m, ix_4m, ix_m4, ix_1s, ix_s, ix_s2, ix_s9, ix_s7, ix_s5, ix_s1, nI_add, nI_p1, ix_n, ix_z, ix_1, ix_eq, ix_le, ix_lt, ix_le0, nI_tc, n_leT, n_leF, n_ltT, n_ltF, n_eqT, n_eqF, or_self, or_false, false_or, ↓reduceIte, ↓qz_letL, ↓qz_letI, qz_oc_s, qz_oc_n, Option.bind_some, ne10, not_false_eq_true, l_x, i_1, ix_lt]
      rcases hf with g | g
      · rw [if_pos g]
      · rw [if_neg (by rw [bg_n g (by decide)]; exact id), i_k, if_pos (by rw [bg_gt g (by decide) (by decide)]; trivial)]
  by_cases hn : S 3 0 0 = 6
  · exact Alike.mk' (r := -2) hM (GoC.of (by simp (disch := omega) only [fE_pool, ↓bd (E_tk1 ha _), ↓bd (E_tk1 hb _), ix_2m, ix_6m, ix_4m, ix_m4, ix_1s, ix_s, ix_s2, ix_s9, ix_s7, ix_s5, ix_s1, nI_add, nI_p1, ix_n, ix_z, ix_1, ix_eq, ix_le, ix_lt, ix_le0, nI_tc, n_leT, n_leF, n_ltT, n_ltF, n_eqT, n_eqF, or_self, or_false, false_or, ↓reduceIte, ↓qz_letL, ↓qz_letI, qz_oc_s, qz_oc_n, Option.bind_some, ne10, not_false_eq_true, l_x, rC3 hC, i_6]) hC) (fun N1 hM => GoM.of (by simp (disch := omega) only [fM_pool, ↓bd (M_tk1 ha _), ↓bd (M_tk1 hb _), ix_2m, ix_6m, ix_4m, ix_m4, ix_1s, ix_s, ix_s2, ix_s9, ix_s7, ix_s5, ix_s1, nI_add, nI_p1, ix_n, ix_z, ix_1, ix_eq, ix_le, ix_lt, ix_le0, nI_tc, n_leT, n_leF, n_ltT, n_ltF, n_eqT, n_eqF, or_self, or_false, false_or, ↓reduceIte, ↓qz_letL, ↓qz_letI, qz_oc_s, qz_oc_n, Option.bind_some, ne10, not_false_eq_true, l_x, i_1, i_k, i_6, rM3 hM]) hM) ok
  refine Alike.mk' (r := nI (S 3 0 0)) (S' := qz_u3 (qz_u3 (qz_u3 (qz_u3 (qz_u3 S 3 0 0 (S 3 0 0 + 1)) 4 (S 3 0 0) 0 a) 4 (S 3 0 0) 1 b) 5 (S 3 0 0) 0 k) 6 (S 3 0 0) 0 f) hM ?_ (fun N1 hM => ?_) (ok_pool ok (by omega) ha hb hab (by omega) (by omega))
  · have e : fE_pool 0 (nI a) (nI b) (nI k) (nI f) N = fE_pool_40 0 N (nI a) (nI b) (nI k) (nI f) := by
      simp (disch := omega) only [fE_pool, ↓bd (E_tk1 ha _), ↓bd (E_tk1 hb _), ix_2m, ix_6m, ix_4m, ix_m4, ix_1s, ix_s, ix_s2, ix_s9, ix_s7, ix_s5, ix_s1, nI_add, nI_p1, ix_n, ix_z, ix_1, ix_eq, ix_le, ix_lt, ix_le0, nI_tc, n_leT, n_leF, n_ltT, n_ltF, n_eqT, n_eqF, or_self, or_false, false_or, ↓reduceIte, ↓qz_letL, ↓qz_letI, qz_oc_s, qz_oc_n, Option.bind_some, ne10, not_false_eq_true, l_x, rC3 hC, i_6]
      rcases (show k = 0 ∨ k = 1 by omega) with rfl | rfl
      · rfl
      · rfl
    rw [e]
    simp (disch := omega) only [fE_pool_40, ix_2m, ix_6m, ix_4m, ix_m4, ix_1s, ix_s, ix_s2, ix_s9, ix_s7, ix_s5, ix_s1, nI_add, nI_p1, ix_n, ix_z, ix_1, ix_eq, ix_le, ix_lt, ix_le0, nI_tc, n_leT, n_leF, n_ltT, n_ltF, n_eqT, n_eqF, or_self, or_false, false_or, ↓reduceIte, ↓qz_letL, ↓qz_letI, qz_oc_s, qz_oc_n, Option.bind_some, ne10, not_false_eq_true, l_x, rC3 hC, i_k]
    refine GoC.wr (wC4 hC (S 3 0 0) 0 a (by omega) (by decide)) (KM.si (by decide)) (fun N1 hC k1 => ?_)
    refine GoC.wr (wC4 hC (S 3 0 0) 1 b (by omega) (by decide)) (k1.tr (KM.si (by decide))) (fun N1 hC k1 => ?_)
    refine GoC.wr (wC5 hC (S 3 0 0) k (by omega)) (k1.tr (KM.si (by decide))) (fun N1 hC k1 => ?_)
    refine GoC.wr (wC6 hC (S 3 0 0) f (by omega)) (k1.tr (KM.si (by decide))) (fun N1 hC k1 => ?_)
    simp (disch := omega) only [rC3 hC, u3_f, u3_s, u3_i, u3_j, nI_p1]
    refine GoC.wr (wC3 hC (S 3 0 0 + 1)) (k1.tr (KM.si (by decide))) (fun N1 hC k1 => ?_)
    simp (disch := omega) only [rC3 hC, u3_f, u3_s, u3_i, u3_j, ix_s1]
    exact GoC.st (GoC.ret hC k1) (by simp (disch := omega) only [u3_lt])
  · simp (disch := omega) only [fM_pool, ↓bd (M_tk1 ha _), ↓bd (M_tk1 hb _), ix_2m, ix_6m, ix_4m, ix_m4, ix_1s, ix_s, ix_s2, ix_s9, ix_s7, ix_s5, ix_s1, nI_add, nI_p1, ix_n, ix_z, ix_1, ix_eq, ix_le, ix_lt, ix_le0, nI_tc, n_leT, n_leF, n_ltT, n_ltF, n_eqT, n_eqF, or_self, or_false, false_or, ↓reduceIte, ↓qz_letL, ↓qz_letI, qz_oc_s, qz_oc_n, Option.bind_some, ne10, not_false_eq_true, l_x, i_1, i_k, i_6, rM3 hM]
    refine GoM.wr (wM4 hM (S 3 0 0) 0 a (by omega) (by decide)) (KC.si (by decide)) (fun N1 hM k1 => ?_)
    simp (disch := omega) only [ix_2m, ix_6m, ix_4m, ix_m4, ix_1s, ix_s, ix_s2, ix_s9, ix_s7, ix_s5, ix_s1, nI_add, nI_p1, ix_n, ix_z, ix_1, ix_eq, ix_le, ix_lt, ix_le0, nI_tc, n_leT, n_leF, n_ltT, n_ltF, n_eqT, n_eqF, or_self, or_false, false_or, ↓reduceIte, ↓qz_letL, ↓qz_letI, qz_oc_s, qz_oc_n, Option.bind_some, ne10, not_false_eq_true, l_x, rM3 hM, u3_f, u3_s, u3_i, u3_j]
    refine GoM.wr (wM4 hM (S 3 0 0) 1 b (by omega) (by decide)) (k1.tr (KC.si (by decide))) (fun N1 hM k1 => ?_)
    simp (disch := omega) only [ix_2m, ix_6m, ix_4m, ix_m4, ix_1s, ix_s, ix_s2, ix_s9, ix_s7, ix_s5, ix_s1, nI_add, nI_p1, ix_n, ix_z, ix_1, ix_eq, ix_le, ix_lt, ix_le0, nI_tc, n_leT, n_leF, n_ltT, n_ltF, n_eqT, n_eqF, or_self, or_false, false_or, ↓reduceIte, ↓qz_letL, ↓qz_letI, qz_oc_s, qz_oc_n, Option.bind_some, ne10, not_false_eq_true, l_x, rM3 hM, u3_f, u3_s, u3_i, u3_j]
    refine GoM.wr (wM5 hM (S 3 0 0) k (by omega)) (k1.tr (KC.si (by decide))) (fun N1 hM k1 => ?_)
    simp (disch := omega) only [ix_2m, ix_6m, ix_4m, ix_m4, ix_1s, ix_s, ix_s2, ix_s9, ix_s7, ix_s5, ix_s1, nI_add, nI_p1, ix_n, ix_z, ix_1, ix_eq, ix_le, ix_lt, ix_le0, nI_tc, n_leT, n_leF, n_ltT, n_ltF, n_eqT, n_eqF, or_self, or_false, false_or, ↓reduceIte, ↓qz_letL, ↓qz_letI, qz_oc_s, qz_oc_n, Option.bind_some, ne10, not_false_eq_true, l_x, rM3 hM, u3_f, u3_s, u3_i, u3_j]
    refine GoM.wr (wM6 hM (S 3 0 0) f (by omega)) (k1.tr (KC.si (by decide))) (fun N1 hM k1 => ?_)
    simp (disch := omega) only [ix_2m, ix_6m, ix_4m, ix_m4, ix_1s, ix_s, ix_s2, ix_s9, ix_s7, ix_s5, ix_s1, nI_add, nI_p1, ix_n, ix_z, ix_1, ix_eq, ix_le, ix_lt, ix_le0, nI_tc, n_leT, n_leF, n_ltT, n_ltF, n_eqT, n_eqF, or_self, or_false, false_or, ↓reduceIte, ↓qz_letL, ↓qz_letI, qz_oc_s, qz_oc_n, Option.bind_some, ne10, not_false_eq_true, l_x, rM3 hM, u3_f, u3_s, u3_i, u3_j]
    refine GoM.wr (wM3 hM (S 3 0 0 + 1)) (k1.tr (KC.si (by decide))) (fun N1 hM k1 => ?_)
    simp (disch := omega) only [ix_2m, ix_6m, ix_4m, ix_m4, ix_1s, ix_s, ix_s2, ix_s9, ix_s7, ix_s5, ix_s1, nI_add, nI_p1, ix_n, ix_z, ix_1, ix_eq, ix_le, ix_lt, ix_le0, nI_tc, n_leT, n_leF, n_ltT, n_ltF, n_eqT, n_eqF, or_self, or_false, false_or, ↓reduceIte, ↓qz_letL, ↓qz_letI, qz_oc_s, qz_oc_n, Option.bind_some, ne10, not_false_eq_true, l_x, rM3 hM, u3_f, u3_s, u3_i, u3_j]
    exact GoM.st (GoM.ret hM k1) (by simp (disch := omega) only [u3_lt])
theorem ok_batch {S : St} {c a b : Nat} (ok : Ok c S) (ha : a < 4) (hb : b < 4) (hab : a ≠ b) (h0 : S 18 0 0 = 0) : Ok c (qz_u3 (qz_u3 S 16 0 0 a) 17 0 0 b) := by
  obtain ⟨h1, h2, h3, h4, h5, h6', h7⟩ := ok
  unfold Ok
  simp (disch := omega) only [u3_f, u3_e]
  refine ⟨?_, h2, h3, ?_, h5, h6', h7⟩
  · intro t ht
    obtain ⟨a1, a2⟩ := h1 t ht
    refine ⟨?_, a2⟩
    unfold cO at a1 ⊢
    rw [h0] at a1 ⊢
    exact a1
  · obtain ⟨-, -, -, a4, a5, a6⟩ := h4
    unfold O4
    rw [show up2 (S 16) 0 0 a 0 0 = a from up2_s, show up2 (S 17) 0 0 b 0 0 = b from up2_s]
    exact ⟨ha, hb, hab, a4, a5, a6⟩
theorem op_batch {N : qz_N} {S : St} {c : Nat} (ok : Ok c S) (hC : RC N S) (hM : RM N S) (x y : Int32) : Alike N (fE_batch 0 x y) (fM_batch 0 x y) (Ok c) := by
  have h40 := ok.2.2.2.1.2.2.2.1
  rcases ixc x (n := 4) (by decide) with hx | ⟨a, ha, rfl⟩
  · exact Alike.mk' (r := -2) hM (GoC.of (by simp (disch := omega) only [fE_batch, ↓bd (E_tk0 hx _), ix_2m, ix_6m, ix_4m, ix_m4, ix_1s, ix_s, ix_s2, ix_s9, ix_s7, ix_s5, ix_s1, nI_add, nI_p1, ix_n, ix_z, ix_1, ix_eq, ix_le, ix_lt, ix_le0, nI_tc, n_leT, n_leF, n_ltT, n_ltF, n_eqT, n_eqF, or_self, or_false, false_or, ↓reduceIte, ↓qz_letL, ↓qz_letI, qz_oc_s, qz_oc_n, Option.bind_some, ne10, not_false_eq_true, l_x]) hC) (fun N1 hM => GoM.of (by simp (disch := omega) only [fM_batch, ↓bd (M_tk0 hx _), ix_2m, ix_6m, ix_4m, ix_m4, ix_1s, ix_s, ix_s2, ix_s9, ix_s7, ix_s5, ix_s1, nI_add, nI_p1, ix_n, ix_z, ix_1, ix_eq, ix_le, ix_lt, ix_le0, nI_tc, n_leT, n_leF, n_ltT, n_ltF, n_eqT, n_eqF, or_self, or_false, false_or, ↓reduceIte, ↓qz_letL, ↓qz_letI, qz_oc_s, qz_oc_n, Option.bind_some, ne10, not_false_eq_true, l_x]) hM) ok
  rcases ixc y (n := 4) (by decide) with hy | ⟨b, hb, rfl⟩
  · exact Alike.mk' (r := -2) hM (GoC.of (by simp (disch := omega) only [fE_batch, ↓bd (E_tk1 ha _), ↓bd (E_tk0 hy _), ix_2m, ix_6m, ix_4m, ix_m4, ix_1s, ix_s, ix_s2, ix_s9, ix_s7, ix_s5, ix_s1, nI_add, nI_p1, ix_n, ix_z, ix_1, ix_eq, ix_le, ix_lt, ix_le0, nI_tc, n_leT, n_leF, n_ltT, n_ltF, n_eqT, n_eqF, or_self, or_false, false_or, ↓reduceIte, ↓qz_letL, ↓qz_letI, qz_oc_s, qz_oc_n, Option.bind_some, ne10, not_false_eq_true, l_x]) hC) (fun N1 hM => GoM.of (by simp (disch := omega) only [fM_batch, ↓bd (M_tk1 ha _), ↓bd (M_tk0 hy _), ix_2m, ix_6m, ix_4m, ix_m4, ix_1s, ix_s, ix_s2, ix_s9, ix_s7, ix_s5, ix_s1, nI_add, nI_p1, ix_n, ix_z, ix_1, ix_eq, ix_le, ix_lt, ix_le0, nI_tc, n_leT, n_leF, n_ltT, n_ltF, n_eqT, n_eqF, or_self, or_false, false_or, ↓reduceIte, ↓qz_letL, ↓qz_letI, qz_oc_s, qz_oc_n, Option.bind_some, ne10, not_false_eq_true, l_x]) hM) ok
  by_cases hab : a = b
  · exact Alike.mk' (r := -2) hM (GoC.of (by simp (disch := omega) only [fE_batch, ↓bd (E_tk1 ha _), ↓bd (E_tk1 hb _), ix_2m, ix_6m, ix_4m, ix_m4, ix_1s, ix_s, ix_s2, ix_s9, ix_s7, ix_s5, ix_s1, nI_add, nI_p1, ix_n, ix_z, ix_1, ix_eq, ix_le, ix_lt, ix_le0, nI_tc, n_leT, n_leF, n_ltT, n_ltF, n_eqT, n_eqF, or_self, or_false, false_or, ↓reduceIte, ↓qz_letL, ↓qz_letI, qz_oc_s, qz_oc_n, Option.bind_some, ne10, not_false_eq_true, l_x]) hC) (fun N1 hM => GoM.of (by simp (disch := omega) only [fM_batch, ↓bd (M_tk1 ha _), ↓bd (M_tk1 hb _), ix_2m, ix_6m, ix_4m, ix_m4, ix_1s, ix_s, ix_s2, ix_s9, ix_s7, ix_s5, ix_s1, nI_add, nI_p1, ix_n, ix_z, ix_1, ix_eq, ix_le, ix_lt, ix_le0, nI_tc, n_leT, n_leF, n_ltT, n_ltF, n_eqT, n_eqF, or_self, or_false, false_or, ↓reduceIte, ↓qz_letL, ↓qz_letI, qz_oc_s, qz_oc_n, Option.bind_some, ne10, not_false_eq_true, l_x]) hM) ok
  by_cases h0 : S 18 0 0 = 0
  case neg => exact Alike.mk' (r := -3) hM (GoC.of (by simp (disch := omega) only [fE_batch, ↓bd (E_tk1 ha _), ↓bd (E_tk1 hb _), ix_2m, ix_6m, ix_4m, ix_m4, ix_1s, ix_s, ix_s2, ix_s9, ix_s7, ix_s5, ix_s1, nI_add, nI_p1, ix_n, ix_z, ix_1, ix_eq, ix_le, ix_lt, ix_le0, nI_tc, n_leT, n_leF, n_ltT, n_ltF, n_eqT, n_eqF, or_self, or_false, false_or, ↓reduceIte, ↓qz_letL, ↓qz_letI, qz_oc_s, qz_oc_n, Option.bind_some, ne10, not_false_eq_true, l_x, rC18 hC]) hC) (fun N1 hM => GoM.of (by simp (disch := omega) only [fM_batch, ↓bd (M_tk1 ha _), ↓bd (M_tk1 hb _), ix_2m, ix_6m, ix_4m, ix_m4, ix_1s, ix_s, ix_s2, ix_s9, ix_s7, ix_s5, ix_s1, nI_add, nI_p1, ix_n, ix_z, ix_1, ix_eq, ix_le, ix_lt, ix_le0, nI_tc, n_leT, n_leF, n_ltT, n_ltF, n_eqT, n_eqF, or_self, or_false, false_or, ↓reduceIte, ↓qz_letL, ↓qz_letI, qz_oc_s, qz_oc_n, Option.bind_some, ne10, not_false_eq_true, l_x, rM18 hM]) hM) ok
  refine Alike.mk' (r := 1) (S' := qz_u3 (qz_u3 S 16 0 0 a) 17 0 0 b) hM ?_ (fun N1 hM => ?_) (ok_batch ok ha hb hab h0)
  · simp (disch := omega) only [fE_batch, ↓bd (E_tk1 ha _), ↓bd (E_tk1 hb _), ix_2m, ix_6m, ix_4m, ix_m4, ix_1s, ix_s, ix_s2, ix_s9, ix_s7, ix_s5, ix_s1, nI_add, nI_p1, ix_n, ix_z, ix_1, ix_eq, ix_le, ix_lt, ix_le0, nI_tc, n_leT, n_leF, n_ltT, n_ltF, n_eqT, n_eqF, or_self, or_false, false_or, ↓reduceIte, ↓qz_letL, ↓qz_letI, qz_oc_s, qz_oc_n, Option.bind_some, ne10, not_false_eq_true, l_x, rC18 hC]
    refine GoC.wr (wC16 hC a) (KM.si (by decide)) (fun N1 hC k1 => ?_)
    exact GoC.wr (wC17 hC b) (k1.tr (KM.si (by decide))) (fun N1 hC k1 => GoC.ret hC k1)
  · simp (disch := omega) only [fM_batch, ↓bd (M_tk1 ha _), ↓bd (M_tk1 hb _), ix_2m, ix_6m, ix_4m, ix_m4, ix_1s, ix_s, ix_s2, ix_s9, ix_s7, ix_s5, ix_s1, nI_add, nI_p1, ix_n, ix_z, ix_1, ix_eq, ix_le, ix_lt, ix_le0, nI_tc, n_leT, n_leF, n_ltT, n_ltF, n_eqT, n_eqF, or_self, or_false, false_or, ↓reduceIte, ↓qz_letL, ↓qz_letI, qz_oc_s, qz_oc_n, Option.bind_some, ne10, not_false_eq_true, l_x, rM18 hM]
    refine GoM.wr (wM16 hM a) (KC.si (by decide)) (fun N1 hM k1 => ?_)
    exact GoM.wr (wM17 hM b) (k1.tr (KC.si (by decide))) (fun N1 hM k1 => GoM.ret hM k1)
theorem wMmk {N : qz_N} {S : St} (h : RM N S) {k i : Nat} : RM (qz_si N 32 0 k (nI i)) (qz_u3 (qz_u3 S 12 k 0 1) 13 k 0 i) := by
  obtain ⟨⟨h1, h2⟩, h3, h4, h5⟩ := h
  have e : ∀ f', f' ≠ 12 → f' ≠ 13 → qz_u3 (qz_u3 S 12 k 0 1) 13 k 0 i f' = S f' := fun f' a b => by rw [u3_f b, u3_f a]
  refine ⟨⟨fun f a b hd => ?_, fun f a b hd => ?_⟩, fun q hq => ?_, fun q hq => ?_, fun q hq => ?_⟩
  · rw [e f (by rintro rfl; cases hd) (by rintro rfl; cases hd), qz_gl_si]; exact h1 f a b hd
  · have hc : (lMI f a b).1 ≠ 32 := by
      unfold dMI at hd
      split at hd <;> first | (cases hd; done) | (simp [lMI]; done)
    rw [e f (by rintro rfl; cases hd) (by rintro rfl; cases hd), qz_gi_si, if_neg (fun z => hc z.1)]; exact h2 f a b hd
  · rw [qz_gi_si]
    by_cases c : q = k
    · subst c
      rw [if_pos ⟨rfl, rfl, rfl⟩, u3_f (by decide), u3_s, u3_s, if_neg (by decide)]
    · rw [if_neg (fun z => c z.2.2), u3_f (by decide), u3_i c, u3_i c, u3_f (by decide)]; exact h3 q hq
  · rw [e 18 (by decide) (by decide)] at hq
    rw [qz_gi_si, qz_gi_si, qz_gl_si, qz_gl_si, if_neg (by omega), if_neg (by omega), e 19 (by decide) (by decide), e 20 (by decide) (by decide), e 21 (by decide) (by decide), e 22 (by decide) (by decide)]; exact h4 q hq
  · rw [e 24 (by decide) (by decide)] at hq
    rw [qz_gl_si, e 25 (by decide) (by decide)]; exact h5 q hq
theorem ok_mark {S : St} {c k i : Nat} (ok : Ok c S) (hi : i < S 3 0 0) : Ok c (qz_u3 (qz_u3 (qz_u3 (qz_u3 S 12 k 0 1) 13 k 0 i) 14 k 0 (S 10 i 0)) 15 k 0 (S 11 i 0)) := by
  have h6 := ok.np
  obtain ⟨h1, h2, h3, h4, h5, h6', h7⟩ := ok
  unfold Ok
  simp (disch := omega) only [u3_f, u3_e]
  refine ⟨h1, h2, h3, h4, ⟨h5.1, h5.2.1, fun q hq => ?_⟩, h6', h7⟩
  rw [up_g, up_g, up_g, up_g]
  by_cases c : q = k
  · rw [if_pos c, if_pos c, if_pos c, if_pos c]
    exact ⟨by decide, by omega, fun _ => ⟨hi, Nat.le_refl _, Nat.le_refl _, by omega⟩⟩
  · rw [if_neg c, if_neg c, if_neg c, if_neg c]
    exact h5.2.2 q hq
theorem op_mark {N : qz_N} {S : St} {c : Nat} (ok : Ok c S) (hC : RC N S) (hM : RM N S) (y x : Int32) : Alike N (fE_mark 0 y x) (fM_mark 0 y x) (Ok c) := by
  have h6 := ok.np
  rcases ixc y (n := 8) (by decide) with hy | ⟨k, hk, rfl⟩
  · refine Alike.mk' (r := -2) hM (GoC.of ?_ hC) (fun N1 hM => GoM.of ?_ hM) ok
    · rcases ixc x (n := S 3 0 0) (by omega) with hx | ⟨i, hx, rfl⟩
      · rcases hy with hy | hy
        · simp (disch := omega) only [fE_mark, ↓bd (E_po0 hC hx), ix_2m, ix_6m, ix_4m, ix_m4, ix_1s, ix_s, ix_s2, ix_s9, ix_s7, ix_s5, ix_s1, nI_add, nI_p1, ix_n, ix_z, ix_1, ix_eq, ix_le, ix_lt, ix_le0, nI_tc, n_leT, n_leF, n_ltT, n_ltF, n_eqT, n_eqF, or_self, or_false, false_or, ↓reduceIte, ↓qz_letL, ↓qz_letI, qz_oc_s, qz_oc_n, Option.bind_some, ne10, not_false_eq_true, l_x, hy]
        · simp (disch := omega) only [fE_mark, ↓bd (E_po0 hC hx), ix_2m, ix_6m, ix_4m, ix_m4, ix_1s, ix_s, ix_s2, ix_s9, ix_s7, ix_s5, ix_s1, nI_add, nI_p1, ix_n, ix_z, ix_1, ix_eq, ix_le, ix_lt, ix_le0, nI_tc, n_leT, n_leF, n_ltT, n_ltF, n_eqT, n_eqF, or_self, or_false, false_or, ↓reduceIte, ↓qz_letL, ↓qz_letI, qz_oc_s, qz_oc_n, Option.bind_some, ne10, not_false_eq_true, l_x, bg_n hy, i_8, hy]
      · rcases hy with hy | hy
        · simp (disch := omega) only [fE_mark, ↓bd (E_po1 hC h6 hx), ix_2m, ix_6m, ix_4m, ix_m4, ix_1s, ix_s, ix_s2, ix_s9, ix_s7, ix_s5, ix_s1, nI_add, nI_p1, ix_n, ix_z, ix_1, ix_eq, ix_le, ix_lt, ix_le0, nI_tc, n_leT, n_leF, n_ltT, n_ltF, n_eqT, n_eqF, or_self, or_false, false_or, ↓reduceIte, ↓qz_letL, ↓qz_letI, qz_oc_s, qz_oc_n, Option.bind_some, ne10, not_false_eq_true, l_x, hy]
        · simp (disch := omega) only [fE_mark, ↓bd (E_po1 hC h6 hx), ix_2m, ix_6m, ix_4m, ix_m4, ix_1s, ix_s, ix_s2, ix_s9, ix_s7, ix_s5, ix_s1, nI_add, nI_p1, ix_n, ix_z, ix_1, ix_eq, ix_le, ix_lt, ix_le0, nI_tc, n_leT, n_leF, n_ltT, n_ltF, n_eqT, n_eqF, or_self, or_false, false_or, ↓reduceIte, ↓qz_letL, ↓qz_letI, qz_oc_s, qz_oc_n, Option.bind_some, ne10, not_false_eq_true, l_x, bg_n hy, i_8, hy]
    · rcases hy with hy | hy
      · simp (disch := omega) only [fM_mark, ix_2m, ix_6m, ix_4m, ix_m4, ix_1s, ix_s, ix_s2, ix_s9, ix_s7, ix_s5, ix_s1, nI_add, nI_p1, ix_n, ix_z, ix_1, ix_eq, ix_le, ix_lt, ix_le0, nI_tc, n_leT, n_leF, n_ltT, n_ltF, n_eqT, n_eqF, or_self, or_false, false_or, ↓reduceIte, ↓qz_letL, ↓qz_letI, qz_oc_s, qz_oc_n, Option.bind_some, ne10, not_false_eq_true, l_x, hy]
      · simp (disch := omega) only [fM_mark, ix_2m, ix_6m, ix_4m, ix_m4, ix_1s, ix_s, ix_s2, ix_s9, ix_s7, ix_s5, ix_s1, nI_add, nI_p1, ix_n, ix_z, ix_1, ix_eq, ix_le, ix_lt, ix_le0, nI_tc, n_leT, n_leF, n_ltT, n_ltF, n_eqT, n_eqF, or_self, or_false, false_or, ↓reduceIte, ↓qz_letL, ↓qz_letI, qz_oc_s, qz_oc_n, Option.bind_some, ne10, not_false_eq_true, l_x, bg_n hy, i_8, hy]
  rcases ixc x (n := S 3 0 0) (by omega) with hx | ⟨i, hx, rfl⟩
  · exact Alike.mk' (r := -2) hM (GoC.of (by simp (disch := omega) only [fE_mark, ↓bd (E_po0 hC hx), ix_2m, ix_6m, ix_4m, ix_m4, ix_1s, ix_s, ix_s2, ix_s9, ix_s7, ix_s5, ix_s1, nI_add, nI_p1, ix_n, ix_z, ix_1, ix_eq, ix_le, ix_lt, ix_le0, nI_tc, n_leT, n_leF, n_ltT, n_ltF, n_eqT, n_eqF, or_self, or_false, false_or, ↓reduceIte, ↓qz_letL, ↓qz_letI, qz_oc_s, qz_oc_n, Option.bind_some, ne10, not_false_eq_true, l_x, i_8]) hC) (fun N1 hM => GoM.of (by simp (disch := omega) only [fM_mark, ↓bd (M_po0 hM hx), ix_2m, ix_6m, ix_4m, ix_m4, ix_1s, ix_s, ix_s2, ix_s9, ix_s7, ix_s5, ix_s1, nI_add, nI_p1, ix_n, ix_z, ix_1, ix_eq, ix_le, ix_lt, ix_le0, nI_tc, n_leT, n_leF, n_ltT, n_ltF, n_eqT, n_eqF, or_self, or_false, false_or, ↓reduceIte, ↓qz_letL, ↓qz_letI, qz_oc_s, qz_oc_n, Option.bind_some, ne10, not_false_eq_true, l_x, i_8]) hM) ok
  have hi : i < 6 := by omega
  refine Alike.mk' (r := 1) (S' := qz_u3 (qz_u3 (qz_u3 (qz_u3 S 12 k 0 1) 13 k 0 i) 14 k 0 (S 10 i 0)) 15 k 0 (S 11 i 0)) hM ?_ (fun N1 hM => ?_) (ok_mark ok hx)
  · simp (disch := omega) only [fE_mark, ↓bd (E_po1 hC h6 hx), ix_2m, ix_6m, ix_4m, ix_m4, ix_1s, ix_s, ix_s2, ix_s9, ix_s7, ix_s5, ix_s1, nI_add, nI_p1, ix_n, ix_z, ix_1, ix_eq, ix_le, ix_lt, ix_le0, nI_tc, n_leT, n_leF, n_ltT, n_ltF, n_eqT, n_eqF, or_self, or_false, false_or, ↓reduceIte, ↓qz_letL, ↓qz_letI, qz_oc_s, qz_oc_n, Option.bind_some, ne10, not_false_eq_true, l_x, i_8]
    refine GoC.wr (wC12 hC k 1 hk) (KM.si (by decide)) (fun N1 hC k1 => ?_)
    refine GoC.wr (wC13 hC k i hk) (k1.tr (KM.si (by decide))) (fun N1 hC k1 => ?_)
    simp (disch := omega) only [rC10 hC i hi, u3_f, u3_s, u3_i, u3_j]
    refine GoC.wr (wC14 hC k (S 10 i 0) hk) (k1.tr (KM.sl (by decide))) (fun N1 hC k1 => ?_)
    simp (disch := omega) only [rC11 hC i hi, u3_f, u3_s, u3_i, u3_j]
    exact GoC.wr (wC15 hC k (S 11 i 0) hk) (k1.tr (KM.sl (by decide))) (fun N1 hC k1 => GoC.ret hC k1)
  · simp (disch := omega) only [fM_mark, ↓bd (M_po1 hM h6 hx), ix_2m, ix_6m, ix_4m, ix_m4, ix_1s, ix_s, ix_s2, ix_s9, ix_s7, ix_s5, ix_s1, nI_add, nI_p1, ix_n, ix_z, ix_1, ix_eq, ix_le, ix_lt, ix_le0, nI_tc, n_leT, n_leF, n_ltT, n_ltF, n_eqT, n_eqF, or_self, or_false, false_or, ↓reduceIte, ↓qz_letL, ↓qz_letI, qz_oc_s, qz_oc_n, Option.bind_some, ne10, not_false_eq_true, l_x, i_8]
    refine GoM.wr (wMmk hM) (KC.si (by decide)) (fun N1 hM k1 => ?_)
    simp (disch := omega) only [ix_2m, ix_6m, ix_4m, ix_m4, ix_1s, ix_s, ix_s2, ix_s9, ix_s7, ix_s5, ix_s1, nI_add, nI_p1, ix_n, ix_z, ix_1, ix_eq, ix_le, ix_lt, ix_le0, nI_tc, n_leT, n_leF, n_ltT, n_ltF, n_eqT, n_eqF, or_self, or_false, false_or, ↓reduceIte, ↓qz_letL, ↓qz_letI, qz_oc_s, qz_oc_n, Option.bind_some, ne10, not_false_eq_true, l_x, rM10 hM i hi, u3_f, u3_s, u3_i, u3_j]
    refine GoM.wr (wM14 hM k (S 10 i 0) hk) (k1.tr (KC.sl (by decide))) (fun N1 hM k1 => ?_)
    simp (disch := omega) only [ix_2m, ix_6m, ix_4m, ix_m4, ix_1s, ix_s, ix_s2, ix_s9, ix_s7, ix_s5, ix_s1, nI_add, nI_p1, ix_n, ix_z, ix_1, ix_eq, ix_le, ix_lt, ix_le0, nI_tc, n_leT, n_leF, n_ltT, n_ltF, n_eqT, n_eqF, or_self, or_false, false_or, ↓reduceIte, ↓qz_letL, ↓qz_letI, qz_oc_s, qz_oc_n, Option.bind_some, ne10, not_false_eq_true, l_x, rM11 hM i hi, u3_f, u3_s, u3_i, u3_j]
    exact GoM.wr (wM15 hM k (S 11 i 0) hk) (k1.tr (KC.sl (by decide))) (fun N1 hM k1 => GoM.ret hM k1)
