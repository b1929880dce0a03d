theorem E_join3 {N N0 : qz_N} {S : St} (hC : RC N S) (k0 : KM N0 N) {c p i a b n : Nat} (ok : Ok c S) (hp : p < 6) (hi : i < S 3 0 0) (ha : a ≤ S 0 p (S 4 i 0)) (hb : b ≤ S 0 p (S 4 i 1)) : GoC N0 (fE_join_152 0 i N (nI p) (lN n) (lN a) (lN b)) (lN n) (stP S p i (S 0 p (S 4 i 0) - a) (S 0 p (S 4 i 1) - b) (S 7 i 0 + a) (S 7 i 1 + b) (S 8 i 0 + n) (S 9 i p + n)) := by
  have h6 := ok.np
  have hi6 : i < 6 := by omega
  have hd := (ok.2.1.2 i hi6).2.2.2.2.1 hi
  unfold fE_join_152
  refine GoC.call (E_bringIn hC (j := 0) hp hi6 (by decide) (ok.tok hi6 (by decide)) ha) k0 (fun N1 h1 k1 => ?_)
  have w := E_bringIn h1 (p := p) (i := i) (j := 1) (a := b) hp hi6 (by omega) (by simp (disch := omega) only [u3_f, u3_s, u3_i, u3_j]; exact ok.tok hi6 (by omega)) (by simp (disch := omega) only [u3_f, u3_s, u3_i, u3_j]; exact hb)
  refine GoC.call w k1 (fun N2 h2 k2 => ?_)
  refine GoC.call (E_addSh h2 (p := p) (i := i) (v := S 9 i p + n) (w := S 8 i 0 + n) hp hi6 (by simp (disch := omega) only [u3_f, u3_s, u3_i, u3_j, lN_add]) (by simp (disch := omega) only [u3_f, u3_s, u3_i, u3_j, lN_add])) k2 (fun N3 h3 k3 => GoC.st (GoC.ret h3 k3) ?_)
  unfold stP
  simp (disch := omega) only [u3_f, u3_s, u3_i, u3_j, u3_lt]
theorem M_join3 {N N0 : qz_N} {S : St} (hM : RM N S) (k1 : KC N0 N) {c p i a b n : Nat} (ok : Ok c S) (hp : p < 6) (hx : i < S 3 0 0) (ha : a ≤ S 0 p (S 4 i 0)) (hb : b ≤ S 0 p (S 4 i 1)) (hn : 1 ≤ n) (hn' : n < 9223372036854775808) : GoM N0 (fM_join_242 0 N (nI p) (nI i) (nI (S 4 i 0)) (nI (S 4 i 1)) (lN n) (lN a) (lN b)) (lN n) (stP S p i (S 0 p (S 4 i 0) - a) (S 0 p (S 4 i 1) - b) (S 7 i 0 + a) (S 7 i 1 + b) (S 8 i 0 + n) (S 9 i p + n)) := by
  have h6 := ok.np
  have hi : i < 6 := by omega
  have hd := (ok.2.1.2 i hi).2.2.2.2.1 hx
  have t0 := ok.tok hi (j := 0) (by decide)
  have t1 := ok.tok hi (j := 1) (by decide)
  unfold fM_join_242
  simp (disch := omega) only [ix_2m, ix_6m, ix_4m, ix_m4, ix_1s, ix_s, ix_s2, ix_s9, ix_s7, ix_s5, ix_s1, nI_add, nI_p1, ix_n, ix_z, ix_1, ix_eq, ix_le, ix_lt, ix_le0, nI_tc, n_leT, n_leF, n_ltT, n_ltF, n_eqT, n_eqF, or_self, or_false, false_or, ↓reduceIte, ↓qz_letL, ↓qz_letI, qz_oc_s, qz_oc_n, Option.bind_some, ne10, not_false_eq_true, l_x, l_0, l_1, l_60, l_80, l_100, l_105, l_k, l_xk, l_m, l_g, l_xg, l_t, l_ct, l_ex, l_mx, l_lt, l_le, l_eq, l_div, l_ite, lN_add, lN_sub, lN_mul, lN_addneg]
  refine GoM.call (M_give hM hp t0 (lN_addneg ha)) k1 (fun N1 hM k1 => ?_)
  refine GoM.call (M_give hM (w := S 0 p (S 4 i 1) - b) hp t1 (by simp (disch := omega) only [u3_f, u3_s, u3_i, u3_j, lN_addneg])) k1 (fun N1 hM k1 => ?_)
  simp (disch := omega) only [ix_2m, ix_6m, ix_4m, ix_m4, ix_1s, ix_s, ix_s2, ix_s9, ix_s7, ix_s5, ix_s1, nI_add, nI_p1, ix_n, ix_z, ix_1, ix_eq, ix_le, ix_lt, ix_le0, nI_tc, n_leT, n_leF, n_ltT, n_ltF, n_eqT, n_eqF, or_self, or_false, false_or, ↓reduceIte, ↓qz_letL, ↓qz_letI, qz_oc_s, qz_oc_n, Option.bind_some, ne10, not_false_eq_true, l_x, rM7a hM i hi, u3_f, u3_s, u3_i, u3_j, lN_add]
  refine GoM.wr (wMl hM (j := 0) (v := S 7 i 0 + a) hi (by decide) rfl) (k1.tr (KC.sl (by decide))) (fun N1 hM k1 => ?_)
  simp (disch := omega) only [ix_2m, ix_6m, ix_4m, ix_m4, ix_1s, ix_s, ix_s2, ix_s9, ix_s7, ix_s5, ix_s1, nI_add, nI_p1, ix_n, ix_z, ix_1, ix_eq, ix_le, ix_lt, ix_le0, nI_tc, n_leT, n_leF, n_ltT, n_ltF, n_eqT, n_eqF, or_self, or_false, false_or, ↓reduceIte, ↓qz_letL, ↓qz_letI, qz_oc_s, qz_oc_n, Option.bind_some, ne10, not_false_eq_true, l_x, rM7 hM i 1 hi, u3_f, u3_s, u3_i, u3_j, lN_add]
  refine GoM.wr (wMl hM (j := 1) (v := S 7 i 1 + b) hi (by decide) rfl) (k1.tr (KC.sl (by decide))) (fun N1 hM k1 => ?_)
  simp (disch := omega) only [ix_2m, ix_6m, ix_4m, ix_m4, ix_1s, ix_s, ix_s2, ix_s9, ix_s7, ix_s5, ix_s1, nI_add, nI_p1, ix_n, ix_z, ix_1, ix_eq, ix_le, ix_lt, ix_le0, nI_tc, n_leT, n_leF, n_ltT, n_ltF, n_eqT, n_eqF, or_self, or_false, false_or, ↓reduceIte, ↓qz_letL, ↓qz_letI, qz_oc_s, qz_oc_n, Option.bind_some, ne10, not_false_eq_true, l_x, rM8 hM i hi, u3_f, u3_s, u3_i, u3_j, lN_add]
  refine GoM.wr (wM8 hM i (S 8 i 0 + n) hi) (k1.tr (KC.sl (by decide))) (fun N1 hM k1 => ?_)
  simp (disch := omega) only [ix_2m, ix_6m, ix_4m, ix_m4, ix_1s, ix_s, ix_s2, ix_s9, ix_s7, ix_s5, ix_s1, nI_add, nI_p1, ix_n, ix_z, ix_1, ix_eq, ix_le, ix_lt, ix_le0, nI_tc, n_leT, n_leF, n_ltT, n_ltF, n_eqT, n_eqF, or_self, or_false, false_or, ↓reduceIte, ↓qz_letL, ↓qz_letI, qz_oc_s, qz_oc_n, Option.bind_some, ne10, not_false_eq_true, l_x, rM9 hM i p hi hp, u3_f, u3_s, u3_i, u3_j, lN_add]
  refine GoM.wr (wM9 hM i p (S 9 i p + n) hi hp) (k1.tr (KC.sl (by decide))) (fun N1 hM k1 => GoM.st (GoM.ret hM k1) ?_)
  unfold stP
  simp (disch := omega) only [u3_f, u3_s, u3_i, u3_j, u3_lt]
theorem jn_small {x y s u v : Nat} (hx : 0 < x) (hy : 0 < y) (hu : u ≤ 100000000000000) (hv : v ≤ 100000000000000) (h : s * s ≤ x * y ∨ s ≤ x + y) : u * s / x ≤ 200000000000000 ∨ v * s / y ≤ 200000000000000 := by
  by_cases c1 : s ≤ 2 * x
  · left
    refine Nat.le_trans (Nat.div_le_of_le_mul (n := 2 * u) ?_) (by omega)
    have := Nat.mul_le_mul_left u c1
    have e : u * (2 * x) = x * (2 * u) := by grind
    omega
  · by_cases c2 : s ≤ 2 * y
    · right
      refine Nat.le_trans (Nat.div_le_of_le_mul (n := 2 * v) ?_) (by omega)
      have := Nat.mul_le_mul_left v c2
      have e : v * (2 * y) = y * (2 * v) := by grind
      omega
    · exfalso
      rcases h with h | h
      · have h1 := Nat.mul_lt_mul'' (show 2 * x < s by omega) (show 2 * y < s by omega)
        have e : 2 * x * (2 * y) = 4 * (x * y) := by grind
        omega
      · omega
def shV (x y s u v : Nat) : Nat := if x = 0 then v * s / y else if y = 0 then u * s / x else if v * s / y < u * s / x then v * s / y else u * s / x
theorem sh_le {x s u : Nat} (h : s ≤ x) (hu : u ≤ 100000000000000) : u * s / x ≤ 100000000000000 := by
  by_cases z : x = 0
  · rw [z, Nat.div_zero]; omega
  · exact Nat.le_trans (div_le_of h (by omega)) hu
theorem shV_le {x y s u v : Nat} (hs : 1 ≤ s) (hu : u ≤ 100000000000000) (hv : v ≤ 100000000000000) (h : s * s ≤ x * y ∨ s ≤ x + y) : shV x y s u v ≤ 200000000000000 := by
  have hp := Nat.mul_pos hs hs
  unfold shV
  by_cases c1 : x = 0
  · rw [if_pos c1]
    have : s ≤ y := by
      rcases h with h | h
      · rw [c1, Nat.zero_mul] at h; omega
      · omega
    have := sh_le this hv
    omega
  · rw [if_neg c1]
    by_cases c2 : y = 0
    · rw [if_pos c2]
      have : s ≤ x := by
        rcases h with h | h
        · rw [c2, Nat.mul_zero] at h; omega
        · omega
      have := sh_le this hu
      omega
    · rw [if_neg c2]
      have := jn_small (u := u) (v := v) (by omega) (by omega) hu hv h
      split <;> omega
theorem E_shFor {N : qz_N} {S : St} (hC : RC N S) {c i u v : Nat} (ok : Ok c S) (hi : i < 6) (hs : S 8 i 0 ≠ 0) (hu : u ≤ 100000000000000) (hv : v ≤ 100000000000000) : fP_sharesFor i (lN u) (lN v) N = some (lN (shV (S 7 i 0) (S 7 i 1) (S 8 i 0) u v), N) := by
  have o3 := ok.2.2.1 i hi
  have bs := ok.sh hi
  have b0 := ok.res hi (j := 0) (by decide)
  have b1 := ok.res hi (j := 1) (by decide)
  have h : S 8 i 0 * S 8 i 0 ≤ S 7 i 0 * S 7 i 1 ∨ S 8 i 0 ≤ S 7 i 0 + S 7 i 1 := by
    by_cases k : S 5 i 0 = 0
    · exact Or.inl (o3.2.1 k)
    · exact Or.inr (o3.2.2 k)
  have hn := shV_le (show 1 ≤ S 8 i 0 by omega) hu hv h
  have hne : ¬ (S 7 i 0 = 0 ∧ S 7 i 1 = 0) := by
    rintro ⟨z0, z1⟩
    rw [z0, z1] at h
    have := Nat.mul_pos (show 0 < S 8 i 0 by omega) (show 0 < S 8 i 0 by omega)
    omega
  have sb : ∀ w r : Nat, w ≤ 100000000000000 → r ≤ 100000000000000 → fP_sharesBy i (lN w) (lN r) N = some (lN (if r = 0 then 9223372036854775807 else min (w * S 8 i 0 / r) 9223372036854775807), N) := by
    intro w r hw hr
    by_cases z : r = 0
    · simp (disch := omega) only [fP_sharesBy, l_0, l_1, l_60, l_80, l_100, l_105, l_k, l_xk, l_m, l_g, l_xg, l_t, l_ct, l_ex, l_mx, l_lt, l_le, l_eq, l_div, l_ite, lN_add, lN_sub, lN_mul, lN_addneg, ix_2m, ix_6m, ix_4m, ix_m4, ix_1s, ix_s, ix_s2, ix_s9, ix_s7, ix_s5, ix_s1, nI_add, nI_p1, ix_n, ix_z, ix_1, ix_eq, ix_le, ix_lt, ix_le0, nI_tc, n_leT, n_leF, n_ltT, n_ltF, n_eqT, n_eqF, or_self, or_false, false_or, ↓reduceIte, ↓qz_letL, ↓qz_letI, qz_oc_s, qz_oc_n, Option.bind_some, ne10, not_false_eq_true, l_x]
    · simp (disch := omega) only [fP_sharesBy, l_0, l_1, l_60, l_80, l_100, l_105, l_k, l_xk, l_m, l_g, l_xg, l_t, l_ct, l_ex, l_mx, l_lt, l_le, l_eq, l_div, l_ite, lN_add, lN_sub, lN_mul, lN_addneg, ix_2m, ix_6m, ix_4m, ix_m4, ix_1s, ix_s, ix_s2, ix_s9, ix_s7, ix_s5, ix_s1, nI_add, nI_p1, ix_n, ix_z, ix_1, ix_eq, ix_le, ix_lt, ix_le0, nI_tc, n_leT, n_leF, n_ltT, n_ltF, n_eqT, n_eqF, or_self, or_false, false_or, ↓reduceIte, ↓qz_letL, ↓qz_letI, qz_oc_s, qz_oc_n, Option.bind_some, ne10, not_false_eq_true, l_x, rC8 hC i hi, A_timesOver]
  unfold shV at hn
  simp (disch := omega) only [fP_sharesFor, l_0, l_1, l_60, l_80, l_100, l_105, l_k, l_xk, l_m, l_g, l_xg, l_t, l_ct, l_ex, l_mx, l_lt, l_le, l_eq, l_div, l_ite, lN_add, lN_sub, lN_mul, lN_addneg, ix_2m, ix_6m, ix_4m, ix_m4, ix_1s, ix_s, ix_s2, ix_s9, ix_s7, ix_s5, ix_s1, nI_add, nI_p1, ix_n, ix_z, ix_1, ix_eq, ix_le, ix_lt, ix_le0, nI_tc, n_leT, n_leF, n_ltT, n_ltF, n_eqT, n_eqF, or_self, or_false, false_or, ↓reduceIte, ↓qz_letL, ↓qz_letI, qz_oc_s, qz_oc_n, Option.bind_some, ne10, not_false_eq_true, l_x, rC8 hC i hi, rC7a hC i hi, rC7b hC i hi, ↓bd (sb u (S 7 i 0) hu b0), ↓bd (sb v (S 7 i 1) hv b1)]
  unfold shV
  generalize u * S 8 i 0 / S 7 i 0 = A at *
  generalize v * S 8 i 0 / S 7 i 1 = B at *
  congr 3
  rw [ifc (l_lt (by split <;> omega) (by split <;> omega))]
  by_cases c1 : S 7 i 0 = 0
  · by_cases c2 : S 7 i 1 = 0
    · omega
    · simp only [c1, c2, if_true, if_false] at hn ⊢
      split <;> omega
  · by_cases c2 : S 7 i 1 = 0
    · simp only [c1, c2, if_true, if_false] at hn ⊢
      split <;> omega
    · simp only [c1, c2, if_true, if_false] at hn ⊢
      split at hn <;> split <;> omega
theorem shV_x {x y s u v : Nat} : shV x y s u v * x ≤ u * s := by
  by_cases c1 : x = 0
  · rw [c1, Nat.mul_zero]; exact Nat.zero_le _
  · have h : shV x y s u v ≤ u * s / x := by
      unfold shV
      rw [if_neg c1]
      split
      · exact Nat.le_refl _
      · split <;> omega
    exact Nat.le_trans (Nat.mul_le_mul_right x h) (Nat.div_mul_le_self _ _)
theorem shV_y {x y s u v : Nat} : shV x y s u v * y ≤ v * s := by
  by_cases c1 : y = 0
  · rw [c1, Nat.mul_zero]; exact Nat.zero_le _
  · have h : shV x y s u v ≤ v * s / y := by
      unfold shV
      split
      · exact Nat.le_refl _
      · split <;> omega
    exact Nat.le_trans (Nat.mul_le_mul_right y h) (Nat.div_mul_le_self _ _)
theorem cdiv_le {m u s : Nat} (h0 : 0 < s) (h : m ≤ u * s) : cdiv m s ≤ u := by
  unfold cdiv
  have : (m + s - 1) / s < u + 1 := by
    apply Nat.div_lt_of_lt_mul
    rw [Nat.mul_add, Nat.mul_comm s u]
    omega
  omega
theorem cdiv_ge {m s : Nat} (h0 : 0 < s) : m ≤ cdiv m s * s := by
  unfold cdiv
  have h1 := Nat.div_add_mod (m + s - 1) s
  have h2 := Nat.mod_lt (m + s - 1) h0
  rw [Nat.mul_comm] at h1
  omega
theorem mq_lt {m u s : Nat} (h0 : 0 < s) (h : m ≤ u * s) : m / s ≤ u := by
  apply Nat.div_le_of_le_mul
  rw [Nat.mul_comm]; exact h
theorem M_jsh {N : qz_N} {S : St} (hM : RM N S) {c i u v : Nat} (ok : Ok c S) (hi : i < 6) (hs : S 8 i 0 ≠ 0) (hu : u ≤ 100000000000000) (hv : v ≤ 100000000000000) {x1 x2 x7 x8 : Int32} {r : Int64} {S' : St} {N0 : qz_N} (k0 : KC N0 N) (g : ∀ N1, RM N1 S → KC N0 N1 → GoM N0 (fM_join_216 0 N1 x1 x2 x7 x8 (lN (S 7 i 0)) (lN (S 7 i 1)) (lN (S 8 i 0)) (lN (shV (S 7 i 0) (S 7 i 1) (S 8 i 0) u v))) r S') : GoM N0 (if lN (S 7 i 0) = (0 : Int64) then
        (fM_part 0 (lN v) (lN (S 8 i 0)) (lN (S 7 i 1)) N).bind fun q34 =>
        fM_join_216 0 q34.2 x1 x2 x7 x8 (lN (S 7 i 0)) (lN (S 7 i 1)) (lN (S 8 i 0)) q34.1
      else
      if lN (S 7 i 1) = (0 : Int64) then
        (fM_part 0 (lN u) (lN (S 8 i 0)) (lN (S 7 i 0)) N).bind fun q32 =>
        fM_join_216 0 q32.2 x1 x2 x7 x8 (lN (S 7 i 0)) (lN (S 7 i 1)) (lN (S 8 i 0)) q32.1
      else
      (fM_part 0 (lN u) (lN (S 8 i 0)) (lN (S 7 i 0)) N).bind fun q14 =>
      (fM_part 0 (lN v) (lN (S 8 i 0)) (lN (S 7 i 1)) q14.2).bind fun q16 =>
      (fM_least q14.1 q16.1 q16.2).bind fun q18 =>
      fM_join_216 0 q18.2 x1 x2 x7 x8 (lN (S 7 i 0)) (lN (S 7 i 1)) (lN (S 8 i 0)) q18.1) r S' := by
  have o3 := ok.2.2.1 i hi
  have bs := ok.sh hi
  have b0 := ok.res hi (j := 0) (by decide)
  have b1 := ok.res hi (j := 1) (by decide)
  have h : S 8 i 0 * S 8 i 0 ≤ S 7 i 0 * S 7 i 1 ∨ S 8 i 0 ≤ S 7 i 0 + S 7 i 1 := by
    by_cases k : S 5 i 0 = 0
    · exact Or.inl (o3.2.1 k)
    · exact Or.inr (o3.2.2 k)
  have hn := shV_le (show 1 ≤ S 8 i 0 by omega) hu hv h
  have hne : ¬ (S 7 i 0 = 0 ∧ S 7 i 1 = 0) := by
    rintro ⟨z0, z1⟩
    rw [z0, z1] at h
    have := Nat.mul_pos (show 0 < S 8 i 0 by omega) (show 0 < S 8 i 0 by omega)
    omega
  by_cases c1 : S 7 i 0 = 0
  · refine GoM.pos (by rw [c1]; rfl) ?_
    have e : shV (S 7 i 0) (S 7 i 1) (S 8 i 0) u v = v * S 8 i 0 / S 7 i 1 := by unfold shV; rw [if_pos c1]
    rw [e] at g hn
    exact GoM.scr (M_pt (by omega) (by omega) (by omega) (by omega) (by omega) _) hM k0 g
  · refine GoM.neg (by rw [l_0, l_eq (by omega) (by omega)]; exact c1) ?_
    by_cases c2 : S 7 i 1 = 0
    · refine GoM.pos (by rw [c2]; rfl) ?_
      have e : shV (S 7 i 0) (S 7 i 1) (S 8 i 0) u v = u * S 8 i 0 / S 7 i 0 := by unfold shV; rw [if_neg c1, if_pos c2]
      rw [e] at g hn
      exact GoM.scr (M_pt (by omega) (by omega) (by omega) (by omega) (by omega) _) hM k0 g
    · refine GoM.neg (by rw [l_0, l_eq (by omega) (by omega)]; exact c2) ?_
      obtain ⟨Na, ea, sa, -⟩ := M_part (a := u) (b := S 8 i 0) (d := S 7 i 0) (by omega) (by omega) (by omega) (by omega) N
      refine GoM.scr ⟨Na, ea, sa⟩ hM k0 (fun N1 hM k1 => ?_)
      obtain ⟨Nb, eb, sb, -⟩ := M_part (a := v) (b := S 8 i 0) (d := S 7 i 1) (by omega) (by omega) (by omega) (by omega) N1
      refine GoM.scr ⟨Nb, eb, sb⟩ hM k1 (fun N1 hM k1 => ?_)
      refine GoM.eq (a := lN (shV (S 7 i 0) (S 7 i 1) (S 8 i 0) u v)) (N1 := N1) ?_ (g N1 hM k1)
      unfold fM_least
      unfold shV at hn ⊢
      rw [if_neg c1, if_neg c2] at hn ⊢
      generalize u * S 8 i 0 / S 7 i 0 = A at *
      generalize v * S 8 i 0 / S 7 i 1 = B at *
      have qA : qcap A < 9223372036854775808 := by unfold qcap; split <;> omega
      have qB : qcap B < 9223372036854775808 := by unfold qcap; split <;> omega
      show (if lN (qcap B) ≤ lN (qcap A) then _ else _) = _
      rw [ifc (l_le qB qA)]
      by_cases c : B < A
      · rw [if_pos c] at hn
        have : qcap B = B := by unfold qcap; rw [if_pos (by omega)]
        rw [if_pos c, this, if_pos]
        unfold qcap; split <;> omega
      · rw [if_neg c] at hn
        have e : qcap A = A := by unfold qcap; rw [if_pos (by omega)]
        rw [if_neg c, e]
        by_cases d : qcap B ≤ A
        · rw [if_pos d]
          have : qcap B = A := by
            unfold qcap at d ⊢; split <;> split at d <;> omega
          rw [this]
        · rw [if_neg d]
theorem op_join {N : qz_N} {S : St} {c : Nat} (ok : Ok c S) (hC : RC N S) (hM : RM N S) (y x : Int32) (z1 z2 : Int64) : Alike N (fE_join 0 y x z1 z2) (fM_join 0 y x z1 z2) (Ok c) := by
  have h6 := ok.np
  rcases ixc y (n := 6) (by decide) with hy | ⟨p, hp, rfl⟩
  · refine Alike.mk' (r := -2) hM (GoC.of ?_ hC) (fun N1 hM => GoM.of (by simp (disch := omega) only [fM_join, ↓bd (M_pl0 hy _), ix_2m, ix_6m, ix_4m, ix_m4, ix_1s, ix_s, ix_s2, ix_s9, ix_s7, ix_s5, ix_s1, nI_add, nI_p1, ix_n, ix_z, ix_1, ix_eq, ix_le, ix_lt, ix_le0, nI_tc, n_leT, n_leF, n_ltT, n_ltF, n_eqT, n_eqF, or_self, or_false, false_or, ↓reduceIte, ↓qz_letL, ↓qz_letI, qz_oc_s, qz_oc_n, Option.bind_some, ne10, not_false_eq_true, l_x]) hM) ok
    rcases ixc x (n := S 3 0 0) (by omega) with hx | ⟨i, hx, rfl⟩
    · simp (disch := omega) only [fE_join, ↓bd (E_po0 hC hx), ↓bd (E_pl0 hy _), ix_2m, ix_6m, ix_4m, ix_m4, ix_1s, ix_s, ix_s2, ix_s9, ix_s7, ix_s5, ix_s1, nI_add, nI_p1, ix_n, ix_z, ix_1, ix_eq, ix_le, ix_lt, ix_le0, nI_tc, n_leT, n_leF, n_ltT, n_ltF, n_eqT, n_eqF, or_self, or_false, false_or, ↓reduceIte, ↓qz_letL, ↓qz_letI, qz_oc_s, qz_oc_n, Option.bind_some, ne10, not_false_eq_true, l_x]
    · simp (disch := omega) only [fE_join, ↓bd (E_po1 hC h6 hx), ↓bd (E_pl0 hy _), ix_2m, ix_6m, ix_4m, ix_m4, ix_1s, ix_s, ix_s2, ix_s9, ix_s7, ix_s5, ix_s1, nI_add, nI_p1, ix_n, ix_z, ix_1, ix_eq, ix_le, ix_lt, ix_le0, nI_tc, n_leT, n_leF, n_ltT, n_ltF, n_eqT, n_eqF, or_self, or_false, false_or, ↓reduceIte, ↓qz_letL, ↓qz_letI, qz_oc_s, qz_oc_n, Option.bind_some, ne10, not_false_eq_true, l_x]
  rcases ixc x (n := S 3 0 0) (by omega) with hx | ⟨i, hx, rfl⟩
  · exact Alike.mk' (r := -2) hM (GoC.of (by simp (disch := omega) only [fE_join, ↓bd (E_po0 hC hx), ↓bd (E_pl1 hp _), ix_2m, ix_6m, ix_4m, ix_m4, ix_1s, ix_s, ix_s2, ix_s9, ix_s7, ix_s5, ix_s1, nI_add, nI_p1, ix_n, ix_z, ix_1, ix_eq, ix_le, ix_lt, ix_le0, nI_tc, n_leT, n_leF, n_ltT, n_ltF, n_eqT, n_eqF, or_self, or_false, false_or, ↓reduceIte, ↓qz_letL, ↓qz_letI, qz_oc_s, qz_oc_n, Option.bind_some, ne10, not_false_eq_true, l_x]) hC) (fun N1 hM => GoM.of (by simp (disch := omega) only [fM_join, ↓bd (M_pl1 hp _), ↓bd (M_po0 hM hx), ix_2m, ix_6m, ix_4m, ix_m4, ix_1s, ix_s, ix_s2, ix_s9, ix_s7, ix_s5, ix_s1, nI_add, nI_p1, ix_n, ix_z, ix_1, ix_eq, ix_le, ix_lt, ix_le0, nI_tc, n_leT, n_leF, n_ltT, n_ltF, n_eqT, n_eqF, or_self, or_false, false_or, ↓reduceIte, ↓qz_letL, ↓qz_letI, qz_oc_s, qz_oc_n, Option.bind_some, ne10, not_false_eq_true, l_x]) hM) ok
  rcases l_gi (x := z1) with hz | ⟨u, u1, u2, rfl⟩
  · exact Alike.mk' (r := -2) hM (GoC.of (by simp (disch := omega) only [fE_join, ↓bd (E_po1 hC h6 hx), ↓bd (E_pl1 hp _), ix_2m, ix_6m, ix_4m, ix_m4, ix_1s, ix_s, ix_s2, ix_s9, ix_s7, ix_s5, ix_s1, nI_add, nI_p1, ix_n, ix_z, ix_1, ix_eq, ix_le, ix_lt, ix_le0, nI_tc, n_leT, n_leF, n_ltT, n_ltF, n_eqT, n_eqF, or_self, or_false, false_or, ↓reduceIte, ↓qz_letL, ↓qz_letI, qz_oc_s, qz_oc_n, Option.bind_some, ne10, not_false_eq_true, l_x, l_1, hz]) hC) (fun N1 hM => GoM.of (by simp (disch := omega) only [fM_join, ↓bd (M_pl1 hp _), ↓bd (M_po1 hM h6 hx), ix_2m, ix_6m, ix_4m, ix_m4, ix_1s, ix_s, ix_s2, ix_s9, ix_s7, ix_s5, ix_s1, nI_add, nI_p1, ix_n, ix_z, ix_1, ix_eq, ix_le, ix_lt, ix_le0, nI_tc, n_leT, n_leF, n_ltT, n_ltF, n_eqT, n_eqF, or_self, or_false, false_or, ↓reduceIte, ↓qz_letL, ↓qz_letI, qz_oc_s, qz_oc_n, Option.bind_some, ne10, not_false_eq_true, l_x, l_1, hz]) hM) ok
  rcases l_gi (x := z2) with hz | ⟨v, v1, v2, rfl⟩
  · exact Alike.mk' (r := -2) hM (GoC.of (by simp (disch := omega) only [fE_join, ↓bd (E_po1 hC h6 hx), ↓bd (E_pl1 hp _), ix_2m, ix_6m, ix_4m, ix_m4, ix_1s, ix_s, ix_s2, ix_s9, ix_s7, ix_s5, ix_s1, nI_add, nI_p1, ix_n, ix_z, ix_1, ix_eq, ix_le, ix_lt, ix_le0, nI_tc, n_leT, n_leF, n_ltT, n_ltF, n_eqT, n_eqF, or_self, or_false, false_or, ↓reduceIte, ↓qz_letL, ↓qz_letI, qz_oc_s, qz_oc_n, Option.bind_some, ne10, not_false_eq_true, l_x, l_1, l_lt, l_nle hz]) hC) (fun N1 hM => GoM.of (by simp (disch := omega) only [fM_join, ↓bd (M_pl1 hp _), ↓bd (M_po1 hM h6 hx), ix_2m, ix_6m, ix_4m, ix_m4, ix_1s, ix_s, ix_s2, ix_s9, ix_s7, ix_s5, ix_s1, nI_add, nI_p1, ix_n, ix_z, ix_1, ix_eq, ix_le, ix_lt, ix_le0, nI_tc, n_leT, n_leF, n_ltT, n_ltF, n_eqT, n_eqF, or_self, or_false, false_or, ↓reduceIte, ↓qz_letL, ↓qz_letI, qz_oc_s, qz_oc_n, Option.bind_some, ne10, not_false_eq_true, l_x, l_1, l_lt, l_nle hz]) hM) ok
  have hi : i < 6 := by omega
  have hd := (ok.2.1.2 i hi).2.2.2.2.1 hx
  have t0 := ok.tok hi (j := 0) (by decide)
  have t1 := ok.tok hi (j := 1) (by decide)
  have b0 := ok.bal hp t0
  have b1 := ok.bal hp t1
  by_cases hu : u ≤ S 0 p (S 4 i 0)
  case neg => exact Alike.mk' (r := -3) hM (GoC.of (by simp (disch := omega) only [fE_join, ↓bd (E_po1 hC h6 hx), ↓bd (E_pl1 hp _), ix_2m, ix_6m, ix_4m, ix_m4, ix_1s, ix_s, ix_s2, ix_s9, ix_s7, ix_s5, ix_s1, nI_add, nI_p1, ix_n, ix_z, ix_1, ix_eq, ix_le, ix_lt, ix_le0, nI_tc, n_leT, n_leF, n_ltT, n_ltF, n_eqT, n_eqF, or_self, or_false, false_or, ↓reduceIte, ↓qz_letL, ↓qz_letI, qz_oc_s, qz_oc_n, Option.bind_some, ne10, not_false_eq_true, l_x, l_0, l_1, l_60, l_80, l_100, l_105, l_k, l_xk, l_m, l_g, l_xg, l_t, l_ct, l_ex, l_mx, l_lt, l_le, l_eq, l_div, l_ite, lN_add, lN_sub, lN_mul, lN_addneg, rC4a hC i hi, ↓bd (E_held hC hp t0)]) hC) (fun N1 hM => GoM.of (by simp (disch := omega) only [fM_join, ↓bd (M_pl1 hp _), ↓bd (M_po1 hM h6 hx), ix_2m, ix_6m, ix_4m, ix_m4, ix_1s, ix_s, ix_s2, ix_s9, ix_s7, ix_s5, ix_s1, nI_add, nI_p1, ix_n, ix_z, ix_1, ix_eq, ix_le, ix_lt, ix_le0, nI_tc, n_leT, n_leF, n_ltT, n_ltF, n_eqT, n_eqF, or_self, or_false, false_or, ↓reduceIte, ↓qz_letL, ↓qz_letI, qz_oc_s, qz_oc_n, Option.bind_some, ne10, not_false_eq_true, l_x, l_0, l_1, l_60, l_80, l_100, l_105, l_k, l_xk, l_m, l_g, l_xg, l_t, l_ct, l_ex, l_mx, l_lt, l_le, l_eq, l_div, l_ite, lN_add, lN_sub, lN_mul, lN_addneg, rM4a hM i hi, rM4 hM i 1 hi, ↓bd (M_has hM hp t0)]) hM) ok
  by_cases hv : v ≤ S 0 p (S 4 i 1)
  case neg => exact Alike.mk' (r := -3) hM (GoC.of (by simp (disch := omega) only [fE_join, ↓bd (E_po1 hC h6 hx), ↓bd (E_pl1 hp _), ix_2m, ix_6m, ix_4m, ix_m4, ix_1s, ix_s, ix_s2, ix_s9, ix_s7, ix_s5, ix_s1, nI_add, nI_p1, ix_n, ix_z, ix_1, ix_eq, ix_le, ix_lt, ix_le0, nI_tc, n_leT, n_leF, n_ltT, n_ltF, n_eqT, n_eqF, or_self, or_false, false_or, ↓reduceIte, ↓qz_letL, ↓qz_letI, qz_oc_s, qz_oc_n, Option.bind_some, ne10, not_false_eq_true, l_x, l_0, l_1, l_60, l_80, l_100, l_105, l_k, l_xk, l_m, l_g, l_xg, l_t, l_ct, l_ex, l_mx, l_lt, l_le, l_eq, l_div, l_ite, lN_add, lN_sub, lN_mul, lN_addneg, rC4a hC i hi, rC4b hC i hi, ↓bd (E_held hC hp t0), ↓bd (E_held hC hp t1)]) hC) (fun N1 hM => GoM.of (by simp (disch := omega) only [fM_join, ↓bd (M_pl1 hp _), ↓bd (M_po1 hM h6 hx), ix_2m, ix_6m, ix_4m, ix_m4, ix_1s, ix_s, ix_s2, ix_s9, ix_s7, ix_s5, ix_s1, nI_add, nI_p1, ix_n, ix_z, ix_1, ix_eq, ix_le, ix_lt, ix_le0, nI_tc, n_leT, n_leF, n_ltT, n_ltF, n_eqT, n_eqF, or_self, or_false, false_or, ↓reduceIte, ↓qz_letL, ↓qz_letI, qz_oc_s, qz_oc_n, Option.bind_some, ne10, not_false_eq_true, l_x, l_0, l_1, l_60, l_80, l_100, l_105, l_k, l_xk, l_m, l_g, l_xg, l_t, l_ct, l_ex, l_mx, l_lt, l_le, l_eq, l_div, l_ite, lN_add, lN_sub, lN_mul, lN_addneg, rM4a hM i hi, rM4 hM i 1 hi, ↓bd (M_has hM hp t0), ↓bd (M_has hM hp t1)]) hM) ok
  have bs := ok.sh hi
  have r0 := ok.res hi (j := 0) (by decide)
  have r1 := ok.res hi (j := 1) (by decide)
  have bk := ok.kind hi
  have o3 := ok.2.2.1 i hi
  by_cases hs : S 8 i 0 = 0
  · by_cases k : S 5 i 0 = 0
    · obtain ⟨r, er, ir, br⟩ := A_root (u := u) (v := v) (by omega) (by omega) N
      have rp : 1 ≤ r := by
        by_cases z : r = 0
        · have := ir.2
          rw [z] at this
          have := Nat.mul_pos u1 v1
          omega
        · omega
      refine Alike.mk' (r := lN r) (S' := stP S p i (S 0 p (S 4 i 0) - u) (S 0 p (S 4 i 1) - v) (S 7 i 0 + u) (S 7 i 1 + v) (S 8 i 0 + r) (S 9 i p + r)) hM ?_ (fun N1 hM => ?_) ?_
      · simp (disch := omega) only [fE_join, ↓bd (E_po1 hC h6 hx), ↓bd (E_pl1 hp _), ix_2m, ix_6m, ix_4m, ix_m4, ix_1s, ix_s, ix_s2, ix_s9, ix_s7, ix_s5, ix_s1, nI_add, nI_p1, ix_n, ix_z, ix_1, ix_eq, ix_le, ix_lt, ix_le0, nI_tc, n_leT, n_leF, n_ltT, n_ltF, n_eqT, n_eqF, or_self, or_false, false_or, ↓reduceIte, ↓qz_letL, ↓qz_letI, qz_oc_s, qz_oc_n, Option.bind_some, ne10, not_false_eq_true, l_x, l_0, l_1, l_60, l_80, l_100, l_105, l_k, l_xk, l_m, l_g, l_xg, l_t, l_ct, l_ex, l_mx, l_lt, l_le, l_eq, l_div, l_ite, lN_add, lN_sub, lN_mul, lN_addneg, rC4a hC i hi, rC4b hC i hi, ↓bd (E_held hC hp t0), ↓bd (E_held hC hp t1), fP_sharesFor, rC8 hC i hi, rC5 hC i hi, ↓bd er, fE_join_113, fE_join_132]
        exact E_join3 hC KM.rf ok hp hx hu hv
      · simp (disch := omega) only [fM_join, ↓bd (M_pl1 hp _), ↓bd (M_po1 hM h6 hx), ix_2m, ix_6m, ix_4m, ix_m4, ix_1s, ix_s, ix_s2, ix_s9, ix_s7, ix_s5, ix_s1, nI_add, nI_p1, ix_n, ix_z, ix_1, ix_eq, ix_le, ix_lt, ix_le0, nI_tc, n_leT, n_leF, n_ltT, n_ltF, n_eqT, n_eqF, or_self, or_false, false_or, ↓reduceIte, ↓qz_letL, ↓qz_letI, qz_oc_s, qz_oc_n, Option.bind_some, ne10, not_false_eq_true, l_x, l_0, l_1, l_60, l_80, l_100, l_105, l_k, l_xk, l_m, l_g, l_xg, l_t, l_ct, l_ex, l_mx, l_lt, l_le, l_eq, l_div, l_ite, lN_add, lN_sub, lN_mul, lN_addneg, rM4a hM i hi, rM4 hM i 1 hi, ↓bd (M_has hM hp t0), ↓bd (M_has hM hp t1), rM8 hM i hi, rM5 hM i hi]
        obtain ⟨r', N', em, sc, ir'⟩ := M_root (u := u) (v := v) (by omega) (by omega) N1
        obtain rfl := isRoot_uniq ir ir'
        refine GoM.scr ⟨N', em, sc⟩ hM KC.rf (fun N1 hM k1 => ?_)
        unfold fM_join_150
        exact M_join3 hM k1 ok hp hx hu hv rp (by omega)
      · refine ok_P ok hp hx (by omega) (by omega) (by omega) (fun _ => ?_) (fun z => absurd k z)
        rw [hs, Nat.zero_add]
        exact Nat.le_trans ir.1 (Nat.mul_le_mul (by omega) (by omega))
    · refine Alike.mk' (r := lN (u + v)) (S' := stP S p i (S 0 p (S 4 i 0) - u) (S 0 p (S 4 i 1) - v) (S 7 i 0 + u) (S 7 i 1 + v) (S 8 i 0 + (u + v)) (S 9 i p + (u + v))) hM ?_ (fun N1 hM => ?_) ?_
      · simp (disch := omega) only [fE_join, ↓bd (E_po1 hC h6 hx), ↓bd (E_pl1 hp _), ix_2m, ix_6m, ix_4m, ix_m4, ix_1s, ix_s, ix_s2, ix_s9, ix_s7, ix_s5, ix_s1, nI_add, nI_p1, ix_n, ix_z, ix_1, ix_eq, ix_le, ix_lt, ix_le0, nI_tc, n_leT, n_leF, n_ltT, n_ltF, n_eqT, n_eqF, or_self, or_false, false_or, ↓reduceIte, ↓qz_letL, ↓qz_letI, qz_oc_s, qz_oc_n, Option.bind_some, ne10, not_false_eq_true, l_x, l_0, l_1, l_60, l_80, l_100, l_105, l_k, l_xk, l_m, l_g, l_xg, l_t, l_ct, l_ex, l_mx, l_lt, l_le, l_eq, l_div, l_ite, lN_add, lN_sub, lN_mul, lN_addneg, rC4a hC i hi, rC4b hC i hi, ↓bd (E_held hC hp t0), ↓bd (E_held hC hp t1), fP_sharesFor, rC8 hC i hi, rC5 hC i hi, fE_join_113, fE_join_132]
        exact E_join3 hC KM.rf ok hp hx hu hv
      · simp (disch := omega) only [fM_join, ↓bd (M_pl1 hp _), ↓bd (M_po1 hM h6 hx), ix_2m, ix_6m, ix_4m, ix_m4, ix_1s, ix_s, ix_s2, ix_s9, ix_s7, ix_s5, ix_s1, nI_add, nI_p1, ix_n, ix_z, ix_1, ix_eq, ix_le, ix_lt, ix_le0, nI_tc, n_leT, n_leF, n_ltT, n_ltF, n_eqT, n_eqF, or_self, or_false, false_or, ↓reduceIte, ↓qz_letL, ↓qz_letI, qz_oc_s, qz_oc_n, Option.bind_some, ne10, not_false_eq_true, l_x, l_0, l_1, l_60, l_80, l_100, l_105, l_k, l_xk, l_m, l_g, l_xg, l_t, l_ct, l_ex, l_mx, l_lt, l_le, l_eq, l_div, l_ite, lN_add, lN_sub, lN_mul, lN_addneg, rM4a hM i hi, rM4 hM i 1 hi, ↓bd (M_has hM hp t0), ↓bd (M_has hM hp t1), rM8 hM i hi, rM5 hM i hi]
        unfold fM_join_150
        exact M_join3 hM KC.rf ok hp hx hu hv (by omega) (by omega)
      · refine ok_P ok hp hx (by omega) (by omega) (by omega) (fun z => absurd z k) (fun _ => ?_)
        omega
  · have es := E_shFor hC (u := u) (v := v) ok hi hs (by omega) (by omega)
    have mj := fun (N1 : qz_N) (hM : RM N1 S) (r : Int64) (S' : St) => M_jsh hM (r := r) (S' := S') (u := u) (v := v) ok hi hs (by omega) (by omega) (x1 := nI p) (x2 := nI i) (x7 := nI (S 4 i 0)) (x8 := nI (S 4 i 1)) (N0 := N1) KC.rf
    have h : S 8 i 0 * S 8 i 0 ≤ S 7 i 0 * S 7 i 1 ∨ S 8 i 0 ≤ S 7 i 0 + S 7 i 1 := by
      by_cases k : S 5 i 0 = 0
      · exact Or.inl (o3.2.1 k)
      · exact Or.inr (o3.2.2 k)
    have hn := shV_le (show 1 ≤ S 8 i 0 by omega) (show u ≤ 100000000000000 by omega) (show v ≤ 100000000000000 by omega) h
    have nx := shV_x (x := S 7 i 0) (y := S 7 i 1) (s := S 8 i 0) (u := u) (v := v)
    have ny := shV_y (x := S 7 i 0) (y := S 7 i 1) (s := S 8 i 0) (u := u) (v := v)
    generalize shV (S 7 i 0) (S 7 i 1) (S 8 i 0) u v = n at *
    have cx := cdiv_le (by omega) nx
    have cy := cdiv_le (by omega) ny
    have gx := cdiv_ge (m := n * S 7 i 0) (s := S 8 i 0) (by omega)
    have gy := cdiv_ge (m := n * S 7 i 1) (s := S 8 i 0) (by omega)
    have qx := mq_lt (by omega) nx
    have qy := mq_lt (by omega) ny
    have ex : fP_costOf i (lN n) 0 N = some (lN (cdiv (n * S 7 i 0) (S 8 i 0)), N) := by
      unfold fP_costOf
      rw [show (0 : Int32) = nI 0 from rfl, E_resAt hC hi (by decide), Option.bind_some, rC8 hC i hi, A_timesOverUp' (by omega) (by omega) (by omega) (by omega) (by omega)]
      rfl
    have ey : fP_costOf i (lN n) 1 N = some (lN (cdiv (n * S 7 i 1) (S 8 i 0)), N) := by
      unfold fP_costOf
      rw [show (1 : Int32) = nI 1 from rfl, E_resAt hC hi (by decide), Option.bind_some, rC8 hC i hi, A_timesOverUp' (by omega) (by omega) (by omega) (by omega) (by omega)]
      rfl
    have mx := M_partUp (a := n) (b := S 7 i 0) (d := S 8 i 0) (by omega) (by omega) (by omega) (by omega) (by omega)
    have my := M_partUp (a := n) (b := S 7 i 1) (d := S 8 i 0) (by omega) (by omega) (by omega) (by omega) (by omega)
    generalize cdiv (n * S 7 i 0) (S 8 i 0) = a at *
    generalize cdiv (n * S 7 i 1) (S 8 i 0) = b at *
    by_cases z : n = 0
    · refine Alike.mk' (r := -3) hM (GoC.of (by simp (disch := omega) only [fE_join, ↓bd (E_po1 hC h6 hx), ↓bd (E_pl1 hp _), ix_2m, ix_6m, ix_4m, ix_m4, ix_1s, ix_s, ix_s2, ix_s9, ix_s7, ix_s5, ix_s1, nI_add, nI_p1, ix_n, ix_z, ix_1, ix_eq, ix_le, ix_lt, ix_le0, nI_tc, n_leT, n_leF, n_ltT, n_ltF, n_eqT, n_eqF, or_self, or_false, false_or, ↓reduceIte, ↓qz_letL, ↓qz_letI, qz_oc_s, qz_oc_n, Option.bind_some, ne10, not_false_eq_true, l_x, l_0, l_1, l_60, l_80, l_100, l_105, l_k, l_xk, l_m, l_g, l_xg, l_t, l_ct, l_ex, l_mx, l_lt, l_le, l_eq, l_div, l_ite, lN_add, lN_sub, lN_mul, lN_addneg, rC4a hC i hi, rC4b hC i hi, ↓bd (E_held hC hp t0), ↓bd (E_held hC hp t1), ↓bd es]) hC) (fun N1 hM => ?_) ok
      simp (disch := omega) only [fM_join, ↓bd (M_pl1 hp _), ↓bd (M_po1 hM h6 hx), ix_2m, ix_6m, ix_4m, ix_m4, ix_1s, ix_s, ix_s2, ix_s9, ix_s7, ix_s5, ix_s1, nI_add, nI_p1, ix_n, ix_z, ix_1, ix_eq, ix_le, ix_lt, ix_le0, nI_tc, n_leT, n_leF, n_ltT, n_ltF, n_eqT, n_eqF, or_self, or_false, false_or, ↓reduceIte, ↓qz_letL, ↓qz_letI, qz_oc_s, qz_oc_n, Option.bind_some, ne10, not_false_eq_true, l_x, rM4a hM i hi, rM4 hM i 1 hi, ↓bd (M_has hM hp t0), ↓bd (M_has hM hp t1), rM8 hM i hi, rM7a hM i hi, rM7 hM i 1 hi, l_1, l_lt, l_le]
      refine GoM.neg (by rw [l_0, l_eq (by omega) (by omega)]; exact hs) ?_
      refine mj N1 hM _ _ (fun N1 hM k1 => ?_)
      unfold fM_join_216
      refine GoM.scr (mx _) hM k1 (fun N1 hM k1 => ?_)
      refine GoM.scr (my _) hM k1 (fun N1 hM k1 => ?_)
      simp (disch := omega) only [fM_join_242, ix_2m, ix_6m, ix_4m, ix_m4, ix_1s, ix_s, ix_s2, ix_s9, ix_s7, ix_s5, ix_s1, nI_add, nI_p1, ix_n, ix_z, ix_1, ix_eq, ix_le, ix_lt, ix_le0, nI_tc, n_leT, n_leF, n_ltT, n_ltF, n_eqT, n_eqF, or_self, or_false, false_or, ↓reduceIte, ↓qz_letL, ↓qz_letI, qz_oc_s, qz_oc_n, Option.bind_some, ne10, not_false_eq_true, l_x, l_0, l_1, l_60, l_80, l_100, l_105, l_k, l_xk, l_m, l_g, l_xg, l_t, l_ct, l_ex, l_mx, l_lt, l_le, l_eq, l_div, l_ite, lN_add, lN_sub, lN_mul, lN_addneg]
      exact GoM.ret hM k1
    · refine Alike.mk' (r := lN n) (S' := stP S p i (S 0 p (S 4 i 0) - a) (S 0 p (S 4 i 1) - b) (S 7 i 0 + a) (S 7 i 1 + b) (S 8 i 0 + n) (S 9 i p + n)) hM ?_ (fun N1 hM => ?_) ?_
      · simp (disch := omega) only [fE_join, ↓bd (E_po1 hC h6 hx), ↓bd (E_pl1 hp _), ix_2m, ix_6m, ix_4m, ix_m4, ix_1s, ix_s, ix_s2, ix_s9, ix_s7, ix_s5, ix_s1, nI_add, nI_p1, ix_n, ix_z, ix_1, ix_eq, ix_le, ix_lt, ix_le0, nI_tc, n_leT, n_leF, n_ltT, n_ltF, n_eqT, n_eqF, or_self, or_false, false_or, ↓reduceIte, ↓qz_letL, ↓qz_letI, qz_oc_s, qz_oc_n, Option.bind_some, ne10, not_false_eq_true, l_x, l_0, l_1, l_60, l_80, l_100, l_105, l_k, l_xk, l_m, l_g, l_xg, l_t, l_ct, l_ex, l_mx, l_lt, l_le, l_eq, l_div, l_ite, lN_add, lN_sub, lN_mul, lN_addneg, rC4a hC i hi, rC4b hC i hi, ↓bd (E_held hC hp t0), ↓bd (E_held hC hp t1), ↓bd es, rC8 hC i hi, fE_join_113, fE_join_132, ↓bd ex, ↓bd ey]
        exact E_join3 hC KM.rf ok hp hx (by omega) (by omega)
      · simp (disch := omega) only [fM_join, ↓bd (M_pl1 hp _), ↓bd (M_po1 hM h6 hx), ix_2m, ix_6m, ix_4m, ix_m4, ix_1s, ix_s, ix_s2, ix_s9, ix_s7, ix_s5, ix_s1, nI_add, nI_p1, ix_n, ix_z, ix_1, ix_eq, ix_le, ix_lt, ix_le0, nI_tc, n_leT, n_leF, n_ltT, n_ltF, n_eqT, n_eqF, or_self, or_false, false_or, ↓reduceIte, ↓qz_letL, ↓qz_letI, qz_oc_s, qz_oc_n, Option.bind_some, ne10, not_false_eq_true, l_x, rM4a hM i hi, rM4 hM i 1 hi, ↓bd (M_has hM hp t0), ↓bd (M_has hM hp t1), rM8 hM i hi, rM7a hM i hi, rM7 hM i 1 hi, l_1, l_lt, l_le]
        refine GoM.neg (by rw [l_0, l_eq (by omega) (by omega)]; exact hs) ?_
        refine mj N1 hM _ _ (fun N1 hM k1 => ?_)
        unfold fM_join_216
        refine GoM.scr (mx _) hM k1 (fun N1 hM k1 => ?_)
        refine GoM.scr (my _) hM k1 (fun N1 hM k1 => ?_)
        exact M_join3 hM k1 ok hp hx (by omega) (by omega) (by omega) (by omega)
      · exact ok_P ok hp hx (by omega) (by omega) (by omega) (fun k => mv_prod (by omega) (jn_side gx) (jn_side gy) (o3.2.1 k)) (fun k => mv_sum (by omega) (jn_side gx) (jn_side gy) (o3.2.2 k))
