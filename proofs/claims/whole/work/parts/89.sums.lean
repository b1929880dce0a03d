theorem lpP {α β : Type} {body : (α → Option β) → α → Option β} {P : Option β → Prop} (I : Nat → α → Prop) (e : Nat) (hs : ∀ i a, i < e → I i a → ∀ k : α → Option β, (∀ a', I (i + 1) a' → P (k a')) → P (body k a)) (he : ∀ a, I e a → ∀ k : α → Option β, P (body k a)) : ∀ d i n a, i + d = e → d < n → I i a → P (qz_loop body n a) := by
  intro d
  induction d with
  | zero =>
    intro i n a hi hn h
    obtain ⟨m, rfl⟩ : ∃ m, n = m + 1 := ⟨n - 1, by omega⟩
    have : i = e := by omega
    subst this
    exact he a h _
  | succ d ih =>
    intro i n a hi hn h
    obtain ⟨m, rfl⟩ : ∃ m, n = m + 1 := ⟨n - 1, by omega⟩
    exact hs i a (by omega) h _ (fun a' h' => ih (i + 1) m a' (by omega) (by omega) h')
theorem lp {α β : Type} {body : (α → Option β) → α → Option β} (st : Nat → α) (e n : Nat) {r : Option β} (hn : e < n) (hs : ∀ i, i < e → ∀ k : α → Option β, body k (st i) = k (st (i + 1))) (he : ∀ k : α → Option β, body k (st e) = r) : qz_loop body n (st 0) = r :=
  lpP (P := fun m => m = r) (fun i a => a = st i) e (fun i a hi h k hk => by subst h; rw [hs i hi]; exact hk _ rfl) (fun a h k => by subst h; exact he k) e 0 n (st 0) (by omega) hn rfl
theorem i_2 : (2 : Int32) = nI 2 := rfl
theorem i_3 : (3 : Int32) = nI 3 := rfl
theorem i_4 : (4 : Int32) = nI 4 := rfl
theorem i_5 : (5 : Int32) = nI 5 := rfl
theorem i_6 : (6 : Int32) = nI 6 := rfl
theorem i_8 : (8 : Int32) = nI 8 := rfl
theorem i_10 : (10 : Int32) = nI 10 := rfl
theorem i_11 : (11 : Int32) = nI 11 := rfl
theorem i_40 : (40 : Int32) = nI 40 := rfl
theorem sg_ext {f : Nat → Nat} {n m : Nat} (hn : n ≤ m) (h : ∀ i, n ≤ i → i < m → f i = 0) : sg f m = sg f n := by
  induction m with
  | zero => have : n = 0 := by omega
            rw [this]
  | succ m ih =>
    by_cases c : n = m + 1
    · rw [c]
    · rw [sg_s, ih (by omega) (fun i h1 h2 => h i h1 (by omega)), h m (by omega) (by omega), Nat.add_zero]
theorem sg_2 (g : Nat → Nat) (n : Nat) : sg g (2 * n) = sg (fun q => g (2 * q) + g (2 * q + 1)) n := by
  induction n with
  | zero => rfl
  | succ n ih =>
    rw [show 2 * (n + 1) = 2 * n + 1 + 1 by omega, sg_s, sg_s, ih, sg_s]
    omega
theorem M_heldBy {N : qz_N} {S : St} (hM : RM N S) {c i : Nat} (ok : Ok c S) (hi : i < S 18 0 0) : fM_heldBy 0 (nI i) N = some (lN (hl (S 20) (S 21) (S 22) i), N) := by
  obtain ⟨-, -, -, h40, -, ho⟩ := ok.2.2.2.1
  obtain ⟨o1, o2, o3, o4, o5, o6⟩ := ho i hi
  obtain ⟨m1, m2, m3, m4⟩ := hM.2.2.1 i hi
  have b : S 21 i 0 * S 22 i 0 ≤ 10000000000 * 1000000 := Nat.mul_le_mul o4 o6
  unfold hl
  by_cases k : S 20 i 0 = 0
  · simp (disch := omega) only [fM_heldBy, ix_2m, ix_6m, ix_4m, ix_m4, ix_1s, ix_s, ix_s2, ix_s9, ix_s7, ix_s5, ix_s1, nI_add, nI_p1, ix_n, ix_z, ix_1, ix_eq, ix_le, ix_lt, ix_le0, nI_tc, n_leT, n_leF, n_ltT, n_ltF, n_eqT, n_eqF, or_self, or_false, false_or, ↓reduceIte, ↓qz_letL, ↓qz_letI, qz_oc_s, qz_oc_n, Option.bind_some, ne10, not_false_eq_true, l_x, m2, m3, m4]
  · simp (disch := omega) only [fM_heldBy, ix_2m, ix_6m, ix_4m, ix_m4, ix_1s, ix_s, ix_s2, ix_s9, ix_s7, ix_s5, ix_s1, nI_add, nI_p1, ix_n, ix_z, ix_1, ix_eq, ix_le, ix_lt, ix_le0, nI_tc, n_leT, n_leF, n_ltT, n_ltF, n_eqT, n_eqF, or_self, or_false, false_or, ↓reduceIte, ↓qz_letL, ↓qz_letI, qz_oc_s, qz_oc_n, Option.bind_some, ne10, not_false_eq_true, l_x, m2, m3, m4, fM_up, l_0, l_1, l_60, l_80, l_100, l_105, l_k, l_xk, l_m, l_g, l_xg, l_t, l_ct, l_ex, l_mx, l_lt, l_le, l_eq, l_div, l_ite, lN_add, lN_sub, lN_mul, lN_addneg]
    rw [show S 21 i 0 * S 22 i 0 + 1000 - 1 = S 21 i 0 * S 22 i 0 + 999 by omega]
theorem M_covTok {N : qz_N} {S : St} (hM : RM N S) {c l : Nat} (ok : Ok c S) (hl : l < 10) : fM_coverToken 0 (nI l) N = some (nI (ct (S 4) (S 33) (S 34) l), N) := by
  obtain ⟨a1, a2, a3, a4, a5, a6⟩ := ok.2.2.2.2.2.2 l hl
  simp (disch := omega) only [fM_coverToken, ix_2m, ix_6m, ix_4m, ix_m4, ix_1s, ix_s, ix_s2, ix_s9, ix_s7, ix_s5, ix_s1, nI_add, nI_p1, ix_n, ix_z, ix_1, ix_eq, ix_le, ix_lt, ix_le0, nI_tc, n_leT, n_leF, n_ltT, n_ltF, n_eqT, n_eqF, or_self, or_false, false_or, ↓reduceIte, ↓qz_letL, ↓qz_letI, qz_oc_s, qz_oc_n, Option.bind_some, ne10, not_false_eq_true, l_x, rM33 hM l hl, rM34 hM l hl]
  rw [rM4 hM (S 33 l 0) (S 34 l 0) a3 (by omega)]
  rfl
theorem M_debTok {N : qz_N} {S : St} (hM : RM N S) {c l : Nat} (ok : Ok c S) (hl : l < 10) : fM_debtToken 0 (nI l) N = some (nI (dt (S 4) (S 33) (S 34) l), N) := by
  obtain ⟨a1, a2, a3, a4, a5, a6⟩ := ok.2.2.2.2.2.2 l hl
  simp (disch := omega) only [fM_debtToken, ix_2m, ix_6m, ix_4m, ix_m4, ix_1s, ix_s, ix_s2, ix_s9, ix_s7, ix_s5, ix_s1, nI_add, nI_p1, ix_n, ix_z, ix_1, ix_eq, ix_le, ix_lt, ix_le0, nI_tc, n_leT, n_leF, n_ltT, n_ltF, n_eqT, n_eqF, or_self, or_false, false_or, ↓reduceIte, ↓qz_letL, ↓qz_letI, qz_oc_s, qz_oc_n, Option.bind_some, ne10, not_false_eq_true, l_x, rM33 hM l hl, rM34 hM l hl]
  rw [rM4c hM (S 33 l 0) (S 34 l 0) a3 (by omega)]
  rfl
theorem E_covTok {N : qz_N} {S : St} (hC : RC N S) {c l : Nat} (ok : Ok c S) (hl : l < 10) : fE_coverToken 0 l N = some (nI (ct (S 4) (S 33) (S 34) l), N) := by
  obtain ⟨a1, a2, a3, a4, a5, a6⟩ := ok.2.2.2.2.2.2 l hl
  simp (disch := omega) only [fE_coverToken, ix_2m, ix_6m, ix_4m, ix_m4, ix_1s, ix_s, ix_s2, ix_s9, ix_s7, ix_s5, ix_s1, nI_add, nI_p1, ix_n, ix_z, ix_1, ix_eq, ix_le, ix_lt, ix_le0, nI_tc, n_leT, n_leF, n_ltT, n_ltF, n_eqT, n_eqF, or_self, or_false, false_or, ↓reduceIte, ↓qz_letL, ↓qz_letI, qz_oc_s, qz_oc_n, Option.bind_some, ne10, not_false_eq_true, l_x, rC33 hC l hl, rC34 hC l hl]
  rw [bd (E_tokAt hC a3 (by omega))]
  rfl
theorem E_debTok {N : qz_N} {S : St} (hC : RC N S) {c l : Nat} (ok : Ok c S) (hl : l < 10) : fE_debtToken 0 l N = some (nI (dt (S 4) (S 33) (S 34) l), N) := by
  obtain ⟨a1, a2, a3, a4, a5, a6⟩ := ok.2.2.2.2.2.2 l hl
  simp (disch := omega) only [fE_debtToken, ix_2m, ix_6m, ix_4m, ix_m4, ix_1s, ix_s, ix_s2, ix_s9, ix_s7, ix_s5, ix_s1, nI_add, nI_p1, ix_n, ix_z, ix_1, ix_eq, ix_le, ix_lt, ix_le0, nI_tc, n_leT, n_leF, n_ltT, n_ltF, n_eqT, n_eqF, or_self, or_false, false_or, ↓reduceIte, ↓qz_letL, ↓qz_letI, qz_oc_s, qz_oc_n, Option.bind_some, ne10, not_false_eq_true, l_x, rC33 hC l hl, rC34 hC l hl]
  rw [bd (E_tokAt hC a3 (by omega))]
  rfl
theorem Ok.ct {c : Nat} {S : St} (ok : Ok c S) {l : Nat} (hl : l < 10) : ct (S 4) (S 33) (S 34) l < 4 := by
  obtain ⟨a1, a2, a3, a4, a5, a6⟩ := ok.2.2.2.2.2.2 l hl
  exact ok.tok a3 (by omega)
theorem Ok.dt {c : Nat} {S : St} (ok : Ok c S) {l : Nat} (hl : l < 10) : dt (S 4) (S 33) (S 34) l < 4 := by
  obtain ⟨a1, a2, a3, a4, a5, a6⟩ := ok.2.2.2.2.2.2 l hl
  exact ok.tok a3 (by omega)
theorem debt_b {c : Nat} {S : St} (ok : Ok c S) {l : Nat} (hl : l < 10) : S 36 l 0 * S 29 (dt (S 4) (S 33) (S 34) l) 0 ≤ 100000000000000000000000000 ∧ debt (S 4) (S 33) (S 34) (S 36) (S 29) l ≤ 100000000000000000 := by
  obtain ⟨a1, a2, a3, a4, a5, a6⟩ := ok.2.2.2.2.2.2 l hl
  obtain ⟨b1, b2, b3, b4, b5⟩ := ok.2.2.2.2.2.1 _ (ok.dt hl)
  have h : S 36 l 0 * S 29 (dt (S 4) (S 33) (S 34) l) 0 ≤ 100000000000000 * 1000000000000 := Nat.mul_le_mul a5 b2
  refine ⟨by omega, ?_⟩
  unfold debt
  exact cdiv_le (by decide) (by omega)
theorem E_debt {N : qz_N} {S : St} (hC : RC N S) {c l : Nat} (ok : Ok c S) (hl : l < 10) : fE_debtOf 0 l N = some (lN (debt (S 4) (S 33) (S 34) (S 36) (S 29) l), N) := by
  obtain ⟨a1, a2, a3, a4, a5, a6⟩ := ok.2.2.2.2.2.2 l hl
  have hd := ok.dt hl
  obtain ⟨b1, b2, b3, b4, b5⟩ := ok.2.2.2.2.2.1 _ hd
  obtain ⟨d1, d2⟩ := debt_b ok hl
  have hq : S 36 l 0 * S 29 (dt (S 4) (S 33) (S 34) l) 0 / 1000000000 < 9223372036854775807 := by omega
  simp (disch := omega) only [fE_debtOf, ↓bd (E_debTok hC ok hl), ix_2m, ix_6m, ix_4m, ix_m4, ix_1s, ix_s, ix_s2, ix_s9, ix_s7, ix_s5, ix_s1, nI_add, nI_p1, ix_n, ix_z, ix_1, ix_eq, ix_le, ix_lt, ix_le0, nI_tc, n_leT, n_leF, n_ltT, n_ltF, n_eqT, n_eqF, or_self, or_false, false_or, ↓reduceIte, ↓qz_letL, ↓qz_letI, qz_oc_s, qz_oc_n, Option.bind_some, ne10, not_false_eq_true, l_x, rC36 hC l hl, fV_debtOf, rC29 hC _ hd, l_g, ↓bd (A_timesOverUp' (by omega) (by omega) (by decide) (by decide) hq N)]
  rfl
theorem M_debt {N : qz_N} {S : St} (hM : RM N S) {c l : Nat} (ok : Ok c S) (hl : l < 10) : ∃ N', fM_debtOf 0 (nI l) N = some (lN (debt (S 4) (S 33) (S 34) (S 36) (S 29) l), N') ∧ Sc N N' := by
  obtain ⟨a1, a2, a3, a4, a5, a6⟩ := ok.2.2.2.2.2.2 l hl
  have hd := ok.dt hl
  obtain ⟨b1, b2, b3, b4, b5⟩ := ok.2.2.2.2.2.1 _ hd
  obtain ⟨d1, d2⟩ := debt_b ok hl
  have hq : S 36 l 0 * S 29 (dt (S 4) (S 33) (S 34) l) 0 / 1000000000 < 9223372036854775807 := by omega
  obtain ⟨N', e, s⟩ := M_partUp (a := S 36 l 0) (b := S 29 (dt (S 4) (S 33) (S 34) l) 0) (d := 1000000000) (by omega) (by omega) (by decide) (by decide) hq N
  refine ⟨N', ?_, s⟩
  simp (disch := omega) only [fM_debtOf, ↓bd (M_debTok hM ok hl), ix_2m, ix_6m, ix_4m, ix_m4, ix_1s, ix_s, ix_s2, ix_s9, ix_s7, ix_s5, ix_s1, nI_add, nI_p1, ix_n, ix_z, ix_1, ix_eq, ix_le, ix_lt, ix_le0, nI_tc, n_leT, n_leF, n_ltT, n_ltF, n_eqT, n_eqF, or_self, or_false, false_or, ↓reduceIte, ↓qz_letL, ↓qz_letI, qz_oc_s, qz_oc_n, Option.bind_some, ne10, not_false_eq_true, l_x, rM36 hM l hl, rM29 hM _ hd, l_g, ↓bd e]
  rfl
def wV (S : St) (t : Nat) : Nat := S 26 t 0 + cD (S 4) (S 31) (S 33) (S 34) (S 36) (S 29) t
theorem wV_b {c : Nat} {S : St} (ok : Ok c S) {t : Nat} (ht : t < 4) : wV S t ≤ 1000100000000000000 := by
  have h1 := ok.vhas ht
  have h2 : cD (S 4) (S 31) (S 33) (S 34) (S 36) (S 29) t ≤ 10 * 100000000000000000 := sg_ub (fun l hl => by
    show (if S 31 l 0 ≠ 0 ∧ dt (S 4) (S 33) (S 34) l = t then debt (S 4) (S 33) (S 34) (S 36) (S 29) l else 0) ≤ _
    have := (debt_b ok hl).2
    split <;> omega)
  unfold wV
  omega
theorem E_worth {N : qz_N} {S : St} (hC : RC N S) {c t : Nat} (ok : Ok c S) (ht : t < 4) : fE_worthOf 0 (nI t) N = some (lN (wV S t), N) := by
  unfold fE_worthOf fE_worthOf_13
  rw [if_neg (nI_ok (n := 4) ht (by decide)), nI_tc (by omega), rC26 hC t ht, qz_let_eq]
  refine (lp (fun i => (N, nI t, lN (S 26 t 0 + sg (fun l => if S 31 l 0 ≠ 0 ∧ dt (S 4) (S 33) (S 34) l = t then debt (S 4) (S 33) (S 34) (S 36) (S 29) l else 0) i), nI i)) 10 1100 (by decide) ?_ ?_ :)
  · intro i hi k
    show fE_worthOf_13b 0 k N (nI t) _ (nI i) = _
    obtain ⟨a1, a2, a3, a4, a5, a6⟩ := ok.2.2.2.2.2.2 i hi
    have hd := ok.dt hi
    show _ = k (N, nI t, lN (S 26 t 0 + (sg _ i + if S 31 i 0 ≠ 0 ∧ dt (S 4) (S 33) (S 34) i = t then debt (S 4) (S 33) (S 34) (S 36) (S 29) i else 0)), nI (i + 1))
    generalize sg (fun l => if S 31 l 0 ≠ 0 ∧ dt (S 4) (S 33) (S 34) l = t then debt (S 4) (S 33) (S 34) (S 36) (S 29) l else 0) i = X
    by_cases c1 : S 31 i 0 = 0
    · rw [if_neg (fun z => z.1 c1)]
      simp (disch := omega) only [fE_worthOf_13b, i_10, ix_2m, ix_6m, ix_4m, ix_m4, ix_1s, ix_s, ix_s2, ix_s9, ix_s7, ix_s5, ix_s1, nI_add, nI_p1, ix_n, ix_z, ix_1, ix_eq, ix_le, ix_lt, ix_le0, nI_tc, n_leT, n_leF, n_ltT, n_ltF, n_eqT, n_eqF, or_self, or_false, false_or, ↓reduceIte, ↓qz_letL, ↓qz_letI, qz_oc_s, qz_oc_n, Option.bind_some, ne10, not_false_eq_true, l_x, rC31 hC i hi, fE_worthOf_62, Nat.add_zero]
    · by_cases c2 : dt (S 4) (S 33) (S 34) i = t
      · rw [if_pos ⟨c1, c2⟩]
        simp (disch := omega) only [fE_worthOf_13b, i_10, ix_2m, ix_6m, ix_4m, ix_m4, ix_1s, ix_s, ix_s2, ix_s9, ix_s7, ix_s5, ix_s1, nI_add, nI_p1, ix_n, ix_z, ix_1, ix_eq, ix_le, ix_lt, ix_le0, nI_tc, n_leT, n_leF, n_ltT, n_ltF, n_eqT, n_eqF, or_self, or_false, false_or, ↓reduceIte, ↓qz_letL, ↓qz_letI, qz_oc_s, qz_oc_n, Option.bind_some, ne10, not_false_eq_true, l_x, rC31 hC i hi, fE_worthOf_62, ↓bd (E_debTok hC ok hi), ↓bd (E_debt hC ok hi), lN_add, Nat.add_assoc]
      · rw [if_neg (fun z => c2 z.2)]
        simp (disch := omega) only [fE_worthOf_13b, i_10, ix_2m, ix_6m, ix_4m, ix_m4, ix_1s, ix_s, ix_s2, ix_s9, ix_s7, ix_s5, ix_s1, nI_add, nI_p1, ix_n, ix_z, ix_1, ix_eq, ix_le, ix_lt, ix_le0, nI_tc, n_leT, n_leF, n_ltT, n_ltF, n_eqT, n_eqF, or_self, or_false, false_or, ↓reduceIte, ↓qz_letL, ↓qz_letI, qz_oc_s, qz_oc_n, Option.bind_some, ne10, not_false_eq_true, l_x, rC31 hC i hi, fE_worthOf_62, ↓bd (E_debTok hC ok hi), Nat.add_zero]
  · intro k
    rfl
theorem M_worth {N : qz_N} {S : St} (hM : RM N S) {c t : Nat} (ok : Ok c S) (ht : t < 4) : ∃ N', fM_worthOf 0 (nI t) N = some (lN (wV S t), N') ∧ Sc N N' := by
  unfold fM_worthOf fM_worthOf_10
  rw [if_neg (nI_ok (n := 4) ht (by decide)), nI_tc (by omega), rM26 hM t ht, qz_let_eq]
  refine lpP (P := fun m => ∃ N', m = some (lN (wV S t), N') ∧ Sc N N') (fun i a => ∃ N', Sc N N' ∧ a = (N', nI t, lN (S 26 t 0 + sg (fun l => if S 31 l 0 ≠ 0 ∧ dt (S 4) (S 33) (S 34) l = t then debt (S 4) (S 33) (S 34) (S 36) (S 29) l else 0) i), nI i)) 10 ?_ ?_ 10 0 1100 _ (by decide) (by decide) ⟨N, Sc.rf, rfl⟩
  · rintro i a hi ⟨N1, s1, rfl⟩ k hk
    show ∃ N', fM_worthOf_10b 0 k N1 (nI t) _ (nI i) = some (lN (wV S t), N') ∧ Sc N N'
    obtain ⟨a1, a2, a3, a4, a5, a6⟩ := ok.2.2.2.2.2.2 i hi
    have hd := ok.dt hi
    have hM := hM.scr s1
    have hk : ∀ N2, Sc N N2 → ∃ N', k (N2, nI t, lN (S 26 t 0 + (sg (fun l => if S 31 l 0 ≠ 0 ∧ dt (S 4) (S 33) (S 34) l = t then debt (S 4) (S 33) (S 34) (S 36) (S 29) l else 0) i + if S 31 i 0 ≠ 0 ∧ dt (S 4) (S 33) (S 34) i = t then debt (S 4) (S 33) (S 34) (S 36) (S 29) i else 0)), nI (i + 1)) = some (lN (wV S t), N') ∧ Sc N N' := fun N2 s2 => hk _ ⟨N2, s2, rfl⟩
    revert hk
    generalize sg (fun l => if S 31 l 0 ≠ 0 ∧ dt (S 4) (S 33) (S 34) l = t then debt (S 4) (S 33) (S 34) (S 36) (S 29) l else 0) i = X
    intro hk
    by_cases c1 : S 31 i 0 = 0
    · rw [if_neg (fun z => z.1 c1)] at hk
      simp (disch := omega) only [fM_worthOf_10b, i_10, ix_2m, ix_6m, ix_4m, ix_m4, ix_1s, ix_s, ix_s2, ix_s9, ix_s7, ix_s5, ix_s1, nI_add, nI_p1, ix_n, ix_z, ix_1, ix_eq, ix_le, ix_lt, ix_le0, nI_tc, n_leT, n_leF, n_ltT, n_ltF, n_eqT, n_eqF, or_self, or_false, false_or, ↓reduceIte, ↓qz_letL, ↓qz_letI, qz_oc_s, qz_oc_n, Option.bind_some, ne10, not_false_eq_true, l_x, rM31 hM i hi, fM_worthOf_47, fM_worthOf_48, l_0, lN_add]
      exact hk _ s1
    · by_cases c2 : dt (S 4) (S 33) (S 34) i = t
      · rw [if_pos ⟨c1, c2⟩] at hk
        obtain ⟨N2, e2, s2⟩ := M_debt hM ok hi
        simp (disch := omega) only [fM_worthOf_10b, i_10, ix_2m, ix_6m, ix_4m, ix_m4, ix_1s, ix_s, ix_s2, ix_s9, ix_s7, ix_s5, ix_s1, nI_add, nI_p1, ix_n, ix_z, ix_1, ix_eq, ix_le, ix_lt, ix_le0, nI_tc, n_leT, n_leF, n_ltT, n_ltF, n_eqT, n_eqF, or_self, or_false, false_or, ↓reduceIte, ↓qz_letL, ↓qz_letI, qz_oc_s, qz_oc_n, Option.bind_some, ne10, not_false_eq_true, l_x, rM31 hM i hi, fM_worthOf_47, fM_worthOf_48, ↓bd (M_debTok hM ok hi), ↓bd e2, lN_add, Nat.add_assoc]
        exact hk _ (s1.tr s2)
      · rw [if_neg (fun z => c2 z.2)] at hk
        simp (disch := omega) only [fM_worthOf_10b, i_10, ix_2m, ix_6m, ix_4m, ix_m4, ix_1s, ix_s, ix_s2, ix_s9, ix_s7, ix_s5, ix_s1, nI_add, nI_p1, ix_n, ix_z, ix_1, ix_eq, ix_le, ix_lt, ix_le0, nI_tc, n_leT, n_leF, n_ltT, n_ltF, n_eqT, n_eqF, or_self, or_false, false_or, ↓reduceIte, ↓qz_letL, ↓qz_letI, qz_oc_s, qz_oc_n, Option.bind_some, ne10, not_false_eq_true, l_x, rM31 hM i hi, fM_worthOf_47, fM_worthOf_48, ↓bd (M_debTok hM ok hi), l_0, lN_add]
        exact hk _ s1
  · rintro a ⟨N1, s1, rfl⟩ k
    exact ⟨N1, rfl, s1⟩
theorem M_all {N : qz_N} {S : St} (hM : RM N S) {c t : Nat} (ok : Ok c S) (h4 : t < 4) : fM_allOf 0 (nI t) N = some (lN (S 1 t 0), N) := by
  have o1 := (ok.1 t h4).1
  have h6 := ok.np
  obtain ⟨q1, q2, q3, h40, h40', ho⟩ := ok.2.2.2.1
  have eR : cR (S 4) (S 7) t = sg (fun x => if S 4 (x / 2) (x % 2) = t then S 7 (x / 2) (x % 2) else 0) (2 * S 3 0 0) := by
    rw [sg_2]
    unfold cR
    rw [sg_ext h6 (fun q h1 h2 => by
      show (if S 4 q 0 = t then S 7 q 0 else 0) + (if S 4 q 1 = t then S 7 q 1 else 0) = 0
      obtain ⟨z0, z1, -⟩ := (ok.2.1.2 q h2).2.2.2.2.2 h1
      rw [z0, z1]; split <;> split <;> rfl)]
    refine sg_congr (fun q hq => ?_)
    show _ = (if S 4 (2 * q / 2) (2 * q % 2) = t then S 7 (2 * q / 2) (2 * q % 2) else 0) + (if S 4 ((2 * q + 1) / 2) ((2 * q + 1) % 2) = t then S 7 ((2 * q + 1) / 2) ((2 * q + 1) % 2) else 0)
    rw [show 2 * q / 2 = q by omega, show 2 * q % 2 = 0 by omega, show (2 * q + 1) / 2 = q by omega, show (2 * q + 1) % 2 = 1 by omega]
  unfold fM_allOf fM_allOf_17
  rw [if_neg (nI_ok (n := 4) h4 (by decide)), if_neg (nI_ok (n := 4) h4 (by decide)), nI_tc (by omega), rM2 hM t h4, rM26 hM t h4, qz_let_eq, lN_add]
  refine (lp (fun i => (N, nI t, lN (S 2 t 0 + S 26 t 0 + sg (fun p => S 0 p t) i), nI i)) 6 1100 (by decide) ?_ ?_ :)
  · intro i hi k
    show fM_allOf_17b 0 k N (nI t) _ (nI i) = k (N, nI t, lN (S 2 t 0 + S 26 t 0 + (sg _ i + S 0 i t)), nI (i + 1))
    generalize sg (fun p => S 0 p t) i = X
    simp (disch := omega) only [fM_allOf_17b, i_6, ix_2m, ix_6m, ix_4m, ix_m4, ix_1s, ix_s, ix_s2, ix_s9, ix_s7, ix_s5, ix_s1, nI_add, nI_p1, ix_n, ix_z, ix_1, ix_eq, ix_le, ix_lt, ix_le0, nI_tc, n_leT, n_leF, n_ltT, n_ltF, n_eqT, n_eqF, or_self, or_false, false_or, ↓reduceIte, ↓qz_letL, ↓qz_letI, qz_oc_s, qz_oc_n, Option.bind_some, ne10, not_false_eq_true, l_x, ↓bd (M_has hM hi h4), lN_add, Nat.add_assoc]
  intro k
  show fM_allOf_17b 0 k N (nI t) _ (nI 6) = _
  unfold fM_allOf_17b
  rw [if_pos (by decide)]
  unfold fM_allOf_43
  have eB : sg (fun p => S 0 p t) 6 = cB (S 0) t := rfl
  rw [eB]
  refine (lp (fun i => (N, nI t, lN (S 2 t 0 + S 26 t 0 + cB (S 0) t + sg (fun x => if S 4 (x / 2) (x % 2) = t then S 7 (x / 2) (x % 2) else 0) i), nI i)) (2 * S 3 0 0) 1100 (by omega) ?_ ?_ :)
  · intro i hi k
    show fM_allOf_43b 0 k N (nI t) _ (nI i) = k (N, nI t, lN (S 2 t 0 + S 26 t 0 + cB (S 0) t + (sg _ i + if S 4 (i / 2) (i % 2) = t then S 7 (i / 2) (i % 2) else 0)), nI (i + 1))
    generalize sg (fun x => if S 4 (x / 2) (x % 2) = t then S 7 (x / 2) (x % 2) else 0) i = X
    have r4 := rM4 hM (i / 2) (i % 2) (by omega) (by omega)
    have r7 := rM7 hM (i / 2) (i % 2) (by omega) (by omega)
    rw [show 2 * (i / 2) + i % 2 = i by omega] at r4 r7
    have t4 := ok.tok (q := i / 2) (j := i % 2) (by omega) (by omega)
    by_cases c1 : S 4 (i / 2) (i % 2) = t
    · rw [if_pos c1]
      simp (disch := omega) only [fM_allOf_43b, ix_2m, ix_6m, ix_4m, ix_m4, ix_1s, ix_s, ix_s2, ix_s9, ix_s7, ix_s5, ix_s1, nI_add, nI_p1, ix_n, ix_z, ix_1, ix_eq, ix_le, ix_lt, ix_le0, nI_tc, n_leT, n_leF, n_ltT, n_ltF, n_eqT, n_eqF, or_self, or_false, false_or, ↓reduceIte, ↓qz_letL, ↓qz_letI, qz_oc_s, qz_oc_n, Option.bind_some, ne10, not_false_eq_true, l_x, rM3 hM, r4, r7, fM_allOf_77, lN_add, Nat.add_assoc]
    · rw [if_neg c1]
      simp (disch := omega) only [fM_allOf_43b, ix_2m, ix_6m, ix_4m, ix_m4, ix_1s, ix_s, ix_s2, ix_s9, ix_s7, ix_s5, ix_s1, nI_add, nI_p1, ix_n, ix_z, ix_1, ix_eq, ix_le, ix_lt, ix_le0, nI_tc, n_leT, n_leF, n_ltT, n_ltF, n_eqT, n_eqF, or_self, or_false, false_or, ↓reduceIte, ↓qz_letL, ↓qz_letI, qz_oc_s, qz_oc_n, Option.bind_some, ne10, not_false_eq_true, l_x, rM3 hM, r4, r7, fM_allOf_77, lN_add, l_0, Nat.add_assoc]
  intro k
  show fM_allOf_43b 0 k N (nI t) _ (nI (2 * S 3 0 0)) = _
  rw [← eR]
  unfold fM_allOf_43b
  rw [rM3 hM, ix_2m, if_pos (by rw [ix_le (by omega) (by omega)]; exact Nat.le_refl _)]
  unfold fM_allOf_88
  refine (lp (fun i => (N, nI t, lN (S 2 t 0 + S 26 t 0 + cB (S 0) t + cR (S 4) (S 7) t + sg (fun i => if ht (S 16) (S 17) (S 20) i = t then hl (S 20) (S 21) (S 22) i else 0) i), nI i)) (S 18 0 0) 1100 (by omega) ?_ ?_ :)
  · intro i hi k
    show fM_allOf_88b 0 k N (nI t) _ (nI i) = k (N, nI t, lN (S 2 t 0 + S 26 t 0 + cB (S 0) t + cR (S 4) (S 7) t + (sg _ i + if ht (S 16) (S 17) (S 20) i = t then hl (S 20) (S 21) (S 22) i else 0)), nI (i + 1))
    generalize sg (fun i => if ht (S 16) (S 17) (S 20) i = t then hl (S 20) (S 21) (S 22) i else 0) i = X
    obtain ⟨m1, m2, m3, m4⟩ := hM.2.2.1 i hi
    obtain ⟨p1, p2, p3, p4, p5, p6⟩ := ho i hi
    have eh := M_heldBy hM ok hi
    unfold ht
    by_cases c0 : S 20 i 0 = 0
    · rw [if_pos c0]
      by_cases c1 : S 16 0 0 = t
      · rw [if_pos c1]
        simp (disch := omega) only [fM_allOf_88b, ix_2m, ix_6m, ix_4m, ix_m4, ix_1s, ix_s, ix_s2, ix_s9, ix_s7, ix_s5, ix_s1, nI_add, nI_p1, ix_n, ix_z, ix_1, ix_eq, ix_le, ix_lt, ix_le0, nI_tc, n_leT, n_leF, n_ltT, n_ltF, n_eqT, n_eqF, or_self, or_false, false_or, ↓reduceIte, ↓qz_letL, ↓qz_letI, qz_oc_s, qz_oc_n, Option.bind_some, ne10, not_false_eq_true, l_x, rM18 hM, m2, rM16 hM, rM17 hM, fM_allOf_118, fM_allOf_137, ↓bd eh, lN_add, Nat.add_assoc]
      · rw [if_neg c1]
        simp (disch := omega) only [fM_allOf_88b, ix_2m, ix_6m, ix_4m, ix_m4, ix_1s, ix_s, ix_s2, ix_s9, ix_s7, ix_s5, ix_s1, nI_add, nI_p1, ix_n, ix_z, ix_1, ix_eq, ix_le, ix_lt, ix_le0, nI_tc, n_leT, n_leF, n_ltT, n_ltF, n_eqT, n_eqF, or_self, or_false, false_or, ↓reduceIte, ↓qz_letL, ↓qz_letI, qz_oc_s, qz_oc_n, Option.bind_some, ne10, not_false_eq_true, l_x, rM18 hM, m2, rM16 hM, rM17 hM, fM_allOf_118, fM_allOf_137, ↓bd eh, lN_add, l_0, Nat.add_assoc]
    · rw [if_neg c0]
      by_cases c1 : S 17 0 0 = t
      · rw [if_pos c1]
        simp (disch := omega) only [fM_allOf_88b, ix_2m, ix_6m, ix_4m, ix_m4, ix_1s, ix_s, ix_s2, ix_s9, ix_s7, ix_s5, ix_s1, nI_add, nI_p1, ix_n, ix_z, ix_1, ix_eq, ix_le, ix_lt, ix_le0, nI_tc, n_leT, n_leF, n_ltT, n_ltF, n_eqT, n_eqF, or_self, or_false, false_or, ↓reduceIte, ↓qz_letL, ↓qz_letI, qz_oc_s, qz_oc_n, Option.bind_some, ne10, not_false_eq_true, l_x, rM18 hM, m2, rM16 hM, rM17 hM, fM_allOf_118, fM_allOf_137, ↓bd eh, lN_add, Nat.add_assoc]
      · rw [if_neg c1]
        simp (disch := omega) only [fM_allOf_88b, ix_2m, ix_6m, ix_4m, ix_m4, ix_1s, ix_s, ix_s2, ix_s9, ix_s7, ix_s5, ix_s1, nI_add, nI_p1, ix_n, ix_z, ix_1, ix_eq, ix_le, ix_lt, ix_le0, nI_tc, n_leT, n_leF, n_ltT, n_ltF, n_eqT, n_eqF, or_self, or_false, false_or, ↓reduceIte, ↓qz_letL, ↓qz_letI, qz_oc_s, qz_oc_n, Option.bind_some, ne10, not_false_eq_true, l_x, rM18 hM, m2, rM16 hM, rM17 hM, fM_allOf_118, fM_allOf_137, ↓bd eh, lN_add, l_0, Nat.add_assoc]
  intro k
  show fM_allOf_88b 0 k N (nI t) _ (nI (S 18 0 0)) = _
  unfold fM_allOf_88b
  rw [rM18 hM, if_pos (by rw [ix_le (by omega) (by omega)]; exact Nat.le_refl _)]
  unfold fM_allOf_148
  have eO : sg (fun i => if ht (S 16) (S 17) (S 20) i = t then hl (S 20) (S 21) (S 22) i else 0) (S 18 0 0) = cO (S 16) (S 17) (S 18) (S 20) (S 21) (S 22) t := rfl
  rw [eO]
  refine (lp (fun i => (N, nI t, lN (S 2 t 0 + S 26 t 0 + cB (S 0) t + cR (S 4) (S 7) t + cO (S 16) (S 17) (S 18) (S 20) (S 21) (S 22) t + sg (fun l => if S 31 l 0 ≠ 0 ∧ ct (S 4) (S 33) (S 34) l = t then S 35 l 0 else 0) i), nI i)) 10 1100 (by decide) ?_ ?_ :)
  · intro i hi k
    show fM_allOf_148b 0 k N (nI t) _ (nI i) = k (N, nI t, lN (S 2 t 0 + S 26 t 0 + cB (S 0) t + cR (S 4) (S 7) t + cO (S 16) (S 17) (S 18) (S 20) (S 21) (S 22) t + (sg _ i + if S 31 i 0 ≠ 0 ∧ ct (S 4) (S 33) (S 34) i = t then S 35 i 0 else 0)), nI (i + 1))
    generalize sg (fun l => if S 31 l 0 ≠ 0 ∧ ct (S 4) (S 33) (S 34) l = t then S 35 l 0 else 0) i = X
    obtain ⟨a1, a2, a3, a4, a5, a6⟩ := ok.2.2.2.2.2.2 i hi
    have hd := ok.ct hi
    by_cases c1 : S 31 i 0 = 0
    · rw [if_neg (fun z => z.1 c1)]
      simp (disch := omega) only [fM_allOf_148b, i_10, ix_2m, ix_6m, ix_4m, ix_m4, ix_1s, ix_s, ix_s2, ix_s9, ix_s7, ix_s5, ix_s1, nI_add, nI_p1, ix_n, ix_z, ix_1, ix_eq, ix_le, ix_lt, ix_le0, nI_tc, n_leT, n_leF, n_ltT, n_ltF, n_eqT, n_eqF, or_self, or_false, false_or, ↓reduceIte, ↓qz_letL, ↓qz_letI, qz_oc_s, qz_oc_n, Option.bind_some, ne10, not_false_eq_true, l_x, rM31 hM i hi, fM_allOf_186, fM_allOf_187, l_0, lN_add, Nat.add_assoc]
    · by_cases c2 : ct (S 4) (S 33) (S 34) i = t
      · rw [if_pos ⟨c1, c2⟩]
        simp (disch := omega) only [fM_allOf_148b, i_10, ix_2m, ix_6m, ix_4m, ix_m4, ix_1s, ix_s, ix_s2, ix_s9, ix_s7, ix_s5, ix_s1, nI_add, nI_p1, ix_n, ix_z, ix_1, ix_eq, ix_le, ix_lt, ix_le0, nI_tc, n_leT, n_leF, n_ltT, n_ltF, n_eqT, n_eqF, or_self, or_false, false_or, ↓reduceIte, ↓qz_letL, ↓qz_letI, qz_oc_s, qz_oc_n, Option.bind_some, ne10, not_false_eq_true, l_x, rM31 hM i hi, fM_allOf_186, fM_allOf_187, ↓bd (M_covTok hM ok hi), rM35 hM i hi, lN_add, Nat.add_assoc]
      · rw [if_neg (fun z => c2 z.2)]
        simp (disch := omega) only [fM_allOf_148b, i_10, ix_2m, ix_6m, ix_4m, ix_m4, ix_1s, ix_s, ix_s2, ix_s9, ix_s7, ix_s5, ix_s1, nI_add, nI_p1, ix_n, ix_z, ix_1, ix_eq, ix_le, ix_lt, ix_le0, nI_tc, n_leT, n_leF, n_ltT, n_ltF, n_eqT, n_eqF, or_self, or_false, false_or, ↓reduceIte, ↓qz_letL, ↓qz_letI, qz_oc_s, qz_oc_n, Option.bind_some, ne10, not_false_eq_true, l_x, rM31 hM i hi, fM_allOf_186, fM_allOf_187, ↓bd (M_covTok hM ok hi), l_0, lN_add, Nat.add_assoc]
  · intro k
    show fM_allOf_148b 0 k N (nI t) _ (nI 10) = _
    unfold fM_allOf_148b
    rw [if_pos (by decide), ← o1]
    show some (lN (_ + cL (S 4) (S 31) (S 33) (S 34) (S 35) t), N) = _
    congr 3
    omega
theorem op_total {N : qz_N} {S : St} {c : Nat} (ok : Ok c S) (hC : RC N S) (hM : RM N S) (x : Int32) : Alike N (fE_total 0 x) (fM_total 0 x) (Ok c) := by
  rcases ixc x (n := 4) (by decide) with hx | ⟨t, ht, rfl⟩
  · exact Alike.mk' (r := -2) hM (GoC.of (by simp (disch := omega) only [fE_total, ↓bd (E_tk0 hx _), ix_2m, ix_6m, ix_4m, ix_m4, ix_1s, ix_s, ix_s2, ix_s9, ix_s7, ix_s5, ix_s1, nI_add, nI_p1, ix_n, ix_z, ix_1, ix_eq, ix_le, ix_lt, ix_le0, nI_tc, n_leT, n_leF, n_ltT, n_ltF, n_eqT, n_eqF, or_self, or_false, false_or, ↓reduceIte, ↓qz_letL, ↓qz_letI, qz_oc_s, qz_oc_n, Option.bind_some, ne10, not_false_eq_true, l_x]) hC) (fun N1 hM => GoM.of (by simp (disch := omega) only [fM_total, ↓bd (M_tk0 hx _), ix_2m, ix_6m, ix_4m, ix_m4, ix_1s, ix_s, ix_s2, ix_s9, ix_s7, ix_s5, ix_s1, nI_add, nI_p1, ix_n, ix_z, ix_1, ix_eq, ix_le, ix_lt, ix_le0, nI_tc, n_leT, n_leF, n_ltT, n_ltF, n_eqT, n_eqF, or_self, or_false, false_or, ↓reduceIte, ↓qz_letL, ↓qz_letI, qz_oc_s, qz_oc_n, Option.bind_some, ne10, not_false_eq_true, l_x]) hM) ok
  · exact Alike.mk' (r := lN (S 1 t 0)) hM (GoC.of (by simp (disch := omega) only [fE_total, ↓bd (E_tk1 ht _), ix_2m, ix_6m, ix_4m, ix_m4, ix_1s, ix_s, ix_s2, ix_s9, ix_s7, ix_s5, ix_s1, nI_add, nI_p1, ix_n, ix_z, ix_1, ix_eq, ix_le, ix_lt, ix_le0, nI_tc, n_leT, n_leF, n_ltT, n_ltF, n_eqT, n_eqF, or_self, or_false, false_or, ↓reduceIte, ↓qz_letL, ↓qz_letI, qz_oc_s, qz_oc_n, Option.bind_some, ne10, not_false_eq_true, l_x, rC1 hC t ht]) hC) (fun N1 hM => GoM.of (by simp (disch := omega) only [fM_total, ↓bd (M_tk1 ht _), ix_2m, ix_6m, ix_4m, ix_m4, ix_1s, ix_s, ix_s2, ix_s9, ix_s7, ix_s5, ix_s1, nI_add, nI_p1, ix_n, ix_z, ix_1, ix_eq, ix_le, ix_lt, ix_le0, nI_tc, n_leT, n_leF, n_ltT, n_ltF, n_eqT, n_eqF, or_self, or_false, false_or, ↓reduceIte, ↓qz_letL, ↓qz_letI, qz_oc_s, qz_oc_n, Option.bind_some, ne10, not_false_eq_true, l_x, ↓bd (M_all hM ok ht)]) hM) ok
theorem ok_mint {S : St} {c p t b m : Nat} (ok : Ok c S) (hp : p < 6) (ht : t < 4) (e0 : b + S 1 t 0 = S 0 p t + m) (hm : m ≤ 100000000000000) : Ok c (qz_u3 (qz_u3 S 0 p t b) 1 t 0 m) := by
  obtain ⟨h1, h2, h3, h4, h5, h6', h7⟩ := ok
  unfold Ok
  simp (disch := omega) only [u3_f, u3_e]
  refine ⟨?_, h2, h3, h4, h5, h6', h7⟩
  intro t' ht'
  obtain ⟨a1, a2⟩ := h1 t' ht'
  have r1 := cB_up (bal := S 0) (p := p) (t0 := t) (v := b) hp t'
  rw [up_g]
  by_cases c1 : t' = t
  · subst c1
    rw [if_pos rfl, if_pos rfl] at r1
    rw [if_pos rfl]
    omega
  · rw [if_neg c1, if_neg c1] at r1
    rw [if_neg c1]
    omega
theorem RM.mint {N : qz_N} {S : St} (h : RM N S) (t v : Nat) : RM N (qz_u3 S 1 t 0 v) := by
  obtain ⟨⟨h1, h2⟩, h3, h4, h5⟩ := h
  have e : ∀ f', f' ≠ 1 → ∀ i' j', qz_u3 S 1 t 0 v f' i' j' = S f' i' j' := fun f' hf' i' j' => by unfold qz_u3; rw [if_neg (fun z => hf' z.1)]
  refine ⟨⟨fun f i j hd => ?_, fun f i j hd => ?_⟩, fun q hq => ?_, fun q hq => ?_, fun q hq => ?_⟩
  · rw [e f (by rintro rfl; cases hd)]; exact h1 f i j hd
  · rw [e f (by rintro rfl; cases hd)]; exact h2 f i j hd
  · rw [e 12 (by decide), e 13 (by decide)]; exact h3 q hq
  · rw [e 18 (by decide)] at hq
    rw [e 19 (by decide), e 20 (by decide), e 21 (by decide), e 22 (by decide)]; exact h4 q hq
  · rw [e 24 (by decide)] at hq
    rw [e 25 (by decide)]; exact h5 q hq
theorem op_mint {N : qz_N} {S : St} {c : Nat} (ok : Ok c S) (hC : RC N S) (hM : RM N S) (y x : Int32) (z : Int64) : Alike N (fE_mint 0 y x z) (fM_mint 0 y x z) (Ok c) := by
  rcases ixc y (n := 6) (by decide) with hy | ⟨p, hp, rfl⟩
  · exact Alike.mk' (r := -2) hM (GoC.of (by simp (disch := omega) only [fE_mint, ↓bd (E_pl0 hy _), ix_2m, ix_6m, ix_4m, ix_m4, ix_1s, ix_s, ix_s2, ix_s9, ix_s7, ix_s5, ix_s1, nI_add, nI_p1, ix_n, ix_z, ix_1, ix_eq, ix_le, ix_lt, ix_le0, nI_tc, n_leT, n_leF, n_ltT, n_ltF, n_eqT, n_eqF, or_self, or_false, false_or, ↓reduceIte, ↓qz_letL, ↓qz_letI, qz_oc_s, qz_oc_n, Option.bind_some, ne10, not_false_eq_true, l_x]) hC) (fun N1 hM => GoM.of (by simp (disch := omega) only [fM_mint, ↓bd (M_pl0 hy _), ix_2m, ix_6m, ix_4m, ix_m4, ix_1s, ix_s, ix_s2, ix_s9, ix_s7, ix_s5, ix_s1, nI_add, nI_p1, ix_n, ix_z, ix_1, ix_eq, ix_le, ix_lt, ix_le0, nI_tc, n_leT, n_leF, n_ltT, n_ltF, n_eqT, n_eqF, or_self, or_false, false_or, ↓reduceIte, ↓qz_letL, ↓qz_letI, qz_oc_s, qz_oc_n, Option.bind_some, ne10, not_false_eq_true, l_x]) hM) ok
  rcases ixc x (n := 4) (by decide) with hx | ⟨t, ht, rfl⟩
  · exact Alike.mk' (r := -2) hM (GoC.of (by simp (disch := omega) only [fE_mint, ↓bd (E_pl1 hp _), ↓bd (E_tk0 hx _), ix_2m, ix_6m, ix_4m, ix_m4, ix_1s, ix_s, ix_s2, ix_s9, ix_s7, ix_s5, ix_s1, nI_add, nI_p1, ix_n, ix_z, ix_1, ix_eq, ix_le, ix_lt, ix_le0, nI_tc, n_leT, n_leF, n_ltT, n_ltF, n_eqT, n_eqF, or_self, or_false, false_or, ↓reduceIte, ↓qz_letL, ↓qz_letI, qz_oc_s, qz_oc_n, Option.bind_some, ne10, not_false_eq_true, l_x]) hC) (fun N1 hM => GoM.of (by simp (disch := omega) only [fM_mint, ↓bd (M_pl1 hp _), ↓bd (M_tk0 hx _), ix_2m, ix_6m, ix_4m, ix_m4, ix_1s, ix_s, ix_s2, ix_s9, ix_s7, ix_s5, ix_s1, nI_add, nI_p1, ix_n, ix_z, ix_1, ix_eq, ix_le, ix_lt, ix_le0, nI_tc, n_leT, n_leF, n_ltT, n_ltF, n_eqT, n_eqF, or_self, or_false, false_or, ↓reduceIte, ↓qz_letL, ↓qz_letI, qz_oc_s, qz_oc_n, Option.bind_some, ne10, not_false_eq_true, l_x]) hM) ok
  rcases l_gi (x := z) with hz | ⟨a, h1, h2, rfl⟩
  · exact Alike.mk' (r := -2) hM (GoC.of (by simp (disch := omega) only [fE_mint, ↓bd (E_pl1 hp _), ↓bd (E_tk1 ht _), ix_2m, ix_6m, ix_4m, ix_m4, ix_1s, ix_s, ix_s2, ix_s9, ix_s7, ix_s5, ix_s1, nI_add, nI_p1, ix_n, ix_z, ix_1, ix_eq, ix_le, ix_lt, ix_le0, nI_tc, n_leT, n_leF, n_ltT, n_ltF, n_eqT, n_eqF, or_self, or_false, false_or, ↓reduceIte, ↓qz_letL, ↓qz_letI, qz_oc_s, qz_oc_n, Option.bind_some, ne10, not_false_eq_true, l_x, l_1, hz]) hC) (fun N1 hM => GoM.of (by simp (disch := omega) only [fM_mint, ↓bd (M_pl1 hp _), ↓bd (M_tk1 ht _), ix_2m, ix_6m, ix_4m, ix_m4, ix_1s, ix_s, ix_s2, ix_s9, ix_s7, ix_s5, ix_s1, nI_add, nI_p1, ix_n, ix_z, ix_1, ix_eq, ix_le, ix_lt, ix_le0, nI_tc, n_leT, n_leF, n_ltT, n_ltF, n_eqT, n_eqF, or_self, or_false, false_or, ↓reduceIte, ↓qz_letL, ↓qz_letI, qz_oc_s, qz_oc_n, Option.bind_some, ne10, not_false_eq_true, l_x, l_1, hz]) hM) ok
  by_cases ha : a ≤ 100000000000000
  case neg => exact Alike.mk' (r := -2) hM (GoC.of (by simp (disch := omega) only [fE_mint, ↓bd (E_pl1 hp _), ↓bd (E_tk1 ht _), ix_2m, ix_6m, ix_4m, ix_m4, ix_1s, ix_s, ix_s2, ix_s9, ix_s7, ix_s5, ix_s1, nI_add, nI_p1, ix_n, ix_z, ix_1, ix_eq, ix_le, ix_lt, ix_le0, nI_tc, n_leT, n_leF, n_ltT, n_ltF, n_eqT, n_eqF, or_self, or_false, false_or, ↓reduceIte, ↓qz_letL, ↓qz_letI, qz_oc_s, qz_oc_n, Option.bind_some, ne10, not_false_eq_true, l_x, l_0, l_1, l_60, l_80, l_100, l_105, l_k, l_xk, l_m, l_g, l_xg, l_t, l_ct, l_ex, l_mx, l_lt, l_le, l_eq, l_div, l_ite, lN_add, lN_sub, lN_mul, lN_addneg]) hC) (fun N1 hM => GoM.of (by simp (disch := omega) only [fM_mint, ↓bd (M_pl1 hp _), ↓bd (M_tk1 ht _), ix_2m, ix_6m, ix_4m, ix_m4, ix_1s, ix_s, ix_s2, ix_s9, ix_s7, ix_s5, ix_s1, nI_add, nI_p1, ix_n, ix_z, ix_1, ix_eq, ix_le, ix_lt, ix_le0, nI_tc, n_leT, n_leF, n_ltT, n_ltF, n_eqT, n_eqF, or_self, or_false, false_or, ↓reduceIte, ↓qz_letL, ↓qz_letI, qz_oc_s, qz_oc_n, Option.bind_some, ne10, not_false_eq_true, l_x, l_0, l_1, l_60, l_80, l_100, l_105, l_k, l_xk, l_m, l_g, l_xg, l_t, l_ct, l_ex, l_mx, l_lt, l_le, l_eq, l_div, l_ite, lN_add, lN_sub, lN_mul, lN_addneg]) hM) ok
  have bm := ok.mint ht
  by_cases hb : a ≤ 100000000000000 - S 1 t 0
  case neg => exact Alike.mk' (r := -3) hM (GoC.of (by simp (disch := omega) only [fE_mint, ↓bd (E_pl1 hp _), ↓bd (E_tk1 ht _), ix_2m, ix_6m, ix_4m, ix_m4, ix_1s, ix_s, ix_s2, ix_s9, ix_s7, ix_s5, ix_s1, nI_add, nI_p1, ix_n, ix_z, ix_1, ix_eq, ix_le, ix_lt, ix_le0, nI_tc, n_leT, n_leF, n_ltT, n_ltF, n_eqT, n_eqF, or_self, or_false, false_or, ↓reduceIte, ↓qz_letL, ↓qz_letI, qz_oc_s, qz_oc_n, Option.bind_some, ne10, not_false_eq_true, l_x, l_0, l_1, l_60, l_80, l_100, l_105, l_k, l_xk, l_m, l_g, l_xg, l_t, l_ct, l_ex, l_mx, l_lt, l_le, l_eq, l_div, l_ite, lN_add, lN_sub, lN_mul, lN_addneg, rC1 hC t ht]) hC) (fun N1 hM => GoM.of (by simp (disch := omega) only [fM_mint, ↓bd (M_pl1 hp _), ↓bd (M_tk1 ht _), ix_2m, ix_6m, ix_4m, ix_m4, ix_1s, ix_s, ix_s2, ix_s9, ix_s7, ix_s5, ix_s1, nI_add, nI_p1, ix_n, ix_z, ix_1, ix_eq, ix_le, ix_lt, ix_le0, nI_tc, n_leT, n_leF, n_ltT, n_ltF, n_eqT, n_eqF, or_self, or_false, false_or, ↓reduceIte, ↓qz_letL, ↓qz_letI, qz_oc_s, qz_oc_n, Option.bind_some, ne10, not_false_eq_true, l_x, l_0, l_1, l_60, l_80, l_100, l_105, l_k, l_xk, l_m, l_g, l_xg, l_t, l_ct, l_ex, l_mx, l_lt, l_le, l_eq, l_div, l_ite, lN_add, lN_sub, lN_mul, lN_addneg, ↓bd (M_all hM ok ht)]) hM) ok
  refine Alike.mk' (r := lN (S 0 p t + a)) (S' := qz_u3 (qz_u3 S 0 p t (S 0 p t + a)) 1 t 0 (S 1 t 0 + a)) hM ?_ (fun N1 hM => ?_) (ok_mint ok hp ht (by omega) (by omega))
  · simp (disch := omega) only [fE_mint, ↓bd (E_pl1 hp _), ↓bd (E_tk1 ht _), ix_2m, ix_6m, ix_4m, ix_m4, ix_1s, ix_s, ix_s2, ix_s9, ix_s7, ix_s5, ix_s1, nI_add, nI_p1, ix_n, ix_z, ix_1, ix_eq, ix_le, ix_lt, ix_le0, nI_tc, n_leT, n_leF, n_ltT, n_ltF, n_eqT, n_eqF, or_self, or_false, false_or, ↓reduceIte, ↓qz_letL, ↓qz_letI, qz_oc_s, qz_oc_n, Option.bind_some, ne10, not_false_eq_true, l_x, l_0, l_1, l_60, l_80, l_100, l_105, l_k, l_xk, l_m, l_g, l_xg, l_t, l_ct, l_ex, l_mx, l_lt, l_le, l_eq, l_div, l_ite, lN_add, lN_sub, lN_mul, lN_addneg, rC1 hC t ht]
    refine GoC.wr (wC1 hC t (S 1 t 0 + a) ht) (KM.sl (by decide)) (fun N1 hC k1 => ?_)
    refine GoC.call (E_give hC hp ht) k1 (fun N1 hC k1 => ?_)
    simp (disch := omega) only [u3_f, u3_s, u3_i, u3_j] at hC
    simp (disch := omega) only [↓bd (E_held hC hp ht), u3_f, u3_s, u3_i, u3_j]
    exact GoC.st (GoC.ret hC k1) (by simp (disch := omega) only [u3_f, u3_s, u3_i, u3_j, u3_lt])
  · simp (disch := omega) only [fM_mint, ↓bd (M_pl1 hp _), ↓bd (M_tk1 ht _), ix_2m, ix_6m, ix_4m, ix_m4, ix_1s, ix_s, ix_s2, ix_s9, ix_s7, ix_s5, ix_s1, nI_add, nI_p1, ix_n, ix_z, ix_1, ix_eq, ix_le, ix_lt, ix_le0, nI_tc, n_leT, n_leF, n_ltT, n_ltF, n_eqT, n_eqF, or_self, or_false, false_or, ↓reduceIte, ↓qz_letL, ↓qz_letI, qz_oc_s, qz_oc_n, Option.bind_some, ne10, not_false_eq_true, l_x, l_0, l_1, l_60, l_80, l_100, l_105, l_k, l_xk, l_m, l_g, l_xg, l_t, l_ct, l_ex, l_mx, l_lt, l_le, l_eq, l_div, l_ite, lN_add, lN_sub, lN_mul, lN_addneg, ↓bd (M_all hM ok ht)]
    refine GoM.call (M_give hM hp ht (lN_add _ _)) KC.rf (fun N1 hM k1 => ?_)
    simp (disch := omega) only [↓bd (M_has hM hp ht), u3_f, u3_s, u3_i, u3_j]
    exact GoM.ret (hM.mint _ _) k1
def stV (S : St) (p t b h P w : Nat) : St := qz_u3 (qz_u3 (qz_u3 (qz_u3 S 0 p t b) 26 t 0 h) 27 t 0 P) 28 t p w
theorem ok_V {S : St} {c p t b h P w : Nat} (ok : Ok c S) (hp : p < 6) (ht : t < 4) (e0 : b + h = S 0 p t + S 26 t 0) (es : w + S 27 t 0 = S 28 t p + P) (hP : P ≤ h + cD (S 4) (S 31) (S 33) (S 34) (S 36) (S 29) t) : Ok c (stV S p t b h P w) := by
  obtain ⟨h1, h2, h3, h4, h5, h6', h7⟩ := ok
  unfold Ok stV
  simp (disch := omega) only [u3_f, u3_e]
  refine ⟨?_, h2, h3, h4, h5, ?_, h7⟩
  · intro t' ht'
    obtain ⟨a1, a2⟩ := h1 t' ht'
    refine ⟨?_, a2⟩
    have r1 := cB_up (bal := S 0) (p := p) (t0 := t) (v := b) hp t'
    rw [up_g]
    by_cases c1 : t' = t
    · subst c1
      rw [if_pos rfl, if_pos rfl] at r1
      rw [if_pos rfl]
      omega
    · rw [if_neg c1, if_neg c1] at r1
      rw [if_neg c1]
      omega
  · intro t' ht'
    obtain ⟨a1, a2, a3, a4, a5⟩ := h6' t' ht'
    rw [up_g, up_g]
    by_cases c1 : t' = t
    · subst c1
      rw [if_pos rfl, if_pos rfl]
      refine ⟨a1, a2, a3, ?_, hP⟩
      have r := sg_upd (f := fun a => S 28 t' a) (g := fun a => up2 (S 28) t' p w t' a) hp (fun a _ ha => up2_j ha)
      simp only [up2_s] at r
      show sg (fun a => up2 (S 28) t' p w t' a) 6 = P
      omega
    · rw [if_neg c1, if_neg c1, sg_congr (g := fun a => S 28 t' a) (fun a _ => up2_i c1)]
      exact ⟨a1, a2, a3, a4, a5⟩
theorem E_addParts {N : qz_N} {S : St} (hC : RC N S) {p t v w : Nat} {d : Int64} (hp : p < 6) (ht : t < 4) (hv : lN (S 28 t p) + d = lN v) (hw : lN (S 27 t 0) + d = lN w) : GoC N (fV_addParts t (nI p) d N) () (qz_u3 (qz_u3 S 28 t p v) 27 t 0 w) := by
  unfold fV_addParts
  rw [if_neg (nI_ok (n := 6) hp (by decide)), if_neg (nI_ok (n := 6) hp (by decide)), nI_tc (by omega), rC28 hC t p ht hp, hv]
  refine GoC.wr (wC28 hC t p v ht hp) (KM.sl (by decide)) (fun N1 h k => ?_)
  rw [rC27 h t ht, u3_f (by decide), hw]
  exact GoC.wr (wC27 h t w ht) (k.tr (KM.sl (by decide))) (fun N1 h k => GoC.ret h k)
theorem E_lend3 {N N0 : qz_N} {S : St} (hC : RC N S) (k0 : KM N0 N) {p t a n : Nat} (hp : p < 6) (ht : t < 4) (ha : a ≤ S 0 p t) (hn : 1 ≤ n) (hn' : n < 9223372036854775808) : GoC N0 (fE_lend_78 0 t N (nI p) (nI t) (lN a) (lN n)) (lN n) (stV S p t (S 0 p t - a) (S 26 t 0 + a) (S 27 t 0 + n) (S 28 t p + n)) := by
  unfold fE_lend_78
  simp (disch := omega) only [ix_2m, ix_6m, ix_4m, ix_m4, ix_1s, ix_s, ix_s2, ix_s9, ix_s7, ix_s5, ix_s1, nI_add, nI_p1, ix_n, ix_z, ix_1, ix_eq, ix_le, ix_lt, ix_le0, nI_tc, n_leT, n_leF, n_ltT, n_ltF, n_eqT, n_eqF, or_self, or_false, false_or, ↓reduceIte, ↓qz_letL, ↓qz_letI, qz_oc_s, qz_oc_n, Option.bind_some, ne10, not_false_eq_true, l_x, l_0, l_1, l_60, l_80, l_100, l_105, l_k, l_xk, l_m, l_g, l_xg, l_t, l_ct, l_ex, l_mx, l_lt, l_le, l_eq, l_div, l_ite, lN_add, lN_sub, lN_mul, lN_addneg]
  refine GoC.call (E_take hC hp ht ha) k0 (fun N1 hC k1 => ?_)
  simp (disch := omega) only [rC26 hC t ht, u3_f, u3_s, u3_i, u3_j, lN_add]
  refine GoC.wr (wC26 hC t (S 26 t 0 + a) ht) (k1.tr (KM.sl (by decide))) (fun N1 hC k1 => ?_)
  refine GoC.call (E_addParts hC (p := p) (t := t) (v := S 28 t p + n) (w := S 27 t 0 + n) hp ht (by simp (disch := omega) only [u3_f, u3_s, u3_i, u3_j, lN_add]) (by simp (disch := omega) only [u3_f, u3_s, u3_i, u3_j, lN_add])) k1 (fun N3 h3 k3 => GoC.st (GoC.ret h3 k3) ?_)
  unfold stV
  simp (disch := omega) only [u3_f, u3_s, u3_i, u3_j, u3_lt]
theorem M_lend3 {N N0 : qz_N} {S : St} (hM : RM N S) (k0 : KC N0 N) {p t a n : Nat} (hp : p < 6) (ht : t < 4) (ha : a ≤ S 0 p t) (hn : 1 ≤ n) (hn' : n < 9223372036854775808) : GoM N0 (fM_lend_70 0 N (nI p) (nI t) (lN a) (lN n)) (lN n) (stV S p t (S 0 p t - a) (S 26 t 0 + a) (S 27 t 0 + n) (S 28 t p + n)) := by
  unfold fM_lend_70
  simp (disch := omega) only [ix_2m, ix_6m, ix_4m, ix_m4, ix_1s, ix_s, ix_s2, ix_s9, ix_s7, ix_s5, ix_s1, nI_add, nI_p1, ix_n, ix_z, ix_1, ix_eq, ix_le, ix_lt, ix_le0, nI_tc, n_leT, n_leF, n_ltT, n_ltF, n_eqT, n_eqF, or_self, or_false, false_or, ↓reduceIte, ↓qz_letL, ↓qz_letI, qz_oc_s, qz_oc_n, Option.bind_some, ne10, not_false_eq_true, l_x, l_0, l_1, l_60, l_80, l_100, l_105, l_k, l_xk, l_m, l_g, l_xg, l_t, l_ct, l_ex, l_mx, l_lt, l_le, l_eq, l_div, l_ite, lN_add, lN_sub, lN_mul, lN_addneg]
  refine GoM.call (M_give hM hp ht (lN_addneg ha)) k0 (fun N1 hM k1 => ?_)
  simp (disch := omega) only [ix_2m, ix_6m, ix_4m, ix_m4, ix_1s, ix_s, ix_s2, ix_s9, ix_s7, ix_s5, ix_s1, nI_add, nI_p1, ix_n, ix_z, ix_1, ix_eq, ix_le, ix_lt, ix_le0, nI_tc, n_leT, n_leF, n_ltT, n_ltF, n_eqT, n_eqF, or_self, or_false, false_or, ↓reduceIte, ↓qz_letL, ↓qz_letI, qz_oc_s, qz_oc_n, Option.bind_some, ne10, not_false_eq_true, l_x, rM26 hM t ht, u3_f, u3_s, u3_i, u3_j, lN_add]
  refine GoM.wr (wM26 hM t (S 26 t 0 + a) ht) (k1.tr (KC.sl (by decide))) (fun N1 hM k1 => ?_)
  simp (disch := omega) only [ix_2m, ix_6m, ix_4m, ix_m4, ix_1s, ix_s, ix_s2, ix_s9, ix_s7, ix_s5, ix_s1, nI_add, nI_p1, ix_n, ix_z, ix_1, ix_eq, ix_le, ix_lt, ix_le0, nI_tc, n_leT, n_leF, n_ltT, n_ltF, n_eqT, n_eqF, or_self, or_false, false_or, ↓reduceIte, ↓qz_letL, ↓qz_letI, qz_oc_s, qz_oc_n, Option.bind_some, ne10, not_false_eq_true, l_x, rM27 hM t ht, u3_f, u3_s, u3_i, u3_j, lN_add]
  refine GoM.wr (wM27 hM t (S 27 t 0 + n) ht) (k1.tr (KC.sl (by decide))) (fun N1 hM k1 => ?_)
  simp (disch := omega) only [ix_2m, ix_6m, ix_4m, ix_m4, ix_1s, ix_s, ix_s2, ix_s9, ix_s7, ix_s5, ix_s1, nI_add, nI_p1, ix_n, ix_z, ix_1, ix_eq, ix_le, ix_lt, ix_le0, nI_tc, n_leT, n_leF, n_ltT, n_ltF, n_eqT, n_eqF, or_self, or_false, false_or, ↓reduceIte, ↓qz_letL, ↓qz_letI, qz_oc_s, qz_oc_n, Option.bind_some, ne10, not_false_eq_true, l_x, rM28 hM t p ht hp, u3_f, u3_s, u3_i, u3_j, lN_add]
  exact GoM.wr (wM28 hM t p (S 28 t p + n) ht hp) (k1.tr (KC.sl (by decide))) (fun N1 hM k1 => GoM.ret hM k1)
theorem op_lend {N : qz_N} {S : St} {c : Nat} (ok : Ok c S) (hC : RC N S) (hM : RM N S) (y x : Int32) (z : Int64) : Alike N (fE_lend 0 y x z) (fM_lend 0 y x z) (Ok c) := by
  rcases ixc y (n := 6) (by decide) with hy | ⟨p, hp, rfl⟩
  · exact Alike.mk' (r := -2) hM (GoC.of (by simp (disch := omega) only [fE_lend, ↓bd (E_pl0 hy _), ix_2m, ix_6m, ix_4m, ix_m4, ix_1s, ix_s, ix_s2, ix_s9, ix_s7, ix_s5, ix_s1, nI_add, nI_p1, ix_n, ix_z, ix_1, ix_eq, ix_le, ix_lt, ix_le0, nI_tc, n_leT, n_leF, n_ltT, n_ltF, n_eqT, n_eqF, or_self, or_false, false_or, ↓reduceIte, ↓qz_letL, ↓qz_letI, qz_oc_s, qz_oc_n, Option.bind_some, ne10, not_false_eq_true, l_x]) hC) (fun N1 hM => GoM.of (by simp (disch := omega) only [fM_lend, ↓bd (M_pl0 hy _), ix_2m, ix_6m, ix_4m, ix_m4, ix_1s, ix_s, ix_s2, ix_s9, ix_s7, ix_s5, ix_s1, nI_add, nI_p1, ix_n, ix_z, ix_1, ix_eq, ix_le, ix_lt, ix_le0, nI_tc, n_leT, n_leF, n_ltT, n_ltF, n_eqT, n_eqF, or_self, or_false, false_or, ↓reduceIte, ↓qz_letL, ↓qz_letI, qz_oc_s, qz_oc_n, Option.bind_some, ne10, not_false_eq_true, l_x]) hM) ok
  rcases ixc x (n := 4) (by decide) with hx | ⟨t, ht, rfl⟩
  · exact Alike.mk' (r := -2) hM (GoC.of (by simp (disch := omega) only [fE_lend, ↓bd (E_pl1 hp _), ↓bd (E_tk0 hx _), ix_2m, ix_6m, ix_4m, ix_m4, ix_1s, ix_s, ix_s2, ix_s9, ix_s7, ix_s5, ix_s1, nI_add, nI_p1, ix_n, ix_z, ix_1, ix_eq, ix_le, ix_lt, ix_le0, nI_tc, n_leT, n_leF, n_ltT, n_ltF, n_eqT, n_eqF, or_self, or_false, false_or, ↓reduceIte, ↓qz_letL, ↓qz_letI, qz_oc_s, qz_oc_n, Option.bind_some, ne10, not_false_eq_true, l_x]) hC) (fun N1 hM => GoM.of (by simp (disch := omega) only [fM_lend, ↓bd (M_pl1 hp _), ↓bd (M_tk0 hx _), ix_2m, ix_6m, ix_4m, ix_m4, ix_1s, ix_s, ix_s2, ix_s9, ix_s7, ix_s5, ix_s1, nI_add, nI_p1, ix_n, ix_z, ix_1, ix_eq, ix_le, ix_lt, ix_le0, nI_tc, n_leT, n_leF, n_ltT, n_ltF, n_eqT, n_eqF, or_self, or_false, false_or, ↓reduceIte, ↓qz_letL, ↓qz_letI, qz_oc_s, qz_oc_n, Option.bind_some, ne10, not_false_eq_true, l_x]) hM) ok
  rcases l_gi (x := z) with hz | ⟨a, h1, h2, rfl⟩
  · exact Alike.mk' (r := -2) hM (GoC.of (by simp (disch := omega) only [fE_lend, ↓bd (E_pl1 hp _), ↓bd (E_tk1 ht _), ix_2m, ix_6m, ix_4m, ix_m4, ix_1s, ix_s, ix_s2, ix_s9, ix_s7, ix_s5, ix_s1, nI_add, nI_p1, ix_n, ix_z, ix_1, ix_eq, ix_le, ix_lt, ix_le0, nI_tc, n_leT, n_leF, n_ltT, n_ltF, n_eqT, n_eqF, or_self, or_false, false_or, ↓reduceIte, ↓qz_letL, ↓qz_letI, qz_oc_s, qz_oc_n, Option.bind_some, ne10, not_false_eq_true, l_x, l_1, l_nle hz]) hC) (fun N1 hM => GoM.of (by simp (disch := omega) only [fM_lend, ↓bd (M_pl1 hp _), ↓bd (M_tk1 ht _), ix_2m, ix_6m, ix_4m, ix_m4, ix_1s, ix_s, ix_s2, ix_s9, ix_s7, ix_s5, ix_s1, nI_add, nI_p1, ix_n, ix_z, ix_1, ix_eq, ix_le, ix_lt, ix_le0, nI_tc, n_leT, n_leF, n_ltT, n_ltF, n_eqT, n_eqF, or_self, or_false, false_or, ↓reduceIte, ↓qz_letL, ↓qz_letI, qz_oc_s, qz_oc_n, Option.bind_some, ne10, not_false_eq_true, l_x, l_1, l_nle hz]) hM) ok
  have bb := ok.bal hp ht
  by_cases ha : a ≤ S 0 p t
  case neg => exact Alike.mk' (r := -3) hM (GoC.of (by simp (disch := omega) only [fE_lend, ↓bd (E_pl1 hp _), ↓bd (E_tk1 ht _), ix_2m, ix_6m, ix_4m, ix_m4, ix_1s, ix_s, ix_s2, ix_s9, ix_s7, ix_s5, ix_s1, nI_add, nI_p1, ix_n, ix_z, ix_1, ix_eq, ix_le, ix_lt, ix_le0, nI_tc, n_leT, n_leF, n_ltT, n_ltF, n_eqT, n_eqF, or_self, or_false, false_or, ↓reduceIte, ↓qz_letL, ↓qz_letI, qz_oc_s, qz_oc_n, Option.bind_some, ne10, not_false_eq_true, l_x, l_0, l_1, l_60, l_80, l_100, l_105, l_k, l_xk, l_m, l_g, l_xg, l_t, l_ct, l_ex, l_mx, l_lt, l_le, l_eq, l_div, l_ite, lN_add, lN_sub, lN_mul, lN_addneg, ↓bd (E_held hC hp ht)]) hC) (fun N1 hM => GoM.of (by simp (disch := omega) only [fM_lend, ↓bd (M_pl1 hp _), ↓bd (M_tk1 ht _), ix_2m, ix_6m, ix_4m, ix_m4, ix_1s, ix_s, ix_s2, ix_s9, ix_s7, ix_s5, ix_s1, nI_add, nI_p1, ix_n, ix_z, ix_1, ix_eq, ix_le, ix_lt, ix_le0, nI_tc, n_leT, n_leF, n_ltT, n_ltF, n_eqT, n_eqF, or_self, or_false, false_or, ↓reduceIte, ↓qz_letL, ↓qz_letI, qz_oc_s, qz_oc_n, Option.bind_some, ne10, not_false_eq_true, l_x, l_0, l_1, l_60, l_80, l_100, l_105, l_k, l_xk, l_m, l_g, l_xg, l_t, l_ct, l_ex, l_mx, l_lt, l_le, l_eq, l_div, l_ite, lN_add, lN_sub, lN_mul, lN_addneg, ↓bd (M_has hM hp ht)]) hM) ok
  have o6 := ok.2.2.2.2.2.1 t ht
  have wb := wV_b ok ht
  have pw : S 27 t 0 ≤ wV S t := o6.2.2.2.2
  by_cases hz : S 27 t 0 = 0
  · refine Alike.mk' (r := lN a) (S' := stV S p t (S 0 p t - a) (S 26 t 0 + a) (S 27 t 0 + a) (S 28 t p + a)) hM ?_ (fun N1 hM => ?_) (ok_V ok hp ht (by omega) (by omega) (by omega))
    · simp (disch := omega) only [fE_lend, ↓bd (E_pl1 hp _), ↓bd (E_tk1 ht _), ix_2m, ix_6m, ix_4m, ix_m4, ix_1s, ix_s, ix_s2, ix_s9, ix_s7, ix_s5, ix_s1, nI_add, nI_p1, ix_n, ix_z, ix_1, ix_eq, ix_le, ix_lt, ix_le0, nI_tc, n_leT, n_leF, n_ltT, n_ltF, n_eqT, n_eqF, or_self, or_false, false_or, ↓reduceIte, ↓qz_letL, ↓qz_letI, qz_oc_s, qz_oc_n, Option.bind_some, ne10, not_false_eq_true, l_x, l_0, l_1, l_60, l_80, l_100, l_105, l_k, l_xk, l_m, l_g, l_xg, l_t, l_ct, l_ex, l_mx, l_lt, l_le, l_eq, l_div, l_ite, lN_add, lN_sub, lN_mul, lN_addneg, ↓bd (E_held hC hp ht), rC27 hC t ht]
      exact E_lend3 hC KM.rf hp ht ha h1 h2
    · simp (disch := omega) only [fM_lend, ↓bd (M_pl1 hp _), ↓bd (M_tk1 ht _), ix_2m, ix_6m, ix_4m, ix_m4, ix_1s, ix_s, ix_s2, ix_s9, ix_s7, ix_s5, ix_s1, nI_add, nI_p1, ix_n, ix_z, ix_1, ix_eq, ix_le, ix_lt, ix_le0, nI_tc, n_leT, n_leF, n_ltT, n_ltF, n_eqT, n_eqF, or_self, or_false, false_or, ↓reduceIte, ↓qz_letL, ↓qz_letI, qz_oc_s, qz_oc_n, Option.bind_some, ne10, not_false_eq_true, l_x, l_0, l_1, l_60, l_80, l_100, l_105, l_k, l_xk, l_m, l_g, l_xg, l_t, l_ct, l_ex, l_mx, l_lt, l_le, l_eq, l_div, l_ite, lN_add, lN_sub, lN_mul, lN_addneg, ↓bd (M_has hM hp ht), rM27 hM t ht]
      exact M_lend3 hM KC.rf hp ht ha h1 h2
  · have hq : a * S 27 t 0 / wV S t ≤ a := div_le_of pw (by omega)
    have ea := A_to (a := a) (b := S 27 t 0) (d := wV S t) (by omega) (by omega) (by omega) (by omega) (by omega) N
    have em := M_pt (a := a) (b := S 27 t 0) (d := wV S t) (by omega) (by omega) (by omega) (by omega) (by omega)
    generalize a * S 27 t 0 / wV S t = n at *
    by_cases c0 : n = 0
    · refine Alike.mk' (r := -3) hM (GoC.of (by simp (disch := omega) only [fE_lend, ↓bd (E_pl1 hp _), ↓bd (E_tk1 ht _), ix_2m, ix_6m, ix_4m, ix_m4, ix_1s, ix_s, ix_s2, ix_s9, ix_s7, ix_s5, ix_s1, nI_add, nI_p1, ix_n, ix_z, ix_1, ix_eq, ix_le, ix_lt, ix_le0, nI_tc, n_leT, n_leF, n_ltT, n_ltF, n_eqT, n_eqF, or_self, or_false, false_or, ↓reduceIte, ↓qz_letL, ↓qz_letI, qz_oc_s, qz_oc_n, Option.bind_some, ne10, not_false_eq_true, l_x, l_0, l_1, l_60, l_80, l_100, l_105, l_k, l_xk, l_m, l_g, l_xg, l_t, l_ct, l_ex, l_mx, l_lt, l_le, l_eq, l_div, l_ite, lN_add, lN_sub, lN_mul, lN_addneg, ↓bd (E_held hC hp ht), rC27 hC t ht, ↓bd (E_worth hC ok ht), ↓bd ea, fE_lend_78]) hC) (fun N1 hM => ?_) ok
      simp (disch := omega) only [fM_lend, ↓bd (M_pl1 hp _), ↓bd (M_tk1 ht _), ix_2m, ix_6m, ix_4m, ix_m4, ix_1s, ix_s, ix_s2, ix_s9, ix_s7, ix_s5, ix_s1, nI_add, nI_p1, ix_n, ix_z, ix_1, ix_eq, ix_le, ix_lt, ix_le0, nI_tc, n_leT, n_leF, n_ltT, n_ltF, n_eqT, n_eqF, or_self, or_false, false_or, ↓reduceIte, ↓qz_letL, ↓qz_letI, qz_oc_s, qz_oc_n, Option.bind_some, ne10, not_false_eq_true, l_x, l_0, l_1, l_60, l_80, l_100, l_105, l_k, l_xk, l_m, l_g, l_xg, l_t, l_ct, l_ex, l_mx, l_lt, l_le, l_eq, l_div, l_ite, lN_add, lN_sub, lN_mul, lN_addneg, ↓bd (M_has hM hp ht), rM27 hM t ht]
      refine GoM.scr (M_worth hM ok ht) hM KC.rf (fun N1 hM k1 => ?_)
      refine GoM.scr (em _) hM k1 (fun N1 hM k1 => ?_)
      simp (disch := omega) only [fM_lend_70, ix_2m, ix_6m, ix_4m, ix_m4, ix_1s, ix_s, ix_s2, ix_s9, ix_s7, ix_s5, ix_s1, nI_add, nI_p1, ix_n, ix_z, ix_1, ix_eq, ix_le, ix_lt, ix_le0, nI_tc, n_leT, n_leF, n_ltT, n_ltF, n_eqT, n_eqF, or_self, or_false, false_or, ↓reduceIte, ↓qz_letL, ↓qz_letI, qz_oc_s, qz_oc_n, Option.bind_some, ne10, not_false_eq_true, l_x, l_0, l_1, l_60, l_80, l_100, l_105, l_k, l_xk, l_m, l_g, l_xg, l_t, l_ct, l_ex, l_mx, l_lt, l_le, l_eq, l_div, l_ite, lN_add, lN_sub, lN_mul, lN_addneg]
      exact GoM.ret hM k1
    · refine Alike.mk' (r := lN n) (S' := stV S p t (S 0 p t - a) (S 26 t 0 + a) (S 27 t 0 + n) (S 28 t p + n)) hM ?_ (fun N1 hM => ?_) (ok_V ok hp ht (by omega) (by omega) (by unfold wV at pw; omega))
      · simp (disch := omega) only [fE_lend, ↓bd (E_pl1 hp _), ↓bd (E_tk1 ht _), ix_2m, ix_6m, ix_4m, ix_m4, ix_1s, ix_s, ix_s2, ix_s9, ix_s7, ix_s5, ix_s1, nI_add, nI_p1, ix_n, ix_z, ix_1, ix_eq, ix_le, ix_lt, ix_le0, nI_tc, n_leT, n_leF, n_ltT, n_ltF, n_eqT, n_eqF, or_self, or_false, false_or, ↓reduceIte, ↓qz_letL, ↓qz_letI, qz_oc_s, qz_oc_n, Option.bind_some, ne10, not_false_eq_true, l_x, l_0, l_1, l_60, l_80, l_100, l_105, l_k, l_xk, l_m, l_g, l_xg, l_t, l_ct, l_ex, l_mx, l_lt, l_le, l_eq, l_div, l_ite, lN_add, lN_sub, lN_mul, lN_addneg, ↓bd (E_held hC hp ht), rC27 hC t ht, ↓bd (E_worth hC ok ht), ↓bd ea]
        exact E_lend3 hC KM.rf hp ht ha (by omega) (by omega)
      · simp (disch := omega) only [fM_lend, ↓bd (M_pl1 hp _), ↓bd (M_tk1 ht _), ix_2m, ix_6m, ix_4m, ix_m4, ix_1s, ix_s, ix_s2, ix_s9, ix_s7, ix_s5, ix_s1, nI_add, nI_p1, ix_n, ix_z, ix_1, ix_eq, ix_le, ix_lt, ix_le0, nI_tc, n_leT, n_leF, n_ltT, n_ltF, n_eqT, n_eqF, or_self, or_false, false_or, ↓reduceIte, ↓qz_letL, ↓qz_letI, qz_oc_s, qz_oc_n, Option.bind_some, ne10, not_false_eq_true, l_x, l_0, l_1, l_60, l_80, l_100, l_105, l_k, l_xk, l_m, l_g, l_xg, l_t, l_ct, l_ex, l_mx, l_lt, l_le, l_eq, l_div, l_ite, lN_add, lN_sub, lN_mul, lN_addneg, ↓bd (M_has hM hp ht), rM27 hM t ht]
        refine GoM.scr (M_worth hM ok ht) hM KC.rf (fun N1 hM k1 => ?_)
        refine GoM.scr (em _) hM k1 (fun N1 hM k1 => ?_)
        exact M_lend3 hM k1 hp ht ha (by omega) (by omega)
theorem rd_le {W P n a : Nat} (h0 : 1 ≤ P) (hP : P ≤ W) (hn : n ≤ P) (ha : a * P ≤ n * W) : P - n ≤ W - a := by
  have h1 := lv_side (x := W) (s := P) (n := n) (a := a) ha
  have h2 := Nat.mul_le_mul_right (P - n) hP
  refine Nat.le_of_mul_le_mul_left (c := P) ?_ (by omega)
  rw [Nat.mul_comm P (W - a)]
  omega
theorem op_redeem {N : qz_N} {S : St} {c : Nat} (ok : Ok c S) (hC : RC N S) (hM : RM N S) (y x : Int32) (z : Int64) : Alike N (fE_redeem 0 y x z) (fM_redeem 0 y x z) (Ok c) := by
  rcases ixc y (n := 6) (by decide) with hy | ⟨p, hp, rfl⟩
  · exact Alike.mk' (r := -2) hM (GoC.of (by simp (disch := omega) only [fE_redeem, ↓bd (E_pl0 hy _), ix_2m, ix_6m, ix_4m, ix_m4, ix_1s, ix_s, ix_s2, ix_s9, ix_s7, ix_s5, ix_s1, nI_add, nI_p1, ix_n, ix_z, ix_1, ix_eq, ix_le, ix_lt, ix_le0, nI_tc, n_leT, n_leF, n_ltT, n_ltF, n_eqT, n_eqF, or_self, or_false, false_or, ↓reduceIte, ↓qz_letL, ↓qz_letI, qz_oc_s, qz_oc_n, Option.bind_some, ne10, not_false_eq_true, l_x]) hC) (fun N1 hM => GoM.of (by simp (disch := omega) only [fM_redeem, ↓bd (M_pl0 hy _), ix_2m, ix_6m, ix_4m, ix_m4, ix_1s, ix_s, ix_s2, ix_s9, ix_s7, ix_s5, ix_s1, nI_add, nI_p1, ix_n, ix_z, ix_1, ix_eq, ix_le, ix_lt, ix_le0, nI_tc, n_leT, n_leF, n_ltT, n_ltF, n_eqT, n_eqF, or_self, or_false, false_or, ↓reduceIte, ↓qz_letL, ↓qz_letI, qz_oc_s, qz_oc_n, Option.bind_some, ne10, not_false_eq_true, l_x]) hM) ok
  rcases ixc x (n := 4) (by decide) with hx | ⟨t, ht, rfl⟩
  · exact Alike.mk' (r := -2) hM (GoC.of (by simp (disch := omega) only [fE_redeem, ↓bd (E_pl1 hp _), ↓bd (E_tk0 hx _), ix_2m, ix_6m, ix_4m, ix_m4, ix_1s, ix_s, ix_s2, ix_s9, ix_s7, ix_s5, ix_s1, nI_add, nI_p1, ix_n, ix_z, ix_1, ix_eq, ix_le, ix_lt, ix_le0, nI_tc, n_leT, n_leF, n_ltT, n_ltF, n_eqT, n_eqF, or_self, or_false, false_or, ↓reduceIte, ↓qz_letL, ↓qz_letI, qz_oc_s, qz_oc_n, Option.bind_some, ne10, not_false_eq_true, l_x]) hC) (fun N1 hM => GoM.of (by simp (disch := omega) only [fM_redeem, ↓bd (M_pl1 hp _), ↓bd (M_tk0 hx _), ix_2m, ix_6m, ix_4m, ix_m4, ix_1s, ix_s, ix_s2, ix_s9, ix_s7, ix_s5, ix_s1, nI_add, nI_p1, ix_n, ix_z, ix_1, ix_eq, ix_le, ix_lt, ix_le0, nI_tc, n_leT, n_leF, n_ltT, n_ltF, n_eqT, n_eqF, or_self, or_false, false_or, ↓reduceIte, ↓qz_letL, ↓qz_letI, qz_oc_s, qz_oc_n, Option.bind_some, ne10, not_false_eq_true, l_x]) hM) ok
  rcases l_gi (x := z) with hz | ⟨n, h1, h2, rfl⟩
  · exact Alike.mk' (r := -2) hM (GoC.of (by simp (disch := omega) only [fE_redeem, ↓bd (E_pl1 hp _), ↓bd (E_tk1 ht _), ix_2m, ix_6m, ix_4m, ix_m4, ix_1s, ix_s, ix_s2, ix_s9, ix_s7, ix_s5, ix_s1, nI_add, nI_p1, ix_n, ix_z, ix_1, ix_eq, ix_le, ix_lt, ix_le0, nI_tc, n_leT, n_leF, n_ltT, n_ltF, n_eqT, n_eqF, or_self, or_false, false_or, ↓reduceIte, ↓qz_letL, ↓qz_letI, qz_oc_s, qz_oc_n, Option.bind_some, ne10, not_false_eq_true, l_x, l_1, l_nle hz]) hC) (fun N1 hM => GoM.of (by simp (disch := omega) only [fM_redeem, ↓bd (M_pl1 hp _), ↓bd (M_tk1 ht _), ix_2m, ix_6m, ix_4m, ix_m4, ix_1s, ix_s, ix_s2, ix_s9, ix_s7, ix_s5, ix_s1, nI_add, nI_p1, ix_n, ix_z, ix_1, ix_eq, ix_le, ix_lt, ix_le0, nI_tc, n_leT, n_leF, n_ltT, n_ltF, n_eqT, n_eqF, or_self, or_false, false_or, ↓reduceIte, ↓qz_letL, ↓qz_letI, qz_oc_s, qz_oc_n, Option.bind_some, ne10, not_false_eq_true, l_x, l_1, l_nle hz]) hM) ok
  have o6 := ok.2.2.2.2.2.1 t ht
  have wb := wV_b ok ht
  have vb := ok.vhas ht
  have pw : S 27 t 0 ≤ wV S t := o6.2.2.2.2
  have vo := ok.vof ht hp
  by_cases hb : n ≤ S 28 t p
  case neg => exact Alike.mk' (r := -3) hM (GoC.of (by simp (disch := omega) only [fE_redeem, ↓bd (E_pl1 hp _), ↓bd (E_tk1 ht _), ix_2m, ix_6m, ix_4m, ix_m4, ix_1s, ix_s, ix_s2, ix_s9, ix_s7, ix_s5, ix_s1, nI_add, nI_p1, ix_n, ix_z, ix_1, ix_eq, ix_le, ix_lt, ix_le0, nI_tc, n_leT, n_leF, n_ltT, n_ltF, n_eqT, n_eqF, or_self, or_false, false_or, ↓reduceIte, ↓qz_letL, ↓qz_letI, qz_oc_s, qz_oc_n, Option.bind_some, ne10, not_false_eq_true, l_x, l_0, l_1, l_60, l_80, l_100, l_105, l_k, l_xk, l_m, l_g, l_xg, l_t, l_ct, l_ex, l_mx, l_lt, l_le, l_eq, l_div, l_ite, lN_add, lN_sub, lN_mul, lN_addneg, rC28 hC t p ht hp]) hC) (fun N1 hM => GoM.of (by simp (disch := omega) only [fM_redeem, ↓bd (M_pl1 hp _), ↓bd (M_tk1 ht _), ix_2m, ix_6m, ix_4m, ix_m4, ix_1s, ix_s, ix_s2, ix_s9, ix_s7, ix_s5, ix_s1, nI_add, nI_p1, ix_n, ix_z, ix_1, ix_eq, ix_le, ix_lt, ix_le0, nI_tc, n_leT, n_leF, n_ltT, n_ltF, n_eqT, n_eqF, or_self, or_false, false_or, ↓reduceIte, ↓qz_letL, ↓qz_letI, qz_oc_s, qz_oc_n, Option.bind_some, ne10, not_false_eq_true, l_x, l_0, l_1, l_60, l_80, l_100, l_105, l_k, l_xk, l_m, l_g, l_xg, l_t, l_ct, l_ex, l_mx, l_lt, l_le, l_eq, l_div, l_ite, lN_add, lN_sub, lN_mul, lN_addneg, rM28 hM t p ht hp]) hM) ok
  have hq : n * wV S t / S 27 t 0 ≤ wV S t := by rw [Nat.mul_comm]; exact div_le_of (by omega) (by omega)
  have ea := A_to (a := n) (b := wV S t) (d := S 27 t 0) (by omega) (by omega) (by omega) (by omega) (by omega) N
  have em := M_pt (a := n) (b := wV S t) (d := S 27 t 0) (by omega) (by omega) (by omega) (by omega) (by omega)
  have hd := Nat.div_mul_le_self (n * wV S t) (S 27 t 0)
  generalize n * wV S t / S 27 t 0 = a at *
  by_cases c0 : a = 0
  · refine Alike.mk' (r := -3) hM (GoC.of (by simp (disch := omega) only [fE_redeem, ↓bd (E_pl1 hp _), ↓bd (E_tk1 ht _), ix_2m, ix_6m, ix_4m, ix_m4, ix_1s, ix_s, ix_s2, ix_s9, ix_s7, ix_s5, ix_s1, nI_add, nI_p1, ix_n, ix_z, ix_1, ix_eq, ix_le, ix_lt, ix_le0, nI_tc, n_leT, n_leF, n_ltT, n_ltF, n_eqT, n_eqF, or_self, or_false, false_or, ↓reduceIte, ↓qz_letL, ↓qz_letI, qz_oc_s, qz_oc_n, Option.bind_some, ne10, not_false_eq_true, l_x, l_0, l_1, l_60, l_80, l_100, l_105, l_k, l_xk, l_m, l_g, l_xg, l_t, l_ct, l_ex, l_mx, l_lt, l_le, l_eq, l_div, l_ite, lN_add, lN_sub, lN_mul, lN_addneg, rC28 hC t p ht hp, ↓bd (E_worth hC ok ht), rC27 hC t ht, ↓bd ea]) hC) (fun N1 hM => ?_) ok
    simp (disch := omega) only [fM_redeem, ↓bd (M_pl1 hp _), ↓bd (M_tk1 ht _), ix_2m, ix_6m, ix_4m, ix_m4, ix_1s, ix_s, ix_s2, ix_s9, ix_s7, ix_s5, ix_s1, nI_add, nI_p1, ix_n, ix_z, ix_1, ix_eq, ix_le, ix_lt, ix_le0, nI_tc, n_leT, n_leF, n_ltT, n_ltF, n_eqT, n_eqF, or_self, or_false, false_or, ↓reduceIte, ↓qz_letL, ↓qz_letI, qz_oc_s, qz_oc_n, Option.bind_some, ne10, not_false_eq_true, l_x, l_0, l_1, l_60, l_80, l_100, l_105, l_k, l_xk, l_m, l_g, l_xg, l_t, l_ct, l_ex, l_mx, l_lt, l_le, l_eq, l_div, l_ite, lN_add, lN_sub, lN_mul, lN_addneg, rM28 hM t p ht hp]
    refine GoM.scr (M_worth hM ok ht) hM KC.rf (fun N1 hM k1 => ?_)
    simp (disch := omega) only [ix_2m, ix_6m, ix_4m, ix_m4, ix_1s, ix_s, ix_s2, ix_s9, ix_s7, ix_s5, ix_s1, nI_add, nI_p1, ix_n, ix_z, ix_1, ix_eq, ix_le, ix_lt, ix_le0, nI_tc, n_leT, n_leF, n_ltT, n_ltF, n_eqT, n_eqF, or_self, or_false, false_or, ↓reduceIte, ↓qz_letL, ↓qz_letI, qz_oc_s, qz_oc_n, Option.bind_some, ne10, not_false_eq_true, l_x, rM27 hM t ht]
    refine GoM.scr (em _) hM k1 (fun N1 hM k1 => ?_)
    simp (disch := omega) only [ix_2m, ix_6m, ix_4m, ix_m4, ix_1s, ix_s, ix_s2, ix_s9, ix_s7, ix_s5, ix_s1, nI_add, nI_p1, ix_n, ix_z, ix_1, ix_eq, ix_le, ix_lt, ix_le0, nI_tc, n_leT, n_leF, n_ltT, n_ltF, n_eqT, n_eqF, or_self, or_false, false_or, ↓reduceIte, ↓qz_letL, ↓qz_letI, qz_oc_s, qz_oc_n, Option.bind_some, ne10, not_false_eq_true, l_x, l_0, l_1, l_60, l_80, l_100, l_105, l_k, l_xk, l_m, l_g, l_xg, l_t, l_ct, l_ex, l_mx, l_lt, l_le, l_eq, l_div, l_ite, lN_add, lN_sub, lN_mul, lN_addneg]
    exact GoM.ret hM k1
  by_cases c1 : a ≤ S 26 t 0
  case neg =>
    refine Alike.mk' (r := -3) hM (GoC.of (by simp (disch := omega) only [fE_redeem, ↓bd (E_pl1 hp _), ↓bd (E_tk1 ht _), ix_2m, ix_6m, ix_4m, ix_m4, ix_1s, ix_s, ix_s2, ix_s9, ix_s7, ix_s5, ix_s1, nI_add, nI_p1, ix_n, ix_z, ix_1, ix_eq, ix_le, ix_lt, ix_le0, nI_tc, n_leT, n_leF, n_ltT, n_ltF, n_eqT, n_eqF, or_self, or_false, false_or, ↓reduceIte, ↓qz_letL, ↓qz_letI, qz_oc_s, qz_oc_n, Option.bind_some, ne10, not_false_eq_true, l_x, l_0, l_1, l_60, l_80, l_100, l_105, l_k, l_xk, l_m, l_g, l_xg, l_t, l_ct, l_ex, l_mx, l_lt, l_le, l_eq, l_div, l_ite, lN_add, lN_sub, lN_mul, lN_addneg, rC28 hC t p ht hp, ↓bd (E_worth hC ok ht), rC27 hC t ht, ↓bd ea, rC26 hC t ht]) hC) (fun N1 hM => ?_) ok
    simp (disch := omega) only [fM_redeem, ↓bd (M_pl1 hp _), ↓bd (M_tk1 ht _), ix_2m, ix_6m, ix_4m, ix_m4, ix_1s, ix_s, ix_s2, ix_s9, ix_s7, ix_s5, ix_s1, nI_add, nI_p1, ix_n, ix_z, ix_1, ix_eq, ix_le, ix_lt, ix_le0, nI_tc, n_leT, n_leF, n_ltT, n_ltF, n_eqT, n_eqF, or_self, or_false, false_or, ↓reduceIte, ↓qz_letL, ↓qz_letI, qz_oc_s, qz_oc_n, Option.bind_some, ne10, not_false_eq_true, l_x, l_0, l_1, l_60, l_80, l_100, l_105, l_k, l_xk, l_m, l_g, l_xg, l_t, l_ct, l_ex, l_mx, l_lt, l_le, l_eq, l_div, l_ite, lN_add, lN_sub, lN_mul, lN_addneg, rM28 hM t p ht hp]
    refine GoM.scr (M_worth hM ok ht) hM KC.rf (fun N1 hM k1 => ?_)
    simp (disch := omega) only [ix_2m, ix_6m, ix_4m, ix_m4, ix_1s, ix_s, ix_s2, ix_s9, ix_s7, ix_s5, ix_s1, nI_add, nI_p1, ix_n, ix_z, ix_1, ix_eq, ix_le, ix_lt, ix_le0, nI_tc, n_leT, n_leF, n_ltT, n_ltF, n_eqT, n_eqF, or_self, or_false, false_or, ↓reduceIte, ↓qz_letL, ↓qz_letI, qz_oc_s, qz_oc_n, Option.bind_some, ne10, not_false_eq_true, l_x, rM27 hM t ht]
    refine GoM.scr (em _) hM k1 (fun N1 hM k1 => ?_)
    simp (disch := omega) only [ix_2m, ix_6m, ix_4m, ix_m4, ix_1s, ix_s, ix_s2, ix_s9, ix_s7, ix_s5, ix_s1, nI_add, nI_p1, ix_n, ix_z, ix_1, ix_eq, ix_le, ix_lt, ix_le0, nI_tc, n_leT, n_leF, n_ltT, n_ltF, n_eqT, n_eqF, or_self, or_false, false_or, ↓reduceIte, ↓qz_letL, ↓qz_letI, qz_oc_s, qz_oc_n, Option.bind_some, ne10, not_false_eq_true, l_x, l_0, l_1, l_60, l_80, l_100, l_105, l_k, l_xk, l_m, l_g, l_xg, l_t, l_ct, l_ex, l_mx, l_lt, l_le, l_eq, l_div, l_ite, lN_add, lN_sub, lN_mul, lN_addneg, rM26 hM t ht]
    exact GoM.ret hM k1
  refine Alike.mk' (r := lN a) (S' := stV S p t (S 0 p t + a) (S 26 t 0 - a) (S 27 t 0 - n) (S 28 t p - n)) hM ?_ (fun N1 hM => ?_) (ok_V ok hp ht (by omega) (by omega) ?_)
  · simp (disch := omega) only [fE_redeem, ↓bd (E_pl1 hp _), ↓bd (E_tk1 ht _), ix_2m, ix_6m, ix_4m, ix_m4, ix_1s, ix_s, ix_s2, ix_s9, ix_s7, ix_s5, ix_s1, nI_add, nI_p1, ix_n, ix_z, ix_1, ix_eq, ix_le, ix_lt, ix_le0, nI_tc, n_leT, n_leF, n_ltT, n_ltF, n_eqT, n_eqF, or_self, or_false, false_or, ↓reduceIte, ↓qz_letL, ↓qz_letI, qz_oc_s, qz_oc_n, Option.bind_some, ne10, not_false_eq_true, l_x, l_0, l_1, l_60, l_80, l_100, l_105, l_k, l_xk, l_m, l_g, l_xg, l_t, l_ct, l_ex, l_mx, l_lt, l_le, l_eq, l_div, l_ite, lN_add, lN_sub, lN_mul, lN_addneg, rC28 hC t p ht hp, ↓bd (E_worth hC ok ht), rC27 hC t ht, ↓bd ea, rC26 hC t ht]
    refine GoC.call (E_addParts hC (p := p) (t := t) (v := S 28 t p - n) (w := S 27 t 0 - n) hp ht (by simp (disch := omega) only [u3_f, u3_s, u3_i, u3_j, lN_addneg]) (by simp (disch := omega) only [u3_f, u3_s, u3_i, u3_j, lN_addneg])) KM.rf (fun N3 hC k1 => ?_)
    simp (disch := omega) only [rC26 hC t ht, u3_f, u3_s, u3_i, u3_j, lN_sub]
    refine GoC.wr (wC26 hC t (S 26 t 0 - a) ht) (k1.tr (KM.sl (by decide))) (fun N1 hC k1 => ?_)
    refine GoC.call (E_give hC hp ht) k1 (fun N1 hC k1 => GoC.st (GoC.ret hC k1) ?_)
    unfold stV
    simp (disch := omega) only [u3_f, u3_s, u3_i, u3_j, u3_lt]
  · simp (disch := omega) only [fM_redeem, ↓bd (M_pl1 hp _), ↓bd (M_tk1 ht _), ix_2m, ix_6m, ix_4m, ix_m4, ix_1s, ix_s, ix_s2, ix_s9, ix_s7, ix_s5, ix_s1, nI_add, nI_p1, ix_n, ix_z, ix_1, ix_eq, ix_le, ix_lt, ix_le0, nI_tc, n_leT, n_leF, n_ltT, n_ltF, n_eqT, n_eqF, or_self, or_false, false_or, ↓reduceIte, ↓qz_letL, ↓qz_letI, qz_oc_s, qz_oc_n, Option.bind_some, ne10, not_false_eq_true, l_x, l_0, l_1, l_60, l_80, l_100, l_105, l_k, l_xk, l_m, l_g, l_xg, l_t, l_ct, l_ex, l_mx, l_lt, l_le, l_eq, l_div, l_ite, lN_add, lN_sub, lN_mul, lN_addneg, rM28 hM t p ht hp]
    refine GoM.scr (M_worth hM ok ht) hM KC.rf (fun N1 hM k1 => ?_)
    simp (disch := omega) only [ix_2m, ix_6m, ix_4m, ix_m4, ix_1s, ix_s, ix_s2, ix_s9, ix_s7, ix_s5, ix_s1, nI_add, nI_p1, ix_n, ix_z, ix_1, ix_eq, ix_le, ix_lt, ix_le0, nI_tc, n_leT, n_leF, n_ltT, n_ltF, n_eqT, n_eqF, or_self, or_false, false_or, ↓reduceIte, ↓qz_letL, ↓qz_letI, qz_oc_s, qz_oc_n, Option.bind_some, ne10, not_false_eq_true, l_x, rM27 hM t ht]
    refine GoM.scr (em _) hM k1 (fun N1 hM k1 => ?_)
    simp (disch := omega) only [ix_2m, ix_6m, ix_4m, ix_m4, ix_1s, ix_s, ix_s2, ix_s9, ix_s7, ix_s5, ix_s1, nI_add, nI_p1, ix_n, ix_z, ix_1, ix_eq, ix_le, ix_lt, ix_le0, nI_tc, n_leT, n_leF, n_ltT, n_ltF, n_eqT, n_eqF, or_self, or_false, false_or, ↓reduceIte, ↓qz_letL, ↓qz_letI, qz_oc_s, qz_oc_n, Option.bind_some, ne10, not_false_eq_true, l_x, l_0, l_1, l_60, l_80, l_100, l_105, l_k, l_xk, l_m, l_g, l_xg, l_t, l_ct, l_ex, l_mx, l_lt, l_le, l_eq, l_div, l_ite, lN_add, lN_sub, lN_mul, lN_addneg, rM26 hM t ht]
    refine GoM.wr (wM26 hM t (S 26 t 0 - a) ht) (k1.tr (KC.sl (by decide))) (fun N1 hM k1 => ?_)
    refine GoM.call (M_give hM (w := S 0 p t + a) hp ht (by simp (disch := omega) only [u3_f, u3_s, u3_i, u3_j, lN_add])) k1 (fun N1 hM k1 => ?_)
    simp (disch := omega) only [ix_2m, ix_6m, ix_4m, ix_m4, ix_1s, ix_s, ix_s2, ix_s9, ix_s7, ix_s5, ix_s1, nI_add, nI_p1, ix_n, ix_z, ix_1, ix_eq, ix_le, ix_lt, ix_le0, nI_tc, n_leT, n_leF, n_ltT, n_ltF, n_eqT, n_eqF, or_self, or_false, false_or, ↓reduceIte, ↓qz_letL, ↓qz_letI, qz_oc_s, qz_oc_n, Option.bind_some, ne10, not_false_eq_true, l_x, rM27 hM t ht, u3_f, u3_s, u3_i, u3_j, lN_sub]
    refine GoM.wr (wM27 hM t (S 27 t 0 - n) ht) (k1.tr (KC.sl (by decide))) (fun N1 hM k1 => ?_)
    simp (disch := omega) only [ix_2m, ix_6m, ix_4m, ix_m4, ix_1s, ix_s, ix_s2, ix_s9, ix_s7, ix_s5, ix_s1, nI_add, nI_p1, ix_n, ix_z, ix_1, ix_eq, ix_le, ix_lt, ix_le0, nI_tc, n_leT, n_leF, n_ltT, n_ltF, n_eqT, n_eqF, or_self, or_false, false_or, ↓reduceIte, ↓qz_letL, ↓qz_letI, qz_oc_s, qz_oc_n, Option.bind_some, ne10, not_false_eq_true, l_x, rM28 hM t p ht hp, u3_f, u3_s, u3_i, u3_j, lN_sub]
    refine GoM.wr (wM28 hM t p (S 28 t p - n) ht hp) (k1.tr (KC.sl (by decide))) (fun N1 hM k1 => GoM.st (GoM.ret hM k1) ?_)
    unfold stV
    simp (disch := omega) only [u3_f, u3_s, u3_i, u3_j, u3_lt]
  · have := rd_le (by omega) pw (by omega) hd
    unfold wV at this
    omega
theorem ok_rate {S : St} {c t v : Nat} (ok : Ok c S) (hv : v ≤ 1000000) : Ok c (qz_u3 S 30 t 0 v) := by
  obtain ⟨h1, h2, h3, h4, h5, h6', h7⟩ := ok
  unfold Ok
  simp (disch := omega) only [u3_f, u3_e]
  refine ⟨h1, h2, h3, h4, h5, ?_, h7⟩
  intro t' ht'
  obtain ⟨a1, a2, a3, a4, a5⟩ := h6' t' ht'
  rw [up_g]
  refine ⟨a1, a2, ?_, a4, a5⟩
  split
  · exact hv
  · exact a3
theorem op_rate {N : qz_N} {S : St} {c : Nat} (ok : Ok c S) (hC : RC N S) (hM : RM N S) (x : Int32) (z : Int64) : Alike N (fE_rate 0 x z) (fM_rate 0 x z) (Ok c) := by
  rcases ixc x (n := 4) (by decide) with hx | ⟨t, ht, rfl⟩
  · exact Alike.mk' (r := -2) hM (GoC.of (by simp (disch := omega) only [fE_rate, ↓bd (E_tk0 hx _), ix_2m, ix_6m, ix_4m, ix_m4, ix_1s, ix_s, ix_s2, ix_s9, ix_s7, ix_s5, ix_s1, nI_add, nI_p1, ix_n, ix_z, ix_1, ix_eq, ix_le, ix_lt, ix_le0, nI_tc, n_leT, n_leF, n_ltT, n_ltF, n_eqT, n_eqF, or_self, or_false, false_or, ↓reduceIte, ↓qz_letL, ↓qz_letI, qz_oc_s, qz_oc_n, Option.bind_some, ne10, not_false_eq_true, l_x]) hC) (fun N1 hM => GoM.of (by simp (disch := omega) only [fM_rate, ↓bd (M_tk0 hx _), ix_2m, ix_6m, ix_4m, ix_m4, ix_1s, ix_s, ix_s2, ix_s9, ix_s7, ix_s5, ix_s1, nI_add, nI_p1, ix_n, ix_z, ix_1, ix_eq, ix_le, ix_lt, ix_le0, nI_tc, n_leT, n_leF, n_ltT, n_ltF, n_eqT, n_eqF, or_self, or_false, false_or, ↓reduceIte, ↓qz_letL, ↓qz_letI, qz_oc_s, qz_oc_n, Option.bind_some, ne10, not_false_eq_true, l_x]) hM) ok
  rcases l_g0 (x := z) with hz | ⟨v, h2, rfl⟩
  · exact Alike.mk' (r := -2) hM (GoC.of (by simp (disch := omega) only [fE_rate, ↓bd (E_tk1 ht _), ix_2m, ix_6m, ix_4m, ix_m4, ix_1s, ix_s, ix_s2, ix_s9, ix_s7, ix_s5, ix_s1, nI_add, nI_p1, ix_n, ix_z, ix_1, ix_eq, ix_le, ix_lt, ix_le0, nI_tc, n_leT, n_leF, n_ltT, n_ltF, n_eqT, n_eqF, or_self, or_false, false_or, ↓reduceIte, ↓qz_letL, ↓qz_letI, qz_oc_s, qz_oc_n, Option.bind_some, ne10, not_false_eq_true, l_x, l_0, hz]) hC) (fun N1 hM => GoM.of (by simp (disch := omega) only [fM_rate, ↓bd (M_tk1 ht _), ix_2m, ix_6m, ix_4m, ix_m4, ix_1s, ix_s, ix_s2, ix_s9, ix_s7, ix_s5, ix_s1, nI_add, nI_p1, ix_n, ix_z, ix_1, ix_eq, ix_le, ix_lt, ix_le0, nI_tc, n_leT, n_leF, n_ltT, n_ltF, n_eqT, n_eqF, or_self, or_false, false_or, ↓reduceIte, ↓qz_letL, ↓qz_letI, qz_oc_s, qz_oc_n, Option.bind_some, ne10, not_false_eq_true, l_x, l_0, hz]) hM) ok
  by_cases hv : v ≤ 1000000
  case neg => exact Alike.mk' (r := -2) hM (GoC.of (by simp (disch := omega) only [fE_rate, ↓bd (E_tk1 ht _), ix_2m, ix_6m, ix_4m, ix_m4, ix_1s, ix_s, ix_s2, ix_s9, ix_s7, ix_s5, ix_s1, nI_add, nI_p1, ix_n, ix_z, ix_1, ix_eq, ix_le, ix_lt, ix_le0, nI_tc, n_leT, n_leF, n_ltT, n_ltF, n_eqT, n_eqF, or_self, or_false, false_or, ↓reduceIte, ↓qz_letL, ↓qz_letI, qz_oc_s, qz_oc_n, Option.bind_some, ne10, not_false_eq_true, l_x, l_0, l_1, l_60, l_80, l_100, l_105, l_k, l_xk, l_m, l_g, l_xg, l_t, l_ct, l_ex, l_mx, l_lt, l_le, l_eq, l_div, l_ite, lN_add, lN_sub, lN_mul, lN_addneg]) hC) (fun N1 hM => GoM.of (by simp (disch := omega) only [fM_rate, ↓bd (M_tk1 ht _), ix_2m, ix_6m, ix_4m, ix_m4, ix_1s, ix_s, ix_s2, ix_s9, ix_s7, ix_s5, ix_s1, nI_add, nI_p1, ix_n, ix_z, ix_1, ix_eq, ix_le, ix_lt, ix_le0, nI_tc, n_leT, n_leF, n_ltT, n_ltF, n_eqT, n_eqF, or_self, or_false, false_or, ↓reduceIte, ↓qz_letL, ↓qz_letI, qz_oc_s, qz_oc_n, Option.bind_some, ne10, not_false_eq_true, l_x, l_0, l_1, l_60, l_80, l_100, l_105, l_k, l_xk, l_m, l_g, l_xg, l_t, l_ct, l_ex, l_mx, l_lt, l_le, l_eq, l_div, l_ite, lN_add, lN_sub, lN_mul, lN_addneg]) hM) ok
  refine Alike.mk' (r := lN (S 30 t 0)) (S' := qz_u3 S 30 t 0 v) hM ?_ (fun N1 hM => ?_) (ok_rate ok hv)
  · simp (disch := omega) only [fE_rate, ↓bd (E_tk1 ht _), ix_2m, ix_6m, ix_4m, ix_m4, ix_1s, ix_s, ix_s2, ix_s9, ix_s7, ix_s5, ix_s1, nI_add, nI_p1, ix_n, ix_z, ix_1, ix_eq, ix_le, ix_lt, ix_le0, nI_tc, n_leT, n_leF, n_ltT, n_ltF, n_eqT, n_eqF, or_self, or_false, false_or, ↓reduceIte, ↓qz_letL, ↓qz_letI, qz_oc_s, qz_oc_n, Option.bind_some, ne10, not_false_eq_true, l_x, l_0, l_1, l_60, l_80, l_100, l_105, l_k, l_xk, l_m, l_g, l_xg, l_t, l_ct, l_ex, l_mx, l_lt, l_le, l_eq, l_div, l_ite, lN_add, lN_sub, lN_mul, lN_addneg, rC30 hC t ht]
    exact GoC.wr (wC30 hC t v ht) (KM.sl (by decide)) (fun N1 hC k1 => GoC.ret hC k1)
  · simp (disch := omega) only [fM_rate, ↓bd (M_tk1 ht _), ix_2m, ix_6m, ix_4m, ix_m4, ix_1s, ix_s, ix_s2, ix_s9, ix_s7, ix_s5, ix_s1, nI_add, nI_p1, ix_n, ix_z, ix_1, ix_eq, ix_le, ix_lt, ix_le0, nI_tc, n_leT, n_leF, n_ltT, n_ltF, n_eqT, n_eqF, or_self, or_false, false_or, ↓reduceIte, ↓qz_letL, ↓qz_letI, qz_oc_s, qz_oc_n, Option.bind_some, ne10, not_false_eq_true, l_x, l_0, l_1, l_60, l_80, l_100, l_105, l_k, l_xk, l_m, l_g, l_xg, l_t, l_ct, l_ex, l_mx, l_lt, l_le, l_eq, l_div, l_ite, lN_add, lN_sub, lN_mul, lN_addneg, rM30 hM t ht]
    exact GoM.wr (wM30 hM t v ht) (KC.sl (by decide)) (fun N1 hM k1 => GoM.ret hM k1)
