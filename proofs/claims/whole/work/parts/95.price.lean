abbrev el (S : St) (s p i : Nat) : Prop := S 20 i 0 = s ∧ (s = 0 ∧ S 22 i 0 ≤ p ∨ s ≠ 0 ∧ p ≤ S 22 i 0)
def aA (S : St) (s p : Nat) : Nat := sg (fun i => if el S s p i then S 21 i 0 else 0) (S 18 0 0)
theorem aA_b {c : Nat} {S : St} (ok : Ok c S) (s p : Nat) : aA S s p ≤ 400000000000 := by
  obtain ⟨-, -, -, h40, -, ho⟩ := ok.2.2.2.1
  have h : aA S s p ≤ S 18 0 0 * 10000000000 := sg_ub (fun i hi => by
    show (if el S s p i then S 21 i 0 else 0) ≤ _
    have := (ho i hi).2.2.2.1
    split <;> omega)
  omega
theorem E_bought {N : qz_N} {S : St} (hC : RC N S) {c p : Nat} (ok : Ok c S) (hp : p < 9223372036854775808) : fB_boughtAt 0 (lN p) N = some (lN (aA S 1 p), N) := by
  obtain ⟨-, -, -, h40, -, ho⟩ := ok.2.2.2.1
  unfold fB_boughtAt fB_boughtAt_5
  refine (lp (fun i => (N, lN p, lN (sg (fun i => if el S 1 p i then S 21 i 0 else 0) i), nI i)) (S 18 0 0) 1100 (by omega) ?_ ?_ :)
  · intro i hi k
    show fB_boughtAt_5b 0 k N (lN p) _ (nI i) = k (N, lN p, lN (sg _ i + if el S 1 p i then S 21 i 0 else 0), nI (i + 1))
    generalize sg (fun i => if el S 1 p i then S 21 i 0 else 0) i = X
    obtain ⟨o1, o2, o3, o4, o5, o6⟩ := ho i hi
    have hi' : i < 40 := by omega
    by_cases c1 : S 20 i 0 = 0
    · rw [if_neg (by omega)]
      simp (disch := omega) only [fB_boughtAt_5b, rC18 hC, ix_2m, ix_6m, ix_4m, ix_m4, ix_1s, ix_s, ix_s2, ix_s9, ix_s7, ix_s5, ix_s1, nI_add, nI_p1, ix_n, ix_z, ix_1, ix_eq, ix_le, ix_lt, ix_le0, nI_tc, n_leT, n_leF, n_ltT, n_ltF, n_eqT, n_eqF, or_self, or_false, false_or, ↓reduceIte, ↓qz_letL, ↓qz_letI, qz_oc_s, qz_oc_n, Option.bind_some, ne10, not_false_eq_true, l_x, rC20 hC i hi', fB_boughtAt_46, Nat.add_zero]
    · by_cases c2 : S 22 i 0 < p
      · rw [if_neg (by omega)]
        simp (disch := omega) only [fB_boughtAt_5b, rC18 hC, ix_2m, ix_6m, ix_4m, ix_m4, ix_1s, ix_s, ix_s2, ix_s9, ix_s7, ix_s5, ix_s1, nI_add, nI_p1, ix_n, ix_z, ix_1, ix_eq, ix_le, ix_lt, ix_le0, nI_tc, n_leT, n_leF, n_ltT, n_ltF, n_eqT, n_eqF, or_self, or_false, false_or, ↓reduceIte, ↓qz_letL, ↓qz_letI, qz_oc_s, qz_oc_n, Option.bind_some, ne10, not_false_eq_true, l_x, rC20 hC i hi', rC22 hC i hi', l_lt, fB_boughtAt_46, Nat.add_zero]
      · rw [if_pos (by omega)]
        simp (disch := omega) only [fB_boughtAt_5b, rC18 hC, ix_2m, ix_6m, ix_4m, ix_m4, ix_1s, ix_s, ix_s2, ix_s9, ix_s7, ix_s5, ix_s1, nI_add, nI_p1, ix_n, ix_z, ix_1, ix_eq, ix_le, ix_lt, ix_le0, nI_tc, n_leT, n_leF, n_ltT, n_ltF, n_eqT, n_eqF, or_self, or_false, false_or, ↓reduceIte, ↓qz_letL, ↓qz_letI, qz_oc_s, qz_oc_n, Option.bind_some, ne10, not_false_eq_true, l_x, rC20 hC i hi', rC22 hC i hi', rC21 hC i hi', l_lt, fB_boughtAt_46, lN_add]
  · intro k
    show fB_boughtAt_5b 0 k N (lN p) _ (nI (S 18 0 0)) = _
    unfold fB_boughtAt_5b
    rw [rC18 hC, if_pos (by rw [ix_le (by omega) (by omega)]; exact Nat.le_refl _)]
    rfl
theorem E_sold {N : qz_N} {S : St} (hC : RC N S) {c p : Nat} (ok : Ok c S) (hp : p < 9223372036854775808) : fB_soldAt 0 (lN p) N = some (lN (aA S 0 p), N) := by
  obtain ⟨-, -, -, h40, -, ho⟩ := ok.2.2.2.1
  unfold fB_soldAt fB_soldAt_5
  refine (lp (fun i => (N, lN p, lN (sg (fun i => if el S 0 p i then S 21 i 0 else 0) i), nI i)) (S 18 0 0) 1100 (by omega) ?_ ?_ :)
  · intro i hi k
    show fB_soldAt_5b 0 k N (lN p) _ (nI i) = k (N, lN p, lN (sg _ i + if el S 0 p i then S 21 i 0 else 0), nI (i + 1))
    generalize sg (fun i => if el S 0 p i then S 21 i 0 else 0) i = X
    obtain ⟨o1, o2, o3, o4, o5, o6⟩ := ho i hi
    have hi' : i < 40 := by omega
    by_cases c1 : S 20 i 0 = 0
    · by_cases c2 : p < S 22 i 0
      · rw [if_neg (by omega)]
        simp (disch := omega) only [fB_soldAt_5b, rC18 hC, ix_2m, ix_6m, ix_4m, ix_m4, ix_1s, ix_s, ix_s2, ix_s9, ix_s7, ix_s5, ix_s1, nI_add, nI_p1, ix_n, ix_z, ix_1, ix_eq, ix_le, ix_lt, ix_le0, nI_tc, n_leT, n_leF, n_ltT, n_ltF, n_eqT, n_eqF, or_self, or_false, false_or, ↓reduceIte, ↓qz_letL, ↓qz_letI, qz_oc_s, qz_oc_n, Option.bind_some, ne10, not_false_eq_true, l_x, rC20 hC i hi', rC22 hC i hi', l_lt, fB_soldAt_46, Nat.add_zero]
      · rw [if_pos (by omega)]
        simp (disch := omega) only [fB_soldAt_5b, rC18 hC, ix_2m, ix_6m, ix_4m, ix_m4, ix_1s, ix_s, ix_s2, ix_s9, ix_s7, ix_s5, ix_s1, nI_add, nI_p1, ix_n, ix_z, ix_1, ix_eq, ix_le, ix_lt, ix_le0, nI_tc, n_leT, n_leF, n_ltT, n_ltF, n_eqT, n_eqF, or_self, or_false, false_or, ↓reduceIte, ↓qz_letL, ↓qz_letI, qz_oc_s, qz_oc_n, Option.bind_some, ne10, not_false_eq_true, l_x, rC20 hC i hi', rC22 hC i hi', rC21 hC i hi', l_lt, fB_soldAt_46, lN_add]
    · rw [if_neg (by omega)]
      simp (disch := omega) only [fB_soldAt_5b, rC18 hC, ix_2m, ix_6m, ix_4m, ix_m4, ix_1s, ix_s, ix_s2, ix_s9, ix_s7, ix_s5, ix_s1, nI_add, nI_p1, ix_n, ix_z, ix_1, ix_eq, ix_le, ix_lt, ix_le0, nI_tc, n_leT, n_leF, n_ltT, n_ltF, n_eqT, n_eqF, or_self, or_false, false_or, ↓reduceIte, ↓qz_letL, ↓qz_letI, qz_oc_s, qz_oc_n, Option.bind_some, ne10, not_false_eq_true, l_x, rC20 hC i hi', fB_soldAt_46, Nat.add_zero]
  · intro k
    show fB_soldAt_5b 0 k N (lN p) _ (nI (S 18 0 0)) = _
    unfold fB_soldAt_5b
    rw [rC18 hC, if_pos (by rw [ix_le (by omega) (by omega)]; exact Nat.le_refl _)]
    rfl
theorem M_allAt {N : qz_N} {S : St} (hM : RM N S) {c s p : Nat} (ok : Ok c S) (hs : s ≤ 1) (hp : p < 9223372036854775808) : fM_allAt 0 (nI s) (lN p) N = some (lN (aA S s p), N) := by
  obtain ⟨-, -, -, h40, -, ho⟩ := ok.2.2.2.1
  unfold fM_allAt fM_allAt_6
  refine (lp (fun i => (N, nI s, lN p, lN (sg (fun i => if el S s p i then S 21 i 0 else 0) i), nI i)) (S 18 0 0) 1100 (by omega) ?_ ?_ :)
  · intro i hi k
    show fM_allAt_6b 0 k N (nI s) (lN p) _ (nI i) = k (N, nI s, lN p, lN (sg _ i + if el S s p i then S 21 i 0 else 0), nI (i + 1))
    generalize sg (fun i => if el S s p i then S 21 i 0 else 0) i = X
    obtain ⟨o1, o2, o3, o4, o5, o6⟩ := ho i hi
    obtain ⟨m1, m2, m3, m4⟩ := hM.2.2.1 i hi
    have hi' : i < 40 := by omega
    by_cases c1 : S 20 i 0 = s
    · by_cases c0 : s = 0
      · by_cases c2 : p < S 22 i 0
        · rw [if_neg (by omega)]
          simp (disch := omega) only [fM_allAt_6b, rM18 hM, ix_2m, ix_6m, ix_4m, ix_m4, ix_1s, ix_s, ix_s2, ix_s9, ix_s7, ix_s5, ix_s1, nI_add, nI_p1, ix_n, ix_z, ix_1, ix_eq, ix_le, ix_lt, ix_le0, nI_tc, n_leT, n_leF, n_ltT, n_ltF, n_eqT, n_eqF, or_self, or_false, false_or, ↓reduceIte, ↓qz_letL, ↓qz_letI, qz_oc_s, qz_oc_n, Option.bind_some, ne10, not_false_eq_true, l_x, m2, m3, m4, l_lt, fM_allAt_61, fM_allAt_62, fM_allAt_82, l_0, lN_add]
        · rw [if_pos (by omega)]
          simp (disch := omega) only [fM_allAt_6b, rM18 hM, ix_2m, ix_6m, ix_4m, ix_m4, ix_1s, ix_s, ix_s2, ix_s9, ix_s7, ix_s5, ix_s1, nI_add, nI_p1, ix_n, ix_z, ix_1, ix_eq, ix_le, ix_lt, ix_le0, nI_tc, n_leT, n_leF, n_ltT, n_ltF, n_eqT, n_eqF, or_self, or_false, false_or, ↓reduceIte, ↓qz_letL, ↓qz_letI, qz_oc_s, qz_oc_n, Option.bind_some, ne10, not_false_eq_true, l_x, m2, m3, m4, l_lt, fM_allAt_57, fM_allAt_62, fM_allAt_82, l_0, lN_add]
      · by_cases c2 : S 22 i 0 < p
        · rw [if_neg (by omega)]
          simp (disch := omega) only [fM_allAt_6b, rM18 hM, ix_2m, ix_6m, ix_4m, ix_m4, ix_1s, ix_s, ix_s2, ix_s9, ix_s7, ix_s5, ix_s1, nI_add, nI_p1, ix_n, ix_z, ix_1, ix_eq, ix_le, ix_lt, ix_le0, nI_tc, n_leT, n_leF, n_ltT, n_ltF, n_eqT, n_eqF, or_self, or_false, false_or, ↓reduceIte, ↓qz_letL, ↓qz_letI, qz_oc_s, qz_oc_n, Option.bind_some, ne10, not_false_eq_true, l_x, m2, m3, m4, l_lt, fM_allAt_61, fM_allAt_62, fM_allAt_82, l_0, lN_add]
        · rw [if_pos (by omega)]
          simp (disch := omega) only [fM_allAt_6b, rM18 hM, ix_2m, ix_6m, ix_4m, ix_m4, ix_1s, ix_s, ix_s2, ix_s9, ix_s7, ix_s5, ix_s1, nI_add, nI_p1, ix_n, ix_z, ix_1, ix_eq, ix_le, ix_lt, ix_le0, nI_tc, n_leT, n_leF, n_ltT, n_ltF, n_eqT, n_eqF, or_self, or_false, false_or, ↓reduceIte, ↓qz_letL, ↓qz_letI, qz_oc_s, qz_oc_n, Option.bind_some, ne10, not_false_eq_true, l_x, m2, m3, m4, l_lt, fM_allAt_57, fM_allAt_62, fM_allAt_82, l_0, lN_add]
    · rw [if_neg (by omega)]
      simp (disch := omega) only [fM_allAt_6b, rM18 hM, ix_2m, ix_6m, ix_4m, ix_m4, ix_1s, ix_s, ix_s2, ix_s9, ix_s7, ix_s5, ix_s1, nI_add, nI_p1, ix_n, ix_z, ix_1, ix_eq, ix_le, ix_lt, ix_le0, nI_tc, n_leT, n_leF, n_ltT, n_ltF, n_eqT, n_eqF, or_self, or_false, false_or, ↓reduceIte, ↓qz_letL, ↓qz_letI, qz_oc_s, qz_oc_n, Option.bind_some, ne10, not_false_eq_true, l_x, m2, m3, m4, l_lt, fM_allAt_61, fM_allAt_62, fM_allAt_82, l_0, lN_add]
  · intro k
    show fM_allAt_6b 0 k N (nI s) (lN p) _ (nI (S 18 0 0)) = _
    unfold fM_allAt_6b
    rw [rM18 hM, if_pos (by rw [ix_le (by omega) (by omega)]; exact Nat.le_refl _)]
    rfl
def lst (S : St) (p : Nat) : Nat := if aA S 0 p < aA S 1 p then aA S 0 p else aA S 1 p
def apt (S : St) (p : Nat) : Nat := if aA S 0 p < aA S 1 p then aA S 1 p - aA S 0 p else aA S 0 p - aA S 1 p
abbrev btr (S : St) (b : Nat × Nat × Nat) (p : Nat) : Prop := 0 < lst S p ∧ (b.2.1 < lst S p ∨ lst S p = b.2.1 ∧ (apt S p < b.2.2 ∨ apt S p = b.2.2 ∧ p < b.1))
def bst (S : St) : Nat → Nat × Nat × Nat
  | 0 => (0, 0, 0)
  | i + 1 => if btr S (bst S i) (S 22 i 0) then (S 22 i 0, lst S (S 22 i 0), apt S (S 22 i 0)) else bst S i
theorem bst_s (S : St) (i : Nat) : bst S (i + 1) = if btr S (bst S i) (S 22 i 0) then (S 22 i 0, lst S (S 22 i 0), apt S (S 22 i 0)) else bst S i := rfl
theorem lst_b {c : Nat} {S : St} (ok : Ok c S) (p : Nat) : lst S p ≤ 400000000000 ∧ apt S p ≤ 400000000000 := by
  have h0 := aA_b ok 0 p
  have h1 := aA_b ok 1 p
  unfold lst apt
  split <;> omega
theorem bst_b {c : Nat} {S : St} (ok : Ok c S) : ∀ i, i ≤ S 18 0 0 → (bst S i).1 ≤ 1000000 ∧ (bst S i).2.1 ≤ 400000000000 ∧ (bst S i).2.2 ≤ 400000000000 := by
  obtain ⟨-, -, -, h40, -, ho⟩ := ok.2.2.2.1
  intro i
  induction i with
  | zero => intro _; exact ⟨Nat.zero_le _, Nat.zero_le _, Nat.zero_le _⟩
  | succ i ih =>
    intro hi
    rw [bst_s]
    have := lst_b ok (S 22 i 0)
    have := (ho i (by omega)).2.2.2.2.2
    split
    · show S 22 i 0 ≤ 1000000 ∧ lst S (S 22 i 0) ≤ 400000000000 ∧ apt S (S 22 i 0) ≤ 400000000000
      exact ⟨by omega, by omega, by omega⟩
    · exact ih (by omega)
theorem E_best {N : qz_N} {S : St} (hC : RC N S) {c : Nat} (ok : Ok c S) : fB_bestPrice 0 N = some (lN (bst S (S 18 0 0)).1, N) := by
  obtain ⟨-, -, -, h40, -, ho⟩ := ok.2.2.2.1
  unfold fB_bestPrice fB_bestPrice_10
  refine (lp (fun i => (N, lN (bst S i).1, lN (bst S i).2.1, lN (bst S i).2.2, nI i)) (S 18 0 0) 1100 (by omega) ?_ ?_ :)
  · intro i hi k
    show fB_bestPrice_10b 0 k N (lN (bst S i).1) (lN (bst S i).2.1) (lN (bst S i).2.2) (nI i) = k (N, lN (bst S (i + 1)).1, lN (bst S (i + 1)).2.1, lN (bst S (i + 1)).2.2, nI (i + 1))
    obtain ⟨o1, o2, o3, o4, o5, o6⟩ := ho i hi
    have hi' : i < 40 := by omega
    have hb := bst_b ok i (by omega)
    have e1 := E_bought hC ok (p := S 22 i 0) (by omega)
    have e2 := E_sold hC ok (p := S 22 i 0) (by omega)
    have h0 := aA_b ok 0 (S 22 i 0)
    have h1 := aA_b ok 1 (S 22 i 0)
    have lb := lst_b ok (S 22 i 0)
    rw [bst_s]
    have eL : (if lN (aA S 0 (S 22 i 0)) < lN (aA S 1 (S 22 i 0)) then lN (aA S 0 (S 22 i 0)) else lN (aA S 1 (S 22 i 0))) = lN (lst S (S 22 i 0)) := by
      rw [ifc (l_lt (by omega) (by omega)), l_ite]; rfl
    have eG : (if lN (aA S 0 (S 22 i 0)) < lN (aA S 1 (S 22 i 0)) then lN (aA S 1 (S 22 i 0)) else lN (aA S 0 (S 22 i 0))) - (if lN (aA S 0 (S 22 i 0)) < lN (aA S 1 (S 22 i 0)) then lN (aA S 0 (S 22 i 0)) else lN (aA S 1 (S 22 i 0))) = lN (apt S (S 22 i 0)) := by
      rw [eL, ifc (l_lt (by omega) (by omega)), l_ite, lN_sub (by unfold lst; split <;> omega)]
      congr 1
      unfold lst apt
      split <;> rfl
    generalize bst S i = B at *
    obtain ⟨b1, b2, b3⟩ := B
    have hb : b1 ≤ 1000000 ∧ b2 ≤ 400000000000 ∧ b3 ≤ 400000000000 := hb
    have hbt : btr S (b1, b2, b3) (S 22 i 0) ↔ (0 < lst S (S 22 i 0) ∧ (b2 < lst S (S 22 i 0) ∨ lst S (S 22 i 0) = b2 ∧ (apt S (S 22 i 0) < b3 ∨ apt S (S 22 i 0) = b3 ∧ S 22 i 0 < b1))) := Iff.rfl
    simp (disch := omega) only [fB_bestPrice_10b, rC18 hC, ix_2m, ix_6m, ix_4m, ix_m4, ix_1s, ix_s, ix_s2, ix_s9, ix_s7, ix_s5, ix_s1, nI_add, nI_p1, ix_n, ix_z, ix_1, ix_eq, ix_le, ix_lt, ix_le0, nI_tc, n_leT, n_leF, n_ltT, n_ltF, n_eqT, n_eqF, or_self, or_false, false_or, ↓reduceIte, ↓qz_letL, ↓qz_letI, qz_oc_s, qz_oc_n, Option.bind_some, ne10, not_false_eq_true, l_x, rC22 hC i hi', ↓bd e1, ↓bd e2, ↓eL, ↓eG, l_lt, l_eq, l_le, fB_bestPrice_106, fB_bestPrice_102, fB_bestPrice_107, fB_bestPrice_131, l_0, Nat.le_zero, ne10]
    by_cases z : lst S (S 22 i 0) = 0
    · rw [if_neg (show ¬ btr S (b1, b2, b3) (S 22 i 0) from fun y => by have := hbt.mp y; omega)]
      simp (disch := omega) only [ix_2m, ix_6m, ix_4m, ix_m4, ix_1s, ix_s, ix_s2, ix_s9, ix_s7, ix_s5, ix_s1, nI_add, nI_p1, ix_n, ix_z, ix_1, ix_eq, ix_le, ix_lt, ix_le0, nI_tc, n_leT, n_leF, n_ltT, n_ltF, n_eqT, n_eqF, or_self, or_false, false_or, ↓reduceIte, ↓qz_letL, ↓qz_letI, qz_oc_s, qz_oc_n, Option.bind_some, ne10, not_false_eq_true, l_x, ite_self]
    · simp (disch := omega) only [ix_2m, ix_6m, ix_4m, ix_m4, ix_1s, ix_s, ix_s2, ix_s9, ix_s7, ix_s5, ix_s1, nI_add, nI_p1, ix_n, ix_z, ix_1, ix_eq, ix_le, ix_lt, ix_le0, nI_tc, n_leT, n_leF, n_ltT, n_ltF, n_eqT, n_eqF, or_self, or_false, false_or, ↓reduceIte, ↓qz_letL, ↓qz_letI, qz_oc_s, qz_oc_n, Option.bind_some, ne10, not_false_eq_true, l_x]
      by_cases c1 : b2 < lst S (S 22 i 0)
      · rw [if_pos c1, if_pos (hbt.mpr (by omega))]
      · rw [if_neg c1]
        by_cases c2 : lst S (S 22 i 0) = b2
        · rw [if_pos c2]
          by_cases c3 : apt S (S 22 i 0) < b3
          · rw [if_pos c3, if_pos (hbt.mpr (by omega))]
          · rw [if_neg c3]
            by_cases c4 : apt S (S 22 i 0) = b3
            · rw [if_pos c4]
              by_cases c5 : b1 ≤ S 22 i 0
              · rw [if_pos c5, if_neg (fun z => by have := hbt.mp z; omega)]
              · rw [if_neg c5, if_pos (hbt.mpr (by omega))]
            · rw [if_neg c4, if_neg (fun z => by have := hbt.mp z; omega)]
        · rw [if_neg c2, if_neg (fun z => by have := hbt.mp z; omega)]
  · intro k
    show fB_bestPrice_10b 0 k N _ _ _ (nI (S 18 0 0)) = _
    unfold fB_bestPrice_10b
    rw [rC18 hC, if_pos (by rw [ix_le (by omega) (by omega)]; exact Nat.le_refl _)]
theorem M_least2 {a b : Nat} (ha : a < 9223372036854775808) (hb : b < 9223372036854775808) (N : qz_N) : fM_least (lN a) (lN b) N = some (lN (if b < a then b else a), N) := by
  unfold fM_least
  rw [ifc (l_le hb ha)]
  by_cases c : b < a
  · rw [if_pos (by omega), if_pos c]
  · rw [if_neg c]
    by_cases d : b ≤ a
    · rw [if_pos d, show b = a by omega]
    · rw [if_neg d]
theorem M_best {N : qz_N} {S : St} (hM : RM N S) {c : Nat} (ok : Ok c S) : fM_bestPrice 0 N = some (lN (bst S (S 18 0 0)).1, N) := by
  obtain ⟨-, -, -, h40, -, ho⟩ := ok.2.2.2.1
  unfold fM_bestPrice fM_bestPrice_10
  refine (lp (fun i => (N, lN (bst S i).1, lN (bst S i).2.1, lN (bst S i).2.2, nI i)) (S 18 0 0) 1100 (by omega) ?_ ?_ :)
  · intro i hi k
    show fM_bestPrice_10b 0 k N (lN (bst S i).1) (lN (bst S i).2.1) (lN (bst S i).2.2) (nI i) = k (N, lN (bst S (i + 1)).1, lN (bst S (i + 1)).2.1, lN (bst S (i + 1)).2.2, nI (i + 1))
    obtain ⟨o1, o2, o3, o4, o5, o6⟩ := ho i hi
    obtain ⟨m1, m2, m3, m4⟩ := hM.2.2.1 i hi
    have hi' : i < 40 := by omega
    have hb := bst_b ok i (by omega)
    have e1 : fM_allAt 0 1 (lN (S 22 i 0)) N = some (lN (aA S 1 (S 22 i 0)), N) := M_allAt hM ok (s := 1) (p := S 22 i 0) (by decide) (by omega)
    have e2 : fM_allAt 0 0 (lN (S 22 i 0)) N = some (lN (aA S 0 (S 22 i 0)), N) := M_allAt hM ok (s := 0) (p := S 22 i 0) (by decide) (by omega)
    have h0 := aA_b ok 0 (S 22 i 0)
    have h1 := aA_b ok 1 (S 22 i 0)
    have lb := lst_b ok (S 22 i 0)
    have e3 : fM_least (lN (aA S 1 (S 22 i 0))) (lN (aA S 0 (S 22 i 0))) N = some (lN (lst S (S 22 i 0)), N) := M_least2 (by omega) (by omega) N
    rw [bst_s]
    have e76 : ∀ L : Int64, (if lN (aA S 0 (S 22 i 0)) ≤ lN (aA S 1 (S 22 i 0)) then fM_bestPrice_76 0 k N (lN (bst S i).1) (lN (bst S i).2.1) (lN (bst S i).2.2) (nI i) (lN (S 22 i 0)) L (lN (aA S 1 (S 22 i 0)) - lN (aA S 0 (S 22 i 0))) else fM_bestPrice_76 0 k N (lN (bst S i).1) (lN (bst S i).2.1) (lN (bst S i).2.2) (nI i) (lN (S 22 i 0)) L (lN (aA S 0 (S 22 i 0)) - lN (aA S 1 (S 22 i 0)))) = fM_bestPrice_76 0 k N (lN (bst S i).1) (lN (bst S i).2.1) (lN (bst S i).2.2) (nI i) (lN (S 22 i 0)) L (lN (apt S (S 22 i 0))) := by
      intro L
      rw [ifc (l_le (by omega) (by omega))]
      by_cases c : aA S 0 (S 22 i 0) ≤ aA S 1 (S 22 i 0)
      · rw [if_pos c, lN_sub c]
        unfold apt
        by_cases d : aA S 0 (S 22 i 0) < aA S 1 (S 22 i 0)
        · rw [if_pos d]
        · rw [if_neg d, show aA S 1 (S 22 i 0) = aA S 0 (S 22 i 0) by omega]
      · rw [if_neg c, lN_sub (by omega)]
        unfold apt
        rw [if_neg (by omega)]
    generalize bst S i = B at *
    obtain ⟨b1, b2, b3⟩ := B
    have hb : b1 ≤ 1000000 ∧ b2 ≤ 400000000000 ∧ b3 ≤ 400000000000 := hb
    have hbt : btr S (b1, b2, b3) (S 22 i 0) ↔ (0 < lst S (S 22 i 0) ∧ (b2 < lst S (S 22 i 0) ∨ lst S (S 22 i 0) = b2 ∧ (apt S (S 22 i 0) < b3 ∨ apt S (S 22 i 0) = b3 ∧ S 22 i 0 < b1))) := Iff.rfl
    simp (disch := omega) only [fM_bestPrice_10b, rM18 hM, ix_2m, ix_6m, ix_4m, ix_m4, ix_1s, ix_s, ix_s2, ix_s9, ix_s7, ix_s5, ix_s1, nI_add, nI_p1, ix_n, ix_z, ix_1, ix_eq, ix_le, ix_lt, ix_le0, nI_tc, n_leT, n_leF, n_ltT, n_ltF, n_eqT, n_eqF, or_self, or_false, false_or, ↓reduceIte, ↓qz_letL, ↓qz_letI, qz_oc_s, qz_oc_n, Option.bind_some, ne10, not_false_eq_true, l_x, m4, ↓bd e1, ↓bd e2, ↓bd e3]
    rw [e76]
    simp (disch := omega) only [fM_bestPrice_76, l_lt, l_eq, l_le, fM_bestPrice_126, fM_bestPrice_122, fM_bestPrice_127, fM_bestPrice_144, l_0, Nat.le_zero, ne10, ix_2m, ix_6m, ix_4m, ix_m4, ix_1s, ix_s, ix_s2, ix_s9, ix_s7, ix_s5, ix_s1, nI_add, nI_p1, ix_n, ix_z, ix_1, ix_eq, ix_le, ix_lt, ix_le0, nI_tc, n_leT, n_leF, n_ltT, n_ltF, n_eqT, n_eqF, or_self, or_false, false_or, ↓reduceIte, ↓qz_letL, ↓qz_letI, qz_oc_s, qz_oc_n, Option.bind_some, ne10, not_false_eq_true, l_x]
    by_cases c1 : b2 < lst S (S 22 i 0)
    · rw [if_pos c1, if_pos (hbt.mpr (by omega))]
    · rw [if_neg c1]
      by_cases c2 : lst S (S 22 i 0) = b2
      · rw [if_pos c2]
        by_cases z : lst S (S 22 i 0) = 0
        · rw [if_pos z, if_neg (fun z => by have := hbt.mp z; omega)]
        rw [if_neg z]
        by_cases c3 : apt S (S 22 i 0) < b3
        · rw [if_pos c3, if_pos (hbt.mpr (by omega))]
        · rw [if_neg c3]
          by_cases c4 : apt S (S 22 i 0) = b3
          · rw [if_pos c4]
            by_cases c5 : b1 ≤ S 22 i 0
            · rw [if_pos c5, if_neg (fun z => by have := hbt.mp z; omega)]
            · rw [if_neg c5, if_pos (hbt.mpr (by omega))]
          · rw [if_neg c4, if_neg (fun z => by have := hbt.mp z; omega)]
      · rw [if_neg c2, if_neg (fun z => by have := hbt.mp z; omega)]
  · intro k
    show fM_bestPrice_10b 0 k N _ _ _ (nI (S 18 0 0)) = _
    unfold fM_bestPrice_10b
    rw [rM18 hM, if_pos (by rw [ix_le (by omega) (by omega)]; exact Nat.le_refl _)]
