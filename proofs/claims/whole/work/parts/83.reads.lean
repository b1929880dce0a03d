theorem ne10 : ¬ (1 : Int32) = 0 := by decide
/-- how many of the first n of f are not 0 -/
def cnz (f : Nat → Nat) : Nat → Nat
  | 0 => 0
  | n + 1 => cnz f n + (if f n = 0 then 0 else 1)
theorem cnz_s (f : Nat → Nat) (n : Nat) : cnz f (n + 1) = cnz f n + (if f n = 0 then 0 else 1) := rfl
theorem nI_z {n : Nat} (h : n < 2147483648) : (nI n = 0) ↔ n = 0 := by
  have := nI_eq (a := n) (b := 0) h (by decide)
  exact this
theorem lt10 : (10 : Int32) = nI 10 := rfl
theorem nI_p1 (k : Nat) : nI k + (1 : Int32) = nI (k + 1) := nI_1 k
theorem E_open {N : qz_N} {S : St} (hC : RC N S) (h1 : ∀ l, l < 10 → S 31 l 0 ≤ 1) : fE_openLoans 0 N = some (nI (cnz (fun l => S 31 l 0) 10), N) := by
  unfold fE_openLoans fE_openLoans_4
  refine qz_loop_to (fun i a => i ≤ 10 ∧ a = (N, nI (cnz (fun l => S 31 l 0) i), nI i)) 10 (fun r => r = some (nI (cnz (fun l => S 31 l 0) 10), N)) ?_ ?_ 0 1100 _ (Nat.zero_le _) (by decide) ⟨Nat.zero_le _, rfl⟩
  · rintro i a hi ⟨-, rfl⟩ k
    left
    have hb := h1 i hi
    refine ⟨_, ⟨by omega, rfl⟩, ?_⟩
    show fE_openLoans_4b 0 k N (nI (cnz (fun l => S 31 l 0) i)) (nI i) = _
    unfold fE_openLoans_4b
    rw [lt10, if_neg (by rw [nI_le_lit (by omega) (by decide)]; omega), if_neg (nI_ok (n := 10) hi (by decide)), nI_tc (by omega), rC31 hC i hi, cnz_s]
    by_cases c : S 31 i 0 = 0
    · rw [if_pos ((nI_z (by omega)).mpr c), if_pos c, Nat.add_zero]
      unfold fE_openLoans_25
      rw [qz_let_eq, nI_p1]
    · rw [if_neg (fun z => c ((nI_z (by omega)).mp z)), if_neg c, qz_let_eq, nI_p1]
      unfold fE_openLoans_25
      rw [qz_let_eq, nI_p1]
  · rintro a ⟨-, rfl⟩ k
    show fE_openLoans_4b 0 k N (nI (cnz (fun l => S 31 l 0) 10)) (nI 10) = _
    unfold fE_openLoans_4b
    rw [if_pos (by decide)]
theorem M_count {N : qz_N} {S : St} (hM : RM N S) (h1 : ∀ l, l < 10 → S 31 l 0 ≤ 1) (x : Int32) : fM_count 0 x N = some (if x = 0 then nI (S 3 0 0) else if x = 1 then nI (S 18 0 0) else if x = 2 then nI (cnz (fun l => S 31 l 0) 10) else if x = 3 then nI (S 37 0 0) else -2, N) := by
  unfold fM_count fM_count_4
  refine qz_loop_to (fun i a => i ≤ 10 ∧ a = (N, x, nI (cnz (fun l => S 31 l 0) i), nI i)) 10 (fun r => r = some (if x = 0 then nI (S 3 0 0) else if x = 1 then nI (S 18 0 0) else if x = 2 then nI (cnz (fun l => S 31 l 0) 10) else if x = 3 then nI (S 37 0 0) else -2, N)) ?_ ?_ 0 1100 _ (Nat.zero_le _) (by decide) ⟨Nat.zero_le _, rfl⟩
  · rintro i a hi ⟨-, rfl⟩ k
    left
    have hb := h1 i hi
    refine ⟨_, ⟨by omega, rfl⟩, ?_⟩
    show fM_count_4b 0 k N x (nI (cnz (fun l => S 31 l 0) i)) (nI i) = _
    unfold fM_count_4b
    rw [lt10, if_neg (by rw [nI_le_lit (by omega) (by decide)]; omega), if_neg (nI_ok (n := 10) hi (by decide)), nI_tc (by omega), rM31 hM i hi, cnz_s]
    by_cases c : S 31 i 0 = 0
    · rw [if_pos ((nI_z (by omega)).mpr c), if_pos c]
      unfold fM_count_25
      rw [qz_let_eq, qz_let_eq, nI_p1, show (0 : Int32) = nI 0 from rfl, nI_add]
    · rw [if_neg (fun z => c ((nI_z (by omega)).mp z)), if_neg c]
      unfold fM_count_25
      rw [qz_let_eq, qz_let_eq, nI_p1, nI_p1]
  · rintro a ⟨-, rfl⟩ k
    show fM_count_4b 0 k N x (nI (cnz (fun l => S 31 l 0) 10)) (nI 10) = _
    unfold fM_count_4b
    rw [if_pos (by decide), rM3 hM, rM18 hM, rM37 hM]
    by_cases c0 : x = 0
    · rw [if_pos c0, if_pos c0]
    · rw [if_neg c0, if_neg c0]
      by_cases c1 : x = 1
      · rw [if_pos c1, if_pos c1]
      · rw [if_neg c1, if_neg c1]
        by_cases c2 : x = 2
        · rw [if_pos c2, if_pos c2]
        · rw [if_neg c2, if_neg c2]
          by_cases c3 : x = 3
          · rw [if_pos c3, if_pos c3]
          · rw [if_neg c3, if_neg c3]
/-- PROMISE 28: count -/
theorem op_count {N : qz_N} {S : St} (hC : RC N S) (hM : RM N S) (h1 : ∀ l, l < 10 → S 31 l 0 ≤ 1) (x : Int32) : ∃ r, fE_count 0 x N = some (r, N) ∧ fM_count 0 x N = some (r, N) := by
  refine ⟨_, ?_, M_count hM h1 x⟩
  unfold fE_count
  by_cases c0 : x = 0
  · rw [if_pos c0, if_pos c0, rC3 hC]
  · rw [if_neg c0, if_neg c0]
    by_cases c1 : x = 1
    · rw [if_pos c1, if_pos c1, rC18 hC]
    · rw [if_neg c1, if_neg c1]
      by_cases c2 : x = 2
      · rw [if_pos c2, if_pos c2]
        exact ob_some (E_open hC h1) rfl
      · rw [if_neg c2, if_neg c2]
        by_cases c3 : x = 3
        · rw [if_pos c3, if_pos c3, rC37 hC]
        · rw [if_neg c3, if_neg c3]
theorem lt2 : (2 : Int32) = nI 2 := rfl
/-- PROMISE 19: dealt -/
theorem op_dealt {N : qz_N} {S : St} (hC : RC N S) (hM : RM N S) (h24 : S 24 0 0 ≤ 40) (x : Int32) : ∃ r, fE_dealt 0 x N = some (r, N) ∧ fM_dealt 0 x N = some (r, N) := by
  unfold fE_dealt fM_dealt
  by_cases c0 : x = 0
  · exact ⟨lN (S 23 0 0), by rw [if_pos c0, rC23 hC], by rw [if_pos c0, rM23 hM]⟩
  · rw [if_neg c0, if_neg c0]
    by_cases c1 : x = 1
    · exact ⟨(nI (S 24 0 0)).toInt64, by rw [if_pos c1, rC24 hC], by rw [if_pos c1, rM24 hM]⟩
    · rw [if_neg c1, if_neg c1]
      by_cases c2 : x < 2
      · exact ⟨-2, by rw [if_pos c2], by rw [if_pos c2]⟩
      · rw [if_neg c2, if_neg c2]
        have h0 : ¬ x < 0 := fun z => c2 (by rw [Int32.lt_iff_toInt_lt] at z ⊢; have e0 : (0 : Int32).toInt = 0 := by decide
                                             have e2 : (2 : Int32).toInt = 2 := by decide
                                             omega)
        obtain ⟨n, hn, rfl⟩ := nI_of h0
        have hn2 : 2 ≤ n := by
          rw [lt2, nI_ltI hn (by decide)] at c2; omega
        have es : nI n - (2 : Int32) = nI (n - 2) := pk_sub hn2
        rw [es, rC24 hC, rM24 hM, lt2, nI_add]
        by_cases c3 : S 24 0 0 ≤ n - 2
        · exact ⟨-2, by rw [if_pos ((nI_leI (by omega) (by omega)).mpr c3)], by rw [if_pos ((nI_leI (by omega) hn).mpr (by omega))]⟩
        · refine ⟨lN (S 25 (n - 2) 0), ?_, ?_⟩
          · rw [if_neg (fun z => c3 ((nI_leI (by omega) (by omega)).mp z)), if_neg (nI_ok (n := 40) (by omega) (by decide)), nI_tc (by omega), rC25 hC _ (by omega)]
          · rw [if_neg (fun z => c3 (by have := (nI_leI (by omega) hn).mp z; omega)), if_neg (nI_ok (n := 40) (by omega) (by decide)), nI_tc (by omega), hM.2.2.2 _ (by omega)]
