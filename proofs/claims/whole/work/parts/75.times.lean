theorem ar_0 {N : qz_N} {c : Nat} {f : Nat → Nat} : ar N c 0 f := fun k hk => absurd hk (Nat.not_lt_zero _)
/-- one place more -/
theorem ar_ext {N : qz_N} {c i : Nat} {f : Nat → Nat} (h : ar N c i f) : ar (qz_sl N c 0 i (lN (f i))) c (i + 1) f := by
  intro q hq
  rw [qz_gl_sl]
  by_cases e : q = i
  · rw [if_pos ⟨rfl, rfl, e⟩, e]
  · rw [if_neg (fun z => e z.2.2)]; exact h q (by omega)
theorem lit9 : (9 : Int32) = nI 9 := rfl
theorem lit6 : (6 : Int32) = nI 6 := rfl
theorem lt3 : (3 : Int32) = nI 3 := rfl
theorem nI_le_lit {i n : Nat} (hi : i < 2147483648) (hn : n < 2147483648) : (nI n ≤ nI i) ↔ n ≤ i := nI_leI hn hi
/-- the copy at the end: big takes the six low places of sum -/
theorem M_t158 {N : qz_N} {s : Nat → Nat} (hs : ar N 54 9 s) : ∃ N', fM_times_158 0 1100 (N, 0) = some ((), N') ∧ Sc N N' ∧ ar N' 52 6 s ∧ (∀ c i k, c ≠ 52 → qz_gl N' c i k = qz_gl N c i k) := by
  unfold fM_times_158
  refine qz_loop_to (fun i a => ∃ N', a = (N', nI i) ∧ Sc N N' ∧ ar N' 52 i s ∧ (∀ c i k, c ≠ 52 → qz_gl N' c i k = qz_gl N c i k)) 6 (fun r => ∃ N', r = some ((), N') ∧ Sc N N' ∧ ar N' 52 6 s ∧ (∀ c i k, c ≠ 52 → qz_gl N' c i k = qz_gl N c i k)) ?_ ?_ 0 1100 _ (Nat.zero_le _) (by decide) ⟨N, rfl, Sc.rf, ar_0, fun _ _ _ _ => rfl⟩
  · rintro i a hi ⟨N', rfl, hS, hA, hO⟩ k
    left
    have hb : fM_times_158b 0 k N' (nI i) = k (qz_sl N' 52 0 i (lN (s i)), nI (i + 1)) := by
      unfold fM_times_158b
      rw [lit6, if_neg (by rw [nI_le_lit (by omega) (by decide)]; omega), if_neg (nI_ok (n := 9) (by omega) (by decide)), if_neg (nI_ok (n := 6) hi (by decide)), nI_tc (by omega)]
      dsimp only [qz_let]
      rw [nI_up, hO 54 0 i (by decide), hs i (by omega)]
    refine ⟨_, ⟨_, rfl, hS.tr (Sc.set (Or.inl rfl)), ar_ext hA, ?_⟩, hb⟩
    intro c i' k' hc
    rw [qz_gl_sl, if_neg (fun z => hc z.1)]; exact hO c i' k' hc
  · rintro a ⟨N', rfl, hS, hA, hO⟩ k
    refine ⟨N', ?_, hS, hA, hO⟩
    show fM_times_158b 0 k N' (nI 6) = _
    unfold fM_times_158b
    rw [if_pos (by decide)]
theorem un_shr30 (x : Int64) : uN ((x.toUInt64 >>> ((30 : Int32).toInt64.toUInt64 &&& Int64.toUInt64 63)).toInt64) = uN x / 1073741824 := by
  have := uN_sk x (k := 30) (by decide)
  exact this
/-- the carries: from raw places to digits -/
theorem M_t105 {N : qz_N} {raw : Nat → Nat} {i : Nat} (hi : i < 2147483647) (hr : ar N 54 9 raw) (hraw : ∀ k, k < 9 → raw k < 4611686018427387904) (k52 : qz_N × Int32 → Option (Unit × qz_N)) : ∃ N', fM_times_105 0 k52 1100 (N, nI i, 0, 0) = k52 (N', nI (i + 1)) ∧ Sc N N' ∧ ar N' 54 9 (dg (psB BB raw 9)) ∧ (∀ c i k, c ≠ 54 → qz_gl N' c i k = qz_gl N c i k) := by
  have hcar : ∀ k, k ≤ 9 → psB BB raw k / BB ^ k < 4611686018427387905 := by
    intro k hk
    induction k with
    | zero => rw [psB_0, Nat.zero_div]; decide
    | succ k ih =>
      rw [psB_carry BB_pos, BB_eq]
      have h1 := ih (by omega)
      have h2 := hraw k (by omega)
      rw [BB_eq] at h1
      generalize psB 1073741824 raw k / 1073741824 ^ k = z at *
      omega
  unfold fM_times_105
  refine qz_loop_to (fun j a => ∃ N', a = (N', nI i, lN (psB BB raw j / BB ^ j), nI j) ∧ Sc N N' ∧ ar N' 54 9 (fun q => if q < j then dg (psB BB raw 9) q else raw q) ∧ (∀ c i k, c ≠ 54 → qz_gl N' c i k = qz_gl N c i k)) 9 (fun r => ∃ N', r = k52 (N', nI (i + 1)) ∧ Sc N N' ∧ ar N' 54 9 (dg (psB BB raw 9)) ∧ (∀ c i k, c ≠ 54 → qz_gl N' c i k = qz_gl N c i k)) ?_ ?_ 0 1100 _ (Nat.zero_le _) (by decide) ⟨N, ?_, Sc.rf, ?_, fun _ _ _ _ => rfl⟩
  · rintro j a hj ⟨N', rfl, hS, hA, hO⟩ k
    left
    have hc := hcar j (by omega)
    have hrj := hraw j hj
    have ev : qz_gl N' 54 0 j + lN (psB BB raw j / BB ^ j) = lN (raw j + psB BB raw j / BB ^ j) := by
      have h0 := hA j hj
      dsimp only at h0
      rw [h0, if_neg (Nat.lt_irrefl _), lN_add]
    have hd : dg (psB BB raw 9) j = (raw j + psB BB raw j / BB ^ j) % 1073741824 := by
      show dgB BB (psB BB raw 9) j = _
      rw [psB_dg BB_pos raw j 9 hj, Nat.add_comm, BB_eq]
    have hcy : psB BB raw (j + 1) / BB ^ (j + 1) = (raw j + psB BB raw j / BB ^ j) / 1073741824 := by
      rw [psB_carry BB_pos, Nat.add_comm, BB_eq]
    generalize hz : raw j + psB BB raw j / BB ^ j = z at *
    have hzl : z < 9223372036854775808 := by omega
    have e1 : lN z &&& (1073741823 : Int64) = lN (dg (psB BB raw 9) j) := by
      apply un_of; rw [un_and30, un_lN (by omega), hd]
    have e2 : ((lN z).toUInt64 >>> ((30 : Int32).toInt64.toUInt64 &&& Int64.toUInt64 63)).toInt64 = lN (psB BB raw (j + 1) / BB ^ (j + 1)) := by
      apply un_of; rw [un_shr30, un_lN (by omega), hcy]
    have hb : fM_times_105b 0 k52 k N' (nI i) (lN (psB BB raw j / BB ^ j)) (nI j) = k (qz_sl N' 54 0 j (lN (dg (psB BB raw 9) j)), nI i, lN (psB BB raw (j + 1) / BB ^ (j + 1)), nI (j + 1)) := by
      unfold fM_times_105b
      rw [lit9, if_neg (by rw [nI_le_lit (by omega) (by decide)]; omega), if_neg (nI_ok (n := 9) hj (by decide)), nI_tc (by omega)]
      dsimp only [qz_let]
      rw [if_neg (by have := nI_ok (n := 9) hj (by decide); rw [nI_tc (by omega)] at this; exact this), ev, e1, e2, nI_up]
    refine ⟨_, ⟨_, rfl, hS.tr (Sc.set (Or.inr (Or.inr (Or.inl rfl)))), ?_, ?_⟩, hb⟩
    · refine ar_congr (ar_set hA) (fun q hq => ?_)
      by_cases e : q = j
      · subst e; rw [va_up_self, if_pos (by omega)]
      · rw [va_up_ne _ _ e]
        by_cases e2 : q < j
        · rw [if_pos e2, if_pos (by omega)]
        · rw [if_neg e2, if_neg (by omega)]
    · intro c i' k' hc
      rw [qz_gl_sl, if_neg (fun z => hc z.1)]; exact hO c i' k' hc
  · rintro a ⟨N', rfl, hS, hA, hO⟩ k
    refine ⟨N', ?_, hS, ar_congr hA (fun q hq => by rw [if_pos hq]), hO⟩
    show fM_times_105b 0 k52 k N' (nI i) (lN (psB BB raw 9 / BB ^ 9)) (nI 9) = _
    unfold fM_times_105b
    rw [if_pos (by decide)]
    dsimp only [qz_let]
    rw [nI_up]
  · rw [psB_0, Nat.zero_div, lN_0]; rfl
  · exact ar_congr hr (fun q hq => by rw [if_neg (Nat.not_lt_zero _)])
/-- a row: big[i] times the pieces comes to the sum at place i -/
theorem M_t61 {N : qz_N} {T v m i : Nat} (hi : i < 6) (hT : ar N 54 9 (dg T)) (hv : ar N 52 6 (dg v)) (hm : ar N 55 3 (dg m)) (k52 : qz_N × Int32 → Option (Unit × qz_N)) : ∃ N', fM_times_61 0 k52 1100 (N, nI i, 0) = k52 (N', nI (i + 1)) ∧ Sc N N' ∧ ar N' 54 9 (dg (psB BB (fun q => dg T q + rowB (dg v i) (dg m) i q) 9)) ∧ (∀ c i k, c ≠ 54 → qz_gl N' c i k = qz_gl N c i k) := by
  have hx := dg_lt v i
  unfold fM_times_61
  refine qz_loop_to (fun j a => ∃ N', a = (N', nI i, nI j) ∧ Sc N N' ∧ ar N' 54 9 (fun q => dg T q + if i ≤ q ∧ q < i + j then dg v i * dg m (q - i) else 0) ∧ (∀ c i k, c ≠ 54 → qz_gl N' c i k = qz_gl N c i k)) 3 (fun r => ∃ N', r = k52 (N', nI (i + 1)) ∧ Sc N N' ∧ ar N' 54 9 (dg (psB BB (fun q => dg T q + rowB (dg v i) (dg m) i q) 9)) ∧ (∀ c i k, c ≠ 54 → qz_gl N' c i k = qz_gl N c i k)) ?_ ?_ 0 1100 _ (Nat.zero_le _) (by decide) ⟨N, rfl, Sc.rf, ?_, fun _ _ _ _ => rfl⟩
  · rintro j a hj ⟨N', rfl, hS, hA, hO⟩ k
    left
    have e1 : qz_gl N' 54 0 (i + j) = lN (dg T (i + j)) := by
      have h0 := hA (i + j) (by omega)
      dsimp only at h0
      rw [if_neg (by omega), Nat.add_zero] at h0
      exact h0
    have hb : fM_times_61b 0 k52 k N' (nI i) (nI j) = k (qz_sl N' 54 0 (i + j) (lN (dg T (i + j) + dg v i * dg m j)), nI i, nI (j + 1)) := by
      unfold fM_times_61b
      rw [lt3, if_neg (by rw [nI_le_lit (by omega) (by decide)]; omega), nI_add, if_neg (nI_ok (n := 9) (by omega) (by decide)), if_neg (nI_ok (n := 6) hi (by decide)), if_neg (nI_ok (n := 3) hj (by decide)), if_neg (nI_ok (n := 9) (by omega) (by decide)), nI_tc (by omega), nI_tc (by omega), nI_tc (by omega)]
      dsimp only [qz_let]
      rw [nI_up, e1, hO 52 0 i (by decide), hO 55 0 j (by decide), hv i hi, hm j hj, lN_mul, lN_add]
    refine ⟨_, ⟨_, rfl, hS.tr (Sc.set (Or.inr (Or.inr (Or.inl rfl)))), ?_, ?_⟩, hb⟩
    · refine ar_congr (ar_set hA) (fun q hq => ?_)
      by_cases e : q = i + j
      · subst e; rw [va_up_self, if_pos (by omega), show i + j - i = j by omega]
      · rw [va_up_ne _ _ e]
        by_cases e2 : i ≤ q ∧ q < i + j
        · rw [if_pos e2, if_pos (by omega)]
        · rw [if_neg e2, if_neg (by omega)]
    · intro c i' k' hc
      rw [qz_gl_sl, if_neg (fun z => hc z.1)]; exact hO c i' k' hc
  · rintro a ⟨N', rfl, hS, hA, hO⟩ k
    have hA2 : ar N' 54 9 (fun q => dg T q + rowB (dg v i) (dg m) i q) := hA
    obtain ⟨N2, e2, hS2, hA3, hO2⟩ := M_t105 (i := i) (by omega) hA2 (fun q hq => by
      have h1 := dg_lt T q
      have h2 := dg_lt m (q - i)
      have h3 : dg v i * dg m (q - i) ≤ 1073741823 * 1073741823 := Nat.mul_le_mul (by omega) (by omega)
      unfold rowB
      split <;> omega) k52
    refine ⟨N2, ?_, hS.tr hS2, hA3, fun c i k hc => (hO2 c i k hc).trans (hO c i k hc)⟩
    show fM_times_61b 0 k52 k N' (nI i) (nI 3) = _
    unfold fM_times_61b
    rw [if_pos (by decide)]
    exact e2
  · exact ar_congr hT (fun q hq => by rw [if_neg (by omega), Nat.add_zero])
/-- digits of a sum of digits and a row -/
theorem M_row {T v m i : Nat} (hi : i < 6) (hT : T < BB ^ 9) (hm : m < BB ^ 3) : psB BB (fun q => dg T q + rowB (dg v i) (dg m) i q) 9 = T + dg v i * m * BB ^ i := by
  have h1 : psB BB (fun q => dg T q + rowB (dg v i) (dg m) i q) 9 = psB BB (dgB BB T) 9 + psB BB (rowB (dg v i) (dg m) i) 9 := psB_add _ _ 9
  rw [h1, psB_id, Nat.mod_eq_of_lt hT, psB_row _ _ _ _ (by omega)]
  have h2 : dg m 0 + dg m 1 * BB + dg m 2 * (BB * BB) = m := by
    have h3 := psB_id (B := BB) m 3
    rw [Nat.mod_eq_of_lt hm, psB_s, psB_s, psB_s, psB_0, Nat.pow_zero, Nat.pow_one, Nat.mul_one, Nat.zero_add, Nat.pow_two] at h3
    exact h3
  rw [h2]
theorem M_t52 {N : qz_N} {v m : Nat} (hT : ar N 54 9 (dg 0)) (hv : ar N 52 6 (dg v)) (hm : ar N 55 3 (dg m)) (hv6 : v < BB ^ 6) (hm3 : m < BB ^ 3) : ∃ N', fM_times_52 0 1100 (N, 0) = some ((), N') ∧ Sc N N' ∧ ar N' 52 6 (dg (v * m)) ∧ (∀ c i k, c ≠ 52 → c ≠ 54 → qz_gl N' c i k = qz_gl N c i k) := by
  have hlt : ∀ i, v % BB ^ i * m < BB ^ 9 := fun i => by
    have h1 : v % BB ^ i ≤ v := Nat.mod_le _ _
    have h2 : v % BB ^ i * m ≤ v * m := Nat.mul_le_mul_right _ h1
    have h3 : v * m < BB ^ 6 * BB ^ 3 := Nat.mul_lt_mul'' hv6 hm3
    rw [← Nat.pow_add] at h3
    exact Nat.lt_of_le_of_lt h2 h3
  unfold fM_times_52
  refine qz_loop_to (fun i a => ∃ N', a = (N', nI i) ∧ Sc N N' ∧ ar N' 54 9 (dg (v % BB ^ i * m)) ∧ (∀ c i k, c ≠ 54 → qz_gl N' c i k = qz_gl N c i k)) 6 (fun r => ∃ N', r = some ((), N') ∧ Sc N N' ∧ ar N' 52 6 (dg (v * m)) ∧ (∀ c i k, c ≠ 52 → c ≠ 54 → qz_gl N' c i k = qz_gl N c i k)) ?_ ?_ 0 1100 _ (Nat.zero_le _) (by decide) ⟨N, rfl, Sc.rf, ?_, fun _ _ _ _ => rfl⟩
  · rintro i a hi ⟨N', rfl, hS, hA, hO⟩ k
    left
    obtain ⟨N2, e2, hS2, hA2, hO2⟩ := M_t61 (N := N') (v := v) (m := m) hi hA (fun q hq => by rw [hO 52 0 q (by decide)]; exact hv q hq) (fun q hq => by rw [hO 55 0 q (by decide)]; exact hm q hq) k
    rw [M_row hi (hlt i) hm3] at hA2
    have e3 : v % BB ^ i * m + dg v i * m * BB ^ i = v % BB ^ (i + 1) * m := by
      rw [modB_succ]
      generalize BB ^ i = y
      grind
    rw [e3] at hA2
    refine ⟨_, ⟨N2, rfl, hS.tr hS2, hA2, fun c i k hc => (hO2 c i k hc).trans (hO c i k hc)⟩, ?_⟩
    show fM_times_52b 0 k N' (nI i) = _
    unfold fM_times_52b
    rw [lit6, if_neg (by rw [nI_le_lit (by omega) (by decide)]; omega)]
    exact e2
  · rintro a ⟨N', rfl, hS, hA, hO⟩ k
    rw [Nat.mod_eq_of_lt hv6] at hA
    obtain ⟨N2, e2, hS2, hA2, hO2⟩ := M_t158 hA
    refine ⟨N2, ?_, hS.tr hS2, hA2, fun c i k h1 h2 => (hO2 c i k h1).trans (hO c i k h2)⟩
    show fM_times_52b 0 k N' (nI 6) = _
    unfold fM_times_52b
    rw [if_pos (by decide)]
    exact e2
  · refine ar_congr hT (fun q hq => ?_)
    rw [Nat.pow_zero, Nat.mod_one, Nat.zero_mul]
theorem M_t23 {N : qz_N} {v : Nat} {x : Int64} (hT : ar N 54 9 (dg 0)) (hv : ar N 52 6 (dg v)) (hv6 : v < BB ^ 6) : ∃ N', fM_times_23 0 1100 (N, x, 0) = some ((), N') ∧ Sc N N' ∧ ar N' 52 6 (dg (v * uN x)) ∧ (∀ c i k, c ≠ 52 → c ≠ 54 → c ≠ 55 → qz_gl N' c i k = qz_gl N c i k) := by
  have hm3 : uN x < BB ^ 3 := by
    have h64 := uN_lt x
    have h4 : BB ^ 3 = 1237940039285380274899124224 := by decide
    rw [h4]; omega
  unfold fM_times_23
  refine qz_loop_to (fun i a => ∃ N', a = (N', x, nI i) ∧ Sc N N' ∧ ar N' 55 i (dg (uN x)) ∧ (∀ c i k, c ≠ 55 → qz_gl N' c i k = qz_gl N c i k)) 3 (fun r => ∃ N', r = some ((), N') ∧ Sc N N' ∧ ar N' 52 6 (dg (v * uN x)) ∧ (∀ c i k, c ≠ 52 → c ≠ 54 → c ≠ 55 → qz_gl N' c i k = qz_gl N c i k)) ?_ ?_ 0 1100 _ (Nat.zero_le _) (by decide) ⟨N, rfl, Sc.rf, ar_0, fun _ _ _ _ => rfl⟩
  · rintro i a hi ⟨N', rfl, hS, hA, hO⟩ k
    left
    have hb : fM_times_23b 0 k N' x (nI i) = k (qz_sl N' 55 0 i (lN (dg (uN x) i)), x, nI (i + 1)) := by
      unfold fM_times_23b
      rw [lt3, if_neg (by rw [nI_le_lit (by omega) (by decide)]; omega), if_neg (nI_ok (n := 3) hi (by decide)), nI_tc (by omega), M_dig x hi]
      dsimp only [qz_let]
      rw [nI_up]
    refine ⟨_, ⟨_, rfl, hS.tr (Sc.set (Or.inr (Or.inr (Or.inr (Or.inl rfl))))), ar_ext hA, ?_⟩, hb⟩
    intro c i' k' hc
    rw [qz_gl_sl, if_neg (fun z => hc z.1)]; exact hO c i' k' hc
  · rintro a ⟨N', rfl, hS, hA, hO⟩ k
    obtain ⟨N2, e2, hS2, hA2, hO2⟩ := M_t52 (N := N') (v := v) (m := uN x) (fun q hq => by rw [hO 54 0 q (by decide)]; exact hT q hq) (fun q hq => by rw [hO 52 0 q (by decide)]; exact hv q hq) hA hv6 hm3
    refine ⟨N2, ?_, hS.tr hS2, hA2, fun c i k h1 h2 h3 => (hO2 c i k h1 h2).trans (hO c i k h3)⟩
    show fM_times_23b 0 k N' x (nI 3) = _
    unfold fM_times_23b
    rw [if_pos (by decide)]
    exact e2
/-- times: big becomes big m, cut to six places -/
theorem M_times {N : qz_N} {v : Nat} (x : Int64) (hv : ar N 52 6 (dg v)) (hv6 : v < BB ^ 6) : ∃ N', fM_times 0 x N = some ((), N') ∧ Sc N N' ∧ ar N' 52 6 (dg (v * uN x)) ∧ (∀ c i k, c ≠ 52 → c ≠ 54 → c ≠ 55 → qz_gl N' c i k = qz_gl N c i k) := by
  unfold fM_times fM_times_2
  refine qz_loop_to (fun i a => ∃ N', a = (N', x, nI i) ∧ Sc N N' ∧ ar N' 54 i (dg 0) ∧ (∀ c i k, c ≠ 54 → qz_gl N' c i k = qz_gl N c i k)) 9 (fun r => ∃ N', r = some ((), N') ∧ Sc N N' ∧ ar N' 52 6 (dg (v * uN x)) ∧ (∀ c i k, c ≠ 52 → c ≠ 54 → c ≠ 55 → qz_gl N' c i k = qz_gl N c i k)) ?_ ?_ 0 1100 _ (Nat.zero_le _) (by decide) ⟨N, rfl, Sc.rf, ar_0, fun _ _ _ _ => rfl⟩
  · rintro i a hi ⟨N', rfl, hS, hA, hO⟩ k
    left
    have hz : dg 0 i = 0 := dgB_big (n := 0) (by decide) BB_pos (Nat.zero_le _)
    have hb : fM_times_2b 0 k N' x (nI i) = k (qz_sl N' 54 0 i (lN (dg 0 i)), x, nI (i + 1)) := by
      unfold fM_times_2b
      rw [lit9, if_neg (by rw [nI_le_lit (by omega) (by decide)]; omega), if_neg (nI_ok (n := 9) hi (by decide)), nI_tc (by omega), hz, lN_0]
      dsimp only [qz_let]
      rw [nI_up]
    refine ⟨_, ⟨_, rfl, hS.tr (Sc.set (Or.inr (Or.inr (Or.inl rfl)))), ar_ext hA, ?_⟩, hb⟩
    intro c i' k' hc
    rw [qz_gl_sl, if_neg (fun z => hc z.1)]; exact hO c i' k' hc
  · rintro a ⟨N', rfl, hS, hA, hO⟩ k
    obtain ⟨N2, e2, hS2, hA2, hO2⟩ := M_t23 (N := N') (v := v) (x := x) hA (fun q hq => by rw [hO 52 0 q (by decide)]; exact hv q hq) hv6
    refine ⟨N2, ?_, hS.tr hS2, hA2, fun c i k h1 h2 h3 => (hO2 c i k h1 h2 h3).trans (hO c i k h2)⟩
    show fM_times_2b 0 k N' x (nI 9) = _
    unfold fM_times_2b
    rw [if_pos (by decide)]
    exact e2
