theorem qz_let_eq {α β : Type} (e : α) (k : α → β) : qz_let e k = k e := rfl
theorem bit_mod {x r n : Nat} (h : r < n) : x % 2 ^ n / 2 ^ r % 2 = x / 2 ^ r % 2 := by
  have e : (2 : Nat) ^ n = 2 ^ r * (2 * 2 ^ (n - r - 1)) := by
    rw [← Nat.mul_assoc, Nat.mul_comm (2 ^ r) 2, ← Nat.pow_succ', ← Nat.pow_add]
    congr 1; omega
  have h2 := Nat.div_add_mod x (2 ^ n)
  have e3 : x / 2 ^ r = 2 * (2 ^ (n - r - 1) * (x / 2 ^ n)) + x % 2 ^ n / 2 ^ r := by
    conv => lhs; rw [← h2]
    rw [e, Nat.mul_assoc, Nat.mul_add_div (Nat.two_pow_pos r), Nat.mul_assoc, ← e]
  omega
theorem M_bit (V j : Nat) : dg V (j / 30) / 2 ^ (j % 30) % 2 = V / 2 ^ j % 2 := by
  show V / BB ^ (j / 30) % BB / 2 ^ (j % 30) % 2 = _
  have hb : BB = 2 ^ 30 := by decide
  rw [hb, bit_mod (Nat.mod_lt _ (by decide)), ← Nat.pow_mul, Nat.div_div_eq_div_mul, ← Nat.pow_add, Nat.div_add_mod]
def qcap (q : Nat) : Nat := if q < 9223372036854775808 then q else 4611686018427387904
theorem qcap_step (Q b : Nat) (hb : b < 2) : qcap (2 * Q + b) = if qcap Q < 4611686018427387904 then 2 * qcap Q + b else 4611686018427387904 := by
  unfold qcap
  repeat' split
  all_goals omega
theorem lit62 : (4611686018427387904 : Int64) = lN 4611686018427387904 := by decide
theorem lit2l : (2 : Int64) = lN 2 := by decide
theorem lit1l : (1 : Int64) = lN 1 := by decide
theorem lit180 : nI 180 - 1 = (179 : Int32) := by decide
theorem uN_2 : uN 2 = 2 := by decide
theorem M_o116 (k : qz_N × Int64 × Int64 × Int32 → Option (Int64 × qz_N)) (N : qz_N) (d : Int64) (i : Nat) (q : Int64) : fM_over_116 0 k N d (nI i) q = k (N, d, q, nI i - 1) := by
  unfold fM_over_116
  dsimp only [qz_let]
  rw [nI_s1]
theorem M_o83 (k : qz_N × Int64 × Int64 × Int32 → Option (Int64 × qz_N)) (N : qz_N) (d : Int64) (i q : Nat) (b : Bool) (r : Int64) (hq : q < 9223372036854775808) : fM_over_83 0 k N d (lN q) (nI i) (if b = true then 0 else 1) r 0 = k (qz_sl N 7 0 41 r, d, lN (if q < 4611686018427387904 then 2 * q + (if b = true then 0 else 1) else 4611686018427387904), nI i - 1) := by
  have uq : uN (lN q) = q := un_lN (by omega)
  have ug : uN (4611686018427387904 : Int64) = 4611686018427387904 := by decide
  have cq : (lN q < (4611686018427387904 : Int64)) ↔ q < 4611686018427387904 := by
    rw [un_lt (by omega) (by omega), uq, ug]
  unfold fM_over_83
  dsimp only [qz_let]
  by_cases cc : q < 4611686018427387904
  · rw [if_pos (cq.mpr cc), if_pos cc]
    cases b with
    | true =>
      rw [if_pos rfl, if_pos rfl, if_pos rfl]
      unfold fM_over_115
      rw [M_o116, lit2l, ← lN_0, lN_mul, lN_add]
    | false =>
      rw [if_neg (by decide), if_neg (by decide)]
      unfold fM_over_115
      rw [M_o116, lit2l, lit1l, lN_mul, lN_add]
  · rw [if_neg (fun z => cc (cq.mp z)), if_neg cc, M_o116, lit62]
theorem M_o62 (k : qz_N × Int64 × Int64 × Int32 → Option (Int64 × qz_N)) (N : qz_N) (D i q z : Nat) (hz : qz_gl N 7 0 41 = lN z) (b : Bool) (hb : b = decide (z < D)) (hq : q < 9223372036854775808) : fM_over_62 0 k N (lN D) (lN q) (nI i) (if b = true then 0 else 1) = k (qz_sl N 7 0 41 (lN (if z < D then z else z - D)), lN D, lN (if q < 4611686018427387904 then 2 * q + (if b = true then 0 else 1) else 4611686018427387904), nI i - 1) := by
  unfold fM_over_62
  by_cases c : z < D
  · have hbt : b = true := by rw [hb]; exact decide_eq_true c
    subst hbt
    rw [if_pos rfl, if_pos (by decide), hz, if_pos c]
    exact M_o83 k N (lN D) i q true (lN z) hq
  · have hbt : b = false := by rw [hb]; exact decide_eq_false c
    subst hbt
    rw [if_neg (by decide), if_neg (by decide), hz, if_neg c, lN_sub (by omega)]
    exact M_o83 k N (lN D) i q false (lN (z - D)) hq
theorem M_ostep {N : qz_N} {D q r bt i : Nat} (hi : i < 180) (hr : qz_gl N 7 0 41 = lN r) (hbit : ((qz_gl N 52 0 (i / 30)).toUInt64 >>> ((nI (i % 30)).toInt64.toUInt64 &&& Int64.toUInt64 63)).toInt64 &&& (1 : Int64) = lN bt) (hD : D < 4611686018427387904) (hrD : r < D) (hbt : bt < 2) (hql : q < 9223372036854775808) (k : qz_N × Int64 × Int64 × Int32 → Option (Int64 × qz_N)) : fM_over_12b 0 k N (lN D) (lN q) (nI i) = k (qz_sl (qz_sl N 7 0 41 (lN (2 * r + bt))) 7 0 41 (lN (if 2 * r + bt < D then 2 * r + bt else 2 * r + bt - D)), lN D, lN (if q < 4611686018427387904 then 2 * q + (if decide (2 * r + bt < D) = true then 0 else 1) else 4611686018427387904), nI i - 1) := by
  have hn0 : ¬ nI i < 0 := nI_pos (by omega)
  have ediv : nI i / (30 : Int32) = nI (i / 30) := pk_div (a := i) (d := 30) (by omega) (by decide) (by decide)
  have erem : nI i - nI i / (30 : Int32) * (30 : Int32) = nI (i % 30) := pk_rem (a := i) (d := 30) (by omega) (by decide) (by decide)
  have e2 : (2 : Int64) * lN r + lN bt = lN (2 * r + bt) := by rw [lit2l, lN_mul, lN_add]
  have u2 : uN (lN (2 * r + bt)) = 2 * r + bt := un_lN (by omega)
  have uD : uN (lN D) = D := un_lN (by omega)
  have c1 : (lN (2 * r + bt) < lN D) ↔ 2 * r + bt < D := by rw [un_lt (by omega) (by omega), u2, uD]
  have eg : qz_gl (qz_sl N 7 0 41 (lN (2 * r + bt))) 7 0 41 = lN (2 * r + bt) := by rw [qz_gl_sl, if_pos ⟨rfl, rfl, rfl⟩]
  unfold fM_over_12b
  rw [if_neg hn0, erem, ediv, if_neg (nI_ok (n := 6) (by omega) (by decide)), nI_tc (by omega), hbit, hr, e2]
  dsimp only [qz_let]
  rw [eg]
  by_cases c : 2 * r + bt < D
  · rw [if_pos (c1.mpr c)]
    exact M_o62 k _ D i q (2 * r + bt) eg true (decide_eq_true c).symm hql |>.trans (by rw [decide_eq_true c])
  · rw [if_neg (fun z => c (c1.mp z))]
    exact M_o62 k _ D i q (2 * r + bt) eg false (decide_eq_false c).symm hql |>.trans (by rw [decide_eq_false c])
theorem M_qs {Q1 q z D : Nat} (hq : q = qcap Q1) : (if q < 4611686018427387904 then 2 * q + (if decide (z < D) = true then 0 else 1) else 4611686018427387904) = qcap (if z < D then 2 * Q1 else 2 * Q1 + 1) := by
  by_cases c : z < D
  · rw [if_pos (decide_eq_true c), if_pos c, hq]
    exact (qcap_step Q1 0 (by decide)).symm
  · rw [if_neg (fun z => c (of_decide_eq_true z)), if_neg c, hq]
    exact (qcap_step Q1 1 (by decide)).symm
theorem qcap_lt (Q : Nat) : qcap Q < 9223372036854775808 := by unfold qcap; split <;> omega
/-- over: big by d; the rest in its field -/
theorem M_over {N : qz_N} {V : Nat} {D : Nat} (hV : ar N 52 6 (dg V)) (hV6 : V / 2 ^ 180 = 0) (hD0 : 0 < D) (hD : D < 4611686018427387904) : ∃ N', fM_over 0 (lN D) N = some (lN (qcap (V / D)), N') ∧ Sc N N' ∧ qz_gl N' 7 0 41 = lN (V % D) ∧ (∀ c i k, ¬ (c = 7 ∧ k = 41) → qz_gl N' c i k = qz_gl N c i k) := by
  unfold fM_over fM_over_12
  rw [qz_let_eq]
  refine qz_loop_dn (fun i a => i ≤ 180 ∧ ∃ (N' : qz_N) (q : Nat), a = (N', lN D, lN q, nI i - 1) ∧ Sc N N' ∧ q = qcap (V / 2 ^ i / D) ∧ qz_gl N' 7 0 41 = lN (V / 2 ^ i % D) ∧ (∀ c i k, ¬ (c = 7 ∧ k = 41) → qz_gl N' c i k = qz_gl N c i k)) (fun r => ∃ N', r = some (lN (qcap (V / D)), N') ∧ Sc N N' ∧ qz_gl N' 7 0 41 = lN (V % D) ∧ (∀ c i k, ¬ (c = 7 ∧ k = 41) → qz_gl N' c i k = qz_gl N c i k)) ?_ ?_ 180 1100 _ (by decide) ⟨Nat.le_refl _, qz_sl N 7 0 41 0, 0, ?_, Sc.set (Or.inr (Or.inr (Or.inr (Or.inr ⟨rfl, rfl⟩)))), ?_, ?_, ?_⟩
  · rintro i a ⟨hi, N', q, rfl, hS, hq, hr, hO⟩
    have hs := A_stepN (V := V) (d := D) (k := i) hD0
    simp only at hs
    have hdl := dg_lt V (i / 30)
    have hst := fun k => M_ostep (N := N') (D := D) (q := q) (r := V / 2 ^ (i + 1) % D) (bt := V / 2 ^ i % 2) (i := i) (by omega) hr (by
      rw [hO 52 0 _ (by omega), hV _ (by omega)]
      apply un_of
      rw [un_and1, uN_sk _ (by omega), un_lN (by omega), M_bit]) hD (Nat.mod_lt _ hD0) (Nat.mod_lt _ (by decide)) (by rw [hq]; exact qcap_lt _) k
    rw [M_qs hq, ← hs.1, ← hs.2] at hst
    rw [nI_m1]
    refine ⟨_, ⟨by omega, _, _, rfl, (hS.tr (Sc.set (Or.inr (Or.inr (Or.inr (Or.inr ⟨rfl, rfl⟩)))))).tr (Sc.set (Or.inr (Or.inr (Or.inr (Or.inr ⟨rfl, rfl⟩))))), rfl, ?_, ?_⟩, hst⟩
    · rw [qz_gl_sl, if_pos ⟨rfl, rfl, rfl⟩]
    · intro c i' k' hcc
      rw [qz_gl_sl, if_neg (fun z => hcc ⟨z.1, z.2.2⟩), qz_gl_sl, if_neg (fun z => hcc ⟨z.1, z.2.2⟩)]
      exact hO c i' k' hcc
  · rintro a ⟨-, N', q, rfl, hS, hq, hr, hO⟩ k
    rw [Nat.pow_zero, Nat.div_one] at hq hr
    refine ⟨N', ?_, hS, hr, hO⟩
    show fM_over_12b 0 k N' (lN D) (lN q) (nI 0 - 1) = _
    unfold fM_over_12b
    rw [if_pos (by decide), hq]
  · rw [lN_0, lit180]
  · rw [hV6, Nat.zero_div]; decide
  · rw [qz_gl_sl, if_pos ⟨rfl, rfl, rfl⟩, hV6, Nat.zero_mod, lN_0]
  · intro c i k hc
    rw [qz_gl_sl, if_neg (fun z => hc ⟨z.1, z.2.2⟩)]
