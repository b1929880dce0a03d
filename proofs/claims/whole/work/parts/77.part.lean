theorem BB6 : BB ^ 6 = 1532495540865888858358347027150309183618739122183602176 := by decide
theorem pw180 : (2 : Nat) ^ 180 = 1532495540865888858358347027150309183618739122183602176 := by decide
theorem M_part {a b d : Nat} (ha : a < 18446744073709551616) (hb : b < 18446744073709551616) (hd0 : 0 < d) (hd : d < 4611686018427387904) (N : qz_N) : ∃ N', fM_part 0 (lN a) (lN b) (lN d) N = some (lN (qcap (a * b / d)), N') ∧ Sc N N' ∧ qz_gl N' 7 0 41 = lN (a * b % d) ∧ ar N' 52 6 (dg (a * b)) ∧ (∀ k, qz_gl N' 53 0 k = qz_gl N 53 0 k) := by
  have ua : uN (lN a) = a := un_lN ha
  have ub : uN (lN b) = b := un_lN hb
  obtain ⟨N1, e1, s1, a1, o1⟩ := M_begin (lN a) N
  rw [ua] at a1
  obtain ⟨N2, e2, s2, a2, o2⟩ := M_times (lN b) a1 (by rw [BB6]; omega)
  rw [ub] at a2
  have hab : a * b ≤ 18446744073709551615 * 18446744073709551615 := Nat.mul_le_mul (by omega) (by omega)
  obtain ⟨N3, e3, s3, r3, o3⟩ := M_over (D := d) a2 (by rw [pw180]; exact Nat.div_eq_of_lt (by omega)) hd0 hd
  refine ⟨N3, ?_, (s1.tr s2).tr s3, r3, fun k hk => by rw [o3 52 0 k (by omega)]; exact a2 k hk, fun k => by rw [o3 53 0 k (by omega), o2 53 0 k (by decide) (by decide) (by decide), o1 53 0 k (by decide)]⟩
  unfold fM_part
  exact ob_some e1 (ob_some e2 (ob_some e3 rfl))
theorem M_partUp {a b d : Nat} (ha : a < 18446744073709551616) (hb : b < 18446744073709551616) (hd0 : 0 < d) (hd : d < 4611686018427387904) (hq : a * b / d < 9223372036854775807) (N : qz_N) : ∃ N', fM_partUp 0 (lN a) (lN b) (lN d) N = some (lN (cdiv (a * b) d), N') ∧ Sc N N' := by
  obtain ⟨N1, e1, s1, r1, -, -⟩ := M_part ha hb hd0 hd N
  have hqc : qcap (a * b / d) = a * b / d := by unfold qcap; rw [if_pos (by omega)]
  rw [hqc] at e1
  refine ⟨N1, ?_, s1⟩
  unfold fM_partUp
  refine ob_some e1 ?_
  have hm := Nat.mod_lt (a * b) hd0
  rw [cdiv_eq hd0]
  have hc : (qz_gl N1 7 0 41 ≤ (0 : Int64)) ↔ a * b % d = 0 := by
    rw [r1, un_le (by rw [un_lN (by omega)]; omega) (by decide), un_lN (by omega)]
    have : uN (0 : Int64) = 0 := by decide
    omega
  by_cases c : a * b % d = 0
  · rw [if_pos c]
    exact if_pos (hc.mpr c)
  · rw [if_neg c]
    refine (if_neg (fun z => c (hc.mp z))).trans ?_
    show some (lN (a * b / d) + 1, N1) = _
    rw [lN_1]
theorem M_keepBig {N : qz_N} {f : Nat → Nat} (hf : ar N 52 6 f) : ∃ N', fM_keepBig 0 N = some ((), N') ∧ Sc N N' ∧ ar N' 53 6 f ∧ (∀ c i k, c ≠ 53 → qz_gl N' c i k = qz_gl N c i k) := by
  unfold fM_keepBig fM_keepBig_2
  refine qz_loop_to (fun i a => ∃ N', a = (N', nI i) ∧ Sc N N' ∧ ar N' 53 i f ∧ (∀ c i k, c ≠ 53 → qz_gl N' c i k = qz_gl N c i k)) 6 (fun r => ∃ N', r = some ((), N') ∧ Sc N N' ∧ ar N' 53 6 f ∧ (∀ c i k, c ≠ 53 → qz_gl N' c i k = qz_gl N c i k)) ?_ ?_ 0 1100 _ (Nat.zero_le _) (by decide) ⟨N, rfl, Sc.rf, ar_0, fun _ _ _ _ => rfl⟩
  · rintro i a hi ⟨N', rfl, hS, hA, hO⟩ k
    left
    have hb : fM_keepBig_2b 0 k N' (nI i) = k (qz_sl N' 53 0 i (lN (f i)), nI (i + 1)) := by
      unfold fM_keepBig_2b
      rw [lit6, if_neg (by rw [nI_le_lit (by omega) (by decide)]; omega), if_neg (nI_ok (n := 6) hi (by decide)), if_neg (nI_ok (n := 6) hi (by decide)), nI_tc (by omega)]
      dsimp only [qz_let]
      rw [nI_up, hO 52 0 i (by decide), hf i (by omega)]
    refine ⟨_, ⟨_, rfl, hS.tr (Sc.set (Or.inr (Or.inl rfl))), ar_ext hA, ?_⟩, hb⟩
    intro c i' k' hc
    rw [qz_gl_sl, if_neg (fun z => hc z.1)]; exact hO c i' k' hc
  · rintro a ⟨N', rfl, hS, hA, hO⟩ k
    refine ⟨N', ?_, hS, hA, hO⟩
    show fM_keepBig_2b 0 k N' (nI 6) = _
    unfold fM_keepBig_2b
    rw [if_pos (by decide)]
/-- numbers compared by their digits -/
theorem dig_cmp {B U V k : Nat} (hB : 0 < B) (h : U / B ^ (k + 1) = V / B ^ (k + 1)) (hd : ¬ dgB B U k = dgB B V k ∨ k = 0) : U < V ↔ dgB B U k < dgB B V k := by
  have hp : 0 < B ^ k := Nat.pow_pos hB
  have eU : U / B ^ k = B * (U / B ^ (k + 1)) + dgB B U k := by
    rw [Nat.pow_succ, ← Nat.div_div_eq_div_mul]; exact (Nat.div_add_mod _ _).symm
  have eV : V / B ^ k = B * (V / B ^ (k + 1)) + dgB B V k := by
    rw [Nat.pow_succ, ← Nat.div_div_eq_div_mul]; exact (Nat.div_add_mod _ _).symm
  rw [← h] at eV
  have lt1 : U / B ^ k < V / B ^ k → U < V := fun z => Nat.lt_of_not_le fun y => by
    have := Nat.div_le_div_right (c := B ^ k) y; omega
  have lt2 : V / B ^ k < U / B ^ k → V < U := fun z => Nat.lt_of_not_le fun y => by
    have := Nat.div_le_div_right (c := B ^ k) y; omega
  rcases hd with hd | hd
  · constructor
    · intro z
      apply Nat.lt_of_not_le
      intro y
      have := lt2 (by omega)
      omega
    · intro z; exact lt1 (by omega)
  · subst hd
    rw [Nat.pow_zero, Nat.div_one] at eU eV
    omega
theorem M_less28 {N : qz_N} {U V k : Nat} (hk : k < 6) (hU : ar N 53 6 (dg U)) (hV : ar N 52 6 (dg V)) : fM_keptIsLess_28 0 N (nI k) = some (if dg U k < dg V k then 1 else 0, N) := by
  have h1 := dg_lt U k
  have h2 := dg_lt V k
  unfold fM_keptIsLess_28
  rw [if_neg (nI_ok (n := 6) hk (by decide)), if_neg (nI_ok (n := 6) hk (by decide)), nI_tc (by omega), hU k hk, hV k hk]
  have hc : (lN (dg V k) ≤ lN (dg U k)) ↔ dg V k ≤ dg U k := by
    rw [un_le (by rw [un_lN (by omega)]; omega) (by rw [un_lN (by omega)]; omega), un_lN (by omega), un_lN (by omega)]
  by_cases c : dg U k < dg V k
  · rw [if_neg (by rw [hc]; omega), if_pos c]
  · rw [if_pos (by rw [hc]; omega), if_neg c]
theorem M_less {N : qz_N} {U V : Nat} (hU : ar N 53 6 (dg U)) (hV : ar N 52 6 (dg V)) (hU6 : U < BB ^ 6) (hV6 : V < BB ^ 6) : fM_keptIsLess 0 N = some (if U < V then 1 else 0, N) := by
  unfold fM_keptIsLess fM_keptIsLess_2
  refine qz_loop_to (fun j a => j ≤ 5 ∧ a = (N, nI (5 - j)) ∧ U / BB ^ (6 - j) = V / BB ^ (6 - j)) 5 (fun r => r = some (if U < V then 1 else 0, N)) ?_ ?_ 0 1100 _ (Nat.zero_le _) (by decide) ⟨by decide, rfl, ?_⟩
  · rintro j a hj ⟨-, rfl, h⟩ k
    have h1 := dg_lt U (5 - j)
    have h2 := dg_lt V (5 - j)
    have e6 : 6 - j = 5 - j + 1 := by omega
    rw [e6] at h
    have c0 : ¬ nI (5 - j) ≤ 0 := nI_nle (by omega) (by omega)
    have hb : fM_keptIsLess_2b 0 k N (nI (5 - j)) = if dg U (5 - j) = dg V (5 - j) then k (N, nI (5 - (j + 1))) else fM_keptIsLess_28 0 N (nI (5 - j)) := by
      unfold fM_keptIsLess_2b
      rw [if_neg c0, if_neg (nI_ok (n := 6) (by omega) (by decide)), if_neg (nI_ok (n := 6) (by omega) (by decide)), nI_tc (by omega), hU _ (by omega), hV _ (by omega)]
      have hc : (lN (dg U (5 - j)) = lN (dg V (5 - j))) ↔ dg U (5 - j) = dg V (5 - j) := ⟨fun z => by have := congrArg uN z; rw [un_lN (by omega), un_lN (by omega)] at this; exact this, fun z => by rw [z]⟩
      dsimp only [qz_let]
      rw [nI_s1, show nI (5 - j) - 1 = nI (5 - (j + 1)) from by rw [show 5 - j = 5 - (j + 1) + 1 by omega]; exact nI_m1 _]
      by_cases c : dg U (5 - j) = dg V (5 - j)
      · rw [if_pos (hc.mpr c), if_pos c]
      · rw [if_neg (fun z => c (hc.mp z)), if_neg c]
    show (∃ a', _ ∧ fM_keptIsLess_2b 0 k N (nI (5 - j)) = k a') ∨ fM_keptIsLess_2b 0 k N (nI (5 - j)) = _
    rw [hb]
    by_cases c : dg U (5 - j) = dg V (5 - j)
    · left
      rw [if_pos c]
      refine ⟨_, ⟨by omega, rfl, ?_⟩, rfl⟩
      have e5 : 6 - (j + 1) = 5 - j := by omega
      rw [e5]
      have eU : U / BB ^ (5 - j) = BB * (U / BB ^ (5 - j + 1)) + dgB BB U (5 - j) := by
        rw [Nat.pow_succ, ← Nat.div_div_eq_div_mul]; exact (Nat.div_add_mod _ _).symm
      have eV : V / BB ^ (5 - j) = BB * (V / BB ^ (5 - j + 1)) + dgB BB V (5 - j) := by
        rw [Nat.pow_succ, ← Nat.div_div_eq_div_mul]; exact (Nat.div_add_mod _ _).symm
      rw [eU, eV, h]
      congr 1
    · right
      rw [if_neg c, M_less28 (by omega) hU hV]
      have := dig_cmp BB_pos h (Or.inl c)
      by_cases d : U < V
      · rw [if_pos d, if_pos (this.mp d)]
      · rw [if_neg d, if_neg (fun z => d (this.mpr z))]
  · rintro a ⟨-, rfl, h⟩ k
    show fM_keptIsLess_2b 0 k N (nI 0) = _
    unfold fM_keptIsLess_2b
    rw [if_pos (by decide), M_less28 (by omega) hU hV]
    have := dig_cmp (k := 0) BB_pos h (Or.inr rfl)
    by_cases d : U < V
    · rw [if_pos d, if_pos (this.mp d)]
    · rw [if_neg d, if_neg (fun z => d (this.mpr z))]
  · rw [Nat.div_eq_of_lt hU6, Nat.div_eq_of_lt hV6]
