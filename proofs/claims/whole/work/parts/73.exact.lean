-- the class's Exact over natural numbers
theorem A_over (h lo d : Int64) (N : qz_N) (hh : uN h < 9223372036854775808) (hd0 : 0 < uN d) (hd : uN d < 9223372036854775808) : fA_over h lo d N = some (lN (min ((uN h * 18446744073709551616 + uN lo) / uN d) 9223372036854775807), N) := by
  have hlo := uN_lt lo
  have c0 : (0 : Int64) < d := by rw [un_lt (by decide) hd]; exact hd0
  have big : fA_over_26 N h lo d = some (lN (min ((uN h * 18446744073709551616 + uN lo) / uN d) 9223372036854775807), N) := by
    unfold fA_over_26
    by_cases c : h < d
    · rw [if_pos c]
      exact A_over_loop N h lo d hd (by rw [un_lt hh hd] at c; exact c)
    · rw [if_neg c]
      rw [un_lt hh hd] at c
      have : 18446744073709551616 ≤ (uN h * 18446744073709551616 + uN lo) / uN d := by
        rw [Nat.le_div_iff_mul_le hd0]
        have := Nat.mul_le_mul_left 18446744073709551616 (Nat.not_lt.mp c)
        rw [Nat.mul_comm (uN h)]; omega
      rw [Nat.min_eq_right (by omega)]; rfl
  unfold fA_over
  rw [if_pos c0]
  by_cases c1 : h = 0
  · rw [if_pos c1]
    by_cases c2 : lo < 0
    · rw [if_pos c2]; exact big
    · rw [if_neg c2, if_neg (fun z => by rw [z] at hd0; exact absurd hd0 (by decide))]
      rw [un_neg] at c2
      have e : lo / d = lN (uN lo / uN d) := by
        have := pk_lDiv (a := uN lo) (b := uN d) (by omega) hd0 (by omega)
        rw [un_eq, un_eq] at this
        exact this
      have hz : uN h = 0 := by rw [c1]; rfl
      rw [e, hz, Nat.zero_mul, Nat.zero_add, Nat.min_eq_left]
      exact Nat.le_trans (Nat.div_le_self _ _) (by omega)
  · rw [if_neg c1]; exact big
theorem A_timesOver {a b d : Nat} (ha : a < 9223372036854775808) (hb : b < 9223372036854775808) (hd0 : 0 < d) (hd : d < 9223372036854775808) (N : qz_N) : fA_timesOver (lN a) (lN b) (lN d) N = some (lN (min (a * b / d) 9223372036854775807), N) := by
  have ua : uN (lN a) = a := un_lN (by omega)
  have ub : uN (lN b) = b := un_lN (by omega)
  have ud : uN (lN d) = d := un_lN (by omega)
  obtain ⟨h, e, hu⟩ := A_highOf (lN a) (lN b) (by omega) (by omega) N
  unfold fA_timesOver
  rw [e]
  have hab : a * b ≤ 9223372036854775807 * 9223372036854775807 := Nat.mul_le_mul (by omega) (by omega)
  rw [ua, ub] at hu
  have hk := A_over h (lN a * lN b) (lN d) N (by rw [hu]; omega) (by omega) (by omega)
  rw [uN_mul, ua, ub, ud, hu] at hk
  have e2 : a * b / 18446744073709551616 * 18446744073709551616 + a * b % 18446744073709551616 = a * b := by omega
  rw [e2] at hk
  show (fA_over h (lN a * lN b) (lN d) N).bind _ = _
  rw [hk]; rfl
/-- rounded up -/
def cdiv (a d : Nat) : Nat := (a + d - 1) / d
theorem cdiv_eq {a d : Nat} (hd : 0 < d) : cdiv a d = if a % d = 0 then a / d else a / d + 1 := by
  unfold cdiv
  have h := Nat.div_add_mod a d
  have hr := Nat.mod_lt a hd
  by_cases c : a % d = 0
  · rw [if_pos c]
    have e : a + d - 1 = d * (a / d) + (d - 1) := by omega
    have hz : (d - 1) / d = 0 := Nat.div_eq_of_lt (by omega)
    rw [e, Nat.mul_add_div hd, hz, Nat.add_zero]
  · rw [if_neg c]
    have e : a + d - 1 = d * (a / d + 1) + (a % d - 1) := by
      rw [Nat.mul_add, Nat.mul_one]; omega
    have hz : (a % d - 1) / d = 0 := Nat.div_eq_of_lt (by omega)
    rw [e, Nat.mul_add_div hd, hz, Nat.add_zero]
theorem A_timesOverUp {a b d : Nat} (ha : a < 9223372036854775808) (hb : b < 9223372036854775808) (hd0 : 0 < d) (hd : d < 9223372036854775808) (N : qz_N) : fA_timesOverUp (lN a) (lN b) (lN d) N = some (lN (if a * b / d < 9223372036854775807 then cdiv (a * b) d else 9223372036854775807), N) := by
  unfold fA_timesOverUp
  rw [A_timesOver ha hb hd0 hd]
  show (if (9223372036854775807 : Int64) ≤ lN (min (a * b / d) 9223372036854775807) then _ else _) = _
  have um : uN (lN (min (a * b / d) 9223372036854775807)) = min (a * b / d) 9223372036854775807 := un_lN (by omega)
  by_cases c : a * b / d < 9223372036854775807
  · have c1 : ¬ (9223372036854775807 : Int64) ≤ lN (min (a * b / d) 9223372036854775807) := by
      rw [un_le (by decide) (by omega), um]
      have : uN (9223372036854775807 : Int64) = 9223372036854775807 := by decide
      omega
    rw [if_neg c1, if_pos c, cdiv_eq hd0, Nat.min_eq_left (by omega)]
    have hdm := Nat.div_add_mod (a * b) d
    have hm := Nat.mod_lt (a * b) hd0
    have hqd : a * b / d * d = d * (a * b / d) := Nat.mul_comm _ _
    by_cases c2 : a * b % d = 0
    · have e : lN (a * b / d) * lN d = lN a * lN b := by rw [lN_mul, lN_mul]; congr 1; omega
      rw [if_pos c2, if_pos e]; rfl
    · have e : ¬ lN (a * b / d) * lN d = lN a * lN b := by
        intro z
        have z2 := congrArg uN z
        rw [uN_mul, uN_mul, un_lN (by omega), un_lN (by omega), un_lN (by omega), un_lN (by omega)] at z2
        omega
      rw [if_neg c2, if_neg e]
      show some (lN (a * b / d) + 1, N) = _
      rw [lN_1]
  · have c1 : (9223372036854775807 : Int64) ≤ lN (min (a * b / d) 9223372036854775807) := by
      rw [un_le (by decide) (by omega), um]
      have : uN (9223372036854775807 : Int64) = 9223372036854775807 := by decide
      omega
    rw [if_pos c1, if_neg c, Nat.min_eq_right (by omega)]; rfl
theorem A_timesOverUp' {a b d : Nat} (ha : a < 9223372036854775808) (hb : b < 9223372036854775808) (hd0 : 0 < d) (hd : d < 9223372036854775808) (hq : a * b / d < 9223372036854775807) (N : qz_N) : fA_timesOverUp (lN a) (lN b) (lN d) N = some (lN (cdiv (a * b) d), N) := by
  rw [A_timesOverUp ha hb hd0 hd, if_pos hq]
theorem J_cmp (x y : Int64) (N : qz_N) : fJl_compare x y N = some (lg_cmp x y, N) := by
  unfold fJl_compare lg_cmp
  by_cases c : y ≤ x
  · rw [if_pos c]
    by_cases c2 : x = y
    · subst c2; simp
    · rw [if_neg c2]
      have : x > y := by
        rw [gt_iff_lt, Int64.lt_iff_toInt_lt]
        rw [Int64.le_iff_toInt_le] at c
        have : x.toInt ≠ y.toInt := fun z => c2 (Int64.toInt_inj.mp z)
        omega
      rw [if_pos this]
  · rw [if_neg c]
    have h1 : ¬ x > y := fun z => c (Int64.le_iff_toInt_le.mpr (by rw [gt_iff_lt, Int64.lt_iff_toInt_lt] at z; omega))
    have h2 : ¬ x = y := fun z => c (by rw [z]; exact Int64.le_refl _)
    rw [if_neg h1, if_neg h2]
theorem A_xlt (x y : Int64) : (x ^^^ (-9223372036854775808 : Int64)) < (y ^^^ (-9223372036854775808 : Int64)) ↔ uN x < uN y := by
  rw [← Int64.not_le, uN_le]; omega
/-- a bind whose first part is known -/
theorem ob_some {α β : Type} {x : Option α} {a : α} {f : α → Option β} {y : Option β} (h : x = some a) (k : f a = y) : x.bind f = y := by rw [h]; exact k
theorem A_cmpf {x y z w h1 h2 : Int64} {N : qz_N} (e1 : fA_highOf x y N = some (h1, N)) (e2 : fA_highOf z w N = some (h2, N)) : fA_compareProducts x y z w N = if lg_cmp h1 h2 = 0 then some (lg_cmp ((x * y) ^^^ (-9223372036854775808 : Int64)) ((z * w) ^^^ (-9223372036854775808 : Int64)), N) else some (lg_cmp h1 h2, N) := by
  unfold fA_compareProducts
  refine ob_some e1 ?_
  refine ob_some e2 ?_
  refine ob_some (J_cmp _ _ _) ?_
  by_cases c0 : lg_cmp h1 h2 = 0
  · rw [if_pos c0, if_pos c0]
    exact ob_some (J_cmp _ _ _) rfl
  · rw [if_neg c0, if_neg c0]
theorem A_cmpN {P Q h1 h2 l1 l2 : Nat} (e1 : h1 = P / 18446744073709551616) (e2 : h2 = Q / 18446744073709551616) (f1 : l1 = P % 18446744073709551616) (f2 : l2 = Q % 18446744073709551616) : (h1 = h2 → (l2 < l1 ↔ Q < P) ∧ (l1 < l2 ↔ P < Q)) ∧ (¬ h1 = h2 → (h2 < h1 ↔ Q < P) ∧ (h1 < h2 ↔ P < Q)) := by
  refine ⟨fun h => ⟨?_, ?_⟩, fun h => ⟨?_, ?_⟩⟩ <;> omega
/-- products compared -/
theorem A_cmp {a b c d : Nat} (ha : a < 9223372036854775808) (hb : b < 9223372036854775808) (hc : c < 9223372036854775808) (hd : d < 9223372036854775808) (N : qz_N) : ∃ r : Int32, fA_compareProducts (lN a) (lN b) (lN c) (lN d) N = some (r, N) ∧ (0 < r ↔ c * d < a * b) ∧ (r < 0 ↔ a * b < c * d) := by
  have ua : uN (lN a) = a := un_lN (by omega)
  have ub : uN (lN b) = b := un_lN (by omega)
  have uc : uN (lN c) = c := un_lN (by omega)
  have ud : uN (lN d) = d := un_lN (by omega)
  obtain ⟨h1, e1, hu1⟩ := A_highOf (lN a) (lN b) (by omega) (by omega) N
  obtain ⟨h2, e2, hu2⟩ := A_highOf (lN c) (lN d) (by omega) (by omega) N
  rw [ua, ub] at hu1
  rw [uc, ud] at hu2
  have hab : a * b ≤ 9223372036854775807 * 9223372036854775807 := Nat.mul_le_mul (by omega) (by omega)
  have hcd : c * d ≤ 9223372036854775807 * 9223372036854775807 := Nat.mul_le_mul (by omega) (by omega)
  have m1 : uN (lN a * lN b) = a * b % 18446744073709551616 := by rw [uN_mul, ua, ub]
  have m2 : uN (lN c * lN d) = c * d % 18446744073709551616 := by rw [uN_mul, uc, ud]
  have hf := A_cmpf e1 e2
  have key := A_cmpN hu1 hu2 m1 m2
  have g1 : uN h1 < 9223372036854775808 := by omega
  have g2 : uN h2 < 9223372036854775808 := by omega
  generalize a * b = P at *
  generalize c * d = Q at *
  by_cases c0 : lg_cmp h1 h2 = 0
  · rw [if_pos c0] at hf
    have k := key.1 (by rw [(lg_cmp_eq _ _).mp c0])
    exact ⟨_, hf, by rw [lg_cmp_gt, A_xlt]; exact k.1, by rw [lg_cmp_lt, A_xlt]; exact k.2⟩
  · rw [if_neg c0] at hf
    have k := key.2 (fun z => c0 ((lg_cmp_eq _ _).mpr (uN_inj z)))
    exact ⟨_, hf, by rw [lg_cmp_gt, un_lt g2 g1]; exact k.1, by rw [lg_cmp_lt, un_lt g1 g2]; exact k.2⟩
/-- the whole root, cut off: the greatest r with r r not above n -/
def isRoot (n r : Nat) : Prop := r * r ≤ n ∧ n < (r + 1) * (r + 1)
theorem isRoot_uniq {n r s : Nat} (h1 : isRoot n r) (h2 : isRoot n s) : r = s := by
  obtain ⟨a1, a2⟩ := h1
  obtain ⟨b1, b2⟩ := h2
  rcases Nat.lt_trichotomy r s with h | h | h
  · have := Nat.mul_le_mul (show r + 1 ≤ s from h) (show r + 1 ≤ s from h); omega
  · exact h
  · have := Nat.mul_le_mul (show s + 1 ≤ r from h) (show s + 1 ≤ r from h); omega
theorem sq_lt {a b : Nat} (h : a < b) : a * a < b * b := Nat.mul_lt_mul'' h h
theorem A_root {u v : Nat} (hu : u ≤ 100000000000000) (hv : v ≤ 100000000000000) (N : qz_N) : ∃ r : Nat, fA_rootOfProduct (lN u) (lN v) N = some (lN r, N) ∧ isRoot (u * v) r ∧ r < 140737488355328 := by
  have huv : u * v ≤ 100000000000000 * 100000000000000 := Nat.mul_le_mul hu hv
  unfold fA_rootOfProduct fA_rootOfProduct_8
  refine qz_loop_dn (fun i a => i ≤ 47 ∧ ∃ r : Nat, a = (N, lN u, lN v, lN r, lN (2 ^ i / 2)) ∧ r * r ≤ u * v ∧ u * v < (r + 2 ^ i) * (r + 2 ^ i) ∧ r + 2 ^ i ≤ 140737488355328) (fun x => ∃ r : Nat, x = some (lN r, N) ∧ isRoot (u * v) r ∧ r < 140737488355328) ?_ ?_ 47 1100 _ (by decide) ⟨Nat.le_refl _, 0, by rfl, Nat.zero_le _, ?_, by decide⟩
  · rintro i a ⟨hi, r, rfl, h1, h2, h3⟩
    have e1 : 2 ^ (i + 1) / 2 = 2 ^ i := by rw [Nat.pow_succ]; omega
    have e2 : 2 ^ (i + 1) = 2 ^ i + 2 ^ i := by rw [Nat.pow_succ]; omega
    rw [e1]
    rw [e2] at h2 h3
    have hp : 0 < 2 ^ i := Nat.two_pow_pos i
    generalize 2 ^ i = B at *
    have cB : ¬ lN B ≤ (0 : Int64) := by
      rw [un_le (by rw [un_lN (by omega)]; omega) (by decide), un_lN (by omega)]
      have : uN (0 : Int64) = 0 := by decide
      omega
    obtain ⟨q, eq, hq1, hq2⟩ := A_cmp (a := r + B) (b := r + B) (c := u) (d := v) (by omega) (by omega) (by omega) (by omega) N
    have esh : (lN B >>> ((1 : Int32).toInt64 &&& 63)) = lN (B / 2) := pf_shr (d := 1) (by decide) (by omega)
    by_cases c : 0 < q
    · refine ⟨(N, lN u, lN v, lN r, lN (B / 2)), ⟨by omega, r, rfl, h1, by rw [hq1] at c; exact c, by omega⟩, fun k => ?_⟩
      show fA_rootOfProduct_8b k N (lN u) (lN v) (lN r) (lN B) = _
      unfold fA_rootOfProduct_8b
      rw [if_neg cB, lN_add, eq]
      show (if 0 < q then _ else _) = _
      rw [if_pos c]
      unfold fA_rootOfProduct_40
      dsimp only [qz_let]
      rw [esh]
    · refine ⟨(N, lN u, lN v, lN (r + B), lN (B / 2)), ⟨by omega, r + B, rfl, by rw [hq1] at c; omega, by rw [Nat.add_assoc]; exact h2, by omega⟩, fun k => ?_⟩
      show fA_rootOfProduct_8b k N (lN u) (lN v) (lN r) (lN B) = _
      unfold fA_rootOfProduct_8b
      rw [if_neg cB, lN_add, eq]
      show (if 0 < q then _ else _) = _
      rw [if_neg c]
      unfold fA_rootOfProduct_40
      dsimp only [qz_let]
      rw [esh]
  · rintro a ⟨-, r, rfl, h1, h2, h3⟩ k
    refine ⟨r, ?_, ⟨h1, h2⟩, by omega⟩
    show fA_rootOfProduct_8b k N (lN u) (lN v) (lN r) (lN (2 ^ 0 / 2)) = _
    unfold fA_rootOfProduct_8b
    rw [if_pos (by decide)]
  · have : (100000000000000 : Nat) * 100000000000000 < (0 + 2 ^ 47) * (0 + 2 ^ 47) := by decide
    omega
