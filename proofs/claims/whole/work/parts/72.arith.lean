theorem qz_loop_dn {α β : Type} {body : (α → Option β) → α → Option β} (I : Nat → α → Prop) (Q : Option β → Prop) (hstep : ∀ i a, I (i + 1) a → ∃ a', I i a' ∧ ∀ k, body k a = k a') (hend : ∀ a, I 0 a → ∀ k, Q (body k a)) : ∀ i n a, i < n → I i a → Q (qz_loop body n a) := by
  intro i
  induction i with
  | zero =>
    intro n a hn hI
    obtain ⟨m, rfl⟩ : ∃ m, n = m + 1 := ⟨n - 1, by omega⟩
    exact hend a hI _
  | succ i ih =>
    intro n a hn hI
    obtain ⟨m, rfl⟩ : ∃ m, n = m + 1 := ⟨n - 1, by omega⟩
    obtain ⟨a', hI', hb⟩ := hstep i a hI
    show Q (body (qz_loop body m) a)
    rw [hb]
    exact ih m a' (by omega) hI'
theorem qz_loop_up {α β : Type} {body : (α → Option β) → α → Option β} (I : Nat → α → Prop) (e : Nat) (Q : Option β → Prop) (hstep : ∀ i a, i < e → I i a → (∃ a', I (i + 1) a' ∧ ∀ k, body k a = k a') ∨ ∀ k, Q (body k a)) (hend : ∀ a, I e a → ∀ k, Q (body k a)) (i n : Nat) (a : α) (hi : i ≤ e) (hn : e - i < n) (hI : I i a) : Q (qz_loop body n a) := by
  induction n generalizing i a with
  | zero => omega
  | succ m ih =>
    show Q (body (qz_loop body m) a)
    by_cases h : i = e
    · subst h; exact hend a hI _
    · rcases hstep i a (by omega) hI with ⟨a', hI', hb⟩ | hq
      · rw [hb]; exact ih (i + 1) a' (by omega) (by omega) hI'
      · exact hq _
theorem un_and1 (x : Int64) : uN (x &&& 1) = uN x % 2 := by
  have h : uN (x &&& 1) = uN x &&& uN 1 := UInt64.toNat_and _ _
  rw [h, show uN 1 = 2 ^ 1 - 1 from rfl, Nat.and_two_pow_sub_one_eq_mod]
theorem un_or1 (x : Int64) : uN ((x <<< ((1 : Int32).toInt64 &&& 63)) ||| 1) = (2 * uN x) % 18446744073709551616 + 1 := uN_or (y := 1) (by decide)
theorem nI_m1 (k : Nat) : nI (k + 1) - 1 = nI k := nI_pred k
theorem nI_s1 (k : Nat) : nI k + (-1) = nI k - 1 := by
  rw [Int32.sub_eq_add_neg]
theorem A_bit {h l i : Nat} (hi : i < 64) : (h * 18446744073709551616 + l) / 2 ^ i % 2 = l / 2 ^ i % 2 := by
  have e : (18446744073709551616 : Nat) = 2 ^ i * (2 * 2 ^ (63 - i)) := by
    rw [← Nat.mul_assoc, Nat.mul_comm (2 ^ i) 2, ← Nat.pow_succ', ← Nat.pow_add]
    rw [show i + 1 + (63 - i) = 64 by omega]
  have e2 : h * 18446744073709551616 + l = 2 ^ i * (2 * (h * 2 ^ (63 - i))) + l := by rw [e]; grind
  rw [e2, Nat.mul_add_div (Nat.two_pow_pos i)]
  omega
theorem A_over_loop (N : qz_N) (h lo d : Int64) (hd : uN d < 9223372036854775808) (hh : uN h < uN d) : fA_over_47 1100 (N, lo, d, 0, h, 63) = some (lN (min ((uN h * 18446744073709551616 + uN lo) / uN d) 9223372036854775807), N) := by
  have hd0 : 0 < uN d := by omega
  have hlo := uN_lt lo
  generalize hV : uN h * 18446744073709551616 + uN lo = V
  have hVd : V / uN d < 18446744073709551616 := by
    rw [Nat.div_lt_iff_lt_mul hd0]
    have : uN h + 1 ≤ uN d := hh
    have := Nat.mul_le_mul_right 18446744073709551616 this
    rw [Nat.mul_comm 18446744073709551616]; omega
  have hq64 : ∀ i, V / 2 ^ i / uN d < 18446744073709551616 := fun i => by
    rw [Nat.div_div_eq_div_mul, Nat.mul_comm, ← Nat.div_div_eq_div_mul]
    exact Nat.lt_of_le_of_lt (Nat.div_le_self _ _) hVd
  refine qz_loop_dn (fun i a => i ≤ 64 ∧ ∃ q r : Int64, a = (N, lo, d, q, r, nI i - 1) ∧ uN q = V / 2 ^ i / uN d ∧ uN r = V / 2 ^ i % uN d) (fun x => x = some (lN (min (V / uN d) 9223372036854775807), N)) ?_ ?_ 64 1100 _ (by decide) ⟨Nat.le_refl _, 0, h, ?_, ?_, ?_⟩
  · rintro i a ⟨hi, q, r, rfl, hq, hr⟩
    have hs := A_stepN (V := V) (d := uN d) (k := i) hd0
    simp only at hs
    rw [← hq, ← hr] at hs
    have hb : V / 2 ^ i % 2 = uN lo / 2 ^ i % 2 := by rw [← hV]; exact A_bit (by omega)
    rw [hb] at hs
    have hrd : uN r < uN d := by rw [hr]; exact Nat.mod_lt _ hd0
    have hq2 := hq64 i
    rw [nI_m1]
    have hn0 : ¬ nI i < 0 := nI_pos (by omega)
    generalize hv1 : ((r <<< ((1 : Int32).toInt64 &&& 63)) ||| (((lo.toUInt64 >>> ((nI i).toInt64.toUInt64 &&& Int64.toUInt64 63)).toInt64) &&& (1 : Int64))) = v1
    have u1 : uN v1 = 2 * uN r + uN lo / 2 ^ i % 2 := by
      rw [← hv1, uN_or (by rw [un_and1]; omega), un_and1, uN_sk _ (by omega)]
      omega
    have u2 : uN (q <<< ((1 : Int32).toInt64 &&& 63)) = 2 * uN q := by
      rw [uN_shl]
      have : V / 2 ^ i / uN d = 2 * uN q ∨ V / 2 ^ i / uN d = 2 * uN q + 1 := by
        rw [hs.2]; split <;> simp
      omega
    by_cases hc : 2 * uN r + uN lo / 2 ^ i % 2 < uN d
    · rw [if_pos hc, if_pos hc] at hs
      refine ⟨(N, lo, d, q <<< ((1 : Int32).toInt64 &&& 63), v1, nI i - 1), ⟨by omega, _, _, rfl, by rw [u2, hs.2], by rw [u1, hs.1]⟩, fun k => ?_⟩
      have c1 : ¬ v1 < 0 := by rw [un_neg]; omega
      have c2 : v1 < d := by rw [un_lt (by omega) hd]; omega
      show fA_over_47b k N lo d q r (nI i) = _
      unfold fA_over_47b
      rw [if_neg hn0]
      dsimp only [qz_let]
      rw [hv1, if_neg c1, if_pos c2]
      unfold fA_over_99; dsimp only [qz_let]
      rw [nI_s1]
    · rw [if_neg hc, if_neg hc] at hs
      refine ⟨(N, lo, d, (q <<< ((1 : Int32).toInt64 &&& 63)) ||| 1, v1 - d, nI i - 1), ⟨by omega, _, _, rfl, ?_, ?_⟩, fun k => ?_⟩
      · rw [un_or1, ← uN_shl, u2, hs.2]
      · rw [un_sub, u1, hs.1]
        have := uN_lt v1
        omega
      · show fA_over_47b k N lo d q r (nI i) = _
        unfold fA_over_47b
        rw [if_neg hn0]
        dsimp only [qz_let]
        rw [hv1]
        by_cases c1 : v1 < 0
        · rw [if_pos c1]
          unfold fA_over_86 fA_over_99; dsimp only [qz_let]
          rw [nI_s1]
        · have c2 : ¬ v1 < d := by rw [un_lt (by rw [un_neg] at c1; omega) hd]; omega
          rw [if_neg c1, if_neg c2]
          unfold fA_over_86 fA_over_99; dsimp only [qz_let]
          rw [nI_s1]
  · rintro a ⟨-, q, r, rfl, hq, hr⟩ k
    show fA_over_47b k N lo d q r (nI 0 - 1) = _
    unfold fA_over_47b
    rw [if_pos (by decide)]
    rw [Nat.pow_zero, Nat.div_one] at hq
    by_cases c : uN q < 9223372036854775808
    · rw [if_pos (by rw [un_le (by decide) c]; exact Nat.zero_le _), Nat.min_eq_left (by omega), ← hq, un_eq]
    · have c' : ¬ (0 : Int64) ≤ q := by
        rw [Int64.not_le, un_neg]; omega
      rw [if_neg c', Nat.min_eq_right (by omega)]
      rfl
  · rfl
  · rw [← hV]
    have : (uN h * 18446744073709551616 + uN lo) / 2 ^ 64 = uN h := by
      show (uN h * 18446744073709551616 + uN lo) / 18446744073709551616 = uN h
      omega
    rw [this, Nat.div_eq_of_lt hh]; rfl
  · rw [← hV]
    have : (uN h * 18446744073709551616 + uN lo) / 2 ^ 64 = uN h := by
      show (uN h * 18446744073709551616 + uN lo) / 18446744073709551616 = uN h
      omega
    rw [this, Nat.mod_eq_of_lt hh]
