-- the reference's arithmetic: numbers by digits of 30 bits
theorem qz_loop_to {α β : Type} {body : (α → Option β) → α → Option β} (I : Nat → α → Prop) (e : Nat) (Q : Option β → Prop) (hstep : ∀ i a, i < e → I i a → ∀ k, (∃ a', I (i + 1) a' ∧ body k a = k a') ∨ Q (body k a)) (hend : ∀ a, I e a → ∀ k, Q (body k a)) (i n : Nat) (a : α) (hi : i ≤ e) (hn : e - i < n) (hI : I i a) : Q (qz_loop body n a) := by
  induction n generalizing i a with
  | zero => omega
  | succ m ih =>
    show Q (body (qz_loop body m) a)
    by_cases h : i = e
    · subst h; exact hend a hI _
    · rcases hstep i a (by omega) hI (qz_loop body m) with ⟨a', hI', hb⟩ | hq
      · rw [hb]; exact ih (i + 1) a' (by omega) (by omega) hI'
      · exact hq
def dgB (B v k : Nat) : Nat := v / B ^ k % B
def psB (B : Nat) (f : Nat → Nat) : Nat → Nat
  | 0 => 0
  | k + 1 => psB B f k + f k * B ^ k
section DIG
variable {B : Nat}
theorem psB_0 (f : Nat → Nat) : psB B f 0 = 0 := rfl
theorem psB_s (f : Nat → Nat) (k : Nat) : psB B f (k + 1) = psB B f k + f k * B ^ k := rfl
theorem dgB_lt (hB : 0 < B) (v k : Nat) : dgB B v k < B := Nat.mod_lt _ hB
theorem psB_split (f : Nat → Nat) (k : Nat) (n : Nat) (h : k ≤ n) : ∃ r, psB B f n = psB B f k + B ^ k * r := by
  induction n with
  | zero => exact ⟨0, by rw [show k = 0 by omega, Nat.mul_zero, Nat.add_zero]⟩
  | succ n ih =>
    by_cases e : k = n + 1
    · exact ⟨0, by subst e; simp⟩
    · obtain ⟨r, hr⟩ := ih (by omega)
      refine ⟨r + f n * B ^ (n - k), ?_⟩
      have e2 : B ^ n = B ^ k * B ^ (n - k) := by rw [← Nat.pow_add, show k + (n - k) = n by omega]
      rw [psB_s, hr, e2]
      generalize B ^ k = x
      generalize B ^ (n - k) = y
      grind
theorem psB_dg (hB : 0 < B) (f : Nat → Nat) (k n : Nat) (h : k < n) : dgB B (psB B f n) k = (psB B f k / B ^ k + f k) % B := by
  obtain ⟨r, hr⟩ := psB_split (B := B) f (k + 1) n h
  unfold dgB
  have hp : 0 < B ^ k := Nat.pow_pos hB
  have e : psB B f n = psB B f k + B ^ k * (f k + B * r) := by
    rw [hr, psB_s, Nat.pow_succ]
    generalize B ^ k = x
    grind
  rw [e, Nat.add_mul_div_left _ _ hp, ← Nat.add_assoc, Nat.add_mul_mod_self_left]
theorem psB_carry (hB : 0 < B) (f : Nat → Nat) (k : Nat) : psB B f (k + 1) / B ^ (k + 1) = (psB B f k / B ^ k + f k) / B := by
  have hp : 0 < B ^ k := Nat.pow_pos hB
  rw [psB_s, Nat.pow_succ, ← Nat.div_div_eq_div_mul, Nat.mul_comm (f k), Nat.add_mul_div_left _ _ hp]
theorem psB_id (v : Nat) (n : Nat) : psB B (dgB B v) n = v % B ^ n := by
  induction n with
  | zero => rw [psB_0, Nat.pow_zero, Nat.mod_one]
  | succ n ih => rw [psB_s, ih, Nat.mod_pow_succ, Nat.mul_comm (B ^ n)]; rfl
theorem psB_add (f g : Nat → Nat) (n : Nat) : psB B (fun k => f k + g k) n = psB B f n + psB B g n := by
  induction n with
  | zero => rw [psB_0, psB_0, psB_0]
  | succ n ih =>
    rw [psB_s, psB_s, psB_s, ih]
    generalize B ^ n = x
    grind
theorem psB_congr {f g : Nat → Nat} (n : Nat) (h : ∀ k, k < n → f k = g k) : psB B f n = psB B g n := by
  induction n with
  | zero => rw [psB_0, psB_0]
  | succ n ih => rw [psB_s, psB_s, ih (fun k hk => h k (by omega)), h n (by omega)]
theorem dgB_big {v k n : Nat} (hv : v < B ^ n) (hB : 0 < B) (hk : n ≤ k) : dgB B v k = 0 := by
  have h3 : B ^ n ≤ B ^ k := Nat.pow_le_pow_right hB hk
  unfold dgB
  rw [Nat.div_eq_of_lt (by omega), Nat.zero_mod]
/-- the parts of a number by one digit more -/
theorem modB_succ (v i : Nat) : v % B ^ (i + 1) = v % B ^ i + dgB B v i * B ^ i := by
  rw [Nat.mod_pow_succ, Nat.mul_comm (B ^ i)]; rfl
/-- what a row of the multiplication adds -/
def rowB (x : Nat) (m : Nat → Nat) (i k : Nat) : Nat := if i ≤ k ∧ k < i + 3 then x * m (k - i) else 0
theorem psB_row (x : Nat) (m : Nat → Nat) (i n : Nat) (h : i + 3 ≤ n) : psB B (rowB x m i) n = x * (m 0 + m 1 * B + m 2 * (B * B)) * B ^ i := by
  have e0 : ∀ j, j ≤ i → psB B (rowB x m i) j = 0 := by
    intro j hj
    induction j with
    | zero => rfl
    | succ j ih =>
      rw [psB_s, ih (by omega)]
      unfold rowB
      rw [if_neg (by omega), Nat.zero_mul]
  have e3 : psB B (rowB x m i) (i + 3) = x * (m 0 + m 1 * B + m 2 * (B * B)) * B ^ i := by
    rw [show i + 3 = i + 1 + 1 + 1 from rfl, psB_s, psB_s, psB_s, e0 i (Nat.le_refl _)]
    unfold rowB
    rw [if_pos (by omega), if_pos (by omega), if_pos (by omega), Nat.sub_self, show i + 1 - i = 1 by omega, show i + 1 + 1 - i = 2 by omega]
    have p1 : B ^ (i + 1) = B ^ i * B := Nat.pow_succ _ _
    have p2 : B ^ (i + 1 + 1) = B ^ i * B * B := by rw [Nat.pow_succ, Nat.pow_succ]
    rw [p2, p1]
    clear p1 p2 h e0
    generalize B ^ i = y
    grind
  obtain ⟨d, rfl⟩ : ∃ d, n = i + 3 + d := ⟨n - (i + 3), by omega⟩
  clear h
  induction d with
  | zero => exact e3
  | succ d ih =>
    rw [show i + 3 + (d + 1) = i + 3 + d + 1 from rfl, psB_s, ih]
    unfold rowB
    rw [if_neg (by omega), Nat.zero_mul, Nat.add_zero]
end DIG
def BB : Nat := 1073741824
theorem BB_eq : BB = 1073741824 := rfl
theorem BB_pos : 0 < BB := by decide
abbrev dg (v k : Nat) : Nat := dgB BB v k
theorem dg_lt (v k : Nat) : dg v k < 1073741824 := dgB_lt BB_pos v k
/-- the array c of the reference holds the numbers f, at n places -/
def ar (N : qz_N) (c n : Nat) (f : Nat → Nat) : Prop := ∀ k, k < n → qz_gl N c 0 k = lN (f k)
theorem ar_set {N : qz_N} {c n i x : Nat} {f : Nat → Nat} (h : ar N c n f) : ar (qz_sl N c 0 i (lN x)) c n (va_up f i x) := by
  intro k hk
  rw [qz_gl_sl]
  by_cases e : k = i
  · rw [if_pos ⟨rfl, rfl, e⟩, e, va_up_self]
  · rw [if_neg (fun z => e z.2.2), va_up_ne _ _ e]; exact h k hk
theorem ar_oth {N : qz_N} {c c' n i : Nat} {v : Int64} {f : Nat → Nat} (hc : c' ≠ c) (h : ar N c' n f) : ar (qz_sl N c 0 i v) c' n f := by
  intro k hk
  rw [qz_gl_sl, if_neg (fun z => hc z.1)]; exact h k hk
theorem ar_congr {N : qz_N} {c n : Nat} {f g : Nat → Nat} (h : ar N c n f) (e : ∀ k, k < n → f k = g k) : ar N c n g := fun k hk => by rw [h k hk, e k hk]
/-- N' is N but for the reference's own scratch: big, other, sum, piece, rest -/
def Sc (N N' : qz_N) : Prop := (∀ c i k, qz_gi N' c i k = qz_gi N c i k) ∧ ∀ c i k, ¬ (c = 52 ∨ c = 53 ∨ c = 54 ∨ c = 55 ∨ (c = 7 ∧ k = 41)) → qz_gl N' c i k = qz_gl N c i k
theorem Sc.rf {N : qz_N} : Sc N N := ⟨fun _ _ _ => rfl, fun _ _ _ _ => rfl⟩
theorem Sc.tr {N N1 N2 : qz_N} (h : Sc N N1) (g : Sc N1 N2) : Sc N N2 := ⟨fun c i k => (g.1 c i k).trans (h.1 c i k), fun c i k hc => (g.2 c i k hc).trans (h.2 c i k hc)⟩
theorem Sc.set {N : qz_N} {c i k : Nat} {v : Int64} (hc : c = 52 ∨ c = 53 ∨ c = 54 ∨ c = 55 ∨ (c = 7 ∧ k = 41)) : Sc N (qz_sl N c i k v) := ⟨fun _ _ _ => rfl, fun c' i' k' h => by
  rw [qz_gl_sl, if_neg]
  rintro ⟨rfl, rfl, rfl⟩
  exact h hc⟩
theorem un_and30 (x : Int64) : uN (x &&& 1073741823) = uN x % 1073741824 := by
  have h : uN (x &&& 1073741823) = uN x &&& uN 1073741823 := UInt64.toNat_and _ _
  rw [h, show uN 1073741823 = 2 ^ 30 - 1 from by decide, Nat.and_two_pow_sub_one_eq_mod]
theorem M_dig (x : Int64) {k : Nat} (hk : k < 3) : ((x.toUInt64 >>> (((30 : Int32) * nI k).toInt64.toUInt64 &&& Int64.toUInt64 63)).toInt64) &&& (1073741823 : Int64) = lN (dg (uN x) k) := by
  apply un_of
  have e : (30 : Int32) * nI k = nI (30 * k) := pk_mul 30 k
  rw [e, un_and30, uN_sk _ (by omega)]
  unfold dg dgB
  rw [Nat.pow_mul, BB_eq]
theorem lN_0 : lN 0 = 0 := by decide
theorem nIc {a b : Nat} (ha : a < 2147483648) (hb : b < 2147483648) : (nI a ≤ nI b) = (a ≤ b) := propext (nI_leI ha hb)
theorem nI_ok {i n : Nat} (h : i < n) (hn : n < 2147483648) : ¬ (nI i < 0 ∨ n ≤ (nI i).toNatClampNeg) := nI_in h hn
theorem nI_tc {i : Nat} (h : i < 2147483648) : (nI i).toNatClampNeg = i := nI_clamp h
theorem nI_up (i : Nat) : nI i + 1 = nI (i + 1) := nI_1 i
theorem M_begin (x : Int64) (N : qz_N) : ∃ N', fM_begin 0 x N = some ((), N') ∧ Sc N N' ∧ ar N' 52 6 (dg (uN x)) ∧ (∀ c i k, c ≠ 52 → qz_gl N' c i k = qz_gl N c i k) := by
  unfold fM_begin fM_begin_2
  refine qz_loop_to (fun i a => ∃ N', a = (N', x, nI i) ∧ Sc N N' ∧ ar N' 52 i (dg (uN x)) ∧ (∀ c i k, c ≠ 52 → qz_gl N' c i k = qz_gl N c i k)) 6 (fun r => ∃ N', r = some ((), N') ∧ Sc N N' ∧ ar N' 52 6 (dg (uN x)) ∧ (∀ c i k, c ≠ 52 → qz_gl N' c i k = qz_gl N c i k)) ?_ ?_ 0 1100 _ (Nat.zero_le _) (by decide) ⟨N, rfl, Sc.rf, fun k hk => absurd hk (Nat.not_lt_zero _), fun _ _ _ _ => rfl⟩
  · rintro i a hi ⟨N', rfl, hS, hA, hO⟩ k
    left
    have c6 : ¬ (6 : Int32) ≤ nI i := by rw [show (6 : Int32) = nI 6 from rfl, nIc (by omega) (by omega)]; omega
    have hb : fM_begin_2b 0 k N' x (nI i) = k (qz_sl N' 52 0 i (lN (dg (uN x) i)), x, nI (i + 1)) := by
      unfold fM_begin_2b
      rw [if_neg c6]
      by_cases c3 : 3 ≤ i
      · rw [if_pos (by rw [show (3 : Int32) = nI 3 from rfl, nIc (by omega) (by omega)]; exact c3)]
        unfold fM_begin_32
        rw [if_neg (nI_ok hi (by decide)), nI_tc (by omega)]
        dsimp only [qz_let]
        rw [nI_up]
        have hz : dg (uN x) i = 0 := by
          have h64 := uN_lt x
          have h4 : BB ^ 3 = 1237940039285380274899124224 := by decide
          exact dgB_big (n := 3) (by rw [h4]; omega) BB_pos c3
        rw [hz, lN_0]
      · rw [if_neg (by rw [show (3 : Int32) = nI 3 from rfl, nIc (by omega) (by omega)]; exact c3)]
        unfold fM_begin_32
        rw [if_neg (nI_ok hi (by decide)), nI_tc (by omega), M_dig x (by omega)]
        dsimp only [qz_let]
        rw [nI_up]
    refine ⟨_, ⟨_, rfl, hS.tr (Sc.set (Or.inl rfl)), ?_, ?_⟩, hb⟩
    · intro q hq
      have h := ar_set (N := N') (c := 52) (n := i) (i := i) (x := dg (uN x) i) hA
      by_cases e : q = i
      · subst e; rw [qz_gl_sl, if_pos ⟨rfl, rfl, rfl⟩]
      · rw [h q (by omega), va_up_ne _ _ e]
    · intro c i' k' hc
      rw [qz_gl_sl, if_neg (fun z => hc z.1)]; exact hO c i' k' hc
  · rintro a ⟨N', rfl, hS, hA, hO⟩ k
    refine ⟨N', ?_, hS, hA, hO⟩
    show fM_begin_2b 0 k N' x (nI 6) = _
    unfold fM_begin_2b
    rw [if_pos (by decide)]
