theorem qz_oc_s {β : Type} (j : Nat) (N : qz_N) (a : qz_N → β) (b : qz_N → Nat → β) : qz_oc (some j, N) a b = b N j := rfl
theorem qz_oc_n {β : Type} (N : qz_N) (a : qz_N → β) (b : qz_N → Nat → β) : qz_oc (none, N) a b = a N := rfl
def GoC {α : Type} (N0 : qz_N) (m : Option (α × qz_N)) (r : α) (S : St) : Prop := ∃ N1, m = some (r, N1) ∧ RC N1 S ∧ KM N0 N1
def GoM {α : Type} (N0 : qz_N) (m : Option (α × qz_N)) (r : α) (S : St) : Prop := ∃ N1, m = some (r, N1) ∧ RM N1 S ∧ KC N0 N1
theorem GoC.ret {α : Type} {N0 N : qz_N} {S : St} {r : α} (hC : RC N S) (hK : KM N0 N) : GoC N0 (some (r, N)) r S := ⟨N, rfl, hC, hK⟩
theorem GoM.ret {α : Type} {N0 N : qz_N} {S : St} {r : α} (hC : RM N S) (hK : KC N0 N) : GoM N0 (some (r, N)) r S := ⟨N, rfl, hC, hK⟩
theorem GoC.call {α β : Type} {N0 N : qz_N} {S1 S' : St} {m : Option (α × qz_N)} {k : α × qz_N → Option (β × qz_N)} {a : α} {r : β} (h : GoC N m a S1) (hK : KM N0 N) (g : ∀ N1, RC N1 S1 → KM N0 N1 → GoC N0 (k (a, N1)) r S') : GoC N0 (m.bind k) r S' := by
  obtain ⟨N1, e, h1, h2⟩ := h
  rw [e]
  exact g N1 h1 (hK.tr h2)
theorem GoM.call {α β : Type} {N0 N : qz_N} {S1 S' : St} {m : Option (α × qz_N)} {k : α × qz_N → Option (β × qz_N)} {a : α} {r : β} (h : GoM N m a S1) (hK : KC N0 N) (g : ∀ N1, RM N1 S1 → KC N0 N1 → GoM N0 (k (a, N1)) r S') : GoM N0 (m.bind k) r S' := by
  obtain ⟨N1, e, h1, h2⟩ := h
  rw [e]
  exact g N1 h1 (hK.tr h2)
theorem GoC.tail {α : Type} {N0 N : qz_N} {S1 : St} {m : Option (α × qz_N)} {r : α} (h : GoC N m r S1) (hK : KM N0 N) : GoC N0 m r S1 := by
  obtain ⟨N1, e, h1, h2⟩ := h
  exact ⟨N1, e, h1, hK.tr h2⟩
theorem GoM.tail {α : Type} {N0 N : qz_N} {S1 : St} {m : Option (α × qz_N)} {r : α} (h : GoM N m r S1) (hK : KC N0 N) : GoM N0 m r S1 := by
  obtain ⟨N1, e, h1, h2⟩ := h
  exact ⟨N1, e, h1, hK.tr h2⟩
theorem GoM.scr {α β : Type} {N0 N : qz_N} {S S' : St} {m : Option (α × qz_N)} {k : α × qz_N → Option (β × qz_N)} {a : α} {r : β} (h : ∃ N', m = some (a, N') ∧ Sc N N') (hM : RM N S) (hK : KC N0 N) (g : ∀ N1, RM N1 S → KC N0 N1 → GoM N0 (k (a, N1)) r S') : GoM N0 (m.bind k) r S' := by
  obtain ⟨N1, e, h1⟩ := h
  rw [e]
  exact g N1 (hM.scr h1) (hK.tr h1.KC)
theorem GoC.eq {α β : Type} {N0 N1 : qz_N} {S' : St} {m : Option (α × qz_N)} {k : α × qz_N → Option (β × qz_N)} {a : α} {r : β} (e : m = some (a, N1)) (g : GoC N0 (k (a, N1)) r S') : GoC N0 (m.bind k) r S' := by
  rw [e]; exact g
theorem GoM.eq {α β : Type} {N0 N1 : qz_N} {S' : St} {m : Option (α × qz_N)} {k : α × qz_N → Option (β × qz_N)} {a : α} {r : β} (e : m = some (a, N1)) (g : GoM N0 (k (a, N1)) r S') : GoM N0 (m.bind k) r S' := by
  rw [e]; exact g
theorem GoC.wr {β : Type} {N0 Nw : qz_N} {S1 S' : St} {k : qz_N → Option (β × qz_N)} {r : β} (h : RC Nw S1) (hK : KM N0 Nw) (g : ∀ N1, RC N1 S1 → KM N0 N1 → GoC N0 (k N1) r S') : GoC N0 (qz_let Nw k) r S' := by
  rw [qz_let_eq]; exact g Nw h hK
theorem GoM.wr {β : Type} {N0 Nw : qz_N} {S1 S' : St} {k : qz_N → Option (β × qz_N)} {r : β} (h : RM Nw S1) (hK : KC N0 Nw) (g : ∀ N1, RM N1 S1 → KC N0 N1 → GoM N0 (k N1) r S') : GoM N0 (qz_let Nw k) r S' := by
  rw [qz_let_eq]; exact g Nw h hK
theorem GoC.lt {α β : Type} {N0 : qz_N} {S' : St} {e : α} {k : α → Option (β × qz_N)} {r : β} (g : GoC N0 (k e) r S') : GoC N0 (qz_let e k) r S' := by
  rw [qz_let_eq]; exact g
theorem GoM.lt {α β : Type} {N0 : qz_N} {S' : St} {e : α} {k : α → Option (β × qz_N)} {r : β} (g : GoM N0 (k e) r S') : GoM N0 (qz_let e k) r S' := by
  rw [qz_let_eq]; exact g
theorem GoC.neg {α : Type} {N0 : qz_N} {S' : St} {c : Prop} [Decidable c] {a b : Option (α × qz_N)} {r : α} (h : ¬ c) (g : GoC N0 b r S') : GoC N0 (if c then a else b) r S' := by
  rw [if_neg h]; exact g
theorem GoM.neg {α : Type} {N0 : qz_N} {S' : St} {c : Prop} [Decidable c] {a b : Option (α × qz_N)} {r : α} (h : ¬ c) (g : GoM N0 b r S') : GoM N0 (if c then a else b) r S' := by
  rw [if_neg h]; exact g
theorem GoC.pos {α : Type} {N0 : qz_N} {S' : St} {c : Prop} [Decidable c] {a b : Option (α × qz_N)} {r : α} (h : c) (g : GoC N0 a r S') : GoC N0 (if c then a else b) r S' := by
  rw [if_pos h]; exact g
theorem GoM.pos {α : Type} {N0 : qz_N} {S' : St} {c : Prop} [Decidable c] {a b : Option (α × qz_N)} {r : α} (h : c) (g : GoM N0 a r S') : GoM N0 (if c then a else b) r S' := by
  rw [if_pos h]; exact g
theorem GoC.st {α : Type} {N0 : qz_N} {m : Option (α × qz_N)} {r : α} {S S' : St} (h : GoC N0 m r S) (e : S = S') : GoC N0 m r S' := e ▸ h
theorem GoM.st {α : Type} {N0 : qz_N} {m : Option (α × qz_N)} {r : α} {S S' : St} (h : GoM N0 m r S) (e : S = S') : GoM N0 m r S' := e ▸ h
theorem GoC.of {α : Type} {N : qz_N} {S : St} {m : Option (α × qz_N)} {r : α} (e : m = some (r, N)) (hC : RC N S) : GoC N m r S := ⟨N, e, hC, KM.rf⟩
theorem GoM.of {α : Type} {N : qz_N} {S : St} {m : Option (α × qz_N)} {r : α} (e : m = some (r, N)) (hC : RM N S) : GoM N m r S := ⟨N, e, hC, KC.rf⟩
theorem u3_f {S : St} {f i j v f' : Nat} (h : f' ≠ f) : qz_u3 S f i j v f' = S f' := by
  funext i' j'
  unfold qz_u3; rw [if_neg (fun z => h z.1)]
theorem u3_s {S : St} {f i j v : Nat} : qz_u3 S f i j v f i j = v := by
  unfold qz_u3; rw [if_pos ⟨rfl, rfl, rfl⟩]
theorem u3_i {S : St} {f i j v i' j' : Nat} (h : i' ≠ i) : qz_u3 S f i j v f i' j' = S f i' j' := by
  unfold qz_u3; rw [if_neg (fun z => h z.2.1)]
theorem u3_j {S : St} {f i j v i' j' : Nat} (h : j' ≠ j) : qz_u3 S f i j v f i' j' = S f i' j' := by
  unfold qz_u3; rw [if_neg (fun z => h z.2.2)]
theorem u3_g {S : St} {f i j v i' j' : Nat} : qz_u3 S f i j v f i' j' = if i' = i ∧ j' = j then v else S f i' j' := by
  unfold qz_u3
  by_cases c : i' = i ∧ j' = j
  · rw [if_pos ⟨rfl, c⟩, if_pos c]
  · rw [if_neg (fun z => c z.2), if_neg c]
theorem u3_u3 {S : St} {f i j v w : Nat} : qz_u3 (qz_u3 S f i j v) f i j w = qz_u3 S f i j w := by
  funext f' i' j'
  unfold qz_u3
  by_cases c : f' = f ∧ i' = i ∧ j' = j
  · rw [if_pos c, if_pos c]
  · rw [if_neg c, if_neg c, if_neg c]
theorem u3_c {S : St} {f i j v f' i' j' w : Nat} (h : f ≠ f' ∨ i ≠ i' ∨ j ≠ j') : qz_u3 (qz_u3 S f i j v) f' i' j' w = qz_u3 (qz_u3 S f' i' j' w) f i j v := by
  funext a b c
  unfold qz_u3
  by_cases c1 : a = f ∧ b = i ∧ c = j
  · rw [if_pos c1, if_pos c1, if_neg (by omega)]
  · rw [if_neg c1, if_neg c1]
theorem u3_id {S : St} {f i j v : Nat} (h : v = S f i j) : qz_u3 S f i j v = S := by
  funext a b c
  unfold qz_u3
  by_cases c1 : a = f ∧ b = i ∧ c = j
  · rw [if_pos c1, c1.1, c1.2.1, c1.2.2, h]
  · rw [if_neg c1]
theorem ix_2m (i : Nat) : (2 : Int32) * nI i = nI (2 * i) := pk_mul 2 i
theorem ix_6m (i : Nat) : (6 : Int32) * nI i = nI (6 * i) := pk_mul 6 i
theorem ix_4m (i : Nat) : (4 : Int32) * nI i = nI (4 * i) := pk_mul 4 i
theorem ix_m4 (i : Nat) : nI i * (4 : Int32) = nI (4 * i) := by rw [lt4, pk_mul, Nat.mul_comm]
theorem ix_1s {i : Nat} (h : i ≤ 1) : (1 : Int32) - nI i = nI (1 - i) := pk_sub (a := 1) h
theorem ix_s {a b : Nat} (h : b ≤ a) : nI a - nI b = nI (a - b) := pk_sub h
theorem ix_s2 {a : Nat} (h : 2 ≤ a) : nI a - (2 : Int32) = nI (a - 2) := pk_sub h
theorem ix_s9 {a : Nat} (h : 9 ≤ a) : nI a - (9 : Int32) = nI (a - 9) := pk_sub h
theorem ix_s7 {a : Nat} (h : 7 ≤ a) : nI a - (7 : Int32) = nI (a - 7) := pk_sub h
theorem ix_s5 {a : Nat} (h : 5 ≤ a) : nI a - (5 : Int32) = nI (a - 5) := pk_sub h
theorem ix_s1 {a : Nat} (h : 1 ≤ a) : nI a - (1 : Int32) = nI (a - 1) := pk_sub h
theorem ix_n {i : Nat} (h : i < 2147483648) : (nI i < 0) = False := eq_false (nI_pos h)
theorem ix_z {i : Nat} (h : i < 2147483648) : (nI i = 0) = (i = 0) := propext (nI_z h)
theorem ix_1 {i : Nat} (h : i < 2147483648) : (nI i = 1) = (i = 1) := propext (nI_eq (b := 1) h (by decide))
theorem ix_eq {a b : Nat} (h : a < 2147483648) (g : b < 2147483648) : (nI a = nI b) = (a = b) := propext (nI_eq h g)
theorem ix_le {a b : Nat} (h : a < 2147483648) (g : b < 2147483648) : (nI a ≤ nI b) = (a ≤ b) := propext (nI_leI h g)
theorem ix_lt {a b : Nat} (h : a < 2147483648) (g : b < 2147483648) : (nI a < nI b) = (a < b) := propext (nI_ltI h g)
theorem ix_le0 {a : Nat} (h : a < 2147483648) : (nI a ≤ 0) = (a = 0) := by
  have := nI_leI (a := a) (b := 0) h (by decide)
  exact propext (this.trans Nat.le_zero)
theorem n_leT {a b : Nat} (h : a ≤ b) : (a ≤ b) = True := eq_true h
theorem n_leF {a b : Nat} (h : b < a) : (a ≤ b) = False := eq_false (by omega)
theorem n_ltT {a b : Nat} (h : a < b) : (a < b) = True := eq_true h
theorem n_ltF {a b : Nat} (h : b ≤ a) : (a < b) = False := eq_false (by omega)
theorem n_eqT {a b : Nat} (h : a = b) : (a = b) = True := eq_true h
theorem n_eqF {a b : Nat} (h : a ≠ b) : (a = b) = False := eq_false h
theorem l_lt {a b : Nat} (h : a < 9223372036854775808) (g : b < 9223372036854775808) : (lN a < lN b) = (a < b) := propext (pk_lLT h g)
theorem l_le {a b : Nat} (h : a < 9223372036854775808) (g : b < 9223372036854775808) : (lN a ≤ lN b) = (a ≤ b) := propext (pk_lLE h g)
theorem l_eq {a b : Nat} (h : a < 9223372036854775808) (g : b < 9223372036854775808) : (lN a = lN b) = (a = b) := propext (pk_lEQ h g)
theorem l_0 : (0 : Int64) = lN 0 := rfl
theorem l_1 : (1 : Int64) = lN 1 := rfl
theorem l_2 : (2 : Int64) = lN 2 := rfl
theorem l_3 : (3 : Int64) = lN 3 := rfl
theorem l_4 : (4 : Int64) = lN 4 := rfl
theorem l_5 : (5 : Int64) = lN 5 := rfl
theorem l_60 : (60 : Int64) = lN 60 := rfl
theorem l_80 : (80 : Int64) = lN 80 := rfl
theorem l_100 : (100 : Int64) = lN 100 := rfl
theorem l_105 : (105 : Int64) = lN 105 := rfl
theorem l_k : (1000 : Int64) = lN 1000 := rfl
theorem l_xk : (10000 : Int64) = lN 10000 := rfl
theorem l_m : (1000000 : Int64) = lN 1000000 := rfl
theorem l_g : (1000000000 : Int64) = lN 1000000000 := rfl
theorem l_xg : (10000000000 : Int64) = lN 10000000000 := rfl
theorem l_t : (1000000000000 : Int64) = lN 1000000000000 := rfl
theorem l_ct : (100000000000000 : Int64) = lN 100000000000000 := rfl
theorem l_ex : (1000000000000000000 : Int64) = lN 1000000000000000000 := rfl
theorem l_mx : (9223372036854775807 : Int64) = lN 9223372036854775807 := rfl
theorem l_div {a b : Nat} (h : a < 9223372036854775808) (h0 : 0 < b) (g : b < 9223372036854775808) : lN a / lN b = lN (a / b) := pk_lDiv h h0 g
theorem l_ite {P : Prop} [Decidable P] {a b : Nat} : (if P then lN a else lN b) = lN (if P then a else b) := by split <;> rfl
theorem l_x {n : Nat} (h : n < 2147483648) : (nI n).toInt64 = lN n := nI_l h
theorem l_gi {x : Int64} : x < lN 1 ∨ ∃ u, 1 ≤ u ∧ u < 9223372036854775808 ∧ x = lN u := by
  by_cases c : x < 0
  · left
    rw [Int64.lt_iff_toInt_lt] at c ⊢
    have e0 : (0 : Int64).toInt = 0 := by decide
    have e1 : (lN 1).toInt = 1 := by decide
    omega
  · obtain ⟨k, hk, rfl⟩ := pk_lOf c
    by_cases d : k = 0
    · left; rw [d]; decide
    · exact Or.inr ⟨k, by omega, hk, rfl⟩
theorem l_g0 {x : Int64} : x < lN 0 ∨ ∃ u, u < 9223372036854775808 ∧ x = lN u := by
  by_cases c : x < 0
  · left; exact c
  · obtain ⟨k, hk, rfl⟩ := pk_lOf c
    exact Or.inr ⟨k, hk, rfl⟩
theorem l_nle {x : Int64} (h : x < lN 1) : (lN 1 ≤ x) = False := eq_false (by rw [Int64.not_le]; exact h)
theorem l_nle0 {x : Int64} (h : x < lN 0) : (lN 0 ≤ x) = False := eq_false (by rw [Int64.not_le]; exact h)
theorem rC4a {N : qz_N} {S : St} (h : RC N S) (i : Nat) (hi : i < 6) : qz_gi N 2 i 1 = nI (S 4 i 0) := rC4 h i 0 hi (by decide)
theorem rC4b {N : qz_N} {S : St} (h : RC N S) (i : Nat) (hi : i < 6) : qz_gi N 2 i 2 = nI (S 4 i 1) := rC4 h i 1 hi (by decide)
theorem rC7a {N : qz_N} {S : St} (h : RC N S) (i : Nat) (hi : i < 6) : qz_gl N 2 i 5 = lN (S 7 i 0) := rC7 h i 0 hi (by decide)
theorem rC7b {N : qz_N} {S : St} (h : RC N S) (i : Nat) (hi : i < 6) : qz_gl N 2 i 6 = lN (S 7 i 1) := rC7 h i 1 hi (by decide)
theorem rM4a {N : qz_N} {S : St} (h : RM N S) (i : Nat) (hi : i < 6) : qz_gi N 24 0 (2 * i) = nI (S 4 i 0) := rM4 h i 0 hi (by decide)
theorem rM7a {N : qz_N} {S : St} (h : RM N S) (i : Nat) (hi : i < 6) : qz_gl N 27 0 (2 * i) = lN (S 7 i 0) := rM7 h i 0 hi (by decide)
theorem rM4c {N : qz_N} {S : St} (h : RM N S) (i j : Nat) (hi : i < 6) (hj : j < 2) : qz_gi N 24 0 (2 * i + 1 - j) = nI (S 4 i (1 - j)) := by
  rw [show 2 * i + 1 - j = 2 * i + (1 - j) by omega]; exact rM4 h i (1 - j) hi (by omega)
theorem rM7c {N : qz_N} {S : St} (h : RM N S) (i j : Nat) (hi : i < 6) (hj : j < 2) : qz_gl N 27 0 (2 * i + 1 - j) = lN (S 7 i (1 - j)) := by
  rw [show 2 * i + 1 - j = 2 * i + (1 - j) by omega]; exact rM7 h i (1 - j) hi (by omega)
def Alike {α : Type} (N : qz_N) (e m : qz_N → Option (α × qz_N)) (K : St → Prop) : Prop := ∃ r N1 N2 S', e N = some (r, N1) ∧ m N1 = some (r, N2) ∧ RC N2 S' ∧ RM N2 S' ∧ K S'
theorem Alike.mk' {α : Type} {N : qz_N} {e m : qz_N → Option (α × qz_N)} {K : St → Prop} {S S' : St} {r : α} (hM : RM N S) (h1 : GoC N (e N) r S') (h2 : ∀ N1, RM N1 S → GoM N1 (m N1) r S') (h3 : K S') : Alike N e m K := by
  obtain ⟨N1, e1, c1, k1⟩ := h1
  obtain ⟨N2, e2, c2, k2⟩ := h2 N1 (hM.keep k1)
  exact ⟨r, N1, N2, S', e1, e2, c1.keep k2, c2, h3⟩
theorem Alike.same {α : Type} {N : qz_N} {e m : qz_N → Option (α × qz_N)} {K : St → Prop} {S : St} (hC : RC N S) (hM : RM N S) (h : ∃ r, e N = some (r, N) ∧ m N = some (r, N)) (h3 : K S) : Alike N e m K := by
  obtain ⟨r, e1, e2⟩ := h
  exact ⟨r, N, N, S, e1, e2, hC, hM, h3⟩
theorem bd {α β : Type} {m : Option α} {a : α} (h : m = some a) (k : α → Option β) : m.bind k = k a := by rw [h]; rfl
theorem qz_letL {β : Type} (e : Int64) (k : Int64 → β) : qz_let e k = k e := rfl
theorem qz_letI {β : Type} (e : Int32) (k : Int32 → β) : qz_let e k = k e := rfl
theorem ifc {α : Type} {P Q : Prop} [Decidable P] [Decidable Q] (h : P = Q) {x y : α} : (if P then x else y) = if Q then x else y := by
  by_cases c : P
  · rw [if_pos c, if_pos (h ▸ c)]
  · rw [if_neg c, if_neg (h ▸ c)]
theorem oor {x : Int32} {n k : Nat} (h : x < 0 ∨ nI n ≤ x) (hn : n < 2147483648) (hk : k < n) : ¬ x = nI k := by
  rintro rfl
  rcases h with h | h
  · exact nI_pos (by omega) h
  · rw [nI_leI hn (by omega)] at h; omega
theorem oor_lt {x : Int32} {n m : Nat} (h : x < 0 ∨ nI n ≤ x) (hn : n < 2147483648) (hm : m ≤ n) : x < nI m ∨ nI n ≤ x := by
  rcases h with h | h
  · left; rw [Int32.lt_iff_toInt_lt] at h ⊢; rw [nI_toInt (by omega)]; have e0 : (0 : Int32).toInt = 0 := by decide
    omega
  · exact Or.inr h
def v_of (S : St) (i n : Nat) : Int64 := match n with
  | 0 => lN (S 7 i 0)
  | 1 => lN (S 7 i 1)
  | 2 => lN (S 8 i 0)
  | 3 => lN (S 10 i 0)
  | 4 => lN (S 11 i 0)
  | 5 => (nI (S 5 i 0)).toInt64
  | 6 => (nI (S 6 i 0)).toInt64
  | 7 => (nI (S 4 i 0)).toInt64
  | 8 => (nI (S 4 i 1)).toInt64
  | n + 9 => lN (S 9 i n)
theorem E_told0 {N : qz_N} {i : Nat} {x : Int32} (h : x < 0 ∨ nI 15 ≤ x) : fP_told i x N = some (-2, N) := by
  unfold fP_told
  rw [if_neg (show ¬ x = (0 : Int32) from oor h (k := 0) (by decide) (by decide)), if_neg (show ¬ x = (1 : Int32) from oor h (k := 1) (by decide) (by decide)), if_neg (show ¬ x = (2 : Int32) from oor h (k := 2) (by decide) (by decide)), if_neg (show ¬ x = (3 : Int32) from oor h (k := 3) (by decide) (by decide)), if_neg (show ¬ x = (4 : Int32) from oor h (k := 4) (by decide) (by decide)), if_neg (show ¬ x = (5 : Int32) from oor h (k := 5) (by decide) (by decide)), if_neg (show ¬ x = (6 : Int32) from oor h (k := 6) (by decide) (by decide)), if_neg (show ¬ x = (7 : Int32) from oor h (k := 7) (by decide) (by decide)), if_neg (show ¬ x = (8 : Int32) from oor h (k := 8) (by decide) (by decide))]
  rcases oor_lt h (m := 9) (by decide) (by decide) with g | g
  · rw [if_pos (show x < 9 from g)]
  · by_cases c : x < 9
    · rw [if_pos c]
    · rw [if_neg c, if_pos (show (15 : Int32) ≤ x from g)]
theorem E_told1 {N : qz_N} {S : St} (hC : RC N S) {i n : Nat} (hi : i < 6) (hn : n < 15) : fP_told i (nI n) N = some (v_of S i n, N) := by
  unfold fP_told
  match n, hn with
  | 0, _ => rw [if_pos (show nI 0 = (0 : Int32) by decide), rC7a hC i hi]; rfl
  | 1, _ => rw [if_neg (show ¬ nI 1 = (0 : Int32) by decide), if_pos (show nI 1 = (1 : Int32) by decide), rC7b hC i hi]; rfl
  | 2, _ => rw [if_neg (show ¬ nI 2 = (0 : Int32) by decide), if_neg (show ¬ nI 2 = (1 : Int32) by decide), if_pos (show nI 2 = (2 : Int32) by decide), rC8 hC i hi]; rfl
  | 3, _ => rw [if_neg (show ¬ nI 3 = (0 : Int32) by decide), if_neg (show ¬ nI 3 = (1 : Int32) by decide), if_neg (show ¬ nI 3 = (2 : Int32) by decide), if_pos (show nI 3 = (3 : Int32) by decide), rC10 hC i hi]; rfl
  | 4, _ => rw [if_neg (show ¬ nI 4 = (0 : Int32) by decide), if_neg (show ¬ nI 4 = (1 : Int32) by decide), if_neg (show ¬ nI 4 = (2 : Int32) by decide), if_neg (show ¬ nI 4 = (3 : Int32) by decide), if_pos (show nI 4 = (4 : Int32) by decide), rC11 hC i hi]; rfl
  | 5, _ => rw [if_neg (show ¬ nI 5 = (0 : Int32) by decide), if_neg (show ¬ nI 5 = (1 : Int32) by decide), if_neg (show ¬ nI 5 = (2 : Int32) by decide), if_neg (show ¬ nI 5 = (3 : Int32) by decide), if_neg (show ¬ nI 5 = (4 : Int32) by decide), if_pos (show nI 5 = (5 : Int32) by decide), rC5 hC i hi]; rfl
  | 6, _ => rw [if_neg (show ¬ nI 6 = (0 : Int32) by decide), if_neg (show ¬ nI 6 = (1 : Int32) by decide), if_neg (show ¬ nI 6 = (2 : Int32) by decide), if_neg (show ¬ nI 6 = (3 : Int32) by decide), if_neg (show ¬ nI 6 = (4 : Int32) by decide), if_neg (show ¬ nI 6 = (5 : Int32) by decide), if_pos (show nI 6 = (6 : Int32) by decide), rC6 hC i hi]; rfl
  | 7, _ => rw [if_neg (show ¬ nI 7 = (0 : Int32) by decide), if_neg (show ¬ nI 7 = (1 : Int32) by decide), if_neg (show ¬ nI 7 = (2 : Int32) by decide), if_neg (show ¬ nI 7 = (3 : Int32) by decide), if_neg (show ¬ nI 7 = (4 : Int32) by decide), if_neg (show ¬ nI 7 = (5 : Int32) by decide), if_neg (show ¬ nI 7 = (6 : Int32) by decide), if_pos (show nI 7 = (7 : Int32) by decide), rC4a hC i hi]; rfl
  | 8, _ => rw [if_neg (show ¬ nI 8 = (0 : Int32) by decide), if_neg (show ¬ nI 8 = (1 : Int32) by decide), if_neg (show ¬ nI 8 = (2 : Int32) by decide), if_neg (show ¬ nI 8 = (3 : Int32) by decide), if_neg (show ¬ nI 8 = (4 : Int32) by decide), if_neg (show ¬ nI 8 = (5 : Int32) by decide), if_neg (show ¬ nI 8 = (6 : Int32) by decide), if_neg (show ¬ nI 8 = (7 : Int32) by decide), if_pos (show nI 8 = (8 : Int32) by decide), rC4b hC i hi]; rfl
  | n + 9, hn =>
    rw [if_neg (show ¬ nI (n + 9) = (0 : Int32) by show ¬ nI (n + 9) = nI 0; rw [nI_eq (by omega) (by decide)]; omega), if_neg (show ¬ nI (n + 9) = (1 : Int32) by show ¬ nI (n + 9) = nI 1; rw [nI_eq (by omega) (by decide)]; omega), if_neg (show ¬ nI (n + 9) = (2 : Int32) by show ¬ nI (n + 9) = nI 2; rw [nI_eq (by omega) (by decide)]; omega), if_neg (show ¬ nI (n + 9) = (3 : Int32) by show ¬ nI (n + 9) = nI 3; rw [nI_eq (by omega) (by decide)]; omega), if_neg (show ¬ nI (n + 9) = (4 : Int32) by show ¬ nI (n + 9) = nI 4; rw [nI_eq (by omega) (by decide)]; omega), if_neg (show ¬ nI (n + 9) = (5 : Int32) by show ¬ nI (n + 9) = nI 5; rw [nI_eq (by omega) (by decide)]; omega), if_neg (show ¬ nI (n + 9) = (6 : Int32) by show ¬ nI (n + 9) = nI 6; rw [nI_eq (by omega) (by decide)]; omega), if_neg (show ¬ nI (n + 9) = (7 : Int32) by show ¬ nI (n + 9) = nI 7; rw [nI_eq (by omega) (by decide)]; omega), if_neg (show ¬ nI (n + 9) = (8 : Int32) by show ¬ nI (n + 9) = nI 8; rw [nI_eq (by omega) (by decide)]; omega), if_neg (show ¬ nI (n + 9) < (9 : Int32) by show ¬ nI (n + 9) < nI 9; rw [nI_ltI (by omega) (by decide)]; omega), if_neg (show ¬ (15 : Int32) ≤ nI (n + 9) by show ¬ nI 15 ≤ nI (n + 9); rw [nI_leI (by decide) (by omega)]; omega), ix_s9 (by omega), if_neg (nI_ok (n := 6) (by omega) (by decide)), nI_tc (by omega), rC9 hC i _ hi (by omega)]
    rfl
theorem M_of390 {N : qz_N} {x1 x : Int32} (h : x < 0 ∨ nI 9 ≤ x) : fM_of_39 0 N x1 x = some (-2, N) := by
  unfold fM_of_39
  rw [if_neg (show ¬ x = (0 : Int32) from oor h (k := 0) (by decide) (by decide)), if_neg (show ¬ x = (1 : Int32) from oor h (k := 1) (by decide) (by decide)), if_neg (show ¬ x = (2 : Int32) from oor h (k := 2) (by decide) (by decide)), if_neg (show ¬ x = (3 : Int32) from oor h (k := 3) (by decide) (by decide)), if_neg (show ¬ x = (4 : Int32) from oor h (k := 4) (by decide) (by decide)), if_neg (show ¬ x = (5 : Int32) from oor h (k := 5) (by decide) (by decide)), if_neg (show ¬ x = (6 : Int32) from oor h (k := 6) (by decide) (by decide)), if_neg (show ¬ x = (7 : Int32) from oor h (k := 7) (by decide) (by decide)), if_neg (show ¬ x = (8 : Int32) from oor h (k := 8) (by decide) (by decide))]
theorem M_of0 {N : qz_N} {S : St} (hM : RM N S) (h6 : S 3 0 0 ≤ 6) {i : Nat} (hi : i < S 3 0 0) {x : Int32} (h : x < 0 ∨ nI 15 ≤ x) : fM_of 0 (nI i) x N = some (-2, N) := by
  unfold fM_of
  refine ob_some (M_po1 hM h6 hi) ?_
  rw [if_neg ne10]
  rcases h with h | h
  · rw [if_pos (show x < 9 by rw [Int32.lt_iff_toInt_lt] at h ⊢; have e0 : (0 : Int32).toInt = 0 := by decide
                              have e9 : (9 : Int32).toInt = 9 := by decide
                              omega)]
    exact M_of390 (Or.inl h)
  · have g : nI 9 ≤ x := by rw [Int32.le_iff_toInt_le] at h ⊢; rw [nI_toInt (by decide)] at h ⊢; omega
    by_cases c : x < 9
    · rw [if_pos c]; exact M_of390 (Or.inr g)
    · rw [if_neg c, if_pos (show (15 : Int32) ≤ x from h)]; exact M_of390 (Or.inr g)
theorem M_of1 {N : qz_N} {S : St} (hM : RM N S) (h6 : S 3 0 0 ≤ 6) {i n : Nat} (hp : i < S 3 0 0) (hn : n < 15) : fM_of 0 (nI i) (nI n) N = some (v_of S i n, N) := by
  have hi : i < 6 := by omega
  unfold fM_of
  refine ob_some (M_po1 hM h6 hp) ?_
  rw [if_neg ne10]
  match n, hn with
  | 0, _ => rw [if_pos (show nI 0 < (9 : Int32) by decide)]; unfold fM_of_39; rw [if_pos (show nI 0 = (0 : Int32) by decide)]; rw [ix_2m, nI_add, if_neg (nI_ok (n := 12) (by omega) (by decide)), nI_tc (by omega), rM7 hM i 0 hi (by decide)]; rfl
  | 1, _ => rw [if_pos (show nI 1 < (9 : Int32) by decide)]; unfold fM_of_39; rw [if_neg (show ¬ nI 1 = (0 : Int32) by decide), if_pos (show nI 1 = (1 : Int32) by decide)]; rw [ix_2m, nI_add, if_neg (nI_ok (n := 12) (by omega) (by decide)), nI_tc (by omega), rM7 hM i 1 hi (by decide)]; rfl
  | 2, _ => rw [if_pos (show nI 2 < (9 : Int32) by decide)]; unfold fM_of_39; rw [if_neg (show ¬ nI 2 = (0 : Int32) by decide), if_neg (show ¬ nI 2 = (1 : Int32) by decide), if_pos (show nI 2 = (2 : Int32) by decide)]; rw [if_neg (nI_ok (n := 6) hi (by decide)), nI_tc (by omega), rM8 hM i hi]; rfl
  | 3, _ => rw [if_pos (show nI 3 < (9 : Int32) by decide)]; unfold fM_of_39; rw [if_neg (show ¬ nI 3 = (0 : Int32) by decide), if_neg (show ¬ nI 3 = (1 : Int32) by decide), if_neg (show ¬ nI 3 = (2 : Int32) by decide), if_pos (show nI 3 = (3 : Int32) by decide)]; rw [if_neg (nI_ok (n := 6) hi (by decide)), nI_tc (by omega), rM10 hM i hi]; rfl
  | 4, _ => rw [if_pos (show nI 4 < (9 : Int32) by decide)]; unfold fM_of_39; rw [if_neg (show ¬ nI 4 = (0 : Int32) by decide), if_neg (show ¬ nI 4 = (1 : Int32) by decide), if_neg (show ¬ nI 4 = (2 : Int32) by decide), if_neg (show ¬ nI 4 = (3 : Int32) by decide), if_pos (show nI 4 = (4 : Int32) by decide)]; rw [if_neg (nI_ok (n := 6) hi (by decide)), nI_tc (by omega), rM11 hM i hi]; rfl
  | 5, _ => rw [if_pos (show nI 5 < (9 : Int32) by decide)]; unfold fM_of_39; rw [if_neg (show ¬ nI 5 = (0 : Int32) by decide), if_neg (show ¬ nI 5 = (1 : Int32) by decide), if_neg (show ¬ nI 5 = (2 : Int32) by decide), if_neg (show ¬ nI 5 = (3 : Int32) by decide), if_neg (show ¬ nI 5 = (4 : Int32) by decide), if_pos (show nI 5 = (5 : Int32) by decide)]; rw [if_neg (nI_ok (n := 6) hi (by decide)), nI_tc (by omega), rM5 hM i hi]; rfl
  | 6, _ => rw [if_pos (show nI 6 < (9 : Int32) by decide)]; unfold fM_of_39; rw [if_neg (show ¬ nI 6 = (0 : Int32) by decide), if_neg (show ¬ nI 6 = (1 : Int32) by decide), if_neg (show ¬ nI 6 = (2 : Int32) by decide), if_neg (show ¬ nI 6 = (3 : Int32) by decide), if_neg (show ¬ nI 6 = (4 : Int32) by decide), if_neg (show ¬ nI 6 = (5 : Int32) by decide), if_pos (show nI 6 = (6 : Int32) by decide)]; rw [if_neg (nI_ok (n := 6) hi (by decide)), nI_tc (by omega), rM6 hM i hi]; rfl
  | 7, _ => rw [if_pos (show nI 7 < (9 : Int32) by decide)]; unfold fM_of_39; rw [if_neg (show ¬ nI 7 = (0 : Int32) by decide), if_neg (show ¬ nI 7 = (1 : Int32) by decide), if_neg (show ¬ nI 7 = (2 : Int32) by decide), if_neg (show ¬ nI 7 = (3 : Int32) by decide), if_neg (show ¬ nI 7 = (4 : Int32) by decide), if_neg (show ¬ nI 7 = (5 : Int32) by decide), if_neg (show ¬ nI 7 = (6 : Int32) by decide), if_pos (show nI 7 = (7 : Int32) by decide)]; rw [ix_2m, nI_add, ix_s7 (by omega), if_neg (nI_ok (n := 12) (by omega) (by decide)), nI_tc (by omega), show 2 * i + 7 - 7 = 2 * i + 0 by omega, rM4 hM i 0 hi (by decide)]; rfl
  | 8, _ => rw [if_pos (show nI 8 < (9 : Int32) by decide)]; unfold fM_of_39; rw [if_neg (show ¬ nI 8 = (0 : Int32) by decide), if_neg (show ¬ nI 8 = (1 : Int32) by decide), if_neg (show ¬ nI 8 = (2 : Int32) by decide), if_neg (show ¬ nI 8 = (3 : Int32) by decide), if_neg (show ¬ nI 8 = (4 : Int32) by decide), if_neg (show ¬ nI 8 = (5 : Int32) by decide), if_neg (show ¬ nI 8 = (6 : Int32) by decide), if_neg (show ¬ nI 8 = (7 : Int32) by decide), if_pos (show nI 8 = (8 : Int32) by decide)]; rw [ix_2m, nI_add, ix_s7 (by omega), if_neg (nI_ok (n := 12) (by omega) (by decide)), nI_tc (by omega), show 2 * i + 8 - 7 = 2 * i + 1 by omega, rM4 hM i 1 hi (by decide)]; rfl
  | n + 9, hn =>
    rw [if_neg (show ¬ nI (n + 9) < (9 : Int32) by show ¬ nI (n + 9) < nI 9; rw [nI_ltI (by omega) (by decide)]; omega), if_neg (show ¬ (15 : Int32) ≤ nI (n + 9) by show ¬ nI 15 ≤ nI (n + 9); rw [nI_leI (by decide) (by omega)]; omega), ix_6m, nI_add, ix_s9 (by omega), if_neg (nI_ok (n := 36) (by omega) (by decide)), nI_tc (by omega), show 6 * i + (n + 9) - 9 = 6 * i + n by omega, rM9 hM i _ hi (by omega)]
    rfl
theorem op_of {N : qz_N} {S : St} (hC : RC N S) (hM : RM N S) (h6 : S 3 0 0 ≤ 6) (p x : Int32) : ∃ r, fE_of 0 p x N = some (r, N) ∧ fM_of 0 p x N = some (r, N) := by
  rcases ixc p (n := S 3 0 0) (by omega) with hp | ⟨i, hp, rfl⟩
  · refine ⟨-2, ?_, ?_⟩
    · unfold fE_of; exact ob_some (E_po0 hC hp) rfl
    · unfold fM_of; exact ob_some (M_po0 hM hp) (if_pos rfl)
  · rcases ixc x (n := 15) (by decide) with hx | ⟨n, hn, rfl⟩
    · refine ⟨-2, ?_, M_of0 hM h6 hp hx⟩
      unfold fE_of; exact ob_some (E_po1 hC h6 hp) (ob_some (E_told0 hx) rfl)
    · refine ⟨v_of S i n, ?_, M_of1 hM h6 hp hn⟩
      unfold fE_of; exact ob_some (E_po1 hC h6 hp) (ob_some (E_told1 hC (by omega) hn) rfl)
