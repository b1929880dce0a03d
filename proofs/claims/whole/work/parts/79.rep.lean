-- the state: S f i j; its fields: 0 bal, 1 minted, 2 house, 3 np, 4 tok, 5 kind, 6 fee, 7 res, 8 sh, 9 shof, 10 tally, 11 age, 12 mset, 13 mpool, 14 mtally, 15 mage, 16 tokA, 17 tokB, 18 size, 19 opl, 20 obuy, 21 oamt, 22 olim, 23 ldeal, 24 lsize, 25 lpart, 26 vhas, 27 vparts, 28 vof, 29 vidx, 30 vrate, 31 lopen, 32 lpl, 33 lpool, 34 lside, 35 lcov, 36 lun, 37 clock
abbrev St : Type := Nat → Nat → Nat → Nat
def dCL (f i j : Nat) : Bool := match f with
  | 0 => decide (i < 6) && decide (j < 4)
  | 1 => decide (i < 4) && decide (j < 1)
  | 2 => decide (i < 4) && decide (j < 1)
  | 7 => decide (i < 6) && decide (j < 2)
  | 8 => decide (i < 6) && decide (j < 1)
  | 9 => decide (i < 6) && decide (j < 6)
  | 10 => decide (i < 6) && decide (j < 1)
  | 11 => decide (i < 6) && decide (j < 1)
  | 14 => decide (i < 8) && decide (j < 1)
  | 15 => decide (i < 8) && decide (j < 1)
  | 21 => decide (i < 40) && decide (j < 1)
  | 22 => decide (i < 40) && decide (j < 1)
  | 23 => decide (i < 1) && decide (j < 1)
  | 25 => decide (i < 40) && decide (j < 1)
  | 26 => decide (i < 4) && decide (j < 1)
  | 27 => decide (i < 4) && decide (j < 1)
  | 28 => decide (i < 4) && decide (j < 6)
  | 29 => decide (i < 4) && decide (j < 1)
  | 30 => decide (i < 4) && decide (j < 1)
  | 35 => decide (i < 10) && decide (j < 1)
  | 36 => decide (i < 10) && decide (j < 1)
  | _ => false
def lCL (f i j : Nat) : Nat × Nat × Nat := match f with
  | 0 => (12, 0, 4 * i + j)
  | 1 => (13, 0, i)
  | 2 => (14, 0, i)
  | 7 => (2, i, 5 + j)
  | 8 => (2, i, 7)
  | 9 => (15, i, j)
  | 10 => (2, i, 8)
  | 11 => (2, i, 9)
  | 14 => (3, i, 2)
  | 15 => (3, i, 3)
  | 21 => (18, 0, i)
  | 22 => (19, 0, i)
  | 23 => (4, 0, 9)
  | 25 => (20, 0, i)
  | 26 => (5, i, 1)
  | 27 => (5, i, 2)
  | 28 => (21, i, j)
  | 29 => (5, i, 4)
  | 30 => (5, i, 3)
  | 35 => (6, i, 4)
  | 36 => (6, i, 5)
  | _ => (0, 0, 0)
theorem bCL : ∀ f i j, dCL f i j = true → f < 38 ∧ i < 40 ∧ j < 6 := by
  intro f i j h
  unfold dCL at h
  split at h
  · simp only [Bool.and_eq_true, decide_eq_true_eq] at h; omega
  · simp only [Bool.and_eq_true, decide_eq_true_eq] at h; omega
  · simp only [Bool.and_eq_true, decide_eq_true_eq] at h; omega
  · simp only [Bool.and_eq_true, decide_eq_true_eq] at h; omega
  · simp only [Bool.and_eq_true, decide_eq_true_eq] at h; omega
  · simp only [Bool.and_eq_true, decide_eq_true_eq] at h; omega
  · simp only [Bool.and_eq_true, decide_eq_true_eq] at h; omega
  · simp only [Bool.and_eq_true, decide_eq_true_eq] at h; omega
  · simp only [Bool.and_eq_true, decide_eq_true_eq] at h; omega
  · simp only [Bool.and_eq_true, decide_eq_true_eq] at h; omega
  · simp only [Bool.and_eq_true, decide_eq_true_eq] at h; omega
  · simp only [Bool.and_eq_true, decide_eq_true_eq] at h; omega
  · simp only [Bool.and_eq_true, decide_eq_true_eq] at h; omega
  · simp only [Bool.and_eq_true, decide_eq_true_eq] at h; omega
  · simp only [Bool.and_eq_true, decide_eq_true_eq] at h; omega
  · simp only [Bool.and_eq_true, decide_eq_true_eq] at h; omega
  · simp only [Bool.and_eq_true, decide_eq_true_eq] at h; omega
  · simp only [Bool.and_eq_true, decide_eq_true_eq] at h; omega
  · simp only [Bool.and_eq_true, decide_eq_true_eq] at h; omega
  · simp only [Bool.and_eq_true, decide_eq_true_eq] at h; omega
  · simp only [Bool.and_eq_true, decide_eq_true_eq] at h; omega
  · cases h
def vCL (q : Nat × Nat × Nat) : Nat × Nat × Nat := match q.1 with
  | 2 => match q.2.2 with
    | 5 => (7, q.2.1, 0)
    | 6 => (7, q.2.1, 1)
    | 7 => (8, q.2.1, 0)
    | 8 => (10, q.2.1, 0)
    | 9 => (11, q.2.1, 0)
    | _ => (0, 0, 0)
  | 3 => match q.2.2 with
    | 2 => (14, q.2.1, 0)
    | 3 => (15, q.2.1, 0)
    | _ => (0, 0, 0)
  | 4 => (23, 0, 0)
  | 5 => match q.2.2 with
    | 1 => (26, q.2.1, 0)
    | 2 => (27, q.2.1, 0)
    | 4 => (29, q.2.1, 0)
    | 3 => (30, q.2.1, 0)
    | _ => (0, 0, 0)
  | 6 => match q.2.2 with
    | 4 => (35, q.2.1, 0)
    | 5 => (36, q.2.1, 0)
    | _ => (0, 0, 0)
  | 12 => (0, q.2.2 / 4, q.2.2 % 4)
  | 13 => (1, q.2.2, 0)
  | 14 => (2, q.2.2, 0)
  | 15 => (9, q.2.1, q.2.2)
  | 18 => (21, q.2.2, 0)
  | 19 => (22, q.2.2, 0)
  | 20 => (25, q.2.2, 0)
  | 21 => (28, q.2.1, q.2.2)
  | _ => (0, 0, 0)
theorem wCL : ((List.range 38).all fun f => (List.range 40).all fun i => (List.range 6).all fun j => !dCL f i j || vCL (lCL f i j) == (f, i, j)) = true := by decide +kernel
theorem iCL {f i j f' i' j' : Nat} (h : dCL f i j = true) (h' : dCL f' i' j' = true) (e : lCL f i j = lCL f' i' j') : f = f' ∧ i = i' ∧ j = j' := by
  have key : ∀ f i j, dCL f i j = true → vCL (lCL f i j) = (f, i, j) := by
    intro f i j h
    obtain ⟨h1, h2, h3⟩ := bCL f i j h
    have h4 := List.all_eq_true.mp (List.all_eq_true.mp (List.all_eq_true.mp wCL f (List.mem_range.mpr h1)) i (List.mem_range.mpr h2)) j (List.mem_range.mpr h3)
    rw [h] at h4
    simpa using h4
  have h1 := key f i j h
  rw [e, key f' i' j' h'] at h1
  cases h1
  exact ⟨rfl, rfl, rfl⟩
def dCI (f i j : Nat) : Bool := match f with
  | 3 => decide (i < 1) && decide (j < 1)
  | 4 => decide (i < 6) && decide (j < 2)
  | 5 => decide (i < 6) && decide (j < 1)
  | 6 => decide (i < 6) && decide (j < 1)
  | 12 => decide (i < 8) && decide (j < 1)
  | 13 => decide (i < 8) && decide (j < 1)
  | 16 => decide (i < 1) && decide (j < 1)
  | 17 => decide (i < 1) && decide (j < 1)
  | 18 => decide (i < 1) && decide (j < 1)
  | 19 => decide (i < 40) && decide (j < 1)
  | 20 => decide (i < 40) && decide (j < 1)
  | 24 => decide (i < 1) && decide (j < 1)
  | 31 => decide (i < 10) && decide (j < 1)
  | 32 => decide (i < 10) && decide (j < 1)
  | 33 => decide (i < 10) && decide (j < 1)
  | 34 => decide (i < 10) && decide (j < 1)
  | 37 => decide (i < 1) && decide (j < 1)
  | _ => false
def lCI (f i j : Nat) : Nat × Nat × Nat := match f with
  | 3 => (0, 0, 6)
  | 4 => (2, i, 1 + j)
  | 5 => (2, i, 3)
  | 6 => (2, i, 4)
  | 12 => (3, i, 0)
  | 13 => (3, i, 1)
  | 16 => (4, 0, 5)
  | 17 => (4, 0, 6)
  | 18 => (4, 0, 7)
  | 19 => (16, 0, i)
  | 20 => (17, 0, i)
  | 24 => (4, 0, 8)
  | 31 => (6, i, 0)
  | 32 => (6, i, 1)
  | 33 => (6, i, 2)
  | 34 => (6, i, 3)
  | 37 => (0, 0, 7)
  | _ => (0, 0, 0)
theorem bCI : ∀ f i j, dCI f i j = true → f < 38 ∧ i < 40 ∧ j < 6 := by
  intro f i j h
  unfold dCI at h
  split at h
  · simp only [Bool.and_eq_true, decide_eq_true_eq] at h; omega
  · simp only [Bool.and_eq_true, decide_eq_true_eq] at h; omega
  · simp only [Bool.and_eq_true, decide_eq_true_eq] at h; omega
  · simp only [Bool.and_eq_true, decide_eq_true_eq] at h; omega
  · simp only [Bool.and_eq_true, decide_eq_true_eq] at h; omega
  · simp only [Bool.and_eq_true, decide_eq_true_eq] at h; omega
  · simp only [Bool.and_eq_true, decide_eq_true_eq] at h; omega
  · simp only [Bool.and_eq_true, decide_eq_true_eq] at h; omega
  · simp only [Bool.and_eq_true, decide_eq_true_eq] at h; omega
  · simp only [Bool.and_eq_true, decide_eq_true_eq] at h; omega
  · simp only [Bool.and_eq_true, decide_eq_true_eq] at h; omega
  · simp only [Bool.and_eq_true, decide_eq_true_eq] at h; omega
  · simp only [Bool.and_eq_true, decide_eq_true_eq] at h; omega
  · simp only [Bool.and_eq_true, decide_eq_true_eq] at h; omega
  · simp only [Bool.and_eq_true, decide_eq_true_eq] at h; omega
  · simp only [Bool.and_eq_true, decide_eq_true_eq] at h; omega
  · simp only [Bool.and_eq_true, decide_eq_true_eq] at h; omega
  · cases h
def vCI (q : Nat × Nat × Nat) : Nat × Nat × Nat := match q.1 with
  | 0 => match q.2.2 with
    | 6 => (3, 0, 0)
    | 7 => (37, 0, 0)
    | _ => (0, 0, 0)
  | 2 => match q.2.2 with
    | 1 => (4, q.2.1, 0)
    | 2 => (4, q.2.1, 1)
    | 3 => (5, q.2.1, 0)
    | 4 => (6, q.2.1, 0)
    | _ => (0, 0, 0)
  | 3 => match q.2.2 with
    | 0 => (12, q.2.1, 0)
    | 1 => (13, q.2.1, 0)
    | _ => (0, 0, 0)
  | 4 => match q.2.2 with
    | 5 => (16, 0, 0)
    | 6 => (17, 0, 0)
    | 7 => (18, 0, 0)
    | 8 => (24, 0, 0)
    | _ => (0, 0, 0)
  | 6 => match q.2.2 with
    | 0 => (31, q.2.1, 0)
    | 1 => (32, q.2.1, 0)
    | 2 => (33, q.2.1, 0)
    | 3 => (34, q.2.1, 0)
    | _ => (0, 0, 0)
  | 16 => (19, q.2.2, 0)
  | 17 => (20, q.2.2, 0)
  | _ => (0, 0, 0)
theorem wCI : ((List.range 38).all fun f => (List.range 40).all fun i => (List.range 6).all fun j => !dCI f i j || vCI (lCI f i j) == (f, i, j)) = true := by decide +kernel
theorem iCI {f i j f' i' j' : Nat} (h : dCI f i j = true) (h' : dCI f' i' j' = true) (e : lCI f i j = lCI f' i' j') : f = f' ∧ i = i' ∧ j = j' := by
  have key : ∀ f i j, dCI f i j = true → vCI (lCI f i j) = (f, i, j) := by
    intro f i j h
    obtain ⟨h1, h2, h3⟩ := bCI f i j h
    have h4 := List.all_eq_true.mp (List.all_eq_true.mp (List.all_eq_true.mp wCI f (List.mem_range.mpr h1)) i (List.mem_range.mpr h2)) j (List.mem_range.mpr h3)
    rw [h] at h4
    simpa using h4
  have h1 := key f i j h
  rw [e, key f' i' j' h'] at h1
  cases h1
  exact ⟨rfl, rfl, rfl⟩
theorem LIC {f i j : Nat} (h : dCL f i j = true) (h' : dCI f i j = true) : False := by
  unfold dCL at h
  split at h <;> first | (cases h; done) | (unfold dCI at h'; cases h'; done)
def TC (N : qz_N) (S : St) : Prop := (∀ f i j, dCL f i j = true → qz_gl N (lCL f i j).1 (lCL f i j).2.1 (lCL f i j).2.2 = lN (S f i j)) ∧ (∀ f i j, dCI f i j = true → qz_gi N (lCI f i j).1 (lCI f i j).2.1 (lCI f i j).2.2 = nI (S f i j))
theorem TC.setL {N : qz_N} {S : St} {f i j v : Nat} (h : TC N S) (hd : dCL f i j = true) : TC (qz_sl N (lCL f i j).1 (lCL f i j).2.1 (lCL f i j).2.2 (lN v)) (qz_u3 S f i j v) := by
  refine ⟨fun f' i' j' hd' => ?_, fun f' i' j' hd' => ?_⟩
  · rw [qz_gl_sl]
    by_cases e : f' = f ∧ i' = i ∧ j' = j
    · obtain ⟨rfl, rfl, rfl⟩ := e
      rw [if_pos ⟨rfl, rfl, rfl⟩]; unfold qz_u3; rw [if_pos ⟨rfl, rfl, rfl⟩]
    · rw [if_neg (fun z => e (iCL hd' hd (Prod.ext z.1 (Prod.ext z.2.1 z.2.2))))]
      unfold qz_u3
      rw [if_neg e]; exact h.1 f' i' j' hd'
  · rw [qz_gi_sl]
    have e : ¬ (f' = f ∧ i' = i ∧ j' = j) := by
      rintro ⟨rfl, rfl, rfl⟩
      exact LIC hd hd'
    unfold qz_u3
    rw [if_neg e]; exact h.2 f' i' j' hd'
theorem TC.setI {N : qz_N} {S : St} {f i j v : Nat} (h : TC N S) (hd : dCI f i j = true) : TC (qz_si N (lCI f i j).1 (lCI f i j).2.1 (lCI f i j).2.2 (nI v)) (qz_u3 S f i j v) := by
  refine ⟨fun f' i' j' hd' => ?_, fun f' i' j' hd' => ?_⟩
  · rw [qz_gl_si]
    have e : ¬ (f' = f ∧ i' = i ∧ j' = j) := by
      rintro ⟨rfl, rfl, rfl⟩
      exact LIC hd' hd
    unfold qz_u3
    rw [if_neg e]; exact h.1 f' i' j' hd'
  · rw [qz_gi_si]
    by_cases e : f' = f ∧ i' = i ∧ j' = j
    · obtain ⟨rfl, rfl, rfl⟩ := e
      rw [if_pos ⟨rfl, rfl, rfl⟩]; unfold qz_u3; rw [if_pos ⟨rfl, rfl, rfl⟩]
    · rw [if_neg (fun z => e (iCI hd' hd (Prod.ext z.1 (Prod.ext z.2.1 z.2.2))))]
      unfold qz_u3
      rw [if_neg e]; exact h.2 f' i' j' hd'
abbrev RC (N : qz_N) (S : St) : Prop := TC N S
def dML (f i j : Nat) : Bool := match f with
  | 0 => decide (i < 6) && decide (j < 4)
  | 2 => decide (i < 4) && decide (j < 1)
  | 7 => decide (i < 6) && decide (j < 2)
  | 8 => decide (i < 6) && decide (j < 1)
  | 9 => decide (i < 6) && decide (j < 6)
  | 10 => decide (i < 6) && decide (j < 1)
  | 11 => decide (i < 6) && decide (j < 1)
  | 14 => decide (i < 8) && decide (j < 1)
  | 15 => decide (i < 8) && decide (j < 1)
  | 23 => decide (i < 1) && decide (j < 1)
  | 26 => decide (i < 4) && decide (j < 1)
  | 27 => decide (i < 4) && decide (j < 1)
  | 28 => decide (i < 4) && decide (j < 6)
  | 29 => decide (i < 4) && decide (j < 1)
  | 30 => decide (i < 4) && decide (j < 1)
  | 35 => decide (i < 10) && decide (j < 1)
  | 36 => decide (i < 10) && decide (j < 1)
  | _ => false
def lML (f i j : Nat) : Nat × Nat × Nat := match f with
  | 0 => (22, 0, 4 * i + j)
  | 2 => (23, 0, i)
  | 7 => (27, 0, 2 * i + j)
  | 8 => (28, 0, i)
  | 9 => (29, 0, 6 * i + j)
  | 10 => (30, 0, i)
  | 11 => (31, 0, i)
  | 14 => (33, 0, i)
  | 15 => (34, 0, i)
  | 23 => (7, 0, 22)
  | 26 => (41, 0, i)
  | 27 => (42, 0, i)
  | 28 => (43, 0, 4 * j + i)
  | 29 => (44, 0, i)
  | 30 => (45, 0, i)
  | 35 => (50, 0, i)
  | 36 => (51, 0, i)
  | _ => (0, 0, 0)
theorem bML : ∀ f i j, dML f i j = true → f < 38 ∧ i < 40 ∧ j < 6 := by
  intro f i j h
  unfold dML at h
  split at h
  · simp only [Bool.and_eq_true, decide_eq_true_eq] at h; omega
  · simp only [Bool.and_eq_true, decide_eq_true_eq] at h; omega
  · simp only [Bool.and_eq_true, decide_eq_true_eq] at h; omega
  · simp only [Bool.and_eq_true, decide_eq_true_eq] at h; omega
  · simp only [Bool.and_eq_true, decide_eq_true_eq] at h; omega
  · simp only [Bool.and_eq_true, decide_eq_true_eq] at h; omega
  · simp only [Bool.and_eq_true, decide_eq_true_eq] at h; omega
  · simp only [Bool.and_eq_true, decide_eq_true_eq] at h; omega
  · simp only [Bool.and_eq_true, decide_eq_true_eq] at h; omega
  · simp only [Bool.and_eq_true, decide_eq_true_eq] at h; omega
  · simp only [Bool.and_eq_true, decide_eq_true_eq] at h; omega
  · simp only [Bool.and_eq_true, decide_eq_true_eq] at h; omega
  · simp only [Bool.and_eq_true, decide_eq_true_eq] at h; omega
  · simp only [Bool.and_eq_true, decide_eq_true_eq] at h; omega
  · simp only [Bool.and_eq_true, decide_eq_true_eq] at h; omega
  · simp only [Bool.and_eq_true, decide_eq_true_eq] at h; omega
  · simp only [Bool.and_eq_true, decide_eq_true_eq] at h; omega
  · cases h
def vML (q : Nat × Nat × Nat) : Nat × Nat × Nat := match q.1 with
  | 7 => (23, 0, 0)
  | 22 => (0, q.2.2 / 4, q.2.2 % 4)
  | 23 => (2, q.2.2, 0)
  | 27 => (7, q.2.2 / 2, q.2.2 % 2)
  | 28 => (8, q.2.2, 0)
  | 29 => (9, q.2.2 / 6, q.2.2 % 6)
  | 30 => (10, q.2.2, 0)
  | 31 => (11, q.2.2, 0)
  | 33 => (14, q.2.2, 0)
  | 34 => (15, q.2.2, 0)
  | 41 => (26, q.2.2, 0)
  | 42 => (27, q.2.2, 0)
  | 43 => (28, q.2.2 % 4, q.2.2 / 4)
  | 44 => (29, q.2.2, 0)
  | 45 => (30, q.2.2, 0)
  | 50 => (35, q.2.2, 0)
  | 51 => (36, q.2.2, 0)
  | _ => (0, 0, 0)
theorem wML : ((List.range 38).all fun f => (List.range 40).all fun i => (List.range 6).all fun j => !dML f i j || vML (lML f i j) == (f, i, j)) = true := by decide +kernel
theorem iML {f i j f' i' j' : Nat} (h : dML f i j = true) (h' : dML f' i' j' = true) (e : lML f i j = lML f' i' j') : f = f' ∧ i = i' ∧ j = j' := by
  have key : ∀ f i j, dML f i j = true → vML (lML f i j) = (f, i, j) := by
    intro f i j h
    obtain ⟨h1, h2, h3⟩ := bML f i j h
    have h4 := List.all_eq_true.mp (List.all_eq_true.mp (List.all_eq_true.mp wML f (List.mem_range.mpr h1)) i (List.mem_range.mpr h2)) j (List.mem_range.mpr h3)
    rw [h] at h4
    simpa using h4
  have h1 := key f i j h
  rw [e, key f' i' j' h'] at h1
  cases h1
  exact ⟨rfl, rfl, rfl⟩
def dMI (f i j : Nat) : Bool := match f with
  | 3 => decide (i < 1) && decide (j < 1)
  | 4 => decide (i < 6) && decide (j < 2)
  | 5 => decide (i < 6) && decide (j < 1)
  | 6 => decide (i < 6) && decide (j < 1)
  | 16 => decide (i < 1) && decide (j < 1)
  | 17 => decide (i < 1) && decide (j < 1)
  | 18 => decide (i < 1) && decide (j < 1)
  | 24 => decide (i < 1) && decide (j < 1)
  | 31 => decide (i < 10) && decide (j < 1)
  | 32 => decide (i < 10) && decide (j < 1)
  | 33 => decide (i < 10) && decide (j < 1)
  | 34 => decide (i < 10) && decide (j < 1)
  | 37 => decide (i < 1) && decide (j < 1)
  | _ => false
def lMI (f i j : Nat) : Nat × Nat × Nat := match f with
  | 3 => (7, 0, 3)
  | 4 => (24, 0, 2 * i + j)
  | 5 => (25, 0, i)
  | 6 => (26, 0, i)
  | 16 => (7, 0, 15)
  | 17 => (7, 0, 16)
  | 18 => (7, 0, 17)
  | 24 => (7, 0, 23)
  | 31 => (46, 0, i)
  | 32 => (47, 0, i)
  | 33 => (48, 0, i)
  | 34 => (49, 0, i)
  | 37 => (7, 0, 2)
  | _ => (0, 0, 0)
theorem bMI : ∀ f i j, dMI f i j = true → f < 38 ∧ i < 40 ∧ j < 6 := by
  intro f i j h
  unfold dMI at h
  split at h
  · simp only [Bool.and_eq_true, decide_eq_true_eq] at h; omega
  · simp only [Bool.and_eq_true, decide_eq_true_eq] at h; omega
  · simp only [Bool.and_eq_true, decide_eq_true_eq] at h; omega
  · simp only [Bool.and_eq_true, decide_eq_true_eq] at h; omega
  · simp only [Bool.and_eq_true, decide_eq_true_eq] at h; omega
  · simp only [Bool.and_eq_true, decide_eq_true_eq] at h; omega
  · simp only [Bool.and_eq_true, decide_eq_true_eq] at h; omega
  · simp only [Bool.and_eq_true, decide_eq_true_eq] at h; omega
  · simp only [Bool.and_eq_true, decide_eq_true_eq] at h; omega
  · simp only [Bool.and_eq_true, decide_eq_true_eq] at h; omega
  · simp only [Bool.and_eq_true, decide_eq_true_eq] at h; omega
  · simp only [Bool.and_eq_true, decide_eq_true_eq] at h; omega
  · simp only [Bool.and_eq_true, decide_eq_true_eq] at h; omega
  · cases h
def vMI (q : Nat × Nat × Nat) : Nat × Nat × Nat := match q.1 with
  | 7 => match q.2.2 with
    | 3 => (3, 0, 0)
    | 15 => (16, 0, 0)
    | 16 => (17, 0, 0)
    | 17 => (18, 0, 0)
    | 23 => (24, 0, 0)
    | 2 => (37, 0, 0)
    | _ => (0, 0, 0)
  | 24 => (4, q.2.2 / 2, q.2.2 % 2)
  | 25 => (5, q.2.2, 0)
  | 26 => (6, q.2.2, 0)
  | 46 => (31, q.2.2, 0)
  | 47 => (32, q.2.2, 0)
  | 48 => (33, q.2.2, 0)
  | 49 => (34, q.2.2, 0)
  | _ => (0, 0, 0)
theorem wMI : ((List.range 38).all fun f => (List.range 40).all fun i => (List.range 6).all fun j => !dMI f i j || vMI (lMI f i j) == (f, i, j)) = true := by decide +kernel
theorem iMI {f i j f' i' j' : Nat} (h : dMI f i j = true) (h' : dMI f' i' j' = true) (e : lMI f i j = lMI f' i' j') : f = f' ∧ i = i' ∧ j = j' := by
  have key : ∀ f i j, dMI f i j = true → vMI (lMI f i j) = (f, i, j) := by
    intro f i j h
    obtain ⟨h1, h2, h3⟩ := bMI f i j h
    have h4 := List.all_eq_true.mp (List.all_eq_true.mp (List.all_eq_true.mp wMI f (List.mem_range.mpr h1)) i (List.mem_range.mpr h2)) j (List.mem_range.mpr h3)
    rw [h] at h4
    simpa using h4
  have h1 := key f i j h
  rw [e, key f' i' j' h'] at h1
  cases h1
  exact ⟨rfl, rfl, rfl⟩
theorem LIM {f i j : Nat} (h : dML f i j = true) (h' : dMI f i j = true) : False := by
  unfold dML at h
  split at h <;> first | (cases h; done) | (unfold dMI at h'; cases h'; done)
def TM (N : qz_N) (S : St) : Prop := (∀ f i j, dML f i j = true → qz_gl N (lML f i j).1 (lML f i j).2.1 (lML f i j).2.2 = lN (S f i j)) ∧ (∀ f i j, dMI f i j = true → qz_gi N (lMI f i j).1 (lMI f i j).2.1 (lMI f i j).2.2 = nI (S f i j))
theorem TM.setL {N : qz_N} {S : St} {f i j v : Nat} (h : TM N S) (hd : dML f i j = true) : TM (qz_sl N (lML f i j).1 (lML f i j).2.1 (lML f i j).2.2 (lN v)) (qz_u3 S f i j v) := by
  refine ⟨fun f' i' j' hd' => ?_, fun f' i' j' hd' => ?_⟩
  · rw [qz_gl_sl]
    by_cases e : f' = f ∧ i' = i ∧ j' = j
    · obtain ⟨rfl, rfl, rfl⟩ := e
      rw [if_pos ⟨rfl, rfl, rfl⟩]; unfold qz_u3; rw [if_pos ⟨rfl, rfl, rfl⟩]
    · rw [if_neg (fun z => e (iML hd' hd (Prod.ext z.1 (Prod.ext z.2.1 z.2.2))))]
      unfold qz_u3
      rw [if_neg e]; exact h.1 f' i' j' hd'
  · rw [qz_gi_sl]
    have e : ¬ (f' = f ∧ i' = i ∧ j' = j) := by
      rintro ⟨rfl, rfl, rfl⟩
      exact LIM hd hd'
    unfold qz_u3
    rw [if_neg e]; exact h.2 f' i' j' hd'
theorem TM.setI {N : qz_N} {S : St} {f i j v : Nat} (h : TM N S) (hd : dMI f i j = true) : TM (qz_si N (lMI f i j).1 (lMI f i j).2.1 (lMI f i j).2.2 (nI v)) (qz_u3 S f i j v) := by
  refine ⟨fun f' i' j' hd' => ?_, fun f' i' j' hd' => ?_⟩
  · rw [qz_gl_si]
    have e : ¬ (f' = f ∧ i' = i ∧ j' = j) := by
      rintro ⟨rfl, rfl, rfl⟩
      exact LIM hd' hd
    unfold qz_u3
    rw [if_neg e]; exact h.1 f' i' j' hd'
  · rw [qz_gi_si]
    by_cases e : f' = f ∧ i' = i ∧ j' = j
    · obtain ⟨rfl, rfl, rfl⟩ := e
      rw [if_pos ⟨rfl, rfl, rfl⟩]; unfold qz_u3; rw [if_pos ⟨rfl, rfl, rfl⟩]
    · rw [if_neg (fun z => e (iMI hd' hd (Prod.ext z.1 (Prod.ext z.2.1 z.2.2))))]
      unfold qz_u3
      rw [if_neg e]; exact h.2 f' i' j' hd'
def RM (N : qz_N) (S : St) : Prop := TM N S ∧ (∀ k, k < 8 → qz_gi N 32 0 k = if S 12 k 0 = 0 then -1 else nI (S 13 k 0)) ∧ (∀ i, i < S 18 0 0 → qz_gi N 35 0 i = nI (S 19 i 0) ∧ qz_gi N 36 0 i = nI (S 20 i 0) ∧ qz_gl N 37 0 i = lN (S 21 i 0) ∧ qz_gl N 38 0 i = lN (S 22 i 0)) ∧ (∀ i, i < S 24 0 0 → qz_gl N 39 0 i = lN (S 25 i 0))
