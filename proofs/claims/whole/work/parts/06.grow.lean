/-! THE GROWING WORLD: while the constructors run. M: how many cells and slots have come, how many objects of each class, which references are set, the numbers. -/
abbrev qy_M : Type := Nat × Nat × (Nat → Nat) × (Nat → Nat → Nat → Bool) × qz_N
def qy_fv (ad : Nat → Nat → Nat) (M : qy_M) (c i k : Nat) (t : FieldType × Nat) : Value := match t.1 with
  | .long => .long (qz_gl M.2.2.2.2 c i k)
  | .object _ => if M.2.2.2.1 c i k = true then .ref (ad t.2 i) else .null
  | .array _ => if M.2.2.2.1 c i k = true then .ref (ad t.2 i) else .null
  | _ => .int (qz_gi M.2.2.2.2 c i k)
def qy_fs (ad : Nat → Nat → Nat) (M : qy_M) (c i : Nat) : Nat → List (FieldType × Nat) → List Value
  | _, [] => []
  | k, t :: ts => qy_fv ad M c i k t :: qy_fs ad M c i (k + 1) ts
def qy_ar (ad : Nat → Nat → Nat) (M : qy_M) (c i : Nat) (t : FieldType × Nat) : (Nat → Int32) ⊕ (Nat → Int64) ⊕ (Nat → UInt32) ⊕ (Nat → UInt64) ⊕ (Nat → Option Nat) := match t.1 with
  | .long => .inr (.inl (fun j => qz_gl M.2.2.2.2 c i j))
  | .object _ => .inr (.inr (.inr (.inr (fun j => if M.2.2.2.1 c i j = true then some (ad t.2 j) else none))))
  | .array _ => .inr (.inr (.inr (.inr (fun j => if M.2.2.2.1 c i j = true then some (ad t.2 j) else none))))
  | _ => .inl (fun j => qz_gi M.2.2.2.2 c i j)
def qy_e (G : qz_G) (M : qy_M) (c i : Nat) (q : qz_Y) : va_E := match q.2 with
  | .inl o => .inr (o.1, qy_fs G.2.2 M c i 0 o.2)
  | .inr a => .inl (G.2.1 c, a.1, qy_ar G.2.2 M c i a.2)
def qy_P (G : qz_G) (h0 : Nat) (M : qy_M) (H : Heap) : Prop := H.size = h0 + M.1 ∧ (∀ (c i : Nat) (q : qz_Y), qz_tb[c]? = some q → i < M.2.2.1 c → va_at G.1 qz_cl (G.2.2 c i, qy_e G M c i q) H) ∧ (∀ c i k : Nat, M.2.2.1 c ≤ i → M.2.2.2.1 c i k = false ∧ qz_gi M.2.2.2.2 c i k = 0 ∧ qz_gl M.2.2.2.2 c i k = 0) ∧ (∀ (c : Nat) (q : qz_Y), qz_tb[c]? = some q → M.2.2.1 c ≤ q.1)
def qy_S (h0 : Nat) (H0 H : Heap) (locs : List Loc) : Prop := (∀ q : Nat, q < h0 → H[q]? = H0[q]?) ∧ ∀ l ∈ locs, h0 ≤ l.base
theorem qy_S.rf {h0 : Nat} {H : Heap} : qy_S h0 H H [] := ⟨fun _ _ => rfl, fun _ h => by cases h⟩
theorem qy_S.put {h0 : Nat} {H0 H H1 : Heap} {locs : List Loc} {a k : Nat} (h : qy_S h0 H0 H locs) (oq : ∀ q : Nat, q ≠ a → H1[q]? = H[q]?) (ha : h0 ≤ a) : qy_S h0 H0 H1 (locs ++ [⟨a, k⟩]) := by
  refine ⟨fun q h2 => ?_, fun q hq => ?_⟩
  · rw [oq q (by omega)]
    exact h.1 q h2
  · rcases List.mem_append.mp hq with h1 | h1
    · exact h.2 q h1
    · rw [List.mem_singleton.mp h1]
      exact ha
theorem qy_S.push {h0 : Nat} {H0 H H1 : Heap} {locs : List Loc} (h : qy_S h0 H0 H locs) (hs : h0 ≤ H.size) (oq : ∀ q : Nat, q < H.size → H1[q]? = H[q]?) : qy_S h0 H0 H1 locs := ⟨fun q h2 => (oq q (by omega)).trans (h.1 q h2), h.2⟩
theorem qy_fs_at (ad : Nat → Nat → Nat) (M : qy_M) (c i : Nat) : ∀ (ts : List (FieldType × Nat)) (b k : Nat) (t : FieldType × Nat), ts[k]? = some t → (qy_fs ad M c i b ts)[k]? = some (qy_fv ad M c i (b + k) t)
  | [], _, _, _, h => by simp at h
  | t0 :: ts, b, 0, t, h => by
    simp only [List.getElem?_cons_zero] at h
    cases h
    rfl
  | t0 :: ts, b, k + 1, t, h => by
    simp only [List.getElem?_cons_succ] at h
    have := qy_fs_at ad M c i ts (b + 1) k t h
    rw [show b + 1 + k = b + (k + 1) by omega] at this
    exact this
theorem qy_fs_len (ad : Nat → Nat → Nat) (M : qy_M) (c i : Nat) : ∀ (ts : List (FieldType × Nat)) (b : Nat), (qy_fs ad M c i b ts).length = ts.length
  | [], _ => rfl
  | t0 :: ts, b => by
    show (qy_fs ad M c i (b + 1) ts).length + 1 = ts.length + 1
    rw [qy_fs_len ad M c i ts (b + 1)]
/-- the object (c, i) looks alike in M and M' -/
def qy_lk (M M' : qy_M) (c i : Nat) : Prop := (∀ k, qz_gi M'.2.2.2.2 c i k = qz_gi M.2.2.2.2 c i k) ∧ (∀ k, qz_gl M'.2.2.2.2 c i k = qz_gl M.2.2.2.2 c i k) ∧ ∀ k, M'.2.2.2.1 c i k = M.2.2.2.1 c i k
theorem qy_fv_congr {ad : Nat → Nat → Nat} {M M' : qy_M} {c i k : Nat} (h1 : qz_gi M'.2.2.2.2 c i k = qz_gi M.2.2.2.2 c i k) (h2 : qz_gl M'.2.2.2.2 c i k = qz_gl M.2.2.2.2 c i k) (h3 : M'.2.2.2.1 c i k = M.2.2.2.1 c i k) (t : FieldType × Nat) : qy_fv ad M' c i k t = qy_fv ad M c i k t := by
  unfold qy_fv
  rw [h1, h2, h3]
theorem qy_fs_congr {ad : Nat → Nat → Nat} {M M' : qy_M} {c i : Nat} (h : qy_lk M M' c i) : ∀ (ts : List (FieldType × Nat)) (b : Nat), qy_fs ad M' c i b ts = qy_fs ad M c i b ts
  | [], _ => rfl
  | t0 :: ts, b => by
    show qy_fv ad M' c i b t0 :: qy_fs ad M' c i (b + 1) ts = qy_fv ad M c i b t0 :: qy_fs ad M c i (b + 1) ts
    rw [qy_fs_congr h ts (b + 1), qy_fv_congr (h.1 b) (h.2.1 b) (h.2.2 b)]
theorem qy_ar_congr {ad : Nat → Nat → Nat} {M M' : qy_M} {c i : Nat} (h : qy_lk M M' c i) (t : FieldType × Nat) : qy_ar ad M' c i t = qy_ar ad M c i t := by
  unfold qy_ar
  rw [show (fun j => qz_gl M'.2.2.2.2 c i j) = (fun j => qz_gl M.2.2.2.2 c i j) from funext h.2.1, show (fun j => qz_gi M'.2.2.2.2 c i j) = (fun j => qz_gi M.2.2.2.2 c i j) from funext h.1, show (fun j => if M'.2.2.2.1 c i j = true then some (ad t.2 j) else none) = (fun j => if M.2.2.2.1 c i j = true then some (ad t.2 j) else none) from funext fun j => by rw [h.2.2 j]]
theorem qy_e_congr {G : qz_G} {M M' : qy_M} {c i : Nat} (h : qy_lk M M' c i) (q : qz_Y) : qy_e G M' c i q = qy_e G M c i q := by
  obtain ⟨n, o | a⟩ := q
  · show (Sum.inr (o.1, qy_fs G.2.2 M' c i 0 o.2) : va_E) = Sum.inr (o.1, qy_fs G.2.2 M c i 0 o.2)
    rw [qy_fs_congr h]
  · show (Sum.inl (G.2.1 c, a.1, qy_ar G.2.2 M' c i a.2) : va_E) = Sum.inl (G.2.1 c, a.1, qy_ar G.2.2 M c i a.2)
    rw [qy_ar_congr h]
/-- M' is M but for the object (c, i) -/
def qy_but (M M' : qy_M) (c i : Nat) : Prop := M'.1 = M.1 ∧ M'.2.1 = M.2.1 ∧ M'.2.2.1 = M.2.2.1 ∧ ∀ c' i' : Nat, ¬ (c' = c ∧ i' = i) → qy_lk M M' c' i'
theorem qy_P.set {G : qz_G} {h0 : Nat} {M M' : qy_M} {H H1 : Heap} {c i : Nat} {q : qz_Y} (hP : qy_P G h0 M H) (hD : qz_D G) (hc : qz_tb[c]? = some q) (hi : i < M.2.2.1 c) (hN : qy_but M M' c i) (he : va_at G.1 qz_cl (G.2.2 c i, qy_e G M' c i q) H1) (z : H1.size = H.size) (oq : ∀ x : Nat, x ≠ G.2.2 c i → H1[x]? = H[x]?) : qy_P G h0 M' H1 := by
  obtain ⟨p1, p2, p3, p4⟩ := hP
  obtain ⟨n1, n2, n3, n4⟩ := hN
  refine ⟨by rw [z, n1]; exact p1, fun c' i' q' hc' hi' => ?_, fun c' i' k hi' => ?_, fun c' q' hc' => by rw [n3]; exact p4 c' q' hc'⟩
  · rw [n3] at hi'
    by_cases h : c' = c ∧ i' = i
    · obtain ⟨rfl, rfl⟩ := h
      cases hc.symm.trans hc'
      exact he
    · rw [qy_e_congr (n4 c' i' h)]
      refine (p2 c' i' q' hc' hi').kept (oq _ (fun z => h ?_))
      exact hD c' i' q' c i q hc' (Nat.lt_of_lt_of_le hi' (p4 c' q' hc')) hc (Nat.lt_of_lt_of_le hi (p4 c q hc)) z
  · rw [n3] at hi'
    have h : ¬ (c' = c ∧ i' = i) := fun z => by obtain ⟨rfl, rfl⟩ := z; omega
    obtain ⟨g1, g2, g3⟩ := n4 c' i' h
    rw [g1 k, g2 k, g3 k]
    exact p3 c' i' k hi'
def qy_add (M : qy_M) (c n : Nat) : qy_M := (M.1 + 1, M.2.1 + n, va_up M.2.2.1 c (M.2.2.1 c + 1), M.2.2.2.1, M.2.2.2.2)
def qy_mk (M : qy_M) (c i k : Nat) : qy_M := (M.1, M.2.1, M.2.2.1, qz_u3 M.2.2.2.1 c i k true, M.2.2.2.2)
def qy_sN (M : qy_M) (N : qz_N) : qy_M := (M.1, M.2.1, M.2.2.1, M.2.2.2.1, N)
theorem qy_but_mk (M : qy_M) (c i k : Nat) : qy_but M (qy_mk M c i k) c i := ⟨rfl, rfl, rfl, fun c' i' h => ⟨fun _ => rfl, fun _ => rfl, fun k' => by show qz_u3 _ c i k true c' i' k' = _; unfold qz_u3; rw [if_neg (fun z => h ⟨z.1, z.2.1⟩)]⟩⟩
theorem qy_but_sN {M : qy_M} {N : qz_N} {c i : Nat} (h : qz_but M.2.2.2.2 N c i) : qy_but M (qy_sN M N) c i := ⟨rfl, rfl, rfl, fun c' i' hc => ⟨(h c' i' hc).1, (h c' i' hc).2, fun _ => rfl⟩⟩
/-- a new cell: the object (c, count c), all of it 0 and null -/
theorem qy_P.add {G : qz_G} {h0 n : Nat} {M : qy_M} {H H1 : Heap} {c : Nat} {q : qz_Y} (hP : qy_P G h0 M H) (hc : qz_tb[c]? = some q) (hi : M.2.2.1 c < q.1) (he : va_at G.1 qz_cl (G.2.2 c (M.2.2.1 c), qy_e G M c (M.2.2.1 c) q) H1) (z : H1.size = H.size + 1) (oq : ∀ x : Nat, x < H.size → H1[x]? = H[x]?) : qy_P G h0 (qy_add M c n) H1 := by
  obtain ⟨p1, p2, p3, p4⟩ := hP
  have hcn : ∀ c', (qy_add M c n).2.2.1 c' = if c' = c then M.2.2.1 c + 1 else M.2.2.1 c' := fun c' => rfl
  refine ⟨by show H1.size = h0 + (M.1 + 1); omega, fun c' i' q' hc' hi' => ?_, fun c' i' k hi' => ?_, fun c' q' hc' => ?_⟩
  · rw [qy_e_congr (M := M) (M' := qy_add M c n) ⟨fun _ => rfl, fun _ => rfl, fun _ => rfl⟩]
    rw [hcn] at hi'
    by_cases h : c' = c
    · subst h
      rw [if_pos rfl] at hi'
      cases hc.symm.trans hc'
      by_cases h2 : i' = M.2.2.1 c'
      · subst h2; exact he
      · have hp := p2 c' i' q hc' (by omega)
        exact hp.kept (oq _ hp.lt)
    · rw [if_neg h] at hi'
      have hp := p2 c' i' q' hc' hi'
      exact hp.kept (oq _ hp.lt)
  · refine p3 c' i' k ?_
    rw [hcn] at hi'
    by_cases h : c' = c
    · subst h; rw [if_pos rfl] at hi'; omega
    · rw [if_neg h] at hi'; exact hi'
  · rw [hcn]
    by_cases h : c' = c
    · subst h; rw [if_pos rfl]; cases hc.symm.trans hc'; omega
    · rw [if_neg h]; exact p4 c' q' hc'
theorem qy_fs_set {ad : Nat → Nat → Nat} {M M' : qy_M} {c i k : Nat} {ts : List (FieldType × Nat)} {t : FieldType × Nat} {v : Value} (ht : ts[k]? = some t) (hv : qy_fv ad M' c i k t = v) (ho : ∀ j, j ≠ k → qz_gi M'.2.2.2.2 c i j = qz_gi M.2.2.2.2 c i j ∧ qz_gl M'.2.2.2.2 c i j = qz_gl M.2.2.2.2 c i j ∧ M'.2.2.2.1 c i j = M.2.2.2.1 c i j) : qy_fs ad M' c i 0 ts = (qy_fs ad M c i 0 ts).set k v := by
  apply List.ext_getElem?
  intro j
  have hk : k < ts.length := (List.getElem?_eq_some_iff.mp ht).1
  by_cases hj : j = k
  · subst hj
    rw [List.getElem?_set_self (by rw [qy_fs_len]; exact hk), qy_fs_at ad M' c i ts 0 j t ht, Nat.zero_add, hv]
  · rw [List.getElem?_set_ne (Ne.symm hj)]
    by_cases hl : j < ts.length
    · have h2 : ts[j]? = some ts[j] := List.getElem?_eq_getElem hl
      rw [qy_fs_at ad M' c i ts 0 j _ h2, qy_fs_at ad M c i ts 0 j _ h2, Nat.zero_add, qy_fv_congr (ho j hj).1 (ho j hj).2.1 (ho j hj).2.2]
    · rw [List.getElem?_eq_none (by rw [qy_fs_len]; omega), List.getElem?_eq_none (by rw [qy_fs_len]; omega)]
def qy_okt : FieldType → Bool
  | .long => true
  | .int => true
  | .boolean => true
  | .object _ => true
  | .array _ => true
  | _ => false
theorem qy_fv_zero {ad : Nat → Nat → Nat} {M : qy_M} {c i k : Nat} (h : M.2.2.2.1 c i k = false ∧ qz_gi M.2.2.2.2 c i k = 0 ∧ qz_gl M.2.2.2.2 c i k = 0) {t : FieldType × Nat} (ht : qy_okt t.1 = true) : defaultValue t.1 = qy_fv ad M c i k t := by
  obtain ⟨t1, t2⟩ := t
  unfold qy_fv
  cases t1 <;> simp [qy_okt] at ht <;> simp [h.1, h.2.1, h.2.2, defaultValue]
def qy_of (c i : Nat) : Nat := match c with
  | 0 => 0 + 1 * i
  | 1 => 1 + 1 * i
  | 2 => 15 + 2 * i
  | 3 => 27 + 1 * i
  | 4 => 7 + 1 * i
  | 5 => 35 + 2 * i
  | 6 => 43 + 1 * i
  | 7 => 53 + 1 * i
  | 8 => 5 + 1 * i
  | 9 => 6 + 1 * i
  | 10 => 13 + 1 * i
  | 11 => 14 + 1 * i
  | 12 => 2 + 1 * i
  | 13 => 3 + 1 * i
  | 14 => 4 + 1 * i
  | 15 => 16 + 2 * i
  | 16 => 8 + 1 * i
  | 17 => 9 + 1 * i
  | 18 => 10 + 1 * i
  | 19 => 11 + 1 * i
  | 20 => 12 + 1 * i
  | 21 => 36 + 2 * i
  | 22 => 54 + 1 * i
  | 23 => 55 + 1 * i
  | 24 => 56 + 1 * i
  | 25 => 57 + 1 * i
  | 26 => 58 + 1 * i
  | 27 => 59 + 1 * i
  | 28 => 60 + 1 * i
  | 29 => 61 + 1 * i
  | 30 => 62 + 1 * i
  | 31 => 63 + 1 * i
  | 32 => 64 + 1 * i
  | 33 => 65 + 1 * i
  | 34 => 66 + 1 * i
  | 35 => 67 + 1 * i
  | 36 => 68 + 1 * i
  | 37 => 69 + 1 * i
  | 38 => 70 + 1 * i
  | 39 => 71 + 1 * i
  | 40 => 72 + 1 * i
  | 41 => 73 + 1 * i
  | 42 => 74 + 1 * i
  | 43 => 75 + 1 * i
  | 44 => 76 + 1 * i
  | 45 => 77 + 1 * i
  | 46 => 78 + 1 * i
  | 47 => 79 + 1 * i
  | 48 => 80 + 1 * i
  | 49 => 81 + 1 * i
  | 50 => 82 + 1 * i
  | 51 => 83 + 1 * i
  | 52 => 84 + 1 * i
  | 53 => 85 + 1 * i
  | 54 => 86 + 1 * i
  | 55 => 87 + 1 * i
  | _ => 0
def qy_K (G : qz_G) (ns : List Cond) (ao : List String) (U : State) : Prop := qz_K G U ∧ (∀ (c : Nat) (q : qz_Y) (a : Nat × FieldType × Nat), qz_tb[c]? = some q → q.2 = .inr a → va_RA U (G.2.1 c) a.2.1) ∧ (∀ w ∈ ns, va_Nw w U ∧ ∃ a i y h, w = .methodLinkNest a i y h) ∧ ∀ C ∈ ao, va_AO C U
theorem qy_K.warm {G : qz_G} {ns : List Cond} {ao : List String} {s U : State} (hW : s.WarmedH U.vm) (h : qy_K G ns ao s) : qy_K G ns ao U := ⟨qz_K.moved hW.alike h.1, fun c q a hc ha => (h.2.1 c q a hc ha).moved hW.alike, fun w hw => by
  obtain ⟨h1, a, i, y, hh, rfl⟩ := h.2.2.1 w hw
  exact ⟨va_Nw.warmM hW h1, a, i, y, hh, rfl⟩, fun C hC => va_AO.moved hW.alike (h.2.2.2 C hC)⟩
theorem qy_K.same {G : qz_G} {ns : List Cond} {ao : List String} {u U : State} (hv : u.vm = U.vm) (h : qy_K G ns ao u) : qy_K G ns ao U := qy_K.warm (s := u) (U := U) (by rw [← hv]; exact State.WarmedH.refl u) h
def qy_W (p : Program) (l : Launch) (e : Env) (R : Room) (s : State) (m : MethodId) (args : Array Value) (below : List Frame) (meth : Method) (c : Code) (Q : State → Prop) (G : qz_G) (h0 : Nat) (H0 : Heap) (m0 : Nat × Nat) (nL : Nat) (N : qy_M) (pc : Nat) (lv : List (Nat × Value)) (st : List Value) : Prop :=
  ∀ (H : Heap) (locs : List Loc) (ls : Array Slot), qy_P G h0 N H → qy_S h0 H0 H locs → lv_has ls nL lv → W p l e R s m args below meth c H locs (N.1 - m0.1) (N.2.1 - m0.2) Q (F0 m pc ls st)
def qy_X (p : Program) (s : State) (m : MethodId) (args : Array Value) (meth : Method) (c : Code) (own : String) (cc : ByteArray) (nL : Nat) (ret : Option FieldType) (G : qz_G) (h0 : Nat) (ns : List Cond) (ao : List String) : Prop :=
  p.tables.exec = Jvm.exec ∧ c.code = cc ∧ c.maxLocals = nL ∧ s.vm.findClass own = some m.cls ∧ (∀ w ∈ qz_T, w.before args s = true) ∧ qy_K G ns ao s ∧ qz_D G ∧ meth.locks = false ∧ meth.sig.returnType = ret ∧ ∀ c i, G.2.2 c i = h0 + qy_of c i
section QY
variable {p : Program} {l : Launch} {e : Env} {R : Room} {s : State} {m : MethodId} {args : Array Value} {below : List Frame} {meth : Method} {c : Code} {Q : State → Prop} {G : qz_G} {h0 : Nat} {H0 : Heap} {m0 : Nat × Nat} {nL : Nat} {N : qy_M} {pc : Nat} {lv lv' : List (Nat × Value)} {st : List Value} {own : String} {cc : ByteArray} {ret : Option FieldType} {ns : List Cond} {ao : List String}
theorem qy_sub (ks : List Nat) (hl : lv_pick lv ks = lv') (kk : qy_W p l e R s m args below meth c Q G h0 H0 m0 nL N pc lv' st) : qy_W p l e R s m args below meth c Q G h0 H0 m0 nL N pc lv st := fun H locs ls hP hS h => kk H locs ls hP hS (lv_sub h ks hl)
theorem qy_iconst (X : qy_X p s m args meth c own cc nL ret G h0 ns ao) {n : Int} {v : Int32} (hv : Int32.ofInt n = v) (d : decode cc pc = .ok (.iconst n, 1))
    (kk : qy_W p l e R s m args below meth c Q G h0 H0 m0 nL N (pc + 1) lv (.int v :: st)) : qy_W p l e R s m args below meth c Q G h0 H0 m0 nL N pc lv (st) := fun H locs ls hP hS h => lv_iconst X.1 X.2.1 d hv (kk H locs ls hP hS h)
theorem qy_bipush (X : qy_X p s m args meth c own cc nL ret G h0 ns ao) {n : Int} {v : Int32} (hv : (Int8.ofInt n).toInt32 = v) (d : decode cc pc = .ok (.bipush n, 2))
    (kk : qy_W p l e R s m args below meth c Q G h0 H0 m0 nL N (pc + 2) lv (.int v :: st)) : qy_W p l e R s m args below meth c Q G h0 H0 m0 nL N pc lv (st) := fun H locs ls hP hS h => lv_bipush X.1 X.2.1 d hv (kk H locs ls hP hS h)
theorem qy_sipush (X : qy_X p s m args meth c own cc nL ret G h0 ns ao) {n : Int} {v : Int32} (hv : (Int16.ofInt n).toInt32 = v) (d : decode cc pc = .ok (.sipush n, 3))
    (kk : qy_W p l e R s m args below meth c Q G h0 H0 m0 nL N (pc + 3) lv (.int v :: st)) : qy_W p l e R s m args below meth c Q G h0 H0 m0 nL N pc lv (st) := fun H locs ls hP hS h => lv_sipush X.1 X.2.1 d hv (kk H locs ls hP hS h)
theorem qy_lconst (X : qy_X p s m args meth c own cc nL ret G h0 ns ao) {n : Fin 2} {v : Int64} (hv : Int64.ofNat (n : Nat) = v) (d : decode cc pc = .ok (.lconst n, 1))
    (kk : qy_W p l e R s m args below meth c Q G h0 H0 m0 nL N (pc + 1) lv (.long v :: st)) : qy_W p l e R s m args below meth c Q G h0 H0 m0 nL N pc lv (st) := fun H locs ls hP hS h => lv_lconst X.1 X.2.1 d hv (kk H locs ls hP hS h)
theorem qy_ldc2 (X : qy_X p s m args meth c own cc nL ret G h0 ns ao) {index : Nat} {v : Int64} (hc : Cond.constantLong own index v ∈ qz_T) (d : decode cc pc = .ok (.ldc2_w index, 3))
    (kk : qy_W p l e R s m args below meth c Q G h0 H0 m0 nL N (pc + 3) lv (.long v :: st)) : qy_W p l e R s m args below meth c Q G h0 H0 m0 nL N pc lv (st) := fun H locs ls hP hS h => lv_ldc2 X.1 X.2.1 X.2.2.2.1 (X.2.2.2.2.1 _ hc) d (kk H locs ls hP hS h)
theorem qy_iload_n (X : qy_X p s m args meth c own cc nL ret G h0 ns ao) {k : Fin 4} {x : Int32} (q : Nat) (hq : lv[q]? = some ((k : Nat), .int x)) (d : decode cc pc = .ok (.iload_n k, 1))
    (kk : qy_W p l e R s m args below meth c Q G h0 H0 m0 nL N (pc + 1) lv (.int x :: st)) : qy_W p l e R s m args below meth c Q G h0 H0 m0 nL N pc lv (st) := fun H locs ls hP hS h => lv_iload_n X.1 X.2.1 d rfl (lv_at h q hq) (kk H locs ls hP hS h)
theorem qy_lload_n (X : qy_X p s m args meth c own cc nL ret G h0 ns ao) {k : Fin 4} {x : Int64} (q : Nat) (hq : lv[q]? = some ((k : Nat), .long x)) (d : decode cc pc = .ok (.lload_n k, 1))
    (kk : qy_W p l e R s m args below meth c Q G h0 H0 m0 nL N (pc + 1) lv (.long x :: st)) : qy_W p l e R s m args below meth c Q G h0 H0 m0 nL N pc lv (st) := fun H locs ls hP hS h => lv_lload_n X.1 X.2.1 d rfl (lv_at h q hq) (kk H locs ls hP hS h)
theorem qy_aload_n (X : qy_X p s m args meth c own cc nL ret G h0 ns ao) {k : Fin 4} {x : Nat} (q : Nat) (hq : lv[q]? = some ((k : Nat), .ref x)) (d : decode cc pc = .ok (.aload_n k, 1))
    (kk : qy_W p l e R s m args below meth c Q G h0 H0 m0 nL N (pc + 1) lv (.ref x :: st)) : qy_W p l e R s m args below meth c Q G h0 H0 m0 nL N pc lv (st) := fun H locs ls hP hS h => lv_aload_n X.1 X.2.1 d rfl (lv_at h q hq) (kk H locs ls hP hS h)
theorem qy_istore_n (X : qy_X p s m args meth c own cc nL ret G h0 ns ao) {k : Fin 4} {i : Nat} {x : Int32} (hi : (k : Nat) = i) (hn : i < nL) (hl : (i, Value.int x) :: lv.filter (fun q => !(q.1 == i) && !(q.1 + 1 == i && q.2.category == 2)) = lv') (d : decode cc pc = .ok (.istore_n k, 1))
    (kk : qy_W p l e R s m args below meth c Q G h0 H0 m0 nL N (pc + 1) lv' st) : qy_W p l e R s m args below meth c Q G h0 H0 m0 nL N pc lv (.int x :: st) := fun H locs ls hP hS h => lv_istore_n X.1 X.2.1 d hi h hn hl (fun ls' h' => kk H locs ls' hP hS h')
theorem qy_astore_n (X : qy_X p s m args meth c own cc nL ret G h0 ns ao) {k : Fin 4} {i : Nat} {x : Nat} (hi : (k : Nat) = i) (hn : i < nL) (hl : (i, Value.ref x) :: lv.filter (fun q => !(q.1 == i) && !(q.1 + 1 == i && q.2.category == 2)) = lv') (d : decode cc pc = .ok (.astore_n k, 1))
    (kk : qy_W p l e R s m args below meth c Q G h0 H0 m0 nL N (pc + 1) lv' st) : qy_W p l e R s m args below meth c Q G h0 H0 m0 nL N pc lv (.ref x :: st) := fun H locs ls hP hS h => lv_astore_n X.1 X.2.1 d hi h hn hl (fun ls' h' => kk H locs ls' hP hS h')
theorem qy_iadd (X : qy_X p s m args meth c own cc nL ret G h0 ns ao) {x y : Int32} (d : decode cc pc = .ok (.iadd, 1))
    (kk : qy_W p l e R s m args below meth c Q G h0 H0 m0 nL N (pc + 1) lv (.int (x + y) :: st)) : qy_W p l e R s m args below meth c Q G h0 H0 m0 nL N pc lv (.int y :: .int x :: st) := fun H locs ls hP hS h => lv_iadd X.1 X.2.1 d (kk H locs ls hP hS h)
theorem qy_dup (X : qy_X p s m args meth c own cc nL ret G h0 ns ao) {a : Value} (ha : a.category = 1) (d : decode cc pc = .ok (.dup, 1))
    (kk : qy_W p l e R s m args below meth c Q G h0 H0 m0 nL N (pc + 1) lv (a :: a :: st)) : qy_W p l e R s m args below meth c Q G h0 H0 m0 nL N pc lv (a :: st) := fun H locs ls hP hS h => lv_dup X.1 X.2.1 d ha (kk H locs ls hP hS h)
theorem qy_pop (X : qy_X p s m args meth c own cc nL ret G h0 ns ao) {a : Value} (ha : a.category = 1) (d : decode cc pc = .ok (.pop, 1))
    (kk : qy_W p l e R s m args below meth c Q G h0 H0 m0 nL N (pc + 1) lv (st)) : qy_W p l e R s m args below meth c Q G h0 H0 m0 nL N pc lv (a :: st) := fun H locs ls hP hS h => lv_pop X.1 X.2.1 d ha (kk H locs ls hP hS h)
theorem qy_icmp_lt (X : qy_X p s m args meth c own cc nL ret G h0 ns ao) {x y : Int32} {off : Int} {tgt : Nat} (ht : (pc : Int) + off = (tgt : Int)) (d : decode cc pc = .ok (.if_icmp .lt off, 3)) {α : Type} {r : α} {fa fb : Option α} {dc : Decidable (x < y)} (h : @ite (Option α) (x < y) dc fa fb = some r)
    (kt : x < y → fa = some r → qy_W p l e R s m args below meth c Q G h0 H0 m0 nL N tgt lv st) (kf : ¬ (x < y) → fb = some r → qy_W p l e R s m args below meth c Q G h0 H0 m0 nL N (pc + 3) lv st) : qy_W p l e R s m args below meth c Q G h0 H0 m0 nL N pc lv (.int y :: .int x :: st) := fun H locs ls hP hS hl => lv_icmp_lt X.1 X.2.1 d ht (fun hc => kt hc (by rw [if_pos hc] at h; exact h) H locs ls hP hS hl) (fun hc => kf hc (by rw [if_neg hc] at h; exact h) H locs ls hP hS hl)
theorem qy_icmp_ge (X : qy_X p s m args meth c own cc nL ret G h0 ns ao) {x y : Int32} {off : Int} {tgt : Nat} (ht : (pc : Int) + off = (tgt : Int)) (d : decode cc pc = .ok (.if_icmp .ge off, 3)) {α : Type} {r : α} {fa fb : Option α} {dc : Decidable (y ≤ x)} (h : @ite (Option α) (y ≤ x) dc fa fb = some r)
    (kt : y ≤ x → fa = some r → qy_W p l e R s m args below meth c Q G h0 H0 m0 nL N tgt lv st) (kf : ¬ (y ≤ x) → fb = some r → qy_W p l e R s m args below meth c Q G h0 H0 m0 nL N (pc + 3) lv st) : qy_W p l e R s m args below meth c Q G h0 H0 m0 nL N pc lv (.int y :: .int x :: st) := fun H locs ls hP hS hl => lv_icmp_ge X.1 X.2.1 d ht (fun hc => kt hc (by rw [if_pos hc] at h; exact h) H locs ls hP hS hl) (fun hc => kf hc (by rw [if_neg hc] at h; exact h) H locs ls hP hS hl)
theorem qy_icmp_gt (X : qy_X p s m args meth c own cc nL ret G h0 ns ao) {x y : Int32} {off : Int} {tgt : Nat} (ht : (pc : Int) + off = (tgt : Int)) (d : decode cc pc = .ok (.if_icmp .gt off, 3)) {α : Type} {r : α} {fa fb : Option α} {dc : Decidable (y < x)} (h : @ite (Option α) (y < x) dc fa fb = some r)
    (kt : y < x → fa = some r → qy_W p l e R s m args below meth c Q G h0 H0 m0 nL N tgt lv st) (kf : ¬ (y < x) → fb = some r → qy_W p l e R s m args below meth c Q G h0 H0 m0 nL N (pc + 3) lv st) : qy_W p l e R s m args below meth c Q G h0 H0 m0 nL N pc lv (.int y :: .int x :: st) := fun H locs ls hP hS hl => lv_icmp_gt X.1 X.2.1 d ht (fun hc => kt hc (by rw [if_pos hc] at h; exact h) H locs ls hP hS hl) (fun hc => kf hc (by rw [if_neg hc] at h; exact h) H locs ls hP hS hl)
theorem qy_goto (X : qy_X p s m args meth c own cc nL ret G h0 ns ao) {off : Int} {tgt : Nat} (ht : (pc : Int) + off = (tgt : Int)) (d : decode cc pc = .ok (.goto off, 3)) (kk : qy_W p l e R s m args below meth c Q G h0 H0 m0 nL N tgt lv st) : qy_W p l e R s m args below meth c Q G h0 H0 m0 nL N pc lv st := fun H locs ls hP hS hl => lv_goto X.1 X.2.1 d ht (kk H locs ls hP hS hl)
theorem qy_leti {x : Int32} {α : Type} {r : α} {Kf : Int32 → Option α} (h : qz_let x Kf = some r) (kk : ∀ v, Kf v = some r → qy_W p l e R s m args below meth c Q G h0 H0 m0 nL N pc lv (.int v :: st)) : qy_W p l e R s m args below meth c Q G h0 H0 m0 nL N pc lv (.int x :: st) := kk x h
theorem qy_iinc_l (X : qy_X p s m args meth c own cc nL ret G h0 ns ao) {i k : Nat} {n : Int} {x u : Int32} {lv' : Int32 → List (Nat × Value)} (hk : lv[k]? = some (i, .int x)) (hv : Int32.ofInt n = u) (hn : i < nL) (hl : ∀ v, (i, Value.int v) :: lv.filter (fun q => !(q.1 == i) && !(q.1 + 1 == i && q.2.category == 2)) = lv' v) (d : decode cc pc = .ok (.iinc i n, 3)) {α : Type} {r : α} {Kf : Int32 → Option α} (h : qz_let (x + u) Kf = some r)
    (kk : ∀ v, Kf v = some r → qy_W p l e R s m args below meth c Q G h0 H0 m0 nL N (pc + 3) (lv' v) st) : qy_W p l e R s m args below meth c Q G h0 H0 m0 nL N pc lv st := fun H locs ls hP hS hl2 => lv_iinc X.1 X.2.1 d hl2 hk (by rw [hv]) hn (hl _) (fun ls' h' => kk _ h H locs ls' hP hS h')
theorem qy_get (X : qy_X p s m args meth c own cc nL ret G h0 ns ao) {index c0 k cnt i : Nat} {t : FieldType × Nat} {fin : Bool} {v : Value} (F : qz_Fd own index c0 k cnt t fin) (hi : i < N.2.2.1 c0) (hv : qy_fv G.2.2 N c0 i k t = v) (d : decode cc pc = .ok (.getfield index, 3))
    (kk : qy_W p l e R s m args below meth c Q G h0 H0 m0 nL N (pc + 3) lv (v :: st)) : qy_W p l e R s m args below meth c Q G h0 H0 m0 nL N pc lv (.ref (G.2.2 c0 i) :: st) := by
  obtain ⟨hx, hb, hml, hown, hts, hK, hD, -, -, -⟩ := X
  obtain ⟨ci, ts, C, T, n, ty0, h1, h2, h3, h4, h5, h6, h7, h8, h9, h10, h11⟩ := F
  intro H locs ls hP hS hl
  have hp := hP.2.1 c0 i _ h1 hi
  refine va_get (D := G.1) (cl := qz_cl) (tys := []) (ws := [(G.2.2 c0 i, .inr (ci, qy_fs G.2.2 N c0 i 0 ts))]) hx hb hts h3 hown hK.1.1 (fun k q hq => ?_) 0 rfl h2 k h4 (hts _ h6) (fun _ h => h) (v := v) ?_ d (kk H locs ls hP hS hl)
  · cases k with
    | zero => cases hq; exact hp
    | succ k => simp at hq
  · rw [qy_fs_at G.2.2 N c0 i ts 0 k t h5, Nat.zero_add, hv]
theorem qy_put (X : qy_X p s m args meth c own cc nL ret G h0 ns ao) {N' : qy_M} {index c0 k cnt i : Nat} {t : FieldType × Nat} {v : Value} {fin : Bool} (F : qz_Fd own index c0 k cnt t fin) (hfin : fin = false ∨ (meth.name = "<init>" ∧ ∃ ci C T n, qz_tb[c0]? = some (cnt, .inl (ci, C)) ∧ qz_cl[ci]? = some (own, T, n) ∧ (T k).1 = own)) (hi : i < N.2.2.1 c0) (hv : qy_fv G.2.2 N' c0 i k t = v) (ho : ∀ j, j ≠ k → qz_gi N'.2.2.2.2 c0 i j = qz_gi N.2.2.2.2 c0 i j ∧ qz_gl N'.2.2.2.2 c0 i j = qz_gl N.2.2.2.2 c0 i j ∧ N'.2.2.2.1 c0 i j = N.2.2.2.1 c0 i j) (hN : qy_but N N' c0 i) (hn : narrow t.1 v = v) (hfit : fits t.1 v = true) (d : decode cc pc = .ok (.putfield index, 3))
    (kk : qy_W p l e R s m args below meth c Q G h0 H0 m0 nL N' (pc + 3) lv st) : qy_W p l e R s m args below meth c Q G h0 H0 m0 nL N pc lv (v :: .ref (G.2.2 c0 i) :: st) := by
  obtain ⟨hx, hb, hml, hown, hts, hK, hD, -, -, hG⟩ := X
  obtain ⟨ci, ts, C, T, n, ty0, h1, h2, h3, h4, h5, h6, h7, h8, h9, h10, h11⟩ := F
  intro H locs ls hP hS hl
  have hap := va_apart (own := own) hts h3 ty0 h7 h8 hK.1.1 h2
  obtain ⟨r, g1, cell, q1, q2, q3, q4⟩ := hP.2.1 c0 i _ h1 hi
  have hr : r = (C, T, n) := Option.some.inj (g1.symm.trans h2)
  subst hr
  obtain ⟨hSl, hfc, kC, hkC, hkind⟩ := hK.1.1.1 ci _ h2
  obtain ⟨cf, kf, fi, f, hfi, hsl⟩ := hSl k h4
  have hst := (u_facts hfc hkC (u_lays hts h3 h4) hfi).1
  have hkl : k < (qy_fs G.2.2 N c0 i 0 ts).length := by rw [qy_fs_len, h11]; exact h4
  have key : ∀ H' : Heap, H'[G.2.2 c0 i]? = some (cell.setSlot (G.1.2 ci k) v) → H'.size = H.size → (∀ q, q ≠ G.2.2 c0 i → H'[q]? = H[q]?) → W p l e R s m args below meth c H' (locs ++ [⟨G.2.2 c0 i, G.1.2 ci k⟩]) (N.1 - m0.1) (N.2.1 - m0.2) Q (F0 m (pc + 3) ls st) := by
    intro H' e1 e2 e3
    have hk2 := kk H' (locs ++ [⟨G.2.2 c0 i, G.1.2 ci k⟩]) ls (hP.set hD h1 hi hN (by
      show ∃ r : vw_C, qz_cl[ci]? = some r ∧ _
      refine ⟨_, h2, ?_⟩
      show t_OB (G.2.2 c0 i) (G.1.1 ci) n (G.1.2 ci) H' (vp_V (qy_fs G.2.2 N' c0 i 0 ts))
      rw [qy_fs_set h5 hv ho]
      exact t_OB.to (V := updV (vp_V (qy_fs G.2.2 N c0 i 0 ts)) k v) ⟨_, e1, q2, q3, t_set q4 hap h4 v⟩ (fun j _ => vp_updV_set hkl v j)) e2 e3) (hS.put e3 (by rw [hG]; exact Nat.le_add_right _ _)) hl
    rw [hN.1, hN.2.1] at hk2
    exact hk2
  cases fin with
  | false =>
    have hlay := hts _ (h3 _ (u_in_lay h4))
    unfold u_lay at hlay
    rw [if_neg (by rw [h9]; decide)] at hlay
    have h6' := u_store hfc hkC hkind hlay hfi h10 hn hfit
    refine W.putK hx hb (f := f) ⟨hown, hts _ h6, ⟨_, _, _, hfi⟩, hst⟩ (by rw [q2]; exact h6') q1 q3 (by rw [hsl]; exact k2_hasslot (q4 k h4)) rfl rfl d fun H' e1 e2 e3 => ?_
    rw [hsl] at e1 ⊢
    exact key H' e1 e2 e3
  | true =>
    rcases hfin with hfin | ⟨hin2, ci', C', T', n', z1, z2, z3⟩
    · cases hfin
    · cases h1.symm.trans z1
      cases h2.symm.trans z2
      have hlay := hts _ (h3 _ (u_in_lay h4))
      unfold u_lay at hlay
      rw [if_pos h9] at hlay
      have hcf : m.cls = cf := by
        obtain ⟨_, _, c', _, _, _, -, -, hf', -, -, -, hown2, -⟩ := Cond.laysFinal_spec hlay
        have e1 : c' = cf := by have := hfi.symm.trans hf'; simp at this; exact this.1.symm
        rw [z3] at hown2
        rw [← e1]; exact Option.some.inj (hown.symm.trans hown2)
      have h6' := u_fits hfc hkC hkind (Or.inr hlay) hfi h10 hn hfit
      refine W.putFinK hx hb hown (hts _ h6) hfi hst hcf hin2 (by rw [q2]; exact h6') q1 q3 (by rw [hsl]; exact k2_hasslot (q4 k h4)) rfl rfl d fun H' e1 e2 e3 => ?_
      rw [hsl] at e1 ⊢
      exact key H' e1 e2 e3
theorem qy_putR (X : qy_X p s m args meth c own cc nL ret G h0 ns ao) {index c0 k cnt i j tg : Nat} {t : FieldType} {fin : Bool} (ht : t.isReference = true) (F : qz_Fd own index c0 k cnt (t, tg) fin) (hfin : fin = false ∨ (meth.name = "<init>" ∧ ∃ ci C T n, qz_tb[c0]? = some (cnt, .inl (ci, C)) ∧ qz_cl[ci]? = some (own, T, n) ∧ (T k).1 = own)) (d : decode cc pc = .ok (.putfield index, 3)) {α : Type} {r : α} {Kf : qy_M → Option α} {dc : Decidable (j = i ∧ i < N.2.2.1 c0)} (h : @ite (Option α) (j = i ∧ i < N.2.2.1 c0) dc (qz_let (qy_mk N c0 i k) Kf) none = some r)
    (kk : ∀ N', Kf N' = some r → qy_W p l e R s m args below meth c Q G h0 H0 m0 nL N' (pc + 3) lv st) : qy_W p l e R s m args below meth c Q G h0 H0 m0 nL N pc lv (.ref (G.2.2 tg j) :: .ref (G.2.2 c0 i) :: st) := by
  by_cases hc : j = i ∧ i < N.2.2.1 c0
  · rw [if_pos hc] at h
    obtain ⟨rfl, hi⟩ := hc
    have hm : (qy_mk N c0 j k).2.2.2.1 c0 j k = true := by show qz_u3 _ c0 j k true c0 j k = true; unfold qz_u3; rw [if_pos ⟨rfl, rfl, rfl⟩]
    refine qy_put X (N' := qy_mk N c0 j k) F hfin hi ?_ (fun q hq => ⟨rfl, rfl, by show qz_u3 _ c0 j k true c0 j q = _; unfold qz_u3; rw [if_neg (fun z => hq z.2.2)]⟩) (qy_but_mk N c0 j k) ?_ ?_ d (kk _ h)
    · cases t <;> first | (simp [FieldType.isReference] at ht; done) | (show (if _ then _ else _) = _; rw [if_pos hm])
    · cases t <;> first | (simp [FieldType.isReference] at ht; done) | rfl
    · cases t <;> first | (simp [FieldType.isReference] at ht; done) | rfl
  · rw [if_neg hc] at h; cases h
theorem qy_putI (X : qy_X p s m args meth c own cc nL ret G h0 ns ao) {index c0 k cnt i tg : Nat} {v : Int32} (F : qz_Fd own index c0 k cnt (.int, tg) false) (d : decode cc pc = .ok (.putfield index, 3)) {α : Type} {r : α} {Kf : qy_M → Option α} {dc : Decidable (i < N.2.2.1 c0)} (h : @ite (Option α) (i < N.2.2.1 c0) dc (qz_let (qy_sN N (qz_si N.2.2.2.2 c0 i k v)) Kf) none = some r)
    (kk : ∀ N', Kf N' = some r → qy_W p l e R s m args below meth c Q G h0 H0 m0 nL N' (pc + 3) lv st) : qy_W p l e R s m args below meth c Q G h0 H0 m0 nL N pc lv (.int v :: .ref (G.2.2 c0 i) :: st) := by
  by_cases hi : i < N.2.2.1 c0
  · rw [if_pos hi] at h
    exact qy_put X (N' := qy_sN N (qz_si N.2.2.2.2 c0 i k v)) F (Or.inl rfl) hi (by show Value.int _ = _; unfold qy_sN; rw [qz_gi_si, if_pos ⟨rfl, rfl, rfl⟩]) (fun j hj => ⟨by unfold qy_sN; rw [qz_gi_si, if_neg (fun z => hj z.2.2)], rfl, rfl⟩) (qy_but_sN (qz_but_si _ c0 i k v)) rfl rfl d (kk _ h)
  · rw [if_neg hi] at h; cases h
theorem qy_putJ (X : qy_X p s m args meth c own cc nL ret G h0 ns ao) {index c0 k cnt i tg : Nat} {v : Int64} (F : qz_Fd own index c0 k cnt (.long, tg) false) (d : decode cc pc = .ok (.putfield index, 3)) {α : Type} {r : α} {Kf : qy_M → Option α} {dc : Decidable (i < N.2.2.1 c0)} (h : @ite (Option α) (i < N.2.2.1 c0) dc (qz_let (qy_sN N (qz_sl N.2.2.2.2 c0 i k v)) Kf) none = some r)
    (kk : ∀ N', Kf N' = some r → qy_W p l e R s m args below meth c Q G h0 H0 m0 nL N' (pc + 3) lv st) : qy_W p l e R s m args below meth c Q G h0 H0 m0 nL N pc lv (.long v :: .ref (G.2.2 c0 i) :: st) := by
  by_cases hi : i < N.2.2.1 c0
  · rw [if_pos hi] at h
    exact qy_put X (N' := qy_sN N (qz_sl N.2.2.2.2 c0 i k v)) F (Or.inl rfl) hi (by show Value.long _ = _; unfold qy_sN; rw [qz_gl_sl, if_pos ⟨rfl, rfl, rfl⟩]) (fun j hj => ⟨rfl, by unfold qy_sN; rw [qz_gl_sl, if_neg (fun z => hj z.2.2)], rfl⟩) (qy_but_sN (qz_but_sl _ c0 i k v)) rfl rfl d (kk _ h)
  · rw [if_neg hi] at h; cases h
theorem qy_new (X : qy_X p s m args meth c own cc nL ret G h0 ns ao) {index c0 cnt ci n K KS : Nat} {ts : List (FieldType × Nat)} {C : String} {T : u_T} {ty : Nat → FieldType} (hR : R.cells = K ∧ R.slots = KS) (h1 : qz_tb[c0]? = some (cnt, .inl (ci, ts))) (h2 : qz_cl[ci]? = some (C, T, n)) (h3 : ∀ w ∈ u_ws C T n, w ∈ qz_T) (hty : ∀ k, k < n → parseFieldDescriptor (T k).2.2.1 = some (ty k)) (hts2 : ∀ k, k < n → ∃ t, ts[k]? = some t ∧ t.1 = ty k ∧ qy_okt t.1 = true) (hw : Cond.classLink own index C ∈ qz_T ∧ Cond.instantiable C n ∈ qz_T ∧ Cond.initialized C ∈ qz_T) (d : decode cc pc = .ok (.new index, 3)) {α : Type} {r : α} {Kf : qy_M → Option α} {dc : Decidable (qy_of c0 (N.2.2.1 c0) = N.1 ∧ N.2.2.1 c0 < cnt ∧ m0.1 ≤ N.1 ∧ m0.2 ≤ N.2.1 ∧ N.1 + 1 ≤ m0.1 + K ∧ N.2.1 + n ≤ m0.2 + KS)} (h : @ite (Option α) (qy_of c0 (N.2.2.1 c0) = N.1 ∧ N.2.2.1 c0 < cnt ∧ m0.1 ≤ N.1 ∧ m0.2 ≤ N.2.1 ∧ N.1 + 1 ≤ m0.1 + K ∧ N.2.1 + n ≤ m0.2 + KS) dc (qz_let (qy_add N c0 n) Kf) none = some r)
    (kk : Kf (qy_add N c0 n) = some r → qy_W p l e R s m args below meth c Q G h0 H0 m0 nL (qy_add N c0 n) (pc + 3) lv (.ref (G.2.2 c0 (N.2.2.1 c0)) :: st)) : qy_W p l e R s m args below meth c Q G h0 H0 m0 nL N pc lv st := by
  by_cases hc : qy_of c0 (N.2.2.1 c0) = N.1 ∧ N.2.2.1 c0 < cnt ∧ m0.1 ≤ N.1 ∧ m0.2 ≤ N.2.1 ∧ N.1 + 1 ≤ m0.1 + K ∧ N.2.1 + n ≤ m0.2 + KS
  · rw [if_pos hc] at h
    obtain ⟨hx, hb, hml, hown, hts, hK, hD, -, -, hG⟩ := X
    intro H locs ls hP hS hl
    have hsz : H.size = G.2.2 c0 (N.2.2.1 c0) := by rw [hP.1, hG, hc.1]
    have hKn := hK.1.1.1 ci _ h2
    refine W.newcK hx hb hown (hts _ hw.1) (hts _ hw.2.1) (hts _ hw.2.2) rfl d (by rw [hR.1]; omega) (by rw [hR.2]; omega) hKn.2.1 rfl fun H1 kC hkC e1 z1 o1 => ?_
    have hk2 := kk h H1 locs ls (hP.add (n := n) h1 hc.2.1 (by
      rw [← hsz]
      show ∃ r : vw_C, qz_cl[ci]? = some r ∧ _
      refine ⟨_, h2, (u_born ty hts h3 hKn hkC e1 hty).to (fun j hj => ?_)⟩
      obtain ⟨t, g1, g2, g3⟩ := hts2 j hj
      show defaultValue (ty j) = (qy_fs G.2.2 N c0 (N.2.2.1 c0) 0 ts).getD j .null
      rw [List.getD_eq_getElem?_getD, qy_fs_at G.2.2 N c0 (N.2.2.1 c0) ts 0 j t g1, Nat.zero_add, ← g2]
      exact qy_fv_zero (hP.2.2.1 c0 _ j (Nat.le_refl _)) g3) z1 o1) (hS.push (by rw [hP.1]; exact Nat.le_add_right _ _) o1) hl
    have a1 : (qy_add N c0 n).1 - m0.1 = N.1 - m0.1 + 1 := by show N.1 + 1 - m0.1 = _; omega
    have a2 : (qy_add N c0 n).2.1 - m0.2 = N.2.1 - m0.2 + n := by show N.2.1 + n - m0.2 = _; omega
    rw [a1, a2, ← hsz] at hk2
    exact hk2
  · rw [if_neg hc] at h; cases h
theorem qy_newa (X : qy_X p s m args meth c own cc nL ret G h0 ns ao) {c0 cnt L K KS : Nat} {tg : Nat} {ty : FieldType} {atype : ArrayType} {x : Int32} (hR : R.cells = K ∧ R.slots = KS) (hat : newarray.typeOf atype = ty) (hprim : ty = .long ∨ ty = .int ∨ ty = .boolean) (h1 : qz_tb[c0]? = some (cnt, .inr (L, ty, tg))) (hx0 : ¬ x < 0 ∧ x.toNatClampNeg = L ∧ L * componentBytes ty ≤ 536870912) (hw : Cond.arrayClass ty ∈ qz_T) (d : decode cc pc = .ok (.newarray atype, 2)) {α : Type} {r : α} {Kf : qy_M → Option α} {dc : Decidable (qy_of c0 (N.2.2.1 c0) = N.1 ∧ N.2.2.1 c0 < cnt ∧ m0.1 ≤ N.1 ∧ m0.2 ≤ N.2.1 ∧ N.1 + 1 ≤ m0.1 + K ∧ N.2.1 + L ≤ m0.2 + KS)} (h : @ite (Option α) (qy_of c0 (N.2.2.1 c0) = N.1 ∧ N.2.2.1 c0 < cnt ∧ m0.1 ≤ N.1 ∧ m0.2 ≤ N.2.1 ∧ N.1 + 1 ≤ m0.1 + K ∧ N.2.1 + L ≤ m0.2 + KS) dc (qz_let (qy_add N c0 L) Kf) none = some r)
    (kk : Kf (qy_add N c0 L) = some r → qy_W p l e R s m args below meth c Q G h0 H0 m0 nL (qy_add N c0 L) (pc + 2) lv (.ref (G.2.2 c0 (N.2.2.1 c0)) :: st)) : qy_W p l e R s m args below meth c Q G h0 H0 m0 nL N pc lv (.int x :: st) := by
  by_cases hc : qy_of c0 (N.2.2.1 c0) = N.1 ∧ N.2.2.1 c0 < cnt ∧ m0.1 ≤ N.1 ∧ m0.2 ≤ N.2.1 ∧ N.1 + 1 ≤ m0.1 + K ∧ N.2.1 + L ≤ m0.2 + KS
  · rw [if_pos hc] at h
    subst hat
    obtain ⟨hx, hb, hml, hown, hts, hK, hD, -, -, hG⟩ := X
    intro H locs ls hP hS hl
    have hsz : H.size = G.2.2 c0 (N.2.2.1 c0) := by rw [hP.1, hG, hc.1]
    refine va_newaK hx hb (hts _ hw) rfl d rfl hx0.1 hx0.2.1 hx0.2.2 (by rw [hR.1]; omega) (by rw [hR.2]; omega) rfl fun H1 cA e1 z1 o1 hAr hNm => ?_
    have hcA : cA = G.2.1 c0 := by
      have hra := hK.2.1 c0 _ _ h1 rfl
      have hra2 : s.vm.findClass ("[" ++ (newarray.typeOf atype).toString) = some (G.2.1 c0) := by
        rcases hprim with hp | hp | hp <;> (rw [hp] at hra ⊢; exact hra)
      exact Option.some.inj (hNm.symm.trans hra2)
    have hk2 := kk h H1 locs ls (hP.add (n := L) h1 hc.2.1 (by
      rw [← hsz]
      show H1[H.size]? = some (vp_cell (G.2.1 c0) (L, qy_ar G.2.2 N c0 (N.2.2.1 c0) (newarray.typeOf atype, tg)))
      rw [e1, hcA]
      have hz := fun j => hP.2.2.1 c0 (N.2.2.1 c0) j (Nat.le_refl _)
      rcases hprim with hp | hp | hp <;> rw [hp] <;> simp [qy_ar, vp_cell, hz, defaultValue]) z1 o1) (hS.push (by rw [hP.1]; exact Nat.le_add_right _ _) o1) hl
    have a1 : (qy_add N c0 L).1 - m0.1 = N.1 - m0.1 + 1 := by show N.1 + 1 - m0.1 = _; omega
    have a2 : (qy_add N c0 L).2.1 - m0.2 = N.2.1 - m0.2 + L := by show N.2.1 + L - m0.2 = _; omega
    rw [a1, a2, ← hsz] at hk2
    exact hk2
  · rw [if_neg hc] at h; cases h
theorem qy_newq (X : qy_X p s m args meth c own cc nL ret G h0 ns ao) {index c0 cnt L K KS : Nat} {tg : Nat} {C : String} {x : Int32} (hR : R.cells = K ∧ R.slots = KS) (h1 : qz_tb[c0]? = some (cnt, .inr (L, .object C, tg))) (hx0 : ¬ x < 0 ∧ x.toNatClampNeg = L ∧ L * 4 ≤ 536870912) (hw : Cond.classLink own index C ∈ qz_T) (hao : C ∈ ao) (d : decode cc pc = .ok (.anewarray index, 3)) {α : Type} {r : α} {Kf : qy_M → Option α} {dc : Decidable (qy_of c0 (N.2.2.1 c0) = N.1 ∧ N.2.2.1 c0 < cnt ∧ m0.1 ≤ N.1 ∧ m0.2 ≤ N.2.1 ∧ N.1 + 1 ≤ m0.1 + K ∧ N.2.1 + L ≤ m0.2 + KS)} (h : @ite (Option α) (qy_of c0 (N.2.2.1 c0) = N.1 ∧ N.2.2.1 c0 < cnt ∧ m0.1 ≤ N.1 ∧ m0.2 ≤ N.2.1 ∧ N.1 + 1 ≤ m0.1 + K ∧ N.2.1 + L ≤ m0.2 + KS) dc (qz_let (qy_add N c0 L) Kf) none = some r)
    (kk : Kf (qy_add N c0 L) = some r → qy_W p l e R s m args below meth c Q G h0 H0 m0 nL (qy_add N c0 L) (pc + 3) lv (.ref (G.2.2 c0 (N.2.2.1 c0)) :: st)) : qy_W p l e R s m args below meth c Q G h0 H0 m0 nL N pc lv (.int x :: st) := by
  by_cases hc : qy_of c0 (N.2.2.1 c0) = N.1 ∧ N.2.2.1 c0 < cnt ∧ m0.1 ≤ N.1 ∧ m0.2 ≤ N.2.1 ∧ N.1 + 1 ≤ m0.1 + K ∧ N.2.1 + L ≤ m0.2 + KS
  · rw [if_pos hc] at h
    obtain ⟨hx, hb, hml, hown, hts, hK, hD, -, -, hG⟩ := X
    obtain ⟨hx1, rfl, hx3⟩ := hx0
    intro H locs ls hP hS hl
    have hsz : H.size = G.2.2 c0 (N.2.2.1 c0) := by rw [hP.1, hG, hc.1]
    refine W.anew hx hb hown (hts _ hw) (va_AO.use (hK.2.2.2 C hao)) rfl d rfl hx1 hx3 (by rw [hR.1]; omega) (by rw [hR.2]; omega) fun cA kA comp f1 f2 f3 f4 => ?_
    generalize hH1 : H.push ({ cls := cA, slots := Array.replicate x.toNatClampNeg .null, vm := .none } : Cell) = H1
    have z1 : H1.size = H.size + 1 := by rw [← hH1, Array.size_push]
    have e1 : H1[H.size]? = some (arrV cA x.toNatClampNeg (fun _ => .null)) := by rw [← hH1, Array.getElem?_push_size, ← arrV_new]
    have o1 : ∀ q : Nat, q < H.size → H1[q]? = H[q]? := fun q hq => by rw [← hH1, Array.getElem?_push, if_neg (Nat.ne_of_lt hq)]
    have hcA : cA = G.2.1 c0 := by
      obtain ⟨kA', comp', -, -, -, hra⟩ := hK.2.1 c0 _ _ h1 rfl
      exact Option.some.inj (f1.symm.trans hra)
    have hk2 := kk h H1 locs ls (hP.add (n := x.toNatClampNeg) h1 hc.2.1 (by
      rw [← hsz]
      show H1[H.size]? = some (vp_cell (G.2.1 c0) (x.toNatClampNeg, qy_ar G.2.2 N c0 (N.2.2.1 c0) (FieldType.object C, tg)))
      rw [e1, hcA]
      have hz := fun j => (hP.2.2.1 c0 (N.2.2.1 c0) j (Nat.le_refl _)).1
      simp [qy_ar, vp_cell, hz, va_rf]) z1 o1) (hS.push (by rw [hP.1]; exact Nat.le_add_right _ _) o1) hl
    have a1 : (qy_add N c0 x.toNatClampNeg).1 - m0.1 = N.1 - m0.1 + 1 := by show N.1 + 1 - m0.1 = _; omega
    have a2 : (qy_add N c0 x.toNatClampNeg).2.1 - m0.2 = N.2.1 - m0.2 + x.toNatClampNeg := by show N.2.1 + x.toNatClampNeg - m0.2 = _; omega
    rw [a1, a2, ← hsz] at hk2
    exact hk2
  · rw [if_neg hc] at h; cases h

theorem qy_last (X : qy_X p s m args meth c own cc nL ret G h0 ns ao) {c0 i cnt n tg : Nat} {x : Int32} {v : Int64} (ha : qz_tb[c0]? = some (cnt, .inr (n, .long, tg))) (d : decode cc pc = .ok (.lastore, 1)) {α : Type} {r : α} {Kf : qy_M → Option α} {dc : Decidable (¬ (x < 0 ∨ n ≤ x.toNatClampNeg) ∧ i < N.2.2.1 c0)} (h : @ite (Option α) (¬ (x < 0 ∨ n ≤ x.toNatClampNeg) ∧ i < N.2.2.1 c0) dc (qz_let (qy_sN N (qz_sl N.2.2.2.2 c0 i x.toNatClampNeg v)) Kf) none = some r)
    (kk : ∀ N', Kf N' = some r → qy_W p l e R s m args below meth c Q G h0 H0 m0 nL N' (pc + 1) lv st) : qy_W p l e R s m args below meth c Q G h0 H0 m0 nL N pc lv (.long v :: .int x :: .ref (G.2.2 c0 i) :: st) := by
  by_cases hc : ¬ (x < 0 ∨ n ≤ x.toNatClampNeg) ∧ i < N.2.2.1 c0
  · rw [if_pos hc] at h
    obtain ⟨hin, hi⟩ := hc
    intro H locs ls hP hS hl
    have hp : H[G.2.2 c0 i]? = some (arrV (G.2.1 c0) n (fun j => .long (qz_gl N.2.2.2.2 c0 i j))) := hP.2.1 c0 i _ ha hi
    refine W.last X.1 X.2.1 hp ((X.2.2.2.2.2.1.1.2 c0 _ _ ha rfl) n _) (fun q => by cases q) (by rw [arrV_size]; exact hin) rfl rfl d fun H1 e z oq => ?_
    refine kk _ h H1 _ ls (hP.set X.2.2.2.2.2.2.1 ha hi (qy_but_sN (qz_but_sl _ c0 i x.toNatClampNeg v)) ?_ z oq) (hS.put oq (by rw [X.2.2.2.2.2.2.2.2.2]; exact Nat.le_add_right _ _)) hl
    show H1[G.2.2 c0 i]? = some (arrV (G.2.1 c0) n (fun j => .long (qz_gl (qz_sl N.2.2.2.2 c0 i x.toNatClampNeg v) c0 i j)))
    rw [e, arrV_store]
    congr 2
    funext q
    by_cases hq : q = x.toNatClampNeg
    · subst hq
      simp [updV, qz_sl, qz_gl, qz_u3]
    · simp [updV, qz_sl, qz_gl, qz_u3, hq]
  · rw [if_neg hc] at h; cases h
theorem qy_iast (X : qy_X p s m args meth c own cc nL ret G h0 ns ao) {c0 i cnt n tg : Nat} {x : Int32} {v : Int32} (ha : qz_tb[c0]? = some (cnt, .inr (n, .int, tg))) (d : decode cc pc = .ok (.iastore, 1)) {α : Type} {r : α} {Kf : qy_M → Option α} {dc : Decidable (¬ (x < 0 ∨ n ≤ x.toNatClampNeg) ∧ i < N.2.2.1 c0)} (h : @ite (Option α) (¬ (x < 0 ∨ n ≤ x.toNatClampNeg) ∧ i < N.2.2.1 c0) dc (qz_let (qy_sN N (qz_si N.2.2.2.2 c0 i x.toNatClampNeg v)) Kf) none = some r)
    (kk : ∀ N', Kf N' = some r → qy_W p l e R s m args below meth c Q G h0 H0 m0 nL N' (pc + 1) lv st) : qy_W p l e R s m args below meth c Q G h0 H0 m0 nL N pc lv (.int v :: .int x :: .ref (G.2.2 c0 i) :: st) := by
  by_cases hc : ¬ (x < 0 ∨ n ≤ x.toNatClampNeg) ∧ i < N.2.2.1 c0
  · rw [if_pos hc] at h
    obtain ⟨hin, hi⟩ := hc
    intro H locs ls hP hS hl
    have hp : H[G.2.2 c0 i]? = some (arrV (G.2.1 c0) n (fun j => .int (qz_gi N.2.2.2.2 c0 i j))) := hP.2.1 c0 i _ ha hi
    refine W.iast X.1 X.2.1 hp ((X.2.2.2.2.2.1.1.2 c0 _ _ ha rfl) n _) (fun q => by cases q) (by rw [arrV_size]; exact hin) rfl rfl d fun H1 e z oq => ?_
    refine kk _ h H1 _ ls (hP.set X.2.2.2.2.2.2.1 ha hi (qy_but_sN (qz_but_si _ c0 i x.toNatClampNeg v)) ?_ z oq) (hS.put oq (by rw [X.2.2.2.2.2.2.2.2.2]; exact Nat.le_add_right _ _)) hl
    show H1[G.2.2 c0 i]? = some (arrV (G.2.1 c0) n (fun j => .int (qz_gi (qz_si N.2.2.2.2 c0 i x.toNatClampNeg v) c0 i j)))
    rw [e, arrV_store]
    congr 2
    funext q
    by_cases hq : q = x.toNatClampNeg
    · subst hq
      simp [updV, qz_si, qz_gi, qz_u3]
    · simp [updV, qz_si, qz_gi, qz_u3, hq]
  · rw [if_neg hc] at h; cases h
theorem qy_aast (X : qy_X p s m args meth c own cc nL ret G h0 ns ao) {c0 i cnt n tg j cnt2 ci : Nat} {ts : List (FieldType × Nat)} {T : u_T} {nf : Nat} {C : String} {x : Int32} (ha : qz_tb[c0]? = some (cnt, .inr (n, .object C, tg))) (h2 : qz_tb[tg]? = some (cnt2, .inl (ci, ts))) (h3 : qz_cl[ci]? = some (C, T, nf)) (d : decode cc pc = .ok (.aastore, 1)) {α : Type} {r : α} {Kf : qy_M → Option α} {dc : Decidable (¬ (x < 0 ∨ n ≤ x.toNatClampNeg) ∧ i < N.2.2.1 c0 ∧ j = x.toNatClampNeg ∧ j < N.2.2.1 tg)} (h : @ite (Option α) (¬ (x < 0 ∨ n ≤ x.toNatClampNeg) ∧ i < N.2.2.1 c0 ∧ j = x.toNatClampNeg ∧ j < N.2.2.1 tg) dc (qz_let (qy_mk N c0 i x.toNatClampNeg) Kf) none = some r)
    (kk : ∀ N', Kf N' = some r → qy_W p l e R s m args below meth c Q G h0 H0 m0 nL N' (pc + 1) lv st) : qy_W p l e R s m args below meth c Q G h0 H0 m0 nL N pc lv (.ref (G.2.2 tg j) :: .int x :: .ref (G.2.2 c0 i) :: st) := by
  by_cases hc : ¬ (x < 0 ∨ n ≤ x.toNatClampNeg) ∧ i < N.2.2.1 c0 ∧ j = x.toNatClampNeg ∧ j < N.2.2.1 tg
  · rw [if_pos hc] at h
    obtain ⟨hin, hi, rfl, hj⟩ := hc
    have hlt : x.toNatClampNeg < n := Nat.not_le.mp fun q => hin (Or.inr q)
    have h0' : ¬ x < 0 := fun q => hin (Or.inl q)
    intro H locs ls hP hS hl
    have hp : H[G.2.2 c0 i]? = some (arrV (G.2.1 c0) n (fun j => va_rf (if N.2.2.2.1 c0 i j = true then some (G.2.2 tg j) else none))) := hP.2.1 c0 i _ ha hi
    obtain ⟨r', hr', cellV, g1, g2, g3, -⟩ := hP.2.1 tg _ _ h2 hj
    have hcls := (X.2.2.2.2.2.1.1.1.1 ci _ h3).2
    obtain ⟨kA, comp, k1, k2, k3, -⟩ := X.2.2.2.2.2.1.2.1 c0 _ _ ha rfl
    have hcomp : comp = G.1.1 ci := Option.some.inj (k3.symm.trans hcls.1)
    subst hcomp
    obtain ⟨kC, hkC, -⟩ := hcls.2
    refine W.aast X.1 X.2.1 hp (fun q h => by cases h) (fun h => by cases h) k1 k2 rfl hkC ⟨h0', by rw [arrV_size]; exact hlt⟩ g1 (fun q h => by rw [g3] at h; cases h) (by rw [g2]; exact hkC) (by rw [g2]; exact va_assign hcls) rfl rfl d fun H1 e z oq => ?_
    refine kk _ h H1 _ ls (hP.set X.2.2.2.2.2.2.1 ha hi (qy_but_mk N c0 i x.toNatClampNeg) ?_ z oq) (hS.put oq (by rw [X.2.2.2.2.2.2.2.2.2]; exact Nat.le_add_right _ _)) hl
    show H1[G.2.2 c0 i]? = some (arrV (G.2.1 c0) n (fun j => va_rf (if (qy_mk N c0 i x.toNatClampNeg).2.2.2.1 c0 i j = true then some (G.2.2 tg j) else none)))
    rw [e, arrV_store]
    congr 2
    funext q
    by_cases hq : q = x.toNatClampNeg
    · subst hq
      simp [updV, qy_mk, qz_u3, va_rf]
    · simp [updV, qy_mk, qz_u3, hq]
  · rw [if_neg hc] at h; cases h
theorem qy_obj (X : qy_X p s m args meth c own cc nL ret G h0 ns ao) {index a : Nat} (hw : Cond.methodLink own index Lib.objectInit ∈ qz_T ∧ Cond.instanceMethod Lib.objectInit ∈ qz_T ∧ Cond.code Lib.objectInit ⟨#[0xb1]⟩ 1 none ∈ qz_T) (hR : 1 ≤ R.frames ∧ 20 ≤ R.locals) (hs : (st.map fun v => v.category).sum ≤ 8) (d : decode cc pc = .ok (.invokespecial index, 3)) (kk : qy_W p l e R s m args below meth c Q G h0 H0 m0 nL N (pc + 3) lv st) : qy_W p l e R s m args below meth c Q G h0 H0 m0 nL N pc lv (.ref a :: st) := by
  intro H locs ls hP hS hl
  refine W.objInit X.1 X.2.1 X.2.2.2.1 (X.2.2.2.2.1 _ hw.1) (X.2.2.2.2.1 _ hw.2.1) (X.2.2.2.2.1 _ hw.2.2) rfl (by rw [X.2.2.1]; exact hl.1) rfl d hR.1 ?_ (kk H locs ls hP hS hl)
  have := lv_room (m := m) (pc := pc) (ls := ls) (rest := .ref a :: st) hs
  omega
end QY
def qy_Q (G : qz_G) (h0 : Nat) (M : qy_M) : Array Value → State → Outcome → State → Prop := fun _ st oc t => oc = .returned none ∧ qy_P G h0 M t.heap ∧ ∀ q : Nat, q < h0 → t.heap[q]? = st.heap[q]?
def qy_R (dp K KS : Nat) : Room := { frames := dp, cells := K, slots := KS, locals := 48 * dp }
def qy_C (l : Launch) (y : MethodName) (bytes : ByteArray) (maxL dp K KS : Nat) (G : qz_G) (h0 : Nat) (ns : List Cond) (ao : List String) (as : List Value) (M M' : qy_M) : Prop :=
  Met l y (Cond.code y bytes maxL none :: qz_T) (qy_R dp K KS) (va_Pc as (fun U => qy_P G h0 M U.heap ∧ qy_K G ns ao U)) (qy_Q G h0 M') K KS (fun a => h0 ≤ a)
section QYC
variable {p : Program} {l : Launch} {e : Env} {R : Room} {s : State} {m : MethodId} {args : Array Value} {below : List Frame} {meth : Method} {c : Code} {Q : State → Prop} {G : qz_G} {h0 : Nat} {H0 : Heap} {m0 : Nat × Nat} {nL : Nat} {N N' : qy_M} {pc : Nat} {lv lv' : List (Nat × Value)} {st : List Value} {own : String} {cc : ByteArray} {ret : Option FieldType} {ns : List Cond} {ao : List String}
theorem qy_vret {K KS : Nat} (X : qy_X p s m args meth c own cc nL none G h0 ns ao) {r : qy_M} {dc : Decidable (N.1 ≤ m0.1 + K ∧ N.2.1 ≤ m0.2 + KS)} (h : @ite (Option qy_M) (N.1 ≤ m0.1 + K ∧ N.2.1 ≤ m0.2 + KS) dc (some N) none = some r) (d : decode cc pc = .ok (.return_, 1)) : qy_W p l e R s m args below meth c (MQ below (qy_Q G h0 r) args s K KS (fun a => h0 ≤ a)) G h0 s.heap m0 nL N pc lv [] := by
  by_cases hc : N.1 ≤ m0.1 + K ∧ N.2.1 ≤ m0.2 + KS
  · rw [if_pos hc] at h
    cases h
    intro H locs ls hP hS hl
    refine W.widen (k := K) (n := KS) (by omega) (by omega) ?_
    exact W.vret X.1 X.2.1 X.2.2.2.2.2.2.2.2.1 (fun t ht hW => ⟨rfl, by rw [ht]; exact hP, fun q hq => by rw [ht]; exact hS.1 q hq⟩) hS.2 d (hlocks := X.2.2.2.2.2.2.2.1)
  · rw [if_neg hc] at h; cases h
theorem qy_back {rest st0 : List Value} {K KS : Nat} {a : Array Value} {H : Heap} {locs : List Loc} {ls : Array Slot} (hsz : h0 ≤ H.size) (hr : va_Run p l e R s m args below meth c H locs (N.1 - m0.1) (N.2.1 - m0.2) K KS (F0 m pc ls st0) rest (qy_Q G h0 N' a) (fun a => h0 ≤ a)) (hS : qy_S h0 H0 H locs) (hl : lv_has ls nL lv) (hz : m0.1 ≤ N.1 ∧ m0.2 ≤ N.2.1 ∧ N'.1 = N.1 + K ∧ N'.2.1 = N.2.1 + KS)
    (kk : qy_W p l e R s m args below meth c Q G h0 H0 m0 nL N' (pc + 3) lv rest) : W p l e R s m args below meth c H locs (N.1 - m0.1) (N.2.1 - m0.2) Q (F0 m pc ls st0) := by
  intro T hT X
  obtain ⟨v, st₀, t, T', L, g0, X', hL, e1, e2, ⟨hv, hP, hk⟩, go⟩ := hr T hT X
  have hv' : v = none := Outcome.returned.inj hv
  subst hv'
  rw [← e1] at hP hk
  rw [g0] at hk
  have a1 : N'.1 - m0.1 = N.1 - m0.1 + K := by omega
  have a2 : N'.2.1 - m0.2 = N.2.1 - m0.2 + KS := by omega
  have k2 := kk T'.heap (locs ++ L) ls hP ⟨fun q hq => (hk q hq).trans (hS.1 q hq), fun q hq => by
    rcases List.mem_append.mp hq with h | h
    · exact hS.2 q h
    · exact hL q h⟩ hl
  rw [a1, a2] at k2
  obtain ⟨t2, b1, b2⟩ := k2 T' rfl X'
  exact ⟨t2, go t2 b1, b2⟩
theorem qy_blind {as : List Value} {M : qy_M} : FrameBlind (va_Pc as (fun U => qy_P G h0 M U.heap ∧ qy_K G ns ao U)) := fun a U g mk q => ⟨q.1, q.2.1, qy_K.same (u := U) (U := U.calling g mk a) rfl q.2.2⟩
/-- a constructor of a nest mate -/
theorem qy_ctorN (X : qy_X p s m args meth c own cc nL ret G h0 ns ao) {index dp K KS maxL b : Nat} {y : MethodName} {bytes : ByteArray} {host : String} (hw : Cond.code y bytes maxL none ∈ qz_T ∧ Cond.initialized y.cls ∈ qz_T ∧ Cond.instanceMethod y ∈ qz_T ∧ Cond.methodLinkNest own index y host ∈ ns) (hy : y.name = "<init>" ∧ y.cls ≠ "java/lang/invoke/MethodHandle" ∧ y.cls ≠ "java/lang/invoke/VarHandle" ∧ (parseMethodDescriptor y.desc).map (fun d => d.parameters.length) = some 0) (hM : qy_C l y bytes maxL dp K KS G h0 ns ao [.ref b] N N') (hR : dp + 1 ≤ R.frames ∧ 8 + (maxL + 11) + 48 * dp ≤ R.locals) (hs : (st.map fun v => v.category).sum ≤ 8) (d : decode cc pc = .ok (.invokespecial index, 3)) {α : Type} {r : α} {fb : Option α} {dc : Decidable (m0.1 ≤ N.1 ∧ m0.2 ≤ N.2.1 ∧ N'.1 = N.1 + K ∧ N'.2.1 = N.2.1 + KS ∧ N.1 + K ≤ m0.1 + R.cells ∧ N.2.1 + KS ≤ m0.2 + R.slots)} (h : @ite (Option α) (m0.1 ≤ N.1 ∧ m0.2 ≤ N.2.1 ∧ N'.1 = N.1 + K ∧ N'.2.1 = N.2.1 + KS ∧ N.1 + K ≤ m0.1 + R.cells ∧ N.2.1 + KS ≤ m0.2 + R.slots) dc fb none = some r)
    (kk : fb = some r → qy_W p l e R s m args below meth c Q G h0 H0 m0 nL N' (pc + 3) lv st) : qy_W p l e R s m args below meth c Q G h0 H0 m0 nL N pc lv (.ref b :: st) := by
  by_cases hc : m0.1 ≤ N.1 ∧ m0.2 ≤ N.2.1 ∧ N'.1 = N.1 + K ∧ N'.2.1 = N.2.1 + KS ∧ N.1 + K ≤ m0.1 + R.cells ∧ N.2.1 + KS ≤ m0.2 + R.slots
  · rw [if_pos hc] at h
    obtain ⟨hx, hb, hml, hown, hts, hK, hD, hlk, hrt, hG⟩ := X
    intro H locs ls hP hS hl
    have hpay : ∀ w ∈ (Cond.code y bytes maxL none :: qz_T), ∀ (a' : Array Value) (U : State), s.WarmedH U.vm → w.before a' U = true := fun w hw2 => by
      rcases List.mem_cons.mp hw2 with rfl | hw2
      · exact qz_pay hts _ hw.1
      · exact qz_pay hts _ hw2
    refine qy_back (by rw [hP.1]; exact Nat.le_add_right _ _) (va_runIN (n := 0) (As := []) (rest := st) (b := b) (host := host) ⟨hx, hb, hml, hown, hts⟩ hM ⟨⟨⟨rfl, rfl, hR.1, hR.2, hpay, List.mem_cons_self⟩, hts _ hw.1, hts _ hw.2.1, ⟨hy.2.1, hy.2.2.1⟩, fun sig h => ?_, va_Nw.use rfl (hK.2.2.1 _ hw.2.2.2).1⟩, hy.1, hts _ hw.2.2.1⟩ ⟨qy_blind, fun U hU hW => ⟨rfl, by rw [hU]; exact hP, qy_K.warm hW hK⟩⟩ rfl rfl hl.1 rfl (lv_room hs) d ⟨by omega, by omega⟩) hS hl ⟨hc.1, hc.2.1, hc.2.2.1, hc.2.2.2.1⟩ (kk h)
    have h6 := hy.2.2.2
    rw [h] at h6
    exact (Option.some.inj h6).symm
  · rw [if_neg hc] at h; cases h
/-- a constructor of a class that all may make -/
theorem qy_ctor (X : qy_X p s m args meth c own cc nL ret G h0 ns ao) {index dp K KS maxL b : Nat} {y : MethodName} {bytes : ByteArray} (hw : Cond.code y bytes maxL none ∈ qz_T ∧ Cond.initialized y.cls ∈ qz_T ∧ Cond.instanceMethod y ∈ qz_T ∧ Cond.methodLink own index y ∈ qz_T) (hy : y.name = "<init>" ∧ y.cls ≠ "java/lang/invoke/MethodHandle" ∧ y.cls ≠ "java/lang/invoke/VarHandle" ∧ (parseMethodDescriptor y.desc).map (fun d => d.parameters.length) = some 0) (hM : qy_C l y bytes maxL dp K KS G h0 ns ao [.ref b] N N') (hR : dp + 1 ≤ R.frames ∧ 8 + (maxL + 11) + 48 * dp ≤ R.locals) (hs : (st.map fun v => v.category).sum ≤ 8) (d : decode cc pc = .ok (.invokespecial index, 3)) {α : Type} {r : α} {fb : Option α} {dc : Decidable (m0.1 ≤ N.1 ∧ m0.2 ≤ N.2.1 ∧ N'.1 = N.1 + K ∧ N'.2.1 = N.2.1 + KS ∧ N.1 + K ≤ m0.1 + R.cells ∧ N.2.1 + KS ≤ m0.2 + R.slots)} (h : @ite (Option α) (m0.1 ≤ N.1 ∧ m0.2 ≤ N.2.1 ∧ N'.1 = N.1 + K ∧ N'.2.1 = N.2.1 + KS ∧ N.1 + K ≤ m0.1 + R.cells ∧ N.2.1 + KS ≤ m0.2 + R.slots) dc fb none = some r)
    (kk : fb = some r → qy_W p l e R s m args below meth c Q G h0 H0 m0 nL N' (pc + 3) lv st) : qy_W p l e R s m args below meth c Q G h0 H0 m0 nL N pc lv (.ref b :: st) := by
  by_cases hc : m0.1 ≤ N.1 ∧ m0.2 ≤ N.2.1 ∧ N'.1 = N.1 + K ∧ N'.2.1 = N.2.1 + KS ∧ N.1 + K ≤ m0.1 + R.cells ∧ N.2.1 + KS ≤ m0.2 + R.slots
  · rw [if_pos hc] at h
    obtain ⟨hx, hb, hml, hown, hts, hK, hD, hlk, hrt, hG⟩ := X
    intro H locs ls hP hS hl
    have hpay : ∀ w ∈ (Cond.code y bytes maxL none :: qz_T), ∀ (a' : Array Value) (U : State), s.WarmedH U.vm → w.before a' U = true := fun w hw2 => by
      rcases List.mem_cons.mp hw2 with rfl | hw2
      · exact qz_pay hts _ hw.1
      · exact qz_pay hts _ hw2
    refine qy_back (by rw [hP.1]; exact Nat.le_add_right _ _) (va_runI (n := 0) (As := []) (rest := st) (b := b) ⟨hx, hb, hml, hown, hts⟩ hM ⟨⟨rfl, rfl, hR.1, hR.2, hpay, List.mem_cons_self, hts _ hw.1, hts _ hw.2.1, ⟨hy.2.1, hy.2.2.1⟩, fun sig h => ?_, hts _ hw.2.2.2⟩, hy.1, hts _ hw.2.2.1⟩ ⟨qy_blind, fun U hU hW => ⟨rfl, by rw [hU]; exact hP, qy_K.warm hW hK⟩⟩ rfl rfl hl.1 rfl (lv_room hs) d ⟨by omega, by omega⟩) hS hl ⟨hc.1, hc.2.1, hc.2.2.1, hc.2.2.2.1⟩ (kk h)
    have h6 := hy.2.2.2
    rw [h] at h6
    exact (Option.some.inj h6).symm
  · rw [if_neg hc] at h; cases h
end QYC
theorem qy_enter {l : Launch} {y : MethodName} {bytes : ByteArray} {maxL dp K KS : Nat} {G : qz_G} {h0 : Nat} {ns : List Cond} {ao : List String} {as : List Value} {M M' : qy_M} {lv : List (Nat × Value)} (hy : plainName y.cls = true) (hn : y.name = "<init>") (hD : qz_D G) (hG : ∀ c i, G.2.2 c i = h0 + qy_of c i) (hlen : (lg_sl as).length ≤ maxL) (hlv : lv_args 0 as = lv)
    (body : ∀ (p : Program) (e : Env) (s : State) (m : MethodId) (args : Array Value) (below : List Frame) (meth : Method) (c : Code), meth.name = "<init>" → qy_X p s m args meth c y.cls bytes maxL none G h0 ns ao → qy_W p l e (qy_R dp K KS) s m args below meth c (MQ below (qy_Q G h0 M') args s K KS (fun a => h0 ≤ a)) G h0 s.heap (M.1, M.2.1) maxL M 0 lv []) : qy_C l y bytes maxL dp K KS G h0 ns ao as M M' := by
  refine Met.ofW (cc := bytes) (maxL := maxL) (ret := none) hy rfl ?_
  intro p e s m args below meth c s₁ B hml hv
  obtain ⟨rfl, hP, hK⟩ := hv
  have hts := atoms_spec (ws := Cond.code y bytes maxL none :: qz_T) B.pre
  have hl := lv_entry as (n := maxL) hlen
  rw [lg_entry_eq]
  rw [hlv] at hl
  have hk := body p e s m _ below meth c ((name_of_methodNamed B.named B.method).1.trans hn) ⟨B.exec, B.bytes, hml, findClass_of_methodNamed B.named, fun w hw => hts w (List.mem_cons_of_mem _ hw), hK, hD, B.notSynchronized, B.returns, hG⟩ s.heap [] _ hP qy_S.rf hl
  rw [Nat.sub_self, Nat.sub_self] at hk
  exact hk

