/-! THE STEADY WORLD. An object is (c, i): c its place in the table qz_tb, i below its count. Its numbers stand in N (ints, longs), its address is ad c i. No object comes or goes. -/
abbrev qz_N : Type := (Nat → Nat → Nat → Int32) × (Nat → Nat → Nat → Int64)
def qz_gi (N : qz_N) (c i k : Nat) : Int32 := N.1 c i k
def qz_gl (N : qz_N) (c i k : Nat) : Int64 := N.2 c i k
def qz_u3 {α : Type} (f : Nat → Nat → Nat → α) (c i k : Nat) (v : α) : Nat → Nat → Nat → α := fun c' i' k' => if c' = c ∧ i' = i ∧ k' = k then v else f c' i' k'
def qz_si (N : qz_N) (c i k : Nat) (v : Int32) : qz_N := (qz_u3 N.1 c i k v, N.2)
def qz_sl (N : qz_N) (c i k : Nat) (v : Int64) : qz_N := (N.1, qz_u3 N.2 c i k v)
def qz_let {α β : Type} (e : α) (k : α → β) : β := k e
def qz_oc {β : Type} (q : Option Nat × qz_N) (a : qz_N → β) (b : qz_N → Nat → β) : β := match q with
  | (none, N) => a N
  | (some j, N) => b N j
theorem qz_ocN {β : Type} {N : qz_N} {a : qz_N → β} {b : qz_N → Nat → β} {r : β} (h : qz_oc (none, N) a b = r) : a N = r := h
theorem qz_ocS {β : Type} {N : qz_N} {j : Nat} {a : qz_N → β} {b : qz_N → Nat → β} {r : β} (h : qz_oc (some j, N) a b = r) : b N j = r := h
def qz_loop {α β : Type} (body : (α → Option β) → α → Option β) : Nat → α → Option β
  | 0, _ => none
  | n + 1, a => body (qz_loop body n) a
theorem qz_loop_ind {α β : Type} {body : (α → Option β) → α → Option β} {P : α → Prop} {r : β} (hb : ∀ k : α → Option β, (∀ a, k a = some r → P a) → ∀ a, body k a = some r → P a) : ∀ n a, qz_loop body n a = some r → P a
  | 0, _, h => by cases h
  | n + 1, a, h => hb (qz_loop body n) (fun a h => qz_loop_ind hb n a h) a h
/-- addresses and class numbers: of the classes, of the arrays, of the objects -/
abbrev qz_G : Type := va_G × (Nat → ClassId) × (Nat → Nat → Nat)
def qz_fv (ad : Nat → Nat → Nat) (N : qz_N) (c i k : Nat) (t : FieldType × Nat) : Value := match t.1 with
  | .long => .long (qz_gl N c i k)
  | .object _ => .ref (ad t.2 i)
  | .array _ => .ref (ad t.2 i)
  | _ => .int (qz_gi N c i k)
def qz_fs (ad : Nat → Nat → Nat) (N : qz_N) (c i : Nat) : Nat → List (FieldType × Nat) → List Value
  | _, [] => []
  | k, t :: ts => qz_fv ad N c i k t :: qz_fs ad N c i (k + 1) ts
def qz_ar (ad : Nat → Nat → Nat) (N : qz_N) (c i : Nat) (t : FieldType × Nat) : (Nat → Int32) ⊕ (Nat → Int64) ⊕ (Nat → UInt32) ⊕ (Nat → UInt64) ⊕ (Nat → Option Nat) := match t.1 with
  | .long => .inr (.inl (fun j => qz_gl N c i j))
  | .object _ => .inr (.inr (.inr (.inr (fun j => some (ad t.2 j)))))
  | .array _ => .inr (.inr (.inr (.inr (fun j => some (ad t.2 j)))))
  | _ => .inl (fun j => qz_gi N c i j)
def qz_e (G : qz_G) (N : qz_N) (c i : Nat) (q : qz_Y) : va_E := match q.2 with
  | .inl o => .inr (o.1, qz_fs G.2.2 N c i 0 o.2)
  | .inr a => .inl (G.2.1 c, a.1, qz_ar G.2.2 N c i a.2)
def qz_P (G : qz_G) (N : qz_N) (H : Heap) : Prop := ∀ (c i : Nat) (q : qz_Y), qz_tb[c]? = some q → i < q.1 → va_at G.1 qz_cl (G.2.2 c i, qz_e G N c i q) H
def qz_A (G : qz_G) : Nat → Prop := fun a => ∃ (c i : Nat) (q : qz_Y), qz_tb[c]? = some q ∧ i < q.1 ∧ a = G.2.2 c i
def qz_D (G : qz_G) : Prop := ∀ (c i : Nat) (q : qz_Y) (c' i' : Nat) (q' : qz_Y), qz_tb[c]? = some q → i < q.1 → qz_tb[c']? = some q' → i' < q'.1 → G.2.2 c i = G.2.2 c' i' → c = c' ∧ i = i'
def qz_K (G : qz_G) (U : State) : Prop := va_K G.1 qz_cl [] U ∧ (∀ (c : Nat) (q : qz_Y) (a : Nat × FieldType × Nat), qz_tb[c]? = some q → q.2 = .inr a → ArrOfT U (G.2.1 c) a.2.1)
theorem qz_K.moved {G : qz_G} {u U : State} (hvm : u.vm.Alike U.vm) (h : qz_K G u) : qz_K G U := ⟨va_K.moved hvm h.1, fun c q a hc ha => arrOfT_moved hvm (h.2 c q a hc ha)⟩
/-- since H0 only cells of the world have changed -/
def qz_S (G : qz_G) (H0 H : Heap) (locs : List Loc) : Prop := H.size = H0.size ∧ (∀ q : Nat, ¬ qz_A G q → H[q]? = H0[q]?) ∧ ∀ l ∈ locs, qz_A G l.base
theorem qz_S.rf {G : qz_G} {H : Heap} : qz_S G H H [] := ⟨rfl, fun _ _ => rfl, fun _ h => by cases h⟩
theorem qz_S.put {G : qz_G} {H0 H H1 : Heap} {locs : List Loc} {a k : Nat} (h : qz_S G H0 H locs) (z : H1.size = H.size) (oq : ∀ q : Nat, q ≠ a → H1[q]? = H[q]?) (ha : qz_A G a) : qz_S G H0 H1 (locs ++ [⟨a, k⟩]) := by
  refine ⟨z.trans h.1, fun q h2 => ?_, fun q hq => ?_⟩
  · rw [oq q (fun e => h2 (by rw [e]; exact ha))]
    exact h.2.1 q h2
  · rcases List.mem_append.mp hq with h1 | h1
    · exact h.2.2 q h1
    · rw [List.mem_singleton.mp h1]
      exact ha
theorem qz_fs_at (ad : Nat → Nat → Nat) (N : qz_N) (c i : Nat) : ∀ (ts : List (FieldType × Nat)) (b k : Nat) (t : FieldType × Nat), ts[k]? = some t → (qz_fs ad N c i b ts)[k]? = some (qz_fv ad N c i (b + k) t)
  | [], _, _, _, h => by simp at h
  | t0 :: ts, b, 0, t, h => by
    simp only [List.getElem?_cons_zero] at h
    cases h
    rfl
  | t0 :: ts, b, k + 1, t, h => by
    simp only [List.getElem?_cons_succ] at h
    have := qz_fs_at ad N c i ts (b + 1) k t h
    rw [show b + 1 + k = b + (k + 1) by omega] at this
    exact this
theorem qz_fs_len (ad : Nat → Nat → Nat) (N : qz_N) (c i : Nat) : ∀ (ts : List (FieldType × Nat)) (b : Nat), (qz_fs ad N c i b ts).length = ts.length
  | [], _ => rfl
  | t0 :: ts, b => by
    show (qz_fs ad N c i (b + 1) ts).length + 1 = ts.length + 1
    rw [qz_fs_len ad N c i ts (b + 1)]
theorem qz_fv_congr {ad : Nat → Nat → Nat} {N N' : qz_N} {c i k : Nat} (h1 : qz_gi N' c i k = qz_gi N c i k) (h2 : qz_gl N' c i k = qz_gl N c i k) (t : FieldType × Nat) : qz_fv ad N' c i k t = qz_fv ad N c i k t := by
  unfold qz_fv
  rw [h1, h2]
theorem qz_fs_congr {ad : Nat → Nat → Nat} {N N' : qz_N} {c i : Nat} (h1 : ∀ k, qz_gi N' c i k = qz_gi N c i k) (h2 : ∀ k, qz_gl N' c i k = qz_gl N c i k) : ∀ (ts : List (FieldType × Nat)) (b : Nat), qz_fs ad N' c i b ts = qz_fs ad N c i b ts
  | [], _ => rfl
  | t0 :: ts, b => by
    show qz_fv ad N' c i b t0 :: qz_fs ad N' c i (b + 1) ts = qz_fv ad N c i b t0 :: qz_fs ad N c i (b + 1) ts
    rw [qz_fs_congr h1 h2 ts (b + 1), qz_fv_congr (h1 b) (h2 b)]
theorem qz_ar_congr {ad : Nat → Nat → Nat} {N N' : qz_N} {c i : Nat} (h1 : ∀ k, qz_gi N' c i k = qz_gi N c i k) (h2 : ∀ k, qz_gl N' c i k = qz_gl N c i k) (t : FieldType × Nat) : qz_ar ad N' c i t = qz_ar ad N c i t := by
  unfold qz_ar
  rw [show (fun j => qz_gl N' c i j) = (fun j => qz_gl N c i j) from funext h2, show (fun j => qz_gi N' c i j) = (fun j => qz_gi N c i j) from funext h1]
theorem qz_e_congr {G : qz_G} {N N' : qz_N} {c i : Nat} (h1 : ∀ k, qz_gi N' c i k = qz_gi N c i k) (h2 : ∀ k, qz_gl N' c i k = qz_gl N c i k) (q : qz_Y) : qz_e G N' c i q = qz_e G N c i q := by
  obtain ⟨n, o | a⟩ := q
  · show (Sum.inr (o.1, qz_fs G.2.2 N' c i 0 o.2) : va_E) = Sum.inr (o.1, qz_fs G.2.2 N c i 0 o.2)
    rw [qz_fs_congr h1 h2]
  · show (Sum.inl (G.2.1 c, a.1, qz_ar G.2.2 N' c i a.2) : va_E) = Sum.inl (G.2.1 c, a.1, qz_ar G.2.2 N c i a.2)
    rw [qz_ar_congr h1 h2]
theorem qz_gi_si (N : qz_N) (c i k : Nat) (v : Int32) (c' i' k' : Nat) : qz_gi (qz_si N c i k v) c' i' k' = if c' = c ∧ i' = i ∧ k' = k then v else qz_gi N c' i' k' := rfl
theorem qz_gl_sl (N : qz_N) (c i k : Nat) (v : Int64) (c' i' k' : Nat) : qz_gl (qz_sl N c i k v) c' i' k' = if c' = c ∧ i' = i ∧ k' = k then v else qz_gl N c' i' k' := rfl
theorem qz_gl_si (N : qz_N) (c i k : Nat) (v : Int32) (c' i' k' : Nat) : qz_gl (qz_si N c i k v) c' i' k' = qz_gl N c' i' k' := rfl
theorem qz_gi_sl (N : qz_N) (c i k : Nat) (v : Int64) (c' i' k' : Nat) : qz_gi (qz_sl N c i k v) c' i' k' = qz_gi N c' i' k' := rfl
/-- N' is N but for the object (c, i) -/
def qz_but (N N' : qz_N) (c i : Nat) : Prop := ∀ c' i' : Nat, ¬ (c' = c ∧ i' = i) → (∀ k, qz_gi N' c' i' k = qz_gi N c' i' k) ∧ ∀ k, qz_gl N' c' i' k = qz_gl N c' i' k
theorem qz_but_si (N : qz_N) (c i k : Nat) (v : Int32) : qz_but N (qz_si N c i k v) c i := fun c' i' h => ⟨fun k' => by rw [qz_gi_si, if_neg (fun z => h ⟨z.1, z.2.1⟩)], fun k' => rfl⟩
theorem qz_but_sl (N : qz_N) (c i k : Nat) (v : Int64) : qz_but N (qz_sl N c i k v) c i := fun c' i' h => ⟨fun k' => rfl, fun k' => by rw [qz_gl_sl, if_neg (fun z => h ⟨z.1, z.2.1⟩)]⟩
theorem qz_P.set {G : qz_G} {N N' : qz_N} {H H1 : Heap} {c i : Nat} {q : qz_Y} (hP : qz_P G N H) (hD : qz_D G) (hc : qz_tb[c]? = some q) (hi : i < q.1) (hN : qz_but N N' c i) (he : va_at G.1 qz_cl (G.2.2 c i, qz_e G N' c i q) H1) (oq : ∀ x : Nat, x ≠ G.2.2 c i → H1[x]? = H[x]?) : qz_P G N' H1 := by
  intro c' i' q' hc' hi'
  by_cases h : c' = c ∧ i' = i
  · obtain ⟨rfl, rfl⟩ := h
    cases hc.symm.trans hc'
    exact he
  · obtain ⟨h1, h2⟩ := hN c' i' h
    rw [qz_e_congr h1 h2]
    refine (hP c' i' q' hc' hi').kept (oq _ (fun z => h ?_))
    exact hD c' i' q' c i q hc' hi' hc hi z
theorem qz_fs_set {ad : Nat → Nat → Nat} {N N' : qz_N} {c i k : Nat} {ts : List (FieldType × Nat)} {t : FieldType × Nat} {v : Value} (ht : ts[k]? = some t) (hv : qz_fv ad N' c i k t = v) (ho : ∀ j, j ≠ k → qz_gi N' c i j = qz_gi N c i j ∧ qz_gl N' c i j = qz_gl N c i j) : qz_fs ad N' c i 0 ts = (qz_fs ad N c i 0 ts).set k v := by
  apply List.ext_getElem?
  intro j
  have hk : k < ts.length := (List.getElem?_eq_some_iff.mp ht).1
  by_cases hj : j = k
  · subst hj
    rw [List.getElem?_set_self (by rw [qz_fs_len]; exact hk), qz_fs_at ad N' c i ts 0 j t ht, Nat.zero_add, hv]
  · rw [List.getElem?_set_ne (Ne.symm hj)]
    by_cases hl : j < ts.length
    · have h2 : ts[j]? = some ts[j] := List.getElem?_eq_getElem hl
      rw [qz_fs_at ad N' c i ts 0 j _ h2, qz_fs_at ad N c i ts 0 j _ h2, Nat.zero_add, qz_fv_congr (ho j hj).1 (ho j hj).2]
    · rw [List.getElem?_eq_none (by rw [qz_fs_len]; omega), List.getElem?_eq_none (by rw [qz_fs_len]; omega)]
/-- what the tables say of a field: entry 'index' of the pool of class own is field k of the class c of the table, of type t -/
def qz_Fd (own : String) (index c k cnt : Nat) (t : FieldType × Nat) (fin : Bool) : Prop := ∃ (ci : Nat) (ts : List (FieldType × Nat)) (C : String) (T : u_T) (n : Nat) (ty0 : Nat → FieldType), qz_tb[c]? = some (cnt, .inl (ci, ts)) ∧ qz_cl[ci]? = some (C, T, n) ∧ (∀ w ∈ u_ws C T n, w ∈ qz_T) ∧ k < n ∧ ts[k]? = some t ∧ Cond.fieldLink own index (T k).1 (T k).2.1 (T k).2.2.1 ∈ qz_T ∧ (∀ k, k < n → parseFieldDescriptor (T k).2.2.1 = some (ty0 k)) ∧ (∀ a, a < n → ∀ b, b < n → a ≠ b → (T a).2.1 ≠ (T b).2.1) ∧ (T k).2.2.2 = fin ∧ parseFieldDescriptor (T k).2.2.1 = some t.1 ∧ ts.length = n
/-- the walk stands at pc, with numbers N, locals lv, operands st -/
def qz_W (p : Program) (l : Launch) (e : Env) (R : Room) (s : State) (m : MethodId) (args : Array Value) (below : List Frame) (meth : Method) (c : Code) (cells slots : Nat) (Q : State → Prop) (G : qz_G) (H0 : Heap) (nL : Nat) (N : qz_N) (pc : Nat) (lv : List (Nat × Value)) (st : List Value) : Prop :=
  ∀ (H : Heap) (locs : List Loc) (ls : Array Slot), qz_P G N H → qz_S G H0 H locs → lv_has ls nL lv → W p l e R s m args below meth c H locs cells slots Q (F0 m pc ls st)
def qz_X (p : Program) (s : State) (m : MethodId) (args : Array Value) (meth : Method) (c : Code) (own : String) (cc : ByteArray) (nL : Nat) (ret : Option FieldType) (G : qz_G) : Prop :=
  p.tables.exec = Jvm.exec ∧ c.code = cc ∧ c.maxLocals = nL ∧ s.vm.findClass own = some m.cls ∧ (∀ w ∈ qz_T, w.before args s = true) ∧ qz_K G s ∧ qz_D G ∧ meth.locks = false ∧ meth.sig.returnType = ret
section QZ
variable {p : Program} {l : Launch} {e : Env} {R : Room} {s : State} {m : MethodId} {args : Array Value} {below : List Frame} {meth : Method} {c : Code} {cells slots : Nat} {Q : State → Prop} {G : qz_G} {H0 : Heap} {nL : Nat} {N : qz_N} {pc : Nat} {lv lv' : List (Nat × Value)} {st : List Value} {own : String} {cc : ByteArray} {ret : Option FieldType}
theorem qz_sub (ks : List Nat) (hl : lv_pick lv ks = lv') (kk : qz_W p l e R s m args below meth c cells slots Q G H0 nL N pc lv' st) : qz_W p l e R s m args below meth c cells slots Q G H0 nL N pc lv st := fun H locs ls hP hS h => kk H locs ls hP hS (lv_sub h ks hl)

theorem qz_iconst (X : qz_X p s m args meth c own cc nL ret G) {n : Int} {v : Int32} (hv : Int32.ofInt n = v) (d : decode cc pc = .ok (.iconst n, 1))
    (kk : qz_W p l e R s m args below meth c cells slots Q G H0 nL N (pc + 1) lv (.int v :: st)) : qz_W p l e R s m args below meth c cells slots Q G H0 nL N pc lv (st) := fun H locs ls hP hS h => lv_iconst X.1 X.2.1 d hv (kk H locs ls hP hS h)
theorem qz_bipush (X : qz_X p s m args meth c own cc nL ret G) {n : Int} {v : Int32} (hv : (Int8.ofInt n).toInt32 = v) (d : decode cc pc = .ok (.bipush n, 2))
    (kk : qz_W p l e R s m args below meth c cells slots Q G H0 nL N (pc + 2) lv (.int v :: st)) : qz_W p l e R s m args below meth c cells slots Q G H0 nL N pc lv (st) := fun H locs ls hP hS h => lv_bipush X.1 X.2.1 d hv (kk H locs ls hP hS h)
theorem qz_sipush (X : qz_X p s m args meth c own cc nL ret G) {n : Int} {v : Int32} (hv : (Int16.ofInt n).toInt32 = v) (d : decode cc pc = .ok (.sipush n, 3))
    (kk : qz_W p l e R s m args below meth c cells slots Q G H0 nL N (pc + 3) lv (.int v :: st)) : qz_W p l e R s m args below meth c cells slots Q G H0 nL N pc lv (st) := fun H locs ls hP hS h => lv_sipush X.1 X.2.1 d hv (kk H locs ls hP hS h)
theorem qz_lconst (X : qz_X p s m args meth c own cc nL ret G) {n : Fin 2} {v : Int64} (hv : Int64.ofNat (n : Nat) = v) (d : decode cc pc = .ok (.lconst n, 1))
    (kk : qz_W p l e R s m args below meth c cells slots Q G H0 nL N (pc + 1) lv (.long v :: st)) : qz_W p l e R s m args below meth c cells slots Q G H0 nL N pc lv (st) := fun H locs ls hP hS h => lv_lconst X.1 X.2.1 d hv (kk H locs ls hP hS h)
theorem qz_null (X : qz_X p s m args meth c own cc nL ret G)  (d : decode cc pc = .ok (.aconst_null, 1))
    (kk : qz_W p l e R s m args below meth c cells slots Q G H0 nL N (pc + 1) lv (.null :: st)) : qz_W p l e R s m args below meth c cells slots Q G H0 nL N pc lv (st) := fun H locs ls hP hS h => lv_null X.1 X.2.1 d (kk H locs ls hP hS h)
theorem qz_ldc (X : qz_X p s m args meth c own cc nL ret G) {index : Nat} {v : Int32} (hc : Cond.constant own index v ∈ qz_T) (d : decode cc pc = .ok (.ldc index, 2))
    (kk : qz_W p l e R s m args below meth c cells slots Q G H0 nL N (pc + 2) lv (.int v :: st)) : qz_W p l e R s m args below meth c cells slots Q G H0 nL N pc lv (st) := fun H locs ls hP hS h => lv_ldc X.1 X.2.1 X.2.2.2.1 (X.2.2.2.2.1 _ hc) d (kk H locs ls hP hS h)
theorem qz_ldc2 (X : qz_X p s m args meth c own cc nL ret G) {index : Nat} {v : Int64} (hc : Cond.constantLong own index v ∈ qz_T) (d : decode cc pc = .ok (.ldc2_w index, 3))
    (kk : qz_W p l e R s m args below meth c cells slots Q G H0 nL N (pc + 3) lv (.long v :: st)) : qz_W p l e R s m args below meth c cells slots Q G H0 nL N pc lv (st) := fun H locs ls hP hS h => lv_ldc2 X.1 X.2.1 X.2.2.2.1 (X.2.2.2.2.1 _ hc) d (kk H locs ls hP hS h)
theorem qz_iload_n (X : qz_X p s m args meth c own cc nL ret G) {k : Fin 4} {x : Int32} (q : Nat) (hq : lv[q]? = some ((k : Nat), .int x)) (d : decode cc pc = .ok (.iload_n k, 1))
    (kk : qz_W p l e R s m args below meth c cells slots Q G H0 nL N (pc + 1) lv (.int x :: st)) : qz_W p l e R s m args below meth c cells slots Q G H0 nL N pc lv (st) := fun H locs ls hP hS h => lv_iload_n X.1 X.2.1 d rfl (lv_at h q hq) (kk H locs ls hP hS h)
theorem qz_iload (X : qz_X p s m args meth c own cc nL ret G) {i : Nat} {x : Int32} (q : Nat) (hq : lv[q]? = some (i, .int x)) (d : decode cc pc = .ok (.iload i, 2))
    (kk : qz_W p l e R s m args below meth c cells slots Q G H0 nL N (pc + 2) lv (.int x :: st)) : qz_W p l e R s m args below meth c cells slots Q G H0 nL N pc lv (st) := fun H locs ls hP hS h => lv_iload X.1 X.2.1 d (lv_at h q hq) (kk H locs ls hP hS h)
theorem qz_lload_n (X : qz_X p s m args meth c own cc nL ret G) {k : Fin 4} {x : Int64} (q : Nat) (hq : lv[q]? = some ((k : Nat), .long x)) (d : decode cc pc = .ok (.lload_n k, 1))
    (kk : qz_W p l e R s m args below meth c cells slots Q G H0 nL N (pc + 1) lv (.long x :: st)) : qz_W p l e R s m args below meth c cells slots Q G H0 nL N pc lv (st) := fun H locs ls hP hS h => lv_lload_n X.1 X.2.1 d rfl (lv_at h q hq) (kk H locs ls hP hS h)
theorem qz_lload (X : qz_X p s m args meth c own cc nL ret G) {i : Nat} {x : Int64} (q : Nat) (hq : lv[q]? = some (i, .long x)) (d : decode cc pc = .ok (.lload i, 2))
    (kk : qz_W p l e R s m args below meth c cells slots Q G H0 nL N (pc + 2) lv (.long x :: st)) : qz_W p l e R s m args below meth c cells slots Q G H0 nL N pc lv (st) := fun H locs ls hP hS h => lv_lload X.1 X.2.1 d (lv_at h q hq) (kk H locs ls hP hS h)
theorem qz_aload_n (X : qz_X p s m args meth c own cc nL ret G) {k : Fin 4} {x : Nat} (q : Nat) (hq : lv[q]? = some ((k : Nat), .ref x)) (d : decode cc pc = .ok (.aload_n k, 1))
    (kk : qz_W p l e R s m args below meth c cells slots Q G H0 nL N (pc + 1) lv (.ref x :: st)) : qz_W p l e R s m args below meth c cells slots Q G H0 nL N pc lv (st) := fun H locs ls hP hS h => lv_aload_n X.1 X.2.1 d rfl (lv_at h q hq) (kk H locs ls hP hS h)
theorem qz_aload (X : qz_X p s m args meth c own cc nL ret G) {i : Nat} {x : Nat} (q : Nat) (hq : lv[q]? = some (i, .ref x)) (d : decode cc pc = .ok (.aload i, 2))
    (kk : qz_W p l e R s m args below meth c cells slots Q G H0 nL N (pc + 2) lv (.ref x :: st)) : qz_W p l e R s m args below meth c cells slots Q G H0 nL N pc lv (st) := fun H locs ls hP hS h => lv_aload X.1 X.2.1 d (lv_at h q hq) (kk H locs ls hP hS h)
theorem qz_aload_nN (X : qz_X p s m args meth c own cc nL ret G) {k : Fin 4} (q : Nat) (hq : lv[q]? = some ((k : Nat), .null)) (d : decode cc pc = .ok (.aload_n k, 1)) (kk : qz_W p l e R s m args below meth c cells slots Q G H0 nL N (pc + 1) lv (.null :: st)) : qz_W p l e R s m args below meth c cells slots Q G H0 nL N pc lv st := fun H locs ls hP hS h => lv_aload_nN X.1 X.2.1 d rfl (lv_at h q hq) (kk H locs ls hP hS h)
theorem qz_aloadN (X : qz_X p s m args meth c own cc nL ret G) {i : Nat} (q : Nat) (hq : lv[q]? = some (i, .null)) (d : decode cc pc = .ok (.aload i, 2)) (kk : qz_W p l e R s m args below meth c cells slots Q G H0 nL N (pc + 2) lv (.null :: st)) : qz_W p l e R s m args below meth c cells slots Q G H0 nL N pc lv st := fun H locs ls hP hS h => lv_aloadN X.1 X.2.1 d (lv_at h q hq) (kk H locs ls hP hS h)
theorem qz_istore_n (X : qz_X p s m args meth c own cc nL ret G) {k : Fin 4} {i : Nat} {x : Int32} (hi : (k : Nat) = i) (hn : i < nL) (hl : (i, Value.int x) :: lv.filter (fun q => !(q.1 == i) && !(q.1 + 1 == i && q.2.category == 2)) = lv') (d : decode cc pc = .ok (.istore_n k, 1))
    (kk : qz_W p l e R s m args below meth c cells slots Q G H0 nL N (pc + 1) lv' st) : qz_W p l e R s m args below meth c cells slots Q G H0 nL N pc lv (.int x :: st) := fun H locs ls hP hS h => lv_istore_n X.1 X.2.1 d hi h hn hl (fun ls' h' => kk H locs ls' hP hS h')
theorem qz_istore (X : qz_X p s m args meth c own cc nL ret G) {i : Nat} {x : Int32} (hn : i < nL) (hl : (i, Value.int x) :: lv.filter (fun q => !(q.1 == i) && !(q.1 + 1 == i && q.2.category == 2)) = lv') (d : decode cc pc = .ok (.istore i, 2))
    (kk : qz_W p l e R s m args below meth c cells slots Q G H0 nL N (pc + 2) lv' st) : qz_W p l e R s m args below meth c cells slots Q G H0 nL N pc lv (.int x :: st) := fun H locs ls hP hS h => lv_istore X.1 X.2.1 d h hn hl (fun ls' h' => kk H locs ls' hP hS h')
theorem qz_lstore_n (X : qz_X p s m args meth c own cc nL ret G) {k : Fin 4} {i : Nat} {x : Int64} (hi : (k : Nat) = i) (hn : i + 1 < nL) (hl : (i, Value.long x) :: lv.filter (fun q => !(q.1 == i) && (!(q.1 == i + 1) && !(q.1 + 1 == i && q.2.category == 2))) = lv') (d : decode cc pc = .ok (.lstore_n k, 1))
    (kk : qz_W p l e R s m args below meth c cells slots Q G H0 nL N (pc + 1) lv' st) : qz_W p l e R s m args below meth c cells slots Q G H0 nL N pc lv (.long x :: st) := fun H locs ls hP hS h => lv_lstore_n X.1 X.2.1 d hi h hn hl (fun ls' h' => kk H locs ls' hP hS h')
theorem qz_lstore (X : qz_X p s m args meth c own cc nL ret G) {i : Nat} {x : Int64} (hn : i + 1 < nL) (hl : (i, Value.long x) :: lv.filter (fun q => !(q.1 == i) && (!(q.1 == i + 1) && !(q.1 + 1 == i && q.2.category == 2))) = lv') (d : decode cc pc = .ok (.lstore i, 2))
    (kk : qz_W p l e R s m args below meth c cells slots Q G H0 nL N (pc + 2) lv' st) : qz_W p l e R s m args below meth c cells slots Q G H0 nL N pc lv (.long x :: st) := fun H locs ls hP hS h => lv_lstore X.1 X.2.1 d h hn hl (fun ls' h' => kk H locs ls' hP hS h')
theorem qz_astore_n (X : qz_X p s m args meth c own cc nL ret G) {k : Fin 4} {i : Nat} {x : Nat} (hi : (k : Nat) = i) (hn : i < nL) (hl : (i, Value.ref x) :: lv.filter (fun q => !(q.1 == i) && !(q.1 + 1 == i && q.2.category == 2)) = lv') (d : decode cc pc = .ok (.astore_n k, 1))
    (kk : qz_W p l e R s m args below meth c cells slots Q G H0 nL N (pc + 1) lv' st) : qz_W p l e R s m args below meth c cells slots Q G H0 nL N pc lv (.ref x :: st) := fun H locs ls hP hS h => lv_astore_n X.1 X.2.1 d hi h hn hl (fun ls' h' => kk H locs ls' hP hS h')
theorem qz_astore (X : qz_X p s m args meth c own cc nL ret G) {i : Nat} {x : Nat} (hn : i < nL) (hl : (i, Value.ref x) :: lv.filter (fun q => !(q.1 == i) && !(q.1 + 1 == i && q.2.category == 2)) = lv') (d : decode cc pc = .ok (.astore i, 2))
    (kk : qz_W p l e R s m args below meth c cells slots Q G H0 nL N (pc + 2) lv' st) : qz_W p l e R s m args below meth c cells slots Q G H0 nL N pc lv (.ref x :: st) := fun H locs ls hP hS h => lv_astore X.1 X.2.1 d h hn hl (fun ls' h' => kk H locs ls' hP hS h')
theorem qz_iinc (X : qz_X p s m args meth c own cc nL ret G) {i k : Nat} {n : Int} {x v : Int32} (hk : lv[k]? = some (i, .int x)) (hv : x + Int32.ofInt n = v) (hn : i < nL) (hl : (i, Value.int v) :: lv.filter (fun q => !(q.1 == i) && !(q.1 + 1 == i && q.2.category == 2)) = lv') (d : decode cc pc = .ok (.iinc i n, 3))
    (kk : qz_W p l e R s m args below meth c cells slots Q G H0 nL N (pc + 3) lv' st) : qz_W p l e R s m args below meth c cells slots Q G H0 nL N pc lv st := fun H locs ls hP hS h => lv_iinc X.1 X.2.1 d h hk hv hn hl (fun ls' h' => kk H locs ls' hP hS h')
theorem qz_iadd (X : qz_X p s m args meth c own cc nL ret G) {x y : Int32} (d : decode cc pc = .ok (.iadd, 1))
    (kk : qz_W p l e R s m args below meth c cells slots Q G H0 nL N (pc + 1) lv (.int (x + y) :: st)) : qz_W p l e R s m args below meth c cells slots Q G H0 nL N pc lv (.int y :: .int x :: st) := fun H locs ls hP hS h => lv_iadd X.1 X.2.1 d (kk H locs ls hP hS h)
theorem qz_isub (X : qz_X p s m args meth c own cc nL ret G) {x y : Int32} (d : decode cc pc = .ok (.isub, 1))
    (kk : qz_W p l e R s m args below meth c cells slots Q G H0 nL N (pc + 1) lv (.int (x - y) :: st)) : qz_W p l e R s m args below meth c cells slots Q G H0 nL N pc lv (.int y :: .int x :: st) := fun H locs ls hP hS h => lv_isub X.1 X.2.1 d (kk H locs ls hP hS h)
theorem qz_imul (X : qz_X p s m args meth c own cc nL ret G) {x y : Int32} (d : decode cc pc = .ok (.imul, 1))
    (kk : qz_W p l e R s m args below meth c cells slots Q G H0 nL N (pc + 1) lv (.int (x * y) :: st)) : qz_W p l e R s m args below meth c cells slots Q G H0 nL N pc lv (.int y :: .int x :: st) := fun H locs ls hP hS h => lv_imul X.1 X.2.1 d (kk H locs ls hP hS h)
theorem qz_iand (X : qz_X p s m args meth c own cc nL ret G) {x y : Int32} (d : decode cc pc = .ok (.iand, 1))
    (kk : qz_W p l e R s m args below meth c cells slots Q G H0 nL N (pc + 1) lv (.int (x &&& y) :: st)) : qz_W p l e R s m args below meth c cells slots Q G H0 nL N pc lv (.int y :: .int x :: st) := fun H locs ls hP hS h => lv_iand X.1 X.2.1 d (kk H locs ls hP hS h)
theorem qz_ior (X : qz_X p s m args meth c own cc nL ret G) {x y : Int32} (d : decode cc pc = .ok (.ior, 1))
    (kk : qz_W p l e R s m args below meth c cells slots Q G H0 nL N (pc + 1) lv (.int (x ||| y) :: st)) : qz_W p l e R s m args below meth c cells slots Q G H0 nL N pc lv (.int y :: .int x :: st) := fun H locs ls hP hS h => lv_ior X.1 X.2.1 d (kk H locs ls hP hS h)
theorem qz_ixor (X : qz_X p s m args meth c own cc nL ret G) {x y : Int32} (d : decode cc pc = .ok (.ixor, 1))
    (kk : qz_W p l e R s m args below meth c cells slots Q G H0 nL N (pc + 1) lv (.int (x ^^^ y) :: st)) : qz_W p l e R s m args below meth c cells slots Q G H0 nL N pc lv (.int y :: .int x :: st) := fun H locs ls hP hS h => lv_ixor X.1 X.2.1 d (kk H locs ls hP hS h)
theorem qz_ladd (X : qz_X p s m args meth c own cc nL ret G) {x y : Int64} (d : decode cc pc = .ok (.ladd, 1))
    (kk : qz_W p l e R s m args below meth c cells slots Q G H0 nL N (pc + 1) lv (.long (x + y) :: st)) : qz_W p l e R s m args below meth c cells slots Q G H0 nL N pc lv (.long y :: .long x :: st) := fun H locs ls hP hS h => lv_ladd X.1 X.2.1 d (kk H locs ls hP hS h)
theorem qz_lsub (X : qz_X p s m args meth c own cc nL ret G) {x y : Int64} (d : decode cc pc = .ok (.lsub, 1))
    (kk : qz_W p l e R s m args below meth c cells slots Q G H0 nL N (pc + 1) lv (.long (x - y) :: st)) : qz_W p l e R s m args below meth c cells slots Q G H0 nL N pc lv (.long y :: .long x :: st) := fun H locs ls hP hS h => lv_lsub X.1 X.2.1 d (kk H locs ls hP hS h)
theorem qz_lmul (X : qz_X p s m args meth c own cc nL ret G) {x y : Int64} (d : decode cc pc = .ok (.lmul, 1))
    (kk : qz_W p l e R s m args below meth c cells slots Q G H0 nL N (pc + 1) lv (.long (x * y) :: st)) : qz_W p l e R s m args below meth c cells slots Q G H0 nL N pc lv (.long y :: .long x :: st) := fun H locs ls hP hS h => lv_lmul X.1 X.2.1 d (kk H locs ls hP hS h)
theorem qz_land (X : qz_X p s m args meth c own cc nL ret G) {x y : Int64} (d : decode cc pc = .ok (.land, 1))
    (kk : qz_W p l e R s m args below meth c cells slots Q G H0 nL N (pc + 1) lv (.long (x &&& y) :: st)) : qz_W p l e R s m args below meth c cells slots Q G H0 nL N pc lv (.long y :: .long x :: st) := fun H locs ls hP hS h => lv_land X.1 X.2.1 d (kk H locs ls hP hS h)
theorem qz_lor (X : qz_X p s m args meth c own cc nL ret G) {x y : Int64} (d : decode cc pc = .ok (.lor, 1))
    (kk : qz_W p l e R s m args below meth c cells slots Q G H0 nL N (pc + 1) lv (.long (x ||| y) :: st)) : qz_W p l e R s m args below meth c cells slots Q G H0 nL N pc lv (.long y :: .long x :: st) := fun H locs ls hP hS h => lv_lor X.1 X.2.1 d (kk H locs ls hP hS h)
theorem qz_lxor (X : qz_X p s m args meth c own cc nL ret G) {x y : Int64} (d : decode cc pc = .ok (.lxor, 1))
    (kk : qz_W p l e R s m args below meth c cells slots Q G H0 nL N (pc + 1) lv (.long (x ^^^ y) :: st)) : qz_W p l e R s m args below meth c cells slots Q G H0 nL N pc lv (.long y :: .long x :: st) := fun H locs ls hP hS h => lv_lxor X.1 X.2.1 d (kk H locs ls hP hS h)
theorem qz_ineg (X : qz_X p s m args meth c own cc nL ret G) {x : Int32} (d : decode cc pc = .ok (.ineg, 1))
    (kk : qz_W p l e R s m args below meth c cells slots Q G H0 nL N (pc + 1) lv (.int (-x) :: st)) : qz_W p l e R s m args below meth c cells slots Q G H0 nL N pc lv (.int x :: st) := fun H locs ls hP hS h => lv_ineg X.1 X.2.1 d (kk H locs ls hP hS h)
theorem qz_lneg (X : qz_X p s m args meth c own cc nL ret G) {x : Int64} (d : decode cc pc = .ok (.lneg, 1))
    (kk : qz_W p l e R s m args below meth c cells slots Q G H0 nL N (pc + 1) lv (.long (-x) :: st)) : qz_W p l e R s m args below meth c cells slots Q G H0 nL N pc lv (.long x :: st) := fun H locs ls hP hS h => lv_lneg X.1 X.2.1 d (kk H locs ls hP hS h)
theorem qz_idiv (X : qz_X p s m args meth c own cc nL ret G) {x y : Int32} (hne : ¬ y = 0) (d : decode cc pc = .ok (.idiv, 1))
    (kk : qz_W p l e R s m args below meth c cells slots Q G H0 nL N (pc + 1) lv (.int (x / y) :: st)) : qz_W p l e R s m args below meth c cells slots Q G H0 nL N pc lv (.int y :: .int x :: st) := fun H locs ls hP hS h => lv_idiv X.1 X.2.1 d hne (kk H locs ls hP hS h)
theorem qz_irem (X : qz_X p s m args meth c own cc nL ret G) {x y : Int32} (hne : ¬ y = 0) (d : decode cc pc = .ok (.irem, 1))
    (kk : qz_W p l e R s m args below meth c cells slots Q G H0 nL N (pc + 1) lv (.int (x - x / y * y) :: st)) : qz_W p l e R s m args below meth c cells slots Q G H0 nL N pc lv (.int y :: .int x :: st) := fun H locs ls hP hS h => lv_irem X.1 X.2.1 d hne (kk H locs ls hP hS h)
theorem qz_ldiv (X : qz_X p s m args meth c own cc nL ret G) {x y : Int64} (hne : ¬ y = 0) (d : decode cc pc = .ok (.ldiv, 1))
    (kk : qz_W p l e R s m args below meth c cells slots Q G H0 nL N (pc + 1) lv (.long (x / y) :: st)) : qz_W p l e R s m args below meth c cells slots Q G H0 nL N pc lv (.long y :: .long x :: st) := fun H locs ls hP hS h => lv_ldiv X.1 X.2.1 d hne (kk H locs ls hP hS h)
theorem qz_lrem (X : qz_X p s m args meth c own cc nL ret G) {x y : Int64} (hne : ¬ y = 0) (d : decode cc pc = .ok (.lrem, 1))
    (kk : qz_W p l e R s m args below meth c cells slots Q G H0 nL N (pc + 1) lv (.long (x - x / y * y) :: st)) : qz_W p l e R s m args below meth c cells slots Q G H0 nL N pc lv (.long y :: .long x :: st) := fun H locs ls hP hS h => lv_lrem X.1 X.2.1 d hne (kk H locs ls hP hS h)
theorem qz_ishl (X : qz_X p s m args meth c own cc nL ret G) {x y : Int32} (d : decode cc pc = .ok (.ishl, 1))
    (kk : qz_W p l e R s m args below meth c cells slots Q G H0 nL N (pc + 1) lv (.int (x <<< (y &&& 31)) :: st)) : qz_W p l e R s m args below meth c cells slots Q G H0 nL N pc lv (.int y :: .int x :: st) := fun H locs ls hP hS h => lv_ishl X.1 X.2.1 d (kk H locs ls hP hS h)
theorem qz_ishr (X : qz_X p s m args meth c own cc nL ret G) {x y : Int32} (d : decode cc pc = .ok (.ishr, 1))
    (kk : qz_W p l e R s m args below meth c cells slots Q G H0 nL N (pc + 1) lv (.int (x >>> (y &&& 31)) :: st)) : qz_W p l e R s m args below meth c cells slots Q G H0 nL N pc lv (.int y :: .int x :: st) := fun H locs ls hP hS h => lv_ishr X.1 X.2.1 d (kk H locs ls hP hS h)
theorem qz_lshl (X : qz_X p s m args meth c own cc nL ret G) {x : Int64} {y : Int32} (d : decode cc pc = .ok (.lshl, 1))
    (kk : qz_W p l e R s m args below meth c cells slots Q G H0 nL N (pc + 1) lv (.long (x <<< (y.toInt64 &&& 63)) :: st)) : qz_W p l e R s m args below meth c cells slots Q G H0 nL N pc lv (.int y :: .long x :: st) := fun H locs ls hP hS h => lv_lshl X.1 X.2.1 d rfl (kk H locs ls hP hS h)
theorem qz_lshr (X : qz_X p s m args meth c own cc nL ret G) {x : Int64} {y : Int32} (d : decode cc pc = .ok (.lshr, 1))
    (kk : qz_W p l e R s m args below meth c cells slots Q G H0 nL N (pc + 1) lv (.long (x >>> (y.toInt64 &&& 63)) :: st)) : qz_W p l e R s m args below meth c cells slots Q G H0 nL N pc lv (.int y :: .long x :: st) := fun H locs ls hP hS h => lv_lshr X.1 X.2.1 d rfl (kk H locs ls hP hS h)
theorem qz_lushr (X : qz_X p s m args meth c own cc nL ret G) {x : Int64} {y : Int32} (d : decode cc pc = .ok (.lushr, 1))
    (kk : qz_W p l e R s m args below meth c cells slots Q G H0 nL N (pc + 1) lv (.long ((x.toUInt64 >>> (y.toInt64.toUInt64 &&& Int64.toUInt64 63)).toInt64) :: st)) : qz_W p l e R s m args below meth c cells slots Q G H0 nL N pc lv (.int y :: .long x :: st) := fun H locs ls hP hS h => lv_lushr X.1 X.2.1 d rfl (kk H locs ls hP hS h)
theorem qz_i2l (X : qz_X p s m args meth c own cc nL ret G) {x : Int32} (d : decode cc pc = .ok (.i2l, 1))
    (kk : qz_W p l e R s m args below meth c cells slots Q G H0 nL N (pc + 1) lv (.long x.toInt64 :: st)) : qz_W p l e R s m args below meth c cells slots Q G H0 nL N pc lv (.int x :: st) := fun H locs ls hP hS h => lv_i2l X.1 X.2.1 d rfl (kk H locs ls hP hS h)
theorem qz_l2i (X : qz_X p s m args meth c own cc nL ret G) {x : Int64} (d : decode cc pc = .ok (.l2i, 1))
    (kk : qz_W p l e R s m args below meth c cells slots Q G H0 nL N (pc + 1) lv (.int x.toInt32 :: st)) : qz_W p l e R s m args below meth c cells slots Q G H0 nL N pc lv (.long x :: st) := fun H locs ls hP hS h => lv_l2i X.1 X.2.1 d rfl (kk H locs ls hP hS h)
theorem qz_lcmp (X : qz_X p s m args meth c own cc nL ret G) {x y : Int64} (d : decode cc pc = .ok (.lcmp, 1))
    (kk : qz_W p l e R s m args below meth c cells slots Q G H0 nL N (pc + 1) lv (.int (lg_cmp x y) :: st)) : qz_W p l e R s m args below meth c cells slots Q G H0 nL N pc lv (.long y :: .long x :: st) := fun H locs ls hP hS h => W.lcmp X.1 X.2.1 d (kk H locs ls hP hS h)
theorem qz_dup (X : qz_X p s m args meth c own cc nL ret G) {a : Value} (ha : a.category = 1) (d : decode cc pc = .ok (.dup, 1))
    (kk : qz_W p l e R s m args below meth c cells slots Q G H0 nL N (pc + 1) lv (a :: a :: st)) : qz_W p l e R s m args below meth c cells slots Q G H0 nL N pc lv (a :: st) := fun H locs ls hP hS h => lv_dup X.1 X.2.1 d ha (kk H locs ls hP hS h)
theorem qz_pop (X : qz_X p s m args meth c own cc nL ret G) {a : Value} (ha : a.category = 1) (d : decode cc pc = .ok (.pop, 1))
    (kk : qz_W p l e R s m args below meth c cells slots Q G H0 nL N (pc + 1) lv (st)) : qz_W p l e R s m args below meth c cells slots Q G H0 nL N pc lv (a :: st) := fun H locs ls hP hS h => lv_pop X.1 X.2.1 d ha (kk H locs ls hP hS h)
theorem qz_pop2 (X : qz_X p s m args meth c own cc nL ret G) {a : Value} (ha : a.category = 2) (d : decode cc pc = .ok (.pop2, 1))
    (kk : qz_W p l e R s m args below meth c cells slots Q G H0 nL N (pc + 1) lv (st)) : qz_W p l e R s m args below meth c cells slots Q G H0 nL N pc lv (a :: st) := fun H locs ls hP hS h => lv_pop2_2 X.1 X.2.1 d ha (kk H locs ls hP hS h)
theorem qz_dup_x1 (X : qz_X p s m args meth c own cc nL ret G) {a b : Value} (ha : a.category = 1) (hb : b.category = 1) (d : decode cc pc = .ok (.dup_x1, 1))
    (kk : qz_W p l e R s m args below meth c cells slots Q G H0 nL N (pc + 1) lv (a :: b :: a :: st)) : qz_W p l e R s m args below meth c cells slots Q G H0 nL N pc lv (a :: b :: st) := fun H locs ls hP hS h => lv_dup_x1 X.1 X.2.1 d ha hb (kk H locs ls hP hS h)
theorem qz_dup_x2 (X : qz_X p s m args meth c own cc nL ret G) {a b f : Value} (ha : a.category = 1) (hb : b.category = 1) (hf : f.category = 1) (d : decode cc pc = .ok (.dup_x2, 1))
    (kk : qz_W p l e R s m args below meth c cells slots Q G H0 nL N (pc + 1) lv (a :: b :: f :: a :: st)) : qz_W p l e R s m args below meth c cells slots Q G H0 nL N pc lv (a :: b :: f :: st) := fun H locs ls hP hS h => lv_dup_x2 X.1 X.2.1 d ha hb hf (kk H locs ls hP hS h)
theorem qz_dup2_11 (X : qz_X p s m args meth c own cc nL ret G) {a b : Value} (ha : a.category = 1) (hb : b.category = 1) (d : decode cc pc = .ok (.dup2, 1))
    (kk : qz_W p l e R s m args below meth c cells slots Q G H0 nL N (pc + 1) lv (a :: b :: a :: b :: st)) : qz_W p l e R s m args below meth c cells slots Q G H0 nL N pc lv (a :: b :: st) := fun H locs ls hP hS h => lv_dup2_11 X.1 X.2.1 d ha hb (kk H locs ls hP hS h)
theorem qz_dup2_2 (X : qz_X p s m args meth c own cc nL ret G) {a : Value} (ha : a.category = 2) (d : decode cc pc = .ok (.dup2, 1))
    (kk : qz_W p l e R s m args below meth c cells slots Q G H0 nL N (pc + 1) lv (a :: a :: st)) : qz_W p l e R s m args below meth c cells slots Q G H0 nL N pc lv (a :: st) := fun H locs ls hP hS h => lv_dup2_2 X.1 X.2.1 d ha (kk H locs ls hP hS h)
theorem qz_dup2_x1 (X : qz_X p s m args meth c own cc nL ret G) {a b : Value} (ha : a.category = 2) (hb : b.category = 1) (d : decode cc pc = .ok (.dup2_x1, 1))
    (kk : qz_W p l e R s m args below meth c cells slots Q G H0 nL N (pc + 1) lv (a :: b :: a :: st)) : qz_W p l e R s m args below meth c cells slots Q G H0 nL N pc lv (a :: b :: st) := fun H locs ls hP hS h => lv_dup2_x1_2 X.1 X.2.1 d ha hb (kk H locs ls hP hS h)
theorem qz_dup2_x2 (X : qz_X p s m args meth c own cc nL ret G) {a b f : Value} (ha : a.category = 2) (hb : b.category = 1) (hf : f.category = 1) (d : decode cc pc = .ok (.dup2_x2, 1))
    (kk : qz_W p l e R s m args below meth c cells slots Q G H0 nL N (pc + 1) lv (a :: b :: f :: a :: st)) : qz_W p l e R s m args below meth c cells slots Q G H0 nL N pc lv (a :: b :: f :: st) := fun H locs ls hP hS h => lv_dup2_x2_2 X.1 X.2.1 d ha hb hf (kk H locs ls hP hS h)
theorem qz_if_eq (X : qz_X p s m args meth c own cc nL ret G) {x : Int32} {off : Int} {tgt : Nat} (ht : (pc : Int) + off = (tgt : Int)) (d : decode cc pc = .ok (.ifCond .eq off, 3)) {α : Type} {r : α} {fa fb : Option α} {dc : Decidable (x = 0)} (h : @ite (Option α) (x = 0) dc fa fb = some r)
    (kt : x = 0 → fa = some r → qz_W p l e R s m args below meth c cells slots Q G H0 nL N tgt lv st) (kf : ¬ (x = 0) → fb = some r → qz_W p l e R s m args below meth c cells slots Q G H0 nL N (pc + 3) lv st) : qz_W p l e R s m args below meth c cells slots Q G H0 nL N pc lv (.int x :: st) := fun H locs ls hP hS hl => lv_if_eq X.1 X.2.1 d ht (fun hc => kt hc (by rw [if_pos hc] at h; exact h) H locs ls hP hS hl) (fun hc => kf hc (by rw [if_neg hc] at h; exact h) H locs ls hP hS hl)
theorem qz_if_lt (X : qz_X p s m args meth c own cc nL ret G) {x : Int32} {off : Int} {tgt : Nat} (ht : (pc : Int) + off = (tgt : Int)) (d : decode cc pc = .ok (.ifCond .lt off, 3)) {α : Type} {r : α} {fa fb : Option α} {dc : Decidable (x < 0)} (h : @ite (Option α) (x < 0) dc fa fb = some r)
    (kt : x < 0 → fa = some r → qz_W p l e R s m args below meth c cells slots Q G H0 nL N tgt lv st) (kf : ¬ (x < 0) → fb = some r → qz_W p l e R s m args below meth c cells slots Q G H0 nL N (pc + 3) lv st) : qz_W p l e R s m args below meth c cells slots Q G H0 nL N pc lv (.int x :: st) := fun H locs ls hP hS hl => lv_if_lt X.1 X.2.1 d ht (fun hc => kt hc (by rw [if_pos hc] at h; exact h) H locs ls hP hS hl) (fun hc => kf hc (by rw [if_neg hc] at h; exact h) H locs ls hP hS hl)
theorem qz_if_ge (X : qz_X p s m args meth c own cc nL ret G) {x : Int32} {off : Int} {tgt : Nat} (ht : (pc : Int) + off = (tgt : Int)) (d : decode cc pc = .ok (.ifCond .ge off, 3)) {α : Type} {r : α} {fa fb : Option α} {dc : Decidable (0 ≤ x)} (h : @ite (Option α) (0 ≤ x) dc fa fb = some r)
    (kt : 0 ≤ x → fa = some r → qz_W p l e R s m args below meth c cells slots Q G H0 nL N tgt lv st) (kf : ¬ (0 ≤ x) → fb = some r → qz_W p l e R s m args below meth c cells slots Q G H0 nL N (pc + 3) lv st) : qz_W p l e R s m args below meth c cells slots Q G H0 nL N pc lv (.int x :: st) := fun H locs ls hP hS hl => lv_if_ge X.1 X.2.1 d ht (fun hc => kt hc (by rw [if_pos hc] at h; exact h) H locs ls hP hS hl) (fun hc => kf hc (by rw [if_neg hc] at h; exact h) H locs ls hP hS hl)
theorem qz_if_gt (X : qz_X p s m args meth c own cc nL ret G) {x : Int32} {off : Int} {tgt : Nat} (ht : (pc : Int) + off = (tgt : Int)) (d : decode cc pc = .ok (.ifCond .gt off, 3)) {α : Type} {r : α} {fa fb : Option α} {dc : Decidable (0 < x)} (h : @ite (Option α) (0 < x) dc fa fb = some r)
    (kt : 0 < x → fa = some r → qz_W p l e R s m args below meth c cells slots Q G H0 nL N tgt lv st) (kf : ¬ (0 < x) → fb = some r → qz_W p l e R s m args below meth c cells slots Q G H0 nL N (pc + 3) lv st) : qz_W p l e R s m args below meth c cells slots Q G H0 nL N pc lv (.int x :: st) := fun H locs ls hP hS hl => lv_if_gt X.1 X.2.1 d ht (fun hc => kt hc (by rw [if_pos hc] at h; exact h) H locs ls hP hS hl) (fun hc => kf hc (by rw [if_neg hc] at h; exact h) H locs ls hP hS hl)
theorem qz_if_le (X : qz_X p s m args meth c own cc nL ret G) {x : Int32} {off : Int} {tgt : Nat} (ht : (pc : Int) + off = (tgt : Int)) (d : decode cc pc = .ok (.ifCond .le off, 3)) {α : Type} {r : α} {fa fb : Option α} {dc : Decidable (x ≤ 0)} (h : @ite (Option α) (x ≤ 0) dc fa fb = some r)
    (kt : x ≤ 0 → fa = some r → qz_W p l e R s m args below meth c cells slots Q G H0 nL N tgt lv st) (kf : ¬ (x ≤ 0) → fb = some r → qz_W p l e R s m args below meth c cells slots Q G H0 nL N (pc + 3) lv st) : qz_W p l e R s m args below meth c cells slots Q G H0 nL N pc lv (.int x :: st) := fun H locs ls hP hS hl => lv_if_le X.1 X.2.1 d ht (fun hc => kt hc (by rw [if_pos hc] at h; exact h) H locs ls hP hS hl) (fun hc => kf hc (by rw [if_neg hc] at h; exact h) H locs ls hP hS hl)
theorem qz_if_ne (X : qz_X p s m args meth c own cc nL ret G) {x : Int32} {off : Int} {tgt : Nat} (ht : (pc : Int) + off = (tgt : Int)) (d : decode cc pc = .ok (.ifCond .ne off, 3)) {α : Type} {r : α} {fa fb : Option α} {dc : Decidable (x = 0)} (h : @ite (Option α) (x = 0) dc fa fb = some r)
    (kt : ¬ (x = 0) → fb = some r → qz_W p l e R s m args below meth c cells slots Q G H0 nL N tgt lv st) (kf : x = 0 → fa = some r → qz_W p l e R s m args below meth c cells slots Q G H0 nL N (pc + 3) lv st) : qz_W p l e R s m args below meth c cells slots Q G H0 nL N pc lv (.int x :: st) := fun H locs ls hP hS hl => lv_if_ne X.1 X.2.1 d ht (fun hc => kt hc (by rw [if_neg hc] at h; exact h) H locs ls hP hS hl) (fun hc => kf hc (by rw [if_pos hc] at h; exact h) H locs ls hP hS hl)
theorem qz_icmp_eq (X : qz_X p s m args meth c own cc nL ret G) {x y : Int32} {off : Int} {tgt : Nat} (ht : (pc : Int) + off = (tgt : Int)) (d : decode cc pc = .ok (.if_icmp .eq off, 3)) {α : Type} {r : α} {fa fb : Option α} {dc : Decidable (x = y)} (h : @ite (Option α) (x = y) dc fa fb = some r)
    (kt : x = y → fa = some r → qz_W p l e R s m args below meth c cells slots Q G H0 nL N tgt lv st) (kf : ¬ (x = y) → fb = some r → qz_W p l e R s m args below meth c cells slots Q G H0 nL N (pc + 3) lv st) : qz_W p l e R s m args below meth c cells slots Q G H0 nL N pc lv (.int y :: .int x :: st) := fun H locs ls hP hS hl => lv_icmp_eq X.1 X.2.1 d ht (fun hc => kt hc (by rw [if_pos hc] at h; exact h) H locs ls hP hS hl) (fun hc => kf hc (by rw [if_neg hc] at h; exact h) H locs ls hP hS hl)
theorem qz_icmp_lt (X : qz_X p s m args meth c own cc nL ret G) {x y : Int32} {off : Int} {tgt : Nat} (ht : (pc : Int) + off = (tgt : Int)) (d : decode cc pc = .ok (.if_icmp .lt off, 3)) {α : Type} {r : α} {fa fb : Option α} {dc : Decidable (x < y)} (h : @ite (Option α) (x < y) dc fa fb = some r)
    (kt : x < y → fa = some r → qz_W p l e R s m args below meth c cells slots Q G H0 nL N tgt lv st) (kf : ¬ (x < y) → fb = some r → qz_W p l e R s m args below meth c cells slots Q G H0 nL N (pc + 3) lv st) : qz_W p l e R s m args below meth c cells slots Q G H0 nL N pc lv (.int y :: .int x :: st) := fun H locs ls hP hS hl => lv_icmp_lt X.1 X.2.1 d ht (fun hc => kt hc (by rw [if_pos hc] at h; exact h) H locs ls hP hS hl) (fun hc => kf hc (by rw [if_neg hc] at h; exact h) H locs ls hP hS hl)
theorem qz_icmp_ge (X : qz_X p s m args meth c own cc nL ret G) {x y : Int32} {off : Int} {tgt : Nat} (ht : (pc : Int) + off = (tgt : Int)) (d : decode cc pc = .ok (.if_icmp .ge off, 3)) {α : Type} {r : α} {fa fb : Option α} {dc : Decidable (y ≤ x)} (h : @ite (Option α) (y ≤ x) dc fa fb = some r)
    (kt : y ≤ x → fa = some r → qz_W p l e R s m args below meth c cells slots Q G H0 nL N tgt lv st) (kf : ¬ (y ≤ x) → fb = some r → qz_W p l e R s m args below meth c cells slots Q G H0 nL N (pc + 3) lv st) : qz_W p l e R s m args below meth c cells slots Q G H0 nL N pc lv (.int y :: .int x :: st) := fun H locs ls hP hS hl => lv_icmp_ge X.1 X.2.1 d ht (fun hc => kt hc (by rw [if_pos hc] at h; exact h) H locs ls hP hS hl) (fun hc => kf hc (by rw [if_neg hc] at h; exact h) H locs ls hP hS hl)
theorem qz_icmp_gt (X : qz_X p s m args meth c own cc nL ret G) {x y : Int32} {off : Int} {tgt : Nat} (ht : (pc : Int) + off = (tgt : Int)) (d : decode cc pc = .ok (.if_icmp .gt off, 3)) {α : Type} {r : α} {fa fb : Option α} {dc : Decidable (y < x)} (h : @ite (Option α) (y < x) dc fa fb = some r)
    (kt : y < x → fa = some r → qz_W p l e R s m args below meth c cells slots Q G H0 nL N tgt lv st) (kf : ¬ (y < x) → fb = some r → qz_W p l e R s m args below meth c cells slots Q G H0 nL N (pc + 3) lv st) : qz_W p l e R s m args below meth c cells slots Q G H0 nL N pc lv (.int y :: .int x :: st) := fun H locs ls hP hS hl => lv_icmp_gt X.1 X.2.1 d ht (fun hc => kt hc (by rw [if_pos hc] at h; exact h) H locs ls hP hS hl) (fun hc => kf hc (by rw [if_neg hc] at h; exact h) H locs ls hP hS hl)
theorem qz_icmp_le (X : qz_X p s m args meth c own cc nL ret G) {x y : Int32} {off : Int} {tgt : Nat} (ht : (pc : Int) + off = (tgt : Int)) (d : decode cc pc = .ok (.if_icmp .le off, 3)) {α : Type} {r : α} {fa fb : Option α} {dc : Decidable (x ≤ y)} (h : @ite (Option α) (x ≤ y) dc fa fb = some r)
    (kt : x ≤ y → fa = some r → qz_W p l e R s m args below meth c cells slots Q G H0 nL N tgt lv st) (kf : ¬ (x ≤ y) → fb = some r → qz_W p l e R s m args below meth c cells slots Q G H0 nL N (pc + 3) lv st) : qz_W p l e R s m args below meth c cells slots Q G H0 nL N pc lv (.int y :: .int x :: st) := fun H locs ls hP hS hl => lv_icmp_le X.1 X.2.1 d ht (fun hc => kt hc (by rw [if_pos hc] at h; exact h) H locs ls hP hS hl) (fun hc => kf hc (by rw [if_neg hc] at h; exact h) H locs ls hP hS hl)
theorem qz_icmp_ne (X : qz_X p s m args meth c own cc nL ret G) {x y : Int32} {off : Int} {tgt : Nat} (ht : (pc : Int) + off = (tgt : Int)) (d : decode cc pc = .ok (.if_icmp .ne off, 3)) {α : Type} {r : α} {fa fb : Option α} {dc : Decidable (x = y)} (h : @ite (Option α) (x = y) dc fa fb = some r)
    (kt : ¬ (x = y) → fb = some r → qz_W p l e R s m args below meth c cells slots Q G H0 nL N tgt lv st) (kf : x = y → fa = some r → qz_W p l e R s m args below meth c cells slots Q G H0 nL N (pc + 3) lv st) : qz_W p l e R s m args below meth c cells slots Q G H0 nL N pc lv (.int y :: .int x :: st) := fun H locs ls hP hS hl => lv_icmp_ne X.1 X.2.1 d ht (fun hc => kt hc (by rw [if_neg hc] at h; exact h) H locs ls hP hS hl) (fun hc => kf hc (by rw [if_pos hc] at h; exact h) H locs ls hP hS hl)
theorem qz_lcmp_eq (X : qz_X p s m args meth c own cc nL ret G) {x y : Int64} {off : Int} {tgt : Nat} (ht : ((pc + 1 : Nat) : Int) + off = (tgt : Int)) (d1 : decode cc pc = .ok (.lcmp, 1)) (d : decode cc (pc + 1) = .ok (.ifCond .eq off, 3)) {α : Type} {r : α} {fa fb : Option α} {dc : Decidable (x = y)} (h : @ite (Option α) (x = y) dc fa fb = some r)
    (kt : x = y → fa = some r → qz_W p l e R s m args below meth c cells slots Q G H0 nL N tgt lv st) (kf : ¬ (x = y) → fb = some r → qz_W p l e R s m args below meth c cells slots Q G H0 nL N (pc + 1 + 3) lv st) : qz_W p l e R s m args below meth c cells slots Q G H0 nL N pc lv (.long y :: .long x :: st) := fun H locs ls hP hS hl => W.lcmp X.1 X.2.1 d1 (lv_if_eq X.1 X.2.1 d ht (fun hc => kt ((lg_cmp_eq x y).mp hc) (by rw [if_pos ((lg_cmp_eq x y).mp hc)] at h; exact h) H locs ls hP hS hl) (fun hc => kf (fun z => hc ((lg_cmp_eq x y).mpr z)) (by rw [if_neg (fun z => hc ((lg_cmp_eq x y).mpr z))] at h; exact h) H locs ls hP hS hl))
theorem qz_lcmp_lt (X : qz_X p s m args meth c own cc nL ret G) {x y : Int64} {off : Int} {tgt : Nat} (ht : ((pc + 1 : Nat) : Int) + off = (tgt : Int)) (d1 : decode cc pc = .ok (.lcmp, 1)) (d : decode cc (pc + 1) = .ok (.ifCond .lt off, 3)) {α : Type} {r : α} {fa fb : Option α} {dc : Decidable (x < y)} (h : @ite (Option α) (x < y) dc fa fb = some r)
    (kt : x < y → fa = some r → qz_W p l e R s m args below meth c cells slots Q G H0 nL N tgt lv st) (kf : ¬ (x < y) → fb = some r → qz_W p l e R s m args below meth c cells slots Q G H0 nL N (pc + 1 + 3) lv st) : qz_W p l e R s m args below meth c cells slots Q G H0 nL N pc lv (.long y :: .long x :: st) := fun H locs ls hP hS hl => W.lcmp X.1 X.2.1 d1 (lv_if_lt X.1 X.2.1 d ht (fun hc => kt ((lg_cmp_lt x y).mp hc) (by rw [if_pos ((lg_cmp_lt x y).mp hc)] at h; exact h) H locs ls hP hS hl) (fun hc => kf (fun z => hc ((lg_cmp_lt x y).mpr z)) (by rw [if_neg (fun z => hc ((lg_cmp_lt x y).mpr z))] at h; exact h) H locs ls hP hS hl))
theorem qz_lcmp_ge (X : qz_X p s m args meth c own cc nL ret G) {x y : Int64} {off : Int} {tgt : Nat} (ht : ((pc + 1 : Nat) : Int) + off = (tgt : Int)) (d1 : decode cc pc = .ok (.lcmp, 1)) (d : decode cc (pc + 1) = .ok (.ifCond .ge off, 3)) {α : Type} {r : α} {fa fb : Option α} {dc : Decidable (y ≤ x)} (h : @ite (Option α) (y ≤ x) dc fa fb = some r)
    (kt : y ≤ x → fa = some r → qz_W p l e R s m args below meth c cells slots Q G H0 nL N tgt lv st) (kf : ¬ (y ≤ x) → fb = some r → qz_W p l e R s m args below meth c cells slots Q G H0 nL N (pc + 1 + 3) lv st) : qz_W p l e R s m args below meth c cells slots Q G H0 nL N pc lv (.long y :: .long x :: st) := fun H locs ls hP hS hl => W.lcmp X.1 X.2.1 d1 (lv_if_ge X.1 X.2.1 d ht (fun hc => kt ((lg_cmp_ge x y).mp hc) (by rw [if_pos ((lg_cmp_ge x y).mp hc)] at h; exact h) H locs ls hP hS hl) (fun hc => kf (fun z => hc ((lg_cmp_ge x y).mpr z)) (by rw [if_neg (fun z => hc ((lg_cmp_ge x y).mpr z))] at h; exact h) H locs ls hP hS hl))
theorem qz_lcmp_gt (X : qz_X p s m args meth c own cc nL ret G) {x y : Int64} {off : Int} {tgt : Nat} (ht : ((pc + 1 : Nat) : Int) + off = (tgt : Int)) (d1 : decode cc pc = .ok (.lcmp, 1)) (d : decode cc (pc + 1) = .ok (.ifCond .gt off, 3)) {α : Type} {r : α} {fa fb : Option α} {dc : Decidable (y < x)} (h : @ite (Option α) (y < x) dc fa fb = some r)
    (kt : y < x → fa = some r → qz_W p l e R s m args below meth c cells slots Q G H0 nL N tgt lv st) (kf : ¬ (y < x) → fb = some r → qz_W p l e R s m args below meth c cells slots Q G H0 nL N (pc + 1 + 3) lv st) : qz_W p l e R s m args below meth c cells slots Q G H0 nL N pc lv (.long y :: .long x :: st) := fun H locs ls hP hS hl => W.lcmp X.1 X.2.1 d1 (lv_if_gt X.1 X.2.1 d ht (fun hc => kt ((lg_cmp_gt x y).mp hc) (by rw [if_pos ((lg_cmp_gt x y).mp hc)] at h; exact h) H locs ls hP hS hl) (fun hc => kf (fun z => hc ((lg_cmp_gt x y).mpr z)) (by rw [if_neg (fun z => hc ((lg_cmp_gt x y).mpr z))] at h; exact h) H locs ls hP hS hl))
theorem qz_lcmp_le (X : qz_X p s m args meth c own cc nL ret G) {x y : Int64} {off : Int} {tgt : Nat} (ht : ((pc + 1 : Nat) : Int) + off = (tgt : Int)) (d1 : decode cc pc = .ok (.lcmp, 1)) (d : decode cc (pc + 1) = .ok (.ifCond .le off, 3)) {α : Type} {r : α} {fa fb : Option α} {dc : Decidable (x ≤ y)} (h : @ite (Option α) (x ≤ y) dc fa fb = some r)
    (kt : x ≤ y → fa = some r → qz_W p l e R s m args below meth c cells slots Q G H0 nL N tgt lv st) (kf : ¬ (x ≤ y) → fb = some r → qz_W p l e R s m args below meth c cells slots Q G H0 nL N (pc + 1 + 3) lv st) : qz_W p l e R s m args below meth c cells slots Q G H0 nL N pc lv (.long y :: .long x :: st) := fun H locs ls hP hS hl => W.lcmp X.1 X.2.1 d1 (lv_if_le X.1 X.2.1 d ht (fun hc => kt ((lg_cmp_le x y).mp hc) (by rw [if_pos ((lg_cmp_le x y).mp hc)] at h; exact h) H locs ls hP hS hl) (fun hc => kf (fun z => hc ((lg_cmp_le x y).mpr z)) (by rw [if_neg (fun z => hc ((lg_cmp_le x y).mpr z))] at h; exact h) H locs ls hP hS hl))
theorem qz_lcmp_ne (X : qz_X p s m args meth c own cc nL ret G) {x y : Int64} {off : Int} {tgt : Nat} (ht : ((pc + 1 : Nat) : Int) + off = (tgt : Int)) (d1 : decode cc pc = .ok (.lcmp, 1)) (d : decode cc (pc + 1) = .ok (.ifCond .ne off, 3)) {α : Type} {r : α} {fa fb : Option α} {dc : Decidable (x = y)} (h : @ite (Option α) (x = y) dc fa fb = some r)
    (kt : ¬ (x = y) → fb = some r → qz_W p l e R s m args below meth c cells slots Q G H0 nL N tgt lv st) (kf : x = y → fa = some r → qz_W p l e R s m args below meth c cells slots Q G H0 nL N (pc + 1 + 3) lv st) : qz_W p l e R s m args below meth c cells slots Q G H0 nL N pc lv (.long y :: .long x :: st) := fun H locs ls hP hS hl => W.lcmp X.1 X.2.1 d1 (lv_if_ne X.1 X.2.1 d ht (fun hc => kt (fun z => hc ((lg_cmp_eq x y).mpr z)) (by rw [if_neg (fun z => hc ((lg_cmp_eq x y).mpr z))] at h; exact h) H locs ls hP hS hl) (fun hc => kf ((lg_cmp_eq x y).mp hc) (by rw [if_pos ((lg_cmp_eq x y).mp hc)] at h; exact h) H locs ls hP hS hl))
theorem qz_goto (X : qz_X p s m args meth c own cc nL ret G) {off : Int} {tgt : Nat} (ht : (pc : Int) + off = (tgt : Int)) (d : decode cc pc = .ok (.goto off, 3)) (kk : qz_W p l e R s m args below meth c cells slots Q G H0 nL N tgt lv st) : qz_W p l e R s m args below meth c cells slots Q G H0 nL N pc lv st := fun H locs ls hP hS hl => lv_goto X.1 X.2.1 d ht (kk H locs ls hP hS hl)
theorem qz_ifnull (X : qz_X p s m args meth c own cc nL ret G) {x : Nat} {off : Int} (d : decode cc pc = .ok (.ifnull off, 3)) (kk : qz_W p l e R s m args below meth c cells slots Q G H0 nL N (pc + 3) lv st) : qz_W p l e R s m args below meth c cells slots Q G H0 nL N pc lv (.ref x :: st) := fun H locs ls hP hS hl => lv_ifnull X.1 X.2.1 d (kk H locs ls hP hS hl)
theorem qz_ifnullN (X : qz_X p s m args meth c own cc nL ret G) {off : Int} {tgt : Nat} (ht : (pc : Int) + off = (tgt : Int)) (d : decode cc pc = .ok (.ifnull off, 3)) (kk : qz_W p l e R s m args below meth c cells slots Q G H0 nL N tgt lv st) : qz_W p l e R s m args below meth c cells slots Q G H0 nL N pc lv (.null :: st) := fun H locs ls hP hS hl => lv_ifnullN X.1 X.2.1 d ht (kk H locs ls hP hS hl)
theorem qz_ifnonnull (X : qz_X p s m args meth c own cc nL ret G) {x : Nat} {off : Int} {tgt : Nat} (ht : (pc : Int) + off = (tgt : Int)) (d : decode cc pc = .ok (.ifnonnull off, 3)) (kk : qz_W p l e R s m args below meth c cells slots Q G H0 nL N tgt lv st) : qz_W p l e R s m args below meth c cells slots Q G H0 nL N pc lv (.ref x :: st) := fun H locs ls hP hS hl => lv_ifnonnull X.1 X.2.1 d ht (kk H locs ls hP hS hl)
theorem qz_ifnonnullN (X : qz_X p s m args meth c own cc nL ret G) {off : Int} (d : decode cc pc = .ok (.ifnonnull off, 3)) (kk : qz_W p l e R s m args below meth c cells slots Q G H0 nL N (pc + 3) lv st) : qz_W p l e R s m args below meth c cells slots Q G H0 nL N pc lv (.null :: st) := fun H locs ls hP hS hl => lv_ifnonnullN X.1 X.2.1 d (kk H locs ls hP hS hl)
theorem qz_get (X : qz_X p s m args meth c own cc nL ret G) {index c0 k cnt i : Nat} {t : FieldType × Nat} {fin : Bool} {v : Value} (F : qz_Fd own index c0 k cnt t fin) (hi : i < cnt) (hv : qz_fv G.2.2 N c0 i k t = v) (d : decode cc pc = .ok (.getfield index, 3))
    (kk : qz_W p l e R s m args below meth c cells slots Q G H0 nL N (pc + 3) lv (v :: st)) : qz_W p l e R s m args below meth c cells slots Q G H0 nL N pc lv (.ref (G.2.2 c0 i) :: st) := by
  obtain ⟨hx, hb, hml, hown, hts, hK, hD, -, -⟩ := X
  obtain ⟨ci, ts, C, T, n, ty0, h1, h2, h3, h4, h5, h6, h7, h8, h9, h10, h11⟩ := F
  intro H locs ls hP hS hl
  have hp := hP c0 i _ h1 hi
  refine va_get (D := G.1) (cl := qz_cl) (tys := []) (ws := [(G.2.2 c0 i, .inr (ci, qz_fs G.2.2 N c0 i 0 ts))]) hx hb hts h3 hown hK.1 (fun k q hq => ?_) 0 rfl h2 k h4 (hts _ h6) (fun _ h => h) (v := v) ?_ d (kk H locs ls hP hS hl)
  · cases k with
    | zero => cases hq; exact hp
    | succ k => simp at hq
  · rw [qz_fs_at G.2.2 N c0 i ts 0 k t h5, Nat.zero_add, hv]
theorem qz_put (X : qz_X p s m args meth c own cc nL ret G) {N' : qz_N} {index c0 k cnt i : Nat} {t : FieldType × Nat} {v : Value} (F : qz_Fd own index c0 k cnt t false) (hi : i < cnt) (hv : qz_fv G.2.2 N' c0 i k t = v) (ho : ∀ j, j ≠ k → qz_gi N' c0 i j = qz_gi N c0 i j ∧ qz_gl N' c0 i j = qz_gl N c0 i j) (hN : qz_but N N' c0 i) (hn : narrow t.1 v = v) (hfit : fits t.1 v = true) (d : decode cc pc = .ok (.putfield index, 3))
    (kk : qz_W p l e R s m args below meth c cells slots Q G H0 nL N' (pc + 3) lv st) : qz_W p l e R s m args below meth c cells slots Q G H0 nL N pc lv (v :: .ref (G.2.2 c0 i) :: st) := by
  obtain ⟨hx, hb, hml, hown, hts, hK, hD, -, -⟩ := X
  obtain ⟨ci, ts, C, T, n, ty0, h1, h2, h3, h4, h5, h6, h7, h8, h9, h10, h11⟩ := F
  intro H locs ls hP hS hl
  have hap := va_apart (own := own) hts h3 ty0 h7 h8 hK.1 h2
  obtain ⟨r, g1, cell, q1, q2, q3, q4⟩ := hP c0 i _ h1 hi
  have hr : r = (C, T, n) := Option.some.inj (g1.symm.trans h2)
  subst hr
  obtain ⟨hSl, hfc, kC, hkC, hkind⟩ := hK.1.1 ci _ h2
  obtain ⟨cf, kf, fi, f, hfi, hsl⟩ := hSl k h4
  have hlay := hts _ (h3 _ (u_in_lay h4))
  unfold u_lay at hlay
  rw [if_neg (by rw [h9]; decide)] at hlay
  have hst := (u_facts hfc hkC (u_lays hts h3 h4) hfi).1
  have h6' := u_store hfc hkC hkind hlay hfi h10 hn hfit
  refine W.putK hx hb (f := f) ⟨hown, hts _ h6, ⟨_, _, _, hfi⟩, hst⟩ (by rw [q2]; exact h6') q1 q3 (by rw [hsl]; exact k2_hasslot (q4 k h4)) rfl rfl d fun H' e1 e2 e3 => ?_
  rw [hsl] at e1 ⊢
  have hkl : k < (qz_fs G.2.2 N c0 i 0 ts).length := by rw [qz_fs_len, h11]; exact h4
  refine kk H' _ ls (hP.set hD h1 hi hN ?_ e3) (hS.put e2 e3 ⟨c0, i, _, h1, hi, rfl⟩) hl
  show ∃ r : vw_C, qz_cl[ci]? = some r ∧ _
  refine ⟨_, h2, ?_⟩
  show t_OB (G.2.2 c0 i) (G.1.1 ci) n (G.1.2 ci) H' (vp_V (qz_fs G.2.2 N' c0 i 0 ts))
  rw [qz_fs_set h5 hv ho]
  exact t_OB.to (V := updV (vp_V (qz_fs G.2.2 N c0 i 0 ts)) k v) ⟨_, e1, q2, q3, t_set q4 hap h4 v⟩ (fun j _ => vp_updV_set hkl v j)
theorem qz_putJ (X : qz_X p s m args meth c own cc nL ret G) {index c0 k cnt i tg : Nat} {v : Int64} (F : qz_Fd own index c0 k cnt (.long, tg) false) (hi : i < cnt) (d : decode cc pc = .ok (.putfield index, 3)) {α : Type} {r : α} {Kf : qz_N → Option α} (h : qz_let (qz_sl N c0 i k v) Kf = some r)
    (kk : ∀ N', Kf N' = some r → qz_W p l e R s m args below meth c cells slots Q G H0 nL N' (pc + 3) lv st) : qz_W p l e R s m args below meth c cells slots Q G H0 nL N pc lv (.long v :: .ref (G.2.2 c0 i) :: st) :=
  qz_put X (N' := qz_sl N c0 i k v) F hi (by show Value.long _ = _; rw [qz_gl_sl, if_pos ⟨rfl, rfl, rfl⟩]) (fun j hj => ⟨rfl, by rw [qz_gl_sl, if_neg (fun z => hj z.2.2)]⟩) (qz_but_sl N c0 i k v) rfl rfl d (kk _ h)
theorem qz_putI (X : qz_X p s m args meth c own cc nL ret G) {index c0 k cnt i tg : Nat} {v : Int32} (F : qz_Fd own index c0 k cnt (.int, tg) false) (hi : i < cnt) (d : decode cc pc = .ok (.putfield index, 3)) {α : Type} {r : α} {Kf : qz_N → Option α} (h : qz_let (qz_si N c0 i k v) Kf = some r)
    (kk : ∀ N', Kf N' = some r → qz_W p l e R s m args below meth c cells slots Q G H0 nL N' (pc + 3) lv st) : qz_W p l e R s m args below meth c cells slots Q G H0 nL N pc lv (.int v :: .ref (G.2.2 c0 i) :: st) :=
  qz_put X (N' := qz_si N c0 i k v) F hi (by show Value.int _ = _; rw [qz_gi_si, if_pos ⟨rfl, rfl, rfl⟩]) (fun j hj => ⟨by rw [qz_gi_si, if_neg (fun z => hj z.2.2)], rfl⟩) (qz_but_si N c0 i k v) rfl rfl d (kk _ h)
theorem qz_putZ (X : qz_X p s m args meth c own cc nL ret G) {index c0 k cnt i tg : Nat} {v : Int32} (F : qz_Fd own index c0 k cnt (.boolean, tg) false) (hi : i < cnt) (hz : narrow .boolean (.int v) = .int v ∧ fits .boolean (.int v) = true) (d : decode cc pc = .ok (.putfield index, 3)) {α : Type} {r : α} {Kf : qz_N → Option α} (h : qz_let (qz_si N c0 i k v) Kf = some r)
    (kk : ∀ N', Kf N' = some r → qz_W p l e R s m args below meth c cells slots Q G H0 nL N' (pc + 3) lv st) : qz_W p l e R s m args below meth c cells slots Q G H0 nL N pc lv (.int v :: .ref (G.2.2 c0 i) :: st) :=
  qz_put X (N' := qz_si N c0 i k v) F hi (by show Value.int _ = _; rw [qz_gi_si, if_pos ⟨rfl, rfl, rfl⟩]) (fun j hj => ⟨by rw [qz_gi_si, if_neg (fun z => hj z.2.2)], rfl⟩) (qz_but_si N c0 i k v) hz.1 hz.2 d (kk _ h)
theorem qz_leti {x : Int32} {α : Type} {r : α} {Kf : Int32 → Option α} (h : qz_let x Kf = some r) (kk : ∀ v, Kf v = some r → qz_W p l e R s m args below meth c cells slots Q G H0 nL N pc lv (.int v :: st)) : qz_W p l e R s m args below meth c cells slots Q G H0 nL N pc lv (.int x :: st) := kk x h
theorem qz_letj {x : Int64} {α : Type} {r : α} {Kf : Int64 → Option α} (h : qz_let x Kf = some r) (kk : ∀ v, Kf v = some r → qz_W p l e R s m args below meth c cells slots Q G H0 nL N pc lv (.long v :: st)) : qz_W p l e R s m args below meth c cells slots Q G H0 nL N pc lv (.long x :: st) := kk x h
theorem qz_iinc_l (X : qz_X p s m args meth c own cc nL ret G) {i k : Nat} {n : Int} {x u : Int32} {lv' : Int32 → List (Nat × Value)} (hk : lv[k]? = some (i, .int x)) (hv : Int32.ofInt n = u) (hn : i < nL) (hl : ∀ v, (i, Value.int v) :: lv.filter (fun q => !(q.1 == i) && !(q.1 + 1 == i && q.2.category == 2)) = lv' v) (d : decode cc pc = .ok (.iinc i n, 3)) {α : Type} {r : α} {Kf : Int32 → Option α} (h : qz_let (x + u) Kf = some r)
    (kk : ∀ v, Kf v = some r → qz_W p l e R s m args below meth c cells slots Q G H0 nL N (pc + 3) (lv' v) st) : qz_W p l e R s m args below meth c cells slots Q G H0 nL N pc lv st := fun H locs ls hP hS hl2 => lv_iinc X.1 X.2.1 d hl2 hk (by rw [hv]) hn (hl _) (fun ls' h' => kk _ h H locs ls' hP hS h')
theorem qz_ite {C : Prop} {dc : Decidable C} {α : Type} {r : α} {fa fb : Option α} {P : Prop} (h : @ite (Option α) C dc fa fb = some r) (kt : C → fa = some r → P) (kf : ¬ C → fb = some r → P) : P := by
  by_cases hc : C
  · rw [if_pos hc] at h; exact kt hc h
  · rw [if_neg hc] at h; exact kf hc h
theorem qz_bind {α β : Type} {x : Option α} {f : α → Option β} {r : β} {P : Prop} (h : x.bind f = some r) (k : ∀ a, x = some a → f a = some r → P) : P := by
  cases x with
  | none => cases h
  | some a => exact k a rfl h
theorem qz_tabIn (X : qz_X p s m args meth c own cc nL ret G) {dflt lo hi : Int} {offs : Array Int} {len : Nat} {x k : Int32} {off : Int} {tgt : Nat} (hx : x = k) (h1 : ¬ k.toInt < lo) (h2 : ¬ hi < k.toInt) (ho : offs[(k.toInt - lo).toNat]? = some off) (ht : (pc : Int) + off = (tgt : Int)) (d : decode cc pc = .ok (.tableswitch dflt lo hi offs, len))
    (kk : qz_W p l e R s m args below meth c cells slots Q G H0 nL N tgt lv st) : qz_W p l e R s m args below meth c cells slots Q G H0 nL N pc lv (.int x :: st) := by
  subst hx
  exact fun H locs ls hP hS hl => lv_tableIn X.1 X.2.1 d h1 h2 ho ht (kk H locs ls hP hS hl)
theorem qz_tabOut (X : qz_X p s m args meth c own cc nL ret G) {dflt lo hi : Int} {offs : Array Int} {len : Nat} {x : Int32} {tgt : Nat} (ht : (pc : Int) + dflt = (tgt : Int)) (ho : x.toInt < lo ∨ hi < x.toInt) (d : decode cc pc = .ok (.tableswitch dflt lo hi offs, len))
    (kk : qz_W p l e R s m args below meth c cells slots Q G H0 nL N tgt lv st) : qz_W p l e R s m args below meth c cells slots Q G H0 nL N pc lv (.int x :: st) := fun H locs ls hP hS hl => lv_tableOut X.1 X.2.1 d ho ht (kk H locs ls hP hS hl)
theorem qz_idivc (X : qz_X p s m args meth c own cc nL ret G) {x y : Int32} (d : decode cc pc = .ok (.idiv, 1)) {α : Type} {r : α} {fb : Option α} {dc : Decidable (y = 0)} (h : @ite (Option α) (y = 0) dc none fb = some r)
    (kk : fb = some r → qz_W p l e R s m args below meth c cells slots Q G H0 nL N (pc + 1) lv (.int (x / y) :: st)) : qz_W p l e R s m args below meth c cells slots Q G H0 nL N pc lv (.int y :: .int x :: st) := by
  have hne : ¬ y = 0 := fun z => by rw [if_pos z] at h; cases h
  rw [if_neg hne] at h
  exact qz_idiv X hne d (kk h)
theorem qz_ldivc (X : qz_X p s m args meth c own cc nL ret G) {x y : Int64} (d : decode cc pc = .ok (.ldiv, 1)) {α : Type} {r : α} {fb : Option α} {dc : Decidable (y = 0)} (h : @ite (Option α) (y = 0) dc none fb = some r)
    (kk : fb = some r → qz_W p l e R s m args below meth c cells slots Q G H0 nL N (pc + 1) lv (.long (x / y) :: st)) : qz_W p l e R s m args below meth c cells slots Q G H0 nL N pc lv (.long y :: .long x :: st) := by
  have hne : ¬ y = 0 := fun z => by rw [if_pos z] at h; cases h
  rw [if_neg hne] at h
  exact qz_ldiv X hne d (kk h)
theorem qz_iremc (X : qz_X p s m args meth c own cc nL ret G) {x y : Int32} (d : decode cc pc = .ok (.irem, 1)) {α : Type} {r : α} {fb : Option α} {dc : Decidable (y = 0)} (h : @ite (Option α) (y = 0) dc none fb = some r)
    (kk : fb = some r → qz_W p l e R s m args below meth c cells slots Q G H0 nL N (pc + 1) lv (.int (x - x / y * y) :: st)) : qz_W p l e R s m args below meth c cells slots Q G H0 nL N pc lv (.int y :: .int x :: st) := by
  have hne : ¬ y = 0 := fun z => by rw [if_pos z] at h; cases h
  rw [if_neg hne] at h
  exact qz_irem X hne d (kk h)
theorem qz_lremc (X : qz_X p s m args meth c own cc nL ret G) {x y : Int64} (d : decode cc pc = .ok (.lrem, 1)) {α : Type} {r : α} {fb : Option α} {dc : Decidable (y = 0)} (h : @ite (Option α) (y = 0) dc none fb = some r)
    (kk : fb = some r → qz_W p l e R s m args below meth c cells slots Q G H0 nL N (pc + 1) lv (.long (x - x / y * y) :: st)) : qz_W p l e R s m args below meth c cells slots Q G H0 nL N pc lv (.long y :: .long x :: st) := by
  have hne : ¬ y = 0 := fun z => by rw [if_pos z] at h; cases h
  rw [if_neg hne] at h
  exact qz_lrem X hne d (kk h)
theorem qz_astore_nN (X : qz_X p s m args meth c own cc nL ret G) {k : Fin 4} {i : Nat} (hi : (k : Nat) = i) (hn : i < nL) (hl : (i, Value.null) :: lv.filter (fun q => !(q.1 == i) && !(q.1 + 1 == i && q.2.category == 2)) = lv') (d : decode cc pc = .ok (.astore_n k, 1))
    (kk : qz_W p l e R s m args below meth c cells slots Q G H0 nL N (pc + 1) lv' st) : qz_W p l e R s m args below meth c cells slots Q G H0 nL N pc lv (.null :: st) := fun H locs ls hP hS h => lv_astore_nN X.1 X.2.1 d hi h hn hl (fun ls' h' => kk H locs ls' hP hS h')
theorem qz_astoreN (X : qz_X p s m args meth c own cc nL ret G) {i : Nat} (hn : i < nL) (hl : (i, Value.null) :: lv.filter (fun q => !(q.1 == i) && !(q.1 + 1 == i && q.2.category == 2)) = lv') (d : decode cc pc = .ok (.astore i, 2))
    (kk : qz_W p l e R s m args below meth c cells slots Q G H0 nL N (pc + 2) lv' st) : qz_W p l e R s m args below meth c cells slots Q G H0 nL N pc lv (.null :: st) := fun H locs ls hP hS h => lv_astoreN X.1 X.2.1 d h hn hl (fun ls' h' => kk H locs ls' hP hS h')
theorem qz_lald (X : qz_X p s m args meth c own cc nL ret G) {c0 i cnt n tg : Nat} {x : Int32} (ha : qz_tb[c0]? = some (cnt, .inr (n, .long, tg))) (hi : i < cnt) (d : decode cc pc = .ok (.laload, 1)) {α : Type} {r : α} {fb : Option α} {dc : Decidable (x < 0 ∨ n ≤ x.toNatClampNeg)} (h : @ite (Option α) (x < 0 ∨ n ≤ x.toNatClampNeg) dc none fb = some r)
    (kk : fb = some r → qz_W p l e R s m args below meth c cells slots Q G H0 nL N (pc + 1) lv (.long (qz_gl N c0 i x.toNatClampNeg) :: st)) : qz_W p l e R s m args below meth c cells slots Q G H0 nL N pc lv (.int x :: .ref (G.2.2 c0 i) :: st) := by
  intro H locs ls hP hS hl
  have hin : ¬ (x < 0 ∨ n ≤ x.toNatClampNeg) := fun z => by rw [if_pos z] at h; cases h
  rw [if_neg hin] at h
  have hlt : x.toNatClampNeg < n := Nat.not_le.mp fun q => hin (Or.inr q)
  have hp : H[G.2.2 c0 i]? = some (arrV (G.2.1 c0) n (fun j => .long (qz_gl N c0 i j))) := hP c0 i _ ha hi
  exact W.lald (v := .long (qz_gl N c0 i x.toNatClampNeg)) X.1 X.2.1 hp ((X.2.2.2.2.2.1.2 c0 _ _ ha rfl) n _) (fun q => by cases q) (by rw [arrV_size]; exact hin) (arrV_read _ _ hlt) rfl rfl d (kk h H locs ls hP hS hl)
theorem qz_iald (X : qz_X p s m args meth c own cc nL ret G) {c0 i cnt n tg : Nat} {x : Int32} (ha : qz_tb[c0]? = some (cnt, .inr (n, .int, tg))) (hi : i < cnt) (d : decode cc pc = .ok (.iaload, 1)) {α : Type} {r : α} {fb : Option α} {dc : Decidable (x < 0 ∨ n ≤ x.toNatClampNeg)} (h : @ite (Option α) (x < 0 ∨ n ≤ x.toNatClampNeg) dc none fb = some r)
    (kk : fb = some r → qz_W p l e R s m args below meth c cells slots Q G H0 nL N (pc + 1) lv (.int (qz_gi N c0 i x.toNatClampNeg) :: st)) : qz_W p l e R s m args below meth c cells slots Q G H0 nL N pc lv (.int x :: .ref (G.2.2 c0 i) :: st) := by
  intro H locs ls hP hS hl
  have hin : ¬ (x < 0 ∨ n ≤ x.toNatClampNeg) := fun z => by rw [if_pos z] at h; cases h
  rw [if_neg hin] at h
  have hlt : x.toNatClampNeg < n := Nat.not_le.mp fun q => hin (Or.inr q)
  have hp : H[G.2.2 c0 i]? = some (arrV (G.2.1 c0) n (fun j => .int (qz_gi N c0 i j))) := hP c0 i _ ha hi
  exact W.iald (v := .int (qz_gi N c0 i x.toNatClampNeg)) X.1 X.2.1 hp ((X.2.2.2.2.2.1.2 c0 _ _ ha rfl) n _) (fun q => by cases q) (by rw [arrV_size]; exact hin) (arrV_read _ _ hlt) rfl rfl d (kk h H locs ls hP hS hl)
theorem qz_zald (X : qz_X p s m args meth c own cc nL ret G) {c0 i cnt n tg : Nat} {x : Int32} (ha : qz_tb[c0]? = some (cnt, .inr (n, .boolean, tg))) (hi : i < cnt) (d : decode cc pc = .ok (.baload, 1)) {α : Type} {r : α} {fb : Option α} {dc : Decidable (x < 0 ∨ n ≤ x.toNatClampNeg)} (h : @ite (Option α) (x < 0 ∨ n ≤ x.toNatClampNeg) dc none fb = some r)
    (kk : fb = some r → qz_W p l e R s m args below meth c cells slots Q G H0 nL N (pc + 1) lv (.int (qz_gi N c0 i x.toNatClampNeg) :: st)) : qz_W p l e R s m args below meth c cells slots Q G H0 nL N pc lv (.int x :: .ref (G.2.2 c0 i) :: st) := by
  intro H locs ls hP hS hl
  have hin : ¬ (x < 0 ∨ n ≤ x.toNatClampNeg) := fun z => by rw [if_pos z] at h; cases h
  rw [if_neg hin] at h
  have hlt : x.toNatClampNeg < n := Nat.not_le.mp fun q => hin (Or.inr q)
  have hp : H[G.2.2 c0 i]? = some (arrV (G.2.1 c0) n (fun j => .int (qz_gi N c0 i j))) := hP c0 i _ ha hi
  exact W.zald (v := .int (qz_gi N c0 i x.toNatClampNeg)) X.1 X.2.1 hp ((X.2.2.2.2.2.1.2 c0 _ _ ha rfl) n _) (fun q => by cases q) (by rw [arrV_size]; exact hin) (arrV_read _ _ hlt) rfl rfl d (kk h H locs ls hP hS hl)
theorem qz_aald (X : qz_X p s m args meth c own cc nL ret G) {c0 i cnt n tg : Nat} {t : FieldType} {x : Int32} (ha : qz_tb[c0]? = some (cnt, .inr (n, t, tg))) (ht : t.isReference = true) (hi : i < cnt) (d : decode cc pc = .ok (.aaload, 1)) {α : Type} {r : α} {fb : Option α} {dc : Decidable (x < 0 ∨ n ≤ x.toNatClampNeg)} (h : @ite (Option α) (x < 0 ∨ n ≤ x.toNatClampNeg) dc none fb = some r)
    (kk : x.toNatClampNeg < n → fb = some r → qz_W p l e R s m args below meth c cells slots Q G H0 nL N (pc + 1) lv (.ref (G.2.2 tg x.toNatClampNeg) :: st)) : qz_W p l e R s m args below meth c cells slots Q G H0 nL N pc lv (.int x :: .ref (G.2.2 c0 i) :: st) := by
  intro H locs ls hP hS hl
  have hin : ¬ (x < 0 ∨ n ≤ x.toNatClampNeg) := fun z => by rw [if_pos z] at h; cases h
  rw [if_neg hin] at h
  have hlt : x.toNatClampNeg < n := Nat.not_le.mp fun q => hin (Or.inr q)
  have hp : H[G.2.2 c0 i]? = some (arrV (G.2.1 c0) n (fun j => .ref (G.2.2 tg j))) := by
    have h0 := hP c0 i _ ha hi
    cases t <;> first | exact h0 | simp [FieldType.isReference] at ht
  exact W.aald (v := .ref (G.2.2 tg x.toNatClampNeg)) (ty := t) X.1 X.2.1 hp ((X.2.2.2.2.2.1.2 c0 _ _ ha rfl) n _) ht (fun q => by cases q) (by rw [arrV_size]; exact hin) (arrV_read _ _ hlt) rfl rfl d (kk hlt h H locs ls hP hS hl)
theorem qz_last (X : qz_X p s m args meth c own cc nL ret G) {c0 i cnt n tg : Nat} {x : Int32} {v : Int64} (ha : qz_tb[c0]? = some (cnt, .inr (n, .long, tg))) (hi : i < cnt) (d : decode cc pc = .ok (.lastore, 1)) {α : Type} {r : α} {Kf : qz_N → Option α} {dc : Decidable (x < 0 ∨ n ≤ x.toNatClampNeg)} (h : @ite (Option α) (x < 0 ∨ n ≤ x.toNatClampNeg) dc none (qz_let (qz_sl N c0 i x.toNatClampNeg v) Kf) = some r)
    (kk : ∀ N', Kf N' = some r → qz_W p l e R s m args below meth c cells slots Q G H0 nL N' (pc + 1) lv st) : qz_W p l e R s m args below meth c cells slots Q G H0 nL N pc lv (.long v :: .int x :: .ref (G.2.2 c0 i) :: st) := by
  intro H locs ls hP hS hl
  have hin : ¬ (x < 0 ∨ n ≤ x.toNatClampNeg) := fun z => by rw [if_pos z] at h; cases h
  rw [if_neg hin] at h
  have hp : H[G.2.2 c0 i]? = some (arrV (G.2.1 c0) n (fun j => .long (qz_gl N c0 i j))) := hP c0 i _ ha hi
  refine W.last X.1 X.2.1 hp ((X.2.2.2.2.2.1.2 c0 _ _ ha rfl) n _) (fun q => by cases q) (by rw [arrV_size]; exact hin) rfl rfl d fun H1 e z oq => ?_
  refine kk _ h H1 _ ls (hP.set X.2.2.2.2.2.2.1 ha hi (qz_but_sl N c0 i x.toNatClampNeg v) ?_ oq) (hS.put z oq ⟨c0, i, _, ha, hi, rfl⟩) hl
  show H1[G.2.2 c0 i]? = some (arrV (G.2.1 c0) n (fun j => .long (qz_gl (qz_sl N c0 i x.toNatClampNeg v) c0 i j)))
  rw [e, arrV_store]
  congr 2
  funext q
  by_cases hq : q = x.toNatClampNeg
  · subst hq
    simp [updV, qz_sl, qz_gl, qz_u3]
  · simp [updV, qz_sl, qz_gl, qz_u3, hq]
theorem qz_iast (X : qz_X p s m args meth c own cc nL ret G) {c0 i cnt n tg : Nat} {x : Int32} {v : Int32} (ha : qz_tb[c0]? = some (cnt, .inr (n, .int, tg))) (hi : i < cnt) (d : decode cc pc = .ok (.iastore, 1)) {α : Type} {r : α} {Kf : qz_N → Option α} {dc : Decidable (x < 0 ∨ n ≤ x.toNatClampNeg)} (h : @ite (Option α) (x < 0 ∨ n ≤ x.toNatClampNeg) dc none (qz_let (qz_si N c0 i x.toNatClampNeg v) Kf) = some r)
    (kk : ∀ N', Kf N' = some r → qz_W p l e R s m args below meth c cells slots Q G H0 nL N' (pc + 1) lv st) : qz_W p l e R s m args below meth c cells slots Q G H0 nL N pc lv (.int v :: .int x :: .ref (G.2.2 c0 i) :: st) := by
  intro H locs ls hP hS hl
  have hin : ¬ (x < 0 ∨ n ≤ x.toNatClampNeg) := fun z => by rw [if_pos z] at h; cases h
  rw [if_neg hin] at h
  have hp : H[G.2.2 c0 i]? = some (arrV (G.2.1 c0) n (fun j => .int (qz_gi N c0 i j))) := hP c0 i _ ha hi
  refine W.iast X.1 X.2.1 hp ((X.2.2.2.2.2.1.2 c0 _ _ ha rfl) n _) (fun q => by cases q) (by rw [arrV_size]; exact hin) rfl rfl d fun H1 e z oq => ?_
  refine kk _ h H1 _ ls (hP.set X.2.2.2.2.2.2.1 ha hi (qz_but_si N c0 i x.toNatClampNeg v) ?_ oq) (hS.put z oq ⟨c0, i, _, ha, hi, rfl⟩) hl
  show H1[G.2.2 c0 i]? = some (arrV (G.2.1 c0) n (fun j => .int (qz_gi (qz_si N c0 i x.toNatClampNeg v) c0 i j)))
  rw [e, arrV_store]
  congr 2
  funext q
  by_cases hq : q = x.toNatClampNeg
  · subst hq
    simp [updV, qz_si, qz_gi, qz_u3]
  · simp [updV, qz_si, qz_gi, qz_u3, hq]
theorem qz_zast (X : qz_X p s m args meth c own cc nL ret G) {c0 i cnt n tg : Nat} {x : Int32} {v : Int32} (ha : qz_tb[c0]? = some (cnt, .inr (n, .boolean, tg))) (hi : i < cnt) (d : decode cc pc = .ok (.bastore, 1)) {α : Type} {r : α} {Kf : qz_N → Option α} {dc : Decidable (x < 0 ∨ n ≤ x.toNatClampNeg)} (h : @ite (Option α) (x < 0 ∨ n ≤ x.toNatClampNeg) dc none (qz_let (qz_si N c0 i x.toNatClampNeg (vp_nar .boolean v)) Kf) = some r)
    (kk : ∀ N', Kf N' = some r → qz_W p l e R s m args below meth c cells slots Q G H0 nL N' (pc + 1) lv st) : qz_W p l e R s m args below meth c cells slots Q G H0 nL N pc lv (.int v :: .int x :: .ref (G.2.2 c0 i) :: st) := by
  intro H locs ls hP hS hl
  have hin : ¬ (x < 0 ∨ n ≤ x.toNatClampNeg) := fun z => by rw [if_pos z] at h; cases h
  rw [if_neg hin] at h
  have hp : H[G.2.2 c0 i]? = some (arrV (G.2.1 c0) n (fun j => .int (qz_gi N c0 i j))) := hP c0 i _ ha hi
  refine W.zast X.1 X.2.1 hp ((X.2.2.2.2.2.1.2 c0 _ _ ha rfl) n _) (fun q => by cases q) (by rw [arrV_size]; exact hin) rfl rfl d fun H1 e z oq => ?_
  refine kk _ h H1 _ ls (hP.set X.2.2.2.2.2.2.1 ha hi (qz_but_si N c0 i x.toNatClampNeg (vp_nar .boolean v)) ?_ oq) (hS.put z oq ⟨c0, i, _, ha, hi, rfl⟩) hl
  show H1[G.2.2 c0 i]? = some (arrV (G.2.1 c0) n (fun j => .int (qz_gi (qz_si N c0 i x.toNatClampNeg (vp_nar .boolean v)) c0 i j)))
  rw [e, arrV_store]
  congr 2
  funext q
  by_cases hq : q = x.toNatClampNeg
  · subst hq
    simp [updV, qz_si, qz_gi, qz_u3, vp_nar, narrow]
  · simp [updV, qz_si, qz_gi, qz_u3, hq]
end QZ
/-- a method's end: its answer o, the world with numbers N', nothing else changed -/
def qz_Q (G : qz_G) (N' : qz_N) (o : Option Value) : Array Value → State → Outcome → State → Prop := fun _ st oc t => oc = .returned o ∧ qz_P G N' t.heap ∧ t.heap.size = st.heap.size ∧ ∀ q : Nat, ¬ qz_A G q → t.heap[q]? = st.heap[q]?
def qz_R (dp : Nat) : Room := { frames := dp, cells := 0, slots := 0, locals := 48 * dp }
def qz_M (l : Launch) (y : MethodName) (bytes : ByteArray) (maxL : Nat) (ret : Option FieldType) (dp : Nat) (G : qz_G) (as : List Value) (N : qz_N) (o : Option Value) (N' : qz_N) : Prop :=
  Met l y (Cond.code y bytes maxL ret :: qz_T) (qz_R dp) (va_Pc as (fun U => qz_P G N U.heap ∧ qz_K G U)) (qz_Q G N' o) 0 0 (qz_A G)
/-- what the tables say of a method by the pool of class own -/
def qz_Cb (own : String) (index : Nat) (y : MethodName) (bytes : ByteArray) (maxL : Nat) (ret : Option FieldType) (n : Nat) : Prop := Cond.code y bytes maxL ret ∈ qz_T ∧ Cond.methodLink own index y ∈ qz_T ∧ Cond.initialized y.cls ∈ qz_T ∧ (y.cls ≠ "java/lang/invoke/MethodHandle" ∧ y.cls ≠ "java/lang/invoke/VarHandle" ∧ (parseMethodDescriptor y.desc).map (fun d => d.parameters.length) = some n)
def qz_Cs (own : String) (index : Nat) (y : MethodName) (bytes : ByteArray) (maxL : Nat) (ret : Option FieldType) (n : Nat) : Prop := qz_Cb own index y bytes maxL ret n ∧ Cond.static y ∈ qz_T
def qz_Cv (own : String) (index : Nat) (y : MethodName) (bytes : ByteArray) (maxL : Nat) (ret : Option FieldType) (n c0 cnt : Nat) : Prop := qz_Cb own index y bytes maxL ret n ∧ Cond.instanceMethod y ∈ qz_T ∧ Cond.selects y.cls y y ∈ qz_T ∧ ∃ (ci : Nat) (ts : List (FieldType × Nat)) (T : u_T) (nf : Nat), qz_tb[c0]? = some (cnt, .inl (ci, ts)) ∧ qz_cl[ci]? = some (y.cls, T, nf)
theorem qz_good {w : Cond} (h : w ∈ qz_T) : (w.onTables && w.keeps) = true ∨ ∃ ty, w = .arrayClass ty := good_of_word (List.mem_filter.mp h).2
theorem qz_pay {args : Array Value} {s : State} (hts : ∀ w ∈ qz_T, w.before args s = true) : ∀ w ∈ qz_T, ∀ (a' : Array Value) (U : State), s.WarmedH U.vm → w.before a' U = true := fun w hw a' U hW => word_at hW (qz_good hw) (hts w hw)
theorem qz_blind {as : List Value} {G : qz_G} {N : qz_N} : FrameBlind (va_Pc as (fun U => qz_P G N U.heap ∧ qz_K G U)) := fun a U g mk q => ⟨q.1, q.2.1, qz_K.moved (u := U) (U := U.calling g mk a) (Vm.Alike.refl U.vm) q.2.2⟩
section QZC
variable {p : Program} {l : Launch} {e : Env} {R : Room} {s : State} {m : MethodId} {args : Array Value} {below : List Frame} {meth : Method} {c : Code} {cells slots : Nat} {Q : State → Prop} {G : qz_G} {H0 : Heap} {nL : Nat} {N N' : qz_N} {pc : Nat} {lv lv' : List (Nat × Value)} {st st0 : List Value} {own : String} {cc : ByteArray} {ret : Option FieldType}
theorem qz_callB {index : Nat} {y : MethodName} {bytes : ByteArray} {maxL dp n : Nat} {rt : Option FieldType} (hts : ∀ w ∈ qz_T, w.before args s = true) (C : qz_Cb own index y bytes maxL rt n) (hR : dp + 1 ≤ R.frames ∧ 8 + (maxL + 11) + 48 * dp ≤ R.locals) : CallB R s args own index y bytes maxL rt (Cond.code y bytes maxL rt :: qz_T) (qz_R dp) 0 0 n := by
  obtain ⟨h1, h2, h3, h4, h5, h6⟩ := C
  refine ⟨rfl, rfl, hR.1, hR.2, fun w hw => ?_, List.mem_cons_self, hts _ h1, hts _ h3, ⟨h4, h5⟩, fun sig h => ?_, hts _ h2⟩
  · rcases List.mem_cons.mp hw with rfl | hw
    · exact qz_pay hts _ h1
    · exact qz_pay hts _ hw
  · rw [h] at h6
    exact (Option.some.inj h6).symm
theorem qz_back {rest : List Value} {o : Option Value} {free : Addr → Prop} {a : Array Value} (hfree : free = qz_A G) {H : Heap} {locs : List Loc} {ls : Array Slot} (hr : va_Run p l e R s m args below meth c H locs cells slots 0 0 (F0 m pc ls st0) rest (qz_Q G N' o a) free) (hS : qz_S G H0 H locs) (hl : lv_has ls nL lv)
    (kk : qz_W p l e R s m args below meth c cells slots Q G H0 nL N' (pc + 3) lv (o.toList ++ rest)) : W p l e R s m args below meth c H locs cells slots Q (F0 m pc ls st0) := by
  intro T hT X
  obtain ⟨v, st₀, t, T', L, h0, X', hL, e1, e2, ⟨hv, hP, hz, hk⟩, go⟩ := hr T hT X
  have hv' : v = o := Outcome.returned.inj hv
  subst hv'
  subst hfree
  rw [← e1] at hP hz hk
  rw [h0] at hz hk
  obtain ⟨t2, a1, b1⟩ := kk T'.heap (locs ++ L) ls hP ⟨hz.trans hS.1, fun q hq => (hk q hq).trans (hS.2.1 q hq), fun q hq => by
    rcases List.mem_append.mp hq with h | h
    · exact hS.2.2 q h
    · exact hL q h⟩ hl T' rfl X'
  exact ⟨t2, go t2 a1, b1⟩
theorem qz_callS (X : qz_X p s m args meth c own cc nL ret G) {index : Nat} {y : MethodName} {bytes : ByteArray} {maxL dp n : Nat} {rt : Option FieldType} {as : List Value} {o : Option Value} (C : qz_Cs own index y bytes maxL rt n) (hM : qz_M l y bytes maxL rt dp G as N o N') (hR : dp + 1 ≤ R.frames ∧ 8 + (maxL + 11) + 48 * dp ≤ R.locals) (hn : as.length = n) (hst : st0 = as.reverse ++ st) (hw : (st.map fun v => v.category).sum ≤ 8) (hcs : cells ≤ R.cells ∧ slots ≤ R.slots) (d : decode cc pc = .ok (.invokestatic index, 3))
    (kk : qz_W p l e R s m args below meth c cells slots Q G H0 nL N' (pc + 3) lv (o.toList ++ st)) : qz_W p l e R s m args below meth c cells slots Q G H0 nL N pc lv st0 := by
  obtain ⟨hx, hb, hml, hown, hts, hK, hD, hlk, hrt⟩ := X
  intro H locs ls hP hS hl
  refine qz_back rfl (va_runS (n := n) (As := as) (rest := st) ⟨hx, hb, hml, hown, hts⟩ hM ⟨qz_callB hts C.1 hR, hts _ C.2⟩ ⟨qz_blind, fun U hU hW => ⟨rfl, by rw [hU]; exact hP, qz_K.moved hW.alike hK⟩⟩ rfl hn hl.1 hst (lv_room hw) d ⟨hcs.1, hcs.2⟩) hS hl kk
theorem qz_mmin (X : qz_X p s m args meth c own cc nL ret G) {index : Nat} {x y : Int64} (hl : Cond.methodLink own index Lib.MathLoose.min_long.x ∈ qz_T) (hc : Cond.code Lib.MathLoose.min_long.x Lib.MathLoose.min_long.code 4 (some .long) ∈ qz_T ∧ Cond.static Lib.MathLoose.min_long.x ∈ qz_T ∧ Cond.initialized "java/lang/Math" ∈ qz_T) (hR : 1 ≤ R.frames ∧ 23 ≤ R.locals) (hw : (st.map fun v => v.category).sum ≤ 8) (hcs : cells ≤ R.cells ∧ slots ≤ R.slots) (d : decode cc pc = .ok (.invokestatic index, 3))
    (kk : qz_W p l e R s m args below meth c cells slots Q G H0 nL N (pc + 3) lv (.long (if y < x then y else x) :: st)) : qz_W p l e R s m args below meth c cells slots Q G H0 nL N pc lv (.long y :: .long x :: st) := by
  obtain ⟨hx, hb, hml, hown, hts, hK, hD, hlk, hrt⟩ := X
  intro H locs ls hP hS hl2
  exact va_mmin_long hx hb (hml.trans hl2.1.symm) hown (hts _ hl) (hts _ hc.2.1) (hts _ hc.2.2) (hts _ hc.1) hR.1 (by omega) hcs.1 hcs.2 d (kk H locs ls hP hS hl2)
theorem qz_mmax (X : qz_X p s m args meth c own cc nL ret G) {index : Nat} {x y : Int64} (hl : Cond.methodLink own index Lib.MathLoose.max_long.x ∈ qz_T) (hc : Cond.code Lib.MathLoose.max_long.x Lib.MathLoose.max_long.code 4 (some .long) ∈ qz_T ∧ Cond.static Lib.MathLoose.max_long.x ∈ qz_T ∧ Cond.initialized "java/lang/Math" ∈ qz_T) (hR : 1 ≤ R.frames ∧ 23 ≤ R.locals) (hw : (st.map fun v => v.category).sum ≤ 8) (hcs : cells ≤ R.cells ∧ slots ≤ R.slots) (d : decode cc pc = .ok (.invokestatic index, 3))
    (kk : qz_W p l e R s m args below meth c cells slots Q G H0 nL N (pc + 3) lv (.long (if y < x then x else y) :: st)) : qz_W p l e R s m args below meth c cells slots Q G H0 nL N pc lv (.long y :: .long x :: st) := by
  obtain ⟨hx, hb, hml, hown, hts, hK, hD, hlk, hrt⟩ := X
  intro H locs ls hP hS hl2
  exact va_mmax_long hx hb (hml.trans hl2.1.symm) hown (hts _ hl) (hts _ hc.2.1) (hts _ hc.2.2) (hts _ hc.1) hR.1 (by omega) hcs.1 hcs.2 d (kk H locs ls hP hS hl2)
theorem qz_callV (X : qz_X p s m args meth c own cc nL ret G) {index c0 cnt i : Nat} {y : MethodName} {bytes : ByteArray} {maxL dp n : Nat} {rt : Option FieldType} {as : List Value} {o : Option Value} (C : qz_Cv own index y bytes maxL rt n c0 cnt) (hi : i < cnt) (hM : qz_M l y bytes maxL rt dp G (.ref (G.2.2 c0 i) :: as) N o N') (hR : dp + 1 ≤ R.frames ∧ 8 + (maxL + 11) + 48 * dp ≤ R.locals) (hn : as.length = n) (hst : st0 = as.reverse ++ .ref (G.2.2 c0 i) :: st) (hw : (st.map fun v => v.category).sum ≤ 8) (hcs : cells ≤ R.cells ∧ slots ≤ R.slots) (d : decode cc pc = .ok (.invokevirtual index, 3))
    (kk : qz_W p l e R s m args below meth c cells slots Q G H0 nL N' (pc + 3) lv (o.toList ++ st)) : qz_W p l e R s m args below meth c cells slots Q G H0 nL N pc lv st0 := by
  obtain ⟨hx, hb, hml, hown, hts, hK, hD, hlk, hrt⟩ := X
  obtain ⟨C1, C2, C3, ci, ts, T, nf, C4, C5⟩ := C
  intro H locs ls hP hS hl
  have hrecv : ∃ cell : Cell, H[G.2.2 c0 i]? = some cell ∧ cell.vm.isStatics = false ∧ s.vm.findClass y.cls = some cell.cls := by
    obtain ⟨q', g0, cell, g1, g2, g3, -⟩ := hP c0 i _ C4 hi
    cases g0.symm.trans C5
    exact ⟨cell, g1, by rw [g3]; rfl, by rw [g2]; exact (hK.1.1 ci _ C5).2.1⟩
  refine qz_back rfl (va_runV (C := y.cls) (n := n) (As := as) (rest := st) (b := G.2.2 c0 i) ⟨hx, hb, hml, hown, hts⟩ hM ⟨qz_callB hts C1 hR, hts _ C2, hts _ C3⟩ ⟨qz_blind, hrecv, fun U hU hW => ⟨rfl, by rw [hU]; exact hP, qz_K.moved hW.alike hK⟩⟩ rfl hn hl.1 hst (lv_room hw) d ⟨hcs.1, hcs.2⟩) hS hl kk

theorem qz_iret (X : qz_X p s m args meth c own cc nL (some .int) G) {v : Int32} {r : Int32 × qz_N} (h : some (v, N) = some r) (d : decode cc pc = .ok (.ireturn, 1)) : qz_W p l e R s m args below meth c 0 0 (MQ below (qz_Q G r.2 (some (.int r.1))) args s 0 0 (qz_A G)) G s.heap nL N pc lv [.int v] := by
  intro H locs ls hP hS hl
  cases h
  exact W.iret X.1 X.2.1 X.2.2.2.2.2.2.2.2 (fun t ht hW => ⟨rfl, by rw [ht]; exact hP, by rw [ht]; exact hS.1, fun q hq => by rw [ht]; exact hS.2.1 q hq⟩) hS.2.2 d (hlocks := X.2.2.2.2.2.2.2.1)
theorem qz_lret (X : qz_X p s m args meth c own cc nL (some .long) G) {v : Int64} {r : Int64 × qz_N} (h : some (v, N) = some r) (d : decode cc pc = .ok (.lreturn, 1)) : qz_W p l e R s m args below meth c 0 0 (MQ below (qz_Q G r.2 (some (.long r.1))) args s 0 0 (qz_A G)) G s.heap nL N pc lv [.long v] := by
  intro H locs ls hP hS hl
  cases h
  exact W.lret X.1 X.2.1 X.2.2.2.2.2.2.2.2 (fun t ht hW => ⟨rfl, by rw [ht]; exact hP, by rw [ht]; exact hS.1, fun q hq => by rw [ht]; exact hS.2.1 q hq⟩) hS.2.2 d (hlocks := X.2.2.2.2.2.2.2.1)
theorem qz_zret (X : qz_X p s m args meth c own cc nL (some .boolean) G) {v : Int32} {r : Int32 × qz_N} (hz : narrow .boolean (.int v) = .int v) (h : some (v, N) = some r) (d : decode cc pc = .ok (.ireturn, 1)) : qz_W p l e R s m args below meth c 0 0 (MQ below (qz_Q G r.2 (some (.int r.1))) args s 0 0 (qz_A G)) G s.heap nL N pc lv [.int v] := by
  intro H locs ls hP hS hl
  cases h
  exact W.zret X.1 X.2.1 X.2.2.2.2.2.2.2.2 hz (fun t ht hW => ⟨rfl, by rw [ht]; exact hP, by rw [ht]; exact hS.1, fun q hq => by rw [ht]; exact hS.2.1 q hq⟩) hS.2.2 d (hlocks := X.2.2.2.2.2.2.2.1)
theorem qz_zretc (X : qz_X p s m args meth c own cc nL (some .boolean) G) {v : Int32} {r : Int32 × qz_N} {dc : Decidable (vp_nar .boolean v = v)} (h : @ite (Option (Int32 × qz_N)) (vp_nar .boolean v = v) dc (some (v, N)) none = some r) (d : decode cc pc = .ok (.ireturn, 1)) : qz_W p l e R s m args below meth c 0 0 (MQ below (qz_Q G r.2 (some (.int r.1))) args s 0 0 (qz_A G)) G s.heap nL N pc lv [.int v] := by
  have hz : vp_nar .boolean v = v := by
    by_cases z : vp_nar .boolean v = v
    · exact z
    · rw [if_neg z] at h; cases h
  rw [if_pos hz] at h
  exact qz_zret X (show Value.int (vp_nar .boolean v) = .int v by rw [hz]) h d
theorem qz_vret (X : qz_X p s m args meth c own cc nL none G) {r : Unit × qz_N} (h : some ((), N) = some r) (d : decode cc pc = .ok (.return_, 1)) : qz_W p l e R s m args below meth c 0 0 (MQ below (qz_Q G r.2 none) args s 0 0 (qz_A G)) G s.heap nL N pc lv [] := by
  intro H locs ls hP hS hl
  cases h
  exact W.vret X.1 X.2.1 X.2.2.2.2.2.2.2.2 (fun t ht hW => ⟨rfl, by rw [ht]; exact hP, by rw [ht]; exact hS.1, fun q hq => by rw [ht]; exact hS.2.1 q hq⟩) hS.2.2 d (hlocks := X.2.2.2.2.2.2.2.1)
theorem qz_aret {C : String} {c0 : Nat} (X : qz_X p s m args meth c own cc nL (some (.object C)) G) {j : Nat} {r : Option Nat × qz_N} (h : some (some j, N) = some r) (d : decode cc pc = .ok (.areturn, 1)) : qz_W p l e R s m args below meth c 0 0 (MQ below (qz_Q G r.2 (some (va_rf (Option.map (G.2.2 c0) r.1)))) args s 0 0 (qz_A G)) G s.heap nL N pc lv [.ref (G.2.2 c0 j)] := by
  intro H locs ls hP hS hl
  cases h
  exact W.aret X.1 X.2.1 X.2.2.2.2.2.2.2.2 (Or.inl ⟨_, rfl⟩) (Or.inr ⟨_, rfl⟩) (fun t ht hW => ⟨rfl, by rw [ht]; exact hP, by rw [ht]; exact hS.1, fun q hq => by rw [ht]; exact hS.2.1 q hq⟩) hS.2.2 d (hlocks := X.2.2.2.2.2.2.2.1)
theorem qz_aretN {C : String} {c0 : Nat} (X : qz_X p s m args meth c own cc nL (some (.object C)) G) {r : Option Nat × qz_N} (h : some (none, N) = some r) (d : decode cc pc = .ok (.areturn, 1)) : qz_W p l e R s m args below meth c 0 0 (MQ below (qz_Q G r.2 (some (va_rf (Option.map (G.2.2 c0) r.1)))) args s 0 0 (qz_A G)) G s.heap nL N pc lv [.null] := by
  intro H locs ls hP hS hl
  cases h
  exact W.aret X.1 X.2.1 X.2.2.2.2.2.2.2.2 (Or.inl ⟨_, rfl⟩) (Or.inl rfl) (fun t ht hW => ⟨rfl, by rw [ht]; exact hP, by rw [ht]; exact hS.1, fun q hq => by rw [ht]; exact hS.2.1 q hq⟩) hS.2.2 d (hlocks := X.2.2.2.2.2.2.2.1)
end QZC
/-- from the walk of a body to the method's contract -/
theorem qz_enter {l : Launch} {y : MethodName} {bytes : ByteArray} {maxL dp : Nat} {rt : Option FieldType} {G : qz_G} {as : List Value} {N N' : qz_N} {o : Option Value} {lv : List (Nat × Value)} (hy : plainName y.cls = true) (hD : qz_D G) (hlen : (lg_sl as).length ≤ maxL) (hlv : lv_args 0 as = lv)
    (body : ∀ (p : Program) (e : Env) (s : State) (m : MethodId) (args : Array Value) (below : List Frame) (meth : Method) (c : Code), qz_X p s m args meth c y.cls bytes maxL rt G → qz_W p l e (qz_R dp) s m args below meth c 0 0 (MQ below (qz_Q G N' o) args s 0 0 (qz_A G)) G s.heap maxL N 0 lv []) : qz_M l y bytes maxL rt dp G as N o N' := by
  refine Met.ofW (cc := bytes) (maxL := maxL) (ret := rt) hy rfl ?_
  intro p e s m args below meth c s₁ B hml hv
  obtain ⟨rfl, hP, hK⟩ := hv
  have hts := atoms_spec (ws := Cond.code y bytes maxL rt :: qz_T) B.pre
  have hl := lv_entry as (n := maxL) hlen
  rw [lg_entry_eq]
  rw [hlv] at hl
  exact body p e s m _ below meth c ⟨B.exec, B.bytes, hml, findClass_of_methodNamed B.named, fun w hw => hts w (List.mem_cons_of_mem _ hw), hK, hD, B.notSynchronized, B.returns⟩ s.heap [] _ hP qz_S.rf hl

