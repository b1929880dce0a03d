theorem xq_12 : (Jvm.Cond.classLink "ExactCurvesLaw" (7 : Nat) "ExactCurves") ∈ qz_T := qz_mem 56 (by decide +kernel) rfl
theorem xq_13 : (Jvm.Cond.instantiable "ExactCurves" (8 : Nat)) ∈ qz_T := qz_mem 57 (by decide +kernel) rfl
theorem xq_14 : (Jvm.Cond.methodLink "ExactCurvesLaw" (9 : Nat) ({ cls := "ExactCurves", name := "<init>", desc := "()V" } : Jvm.MethodName)) ∈ qz_T := qz_mem 58 (by decide +kernel) rfl
theorem xq_15 : (Jvm.Cond.instanceMethod ({ cls := "ExactCurves", name := "<init>", desc := "()V" } : Jvm.MethodName)) ∈ qz_T := qz_mem 59 (by decide +kernel) rfl
theorem xq_16 : (Jvm.Cond.code ({ cls := "ExactCurves", name := "<init>", desc := "()V" } : Jvm.MethodName) prog_1_method_1_code (2 : Nat) (Option.none : Option Jvm.ClassFile.FieldType)) ∈ qz_T := qz_mem 60 (by decide +kernel) rfl
theorem xq_597 : (Jvm.Cond.classLink "ExactCurvesLaw" (10 : Nat) "ExactCurvesModel") ∈ qz_T := qz_mem 641 (by decide +kernel) rfl
theorem xq_598 : (Jvm.Cond.instantiable "ExactCurvesModel" (42 : Nat)) ∈ qz_T := qz_mem 642 (by decide +kernel) rfl
theorem xq_599 : (Jvm.Cond.methodLink "ExactCurvesLaw" (12 : Nat) ({ cls := "ExactCurvesModel", name := "<init>", desc := "()V" } : Jvm.MethodName)) ∈ qz_T := qz_mem 643 (by decide +kernel) rfl
theorem xq_600 : (Jvm.Cond.instanceMethod ({ cls := "ExactCurvesModel", name := "<init>", desc := "()V" } : Jvm.MethodName)) ∈ qz_T := qz_mem 644 (by decide +kernel) rfl
theorem xq_601 : (Jvm.Cond.code ({ cls := "ExactCurvesModel", name := "<init>", desc := "()V" } : Jvm.MethodName) prog_10_method_1_code (2 : Nat) (Option.none : Option Jvm.ClassFile.FieldType)) ∈ qz_T := qz_mem 645 (by decide +kernel) rfl
theorem dq_W_law_0 : decode code 0 = .ok (.new 7, 3) := by decide +kernel
theorem dq_W_law_3 : decode code 3 = .ok (.dup, 1) := by decide +kernel
theorem dq_W_law_4 : decode code 4 = .ok (.invokespecial 9, 3) := by decide +kernel
theorem dq_W_law_7 : decode code 7 = .ok (.astore_n 1, 1) := by decide +kernel
theorem dq_W_law_8 : decode code 8 = .ok (.new 10, 3) := by decide +kernel
theorem dq_W_law_11 : decode code 11 = .ok (.dup, 1) := by decide +kernel
theorem dq_W_law_12 : decode code 12 = .ok (.invokespecial 12, 3) := by decide +kernel
theorem dq_W_law_15 : decode code 15 = .ok (.astore_n 2, 1) := by decide +kernel
theorem dq_W_law_16 : decode code 16 = .ok (.iconst 0, 1) := by decide +kernel
theorem dq_W_law_17 : decode code 17 = .ok (.istore_n 3, 1) := by decide +kernel
def qw_0 : qy_M := (0, 0, fun _ => 0, fun _ _ _ => false, (fun _ _ _ => 0, fun _ _ _ => 0))
/-- both constructors, one behind the other -/
def qw_run (K : qy_M → Option (Int32 × qz_N)) : Option (Int32 × qz_N) :=
  if qy_of 0 (qw_0.2.2.1 0) = qw_0.1 ∧ qw_0.2.2.1 0 < 1 ∧ ((0 : Nat), (0 : Nat)).1 ≤ qw_0.1 ∧ ((0 : Nat), (0 : Nat)).2 ≤ qw_0.2.1 ∧ qw_0.1 + 1 ≤ ((0 : Nat), (0 : Nat)).1 + 600000 ∧ qw_0.2.1 + 8 ≤ ((0 : Nat), (0 : Nat)).2 + 7302250 then qz_let (qy_add qw_0 0 8) fun _ =>
    (gE_init (qw_0.2.2.1 0) (qy_add qw_0 0 8)).bind fun M1 => if ((0 : Nat), (0 : Nat)).1 ≤ (qy_add qw_0 0 8).1 ∧ ((0 : Nat), (0 : Nat)).2 ≤ (qy_add qw_0 0 8).2.1 ∧ M1.1 = (qy_add qw_0 0 8).1 + 52 ∧ M1.2.1 = (qy_add qw_0 0 8).2.1 + 505 ∧ (qy_add qw_0 0 8).1 + 52 ≤ ((0 : Nat), (0 : Nat)).1 + room_1.cells ∧ (qy_add qw_0 0 8).2.1 + 505 ≤ ((0 : Nat), (0 : Nat)).2 + room_1.slots then
      if M1.2.2.1 7 = 0 then if qy_of 7 (M1.2.2.1 7) = M1.1 ∧ M1.2.2.1 7 < 1 ∧ ((0 : Nat), (0 : Nat)).1 ≤ M1.1 ∧ ((0 : Nat), (0 : Nat)).2 ≤ M1.2.1 ∧ M1.1 + 1 ≤ ((0 : Nat), (0 : Nat)).1 + 600000 ∧ M1.2.1 + 42 ≤ ((0 : Nat), (0 : Nat)).2 + 7302250 then qz_let (qy_add M1 7 42) fun _ =>
        (gM_init (M1.2.2.1 7) (qy_add M1 7 42)).bind fun M2 => if ((0 : Nat), (0 : Nat)).1 ≤ (qy_add M1 7 42).1 ∧ ((0 : Nat), (0 : Nat)).2 ≤ (qy_add M1 7 42).2.1 ∧ M2.1 = (qy_add M1 7 42).1 + 34 ∧ M2.2.1 = (qy_add M1 7 42).2.1 + 506 ∧ (qy_add M1 7 42).1 + 34 ≤ ((0 : Nat), (0 : Nat)).1 + room_1.cells ∧ (qy_add M1 7 42).2.1 + 506 ≤ ((0 : Nat), (0 : Nat)).2 + room_1.slots then K M2 else none
      else none else none
    else none
  else none
def qw_n (c : Nat) : Nat := ((qz_tb[c]?).map (fun q => q.1)).getD 0
theorem qw_cntB : ((List.range qz_tb.length).all fun c => (List.range (qw_n c)).all fun i => (List.range qz_tb.length).all fun c' => (List.range (qw_n c')).all fun i' => !(qy_of c i == qy_of c' i') || (c == c' && i == i')) = true := by decide +kernel
theorem qw_cnt (c : Nat) (hc : c < qz_tb.length) (i : Nat) (hi : i < qw_n c) (c' : Nat) (hc' : c' < qz_tb.length) (i' : Nat) (hi' : i' < qw_n c') (he : qy_of c i = qy_of c' i') : c = c' ∧ i = i' := by
  have h := List.all_eq_true.mp (List.all_eq_true.mp (List.all_eq_true.mp (List.all_eq_true.mp qw_cntB c (List.mem_range.mpr hc)) i (List.mem_range.mpr hi)) c' (List.mem_range.mpr hc')) i' (List.mem_range.mpr hi')
  rw [he] at h
  simpa using h
theorem qw_D {G : qz_G} {h0 : Nat} (hG : ∀ c i, G.2.2 c i = h0 + qy_of c i) : qz_D G := by
  intro c i q c' i' q' hc hi hc' hi' he
  rw [hG, hG] at he
  exact qw_cnt c (List.getElem?_eq_some_iff.mp hc).1 i (by unfold qw_n; rw [hc]; exact hi) c' (List.getElem?_eq_some_iff.mp hc').1 i' (by unfold qw_n; rw [hc']; exact hi') (by omega)
theorem qw_arr {args : Array Value} {s : State} {ty : FieldType} (h : (Cond.arrayClass ty).before args s = true) (hp : ty = .long ∨ ty = .int ∨ ty = .boolean) : ∃ cA, ArrOfT s cA ty ∧ va_RA s cA ty := by
  obtain ⟨cA, kA, comp, f1, f2, f3⟩ := Cond.arrayClass_spec h
  refine ⟨cA, fun N z => ⟨(fun k h => by cases h), kA, f2, comp, f3⟩, ?_⟩
  rcases hp with rfl | rfl | rfl <;> exact f1
theorem qw_aro {args : Array Value} {s : State} {C : String} (h : (Cond.arrayOver (.object C)).before args s = true) : ∃ cA, ArrOfT s cA (.object C) ∧ va_RA s cA (.object C) := by
  obtain ⟨comp, c, k, h1, h2, h3, h4, h5⟩ := Cond.arrayOver_spec h
  exact ⟨c, fun N z => ⟨(fun k h => by cases h), k, h3, comp, h4⟩, k, comp, h3, h4, h1, h5⟩
theorem qw_cls {args : Array Value} {s : State} (hts : ∀ w ∈ qz_T, w.before args s = true) : ∀ k : Nat, ∃ p : ClassId × (Nat → Nat), ∀ q : vw_C, qz_cl[k]? = some q → u_Kn s q.1 q.2.1 q.2.2 p.1 p.2 := by
  intro k
  match k with
  | 0 =>
    obtain ⟨cC, iS, h⟩ := u_known (C := rq_0) (T := tq_0) (N := 8) (n := 8) hts iq_0 (hts _ xq_13)
    exact ⟨(cC, iS), fun q hq => by cases hq; exact h⟩
  | 1 =>
    obtain ⟨cC, iS, h⟩ := u_known (C := rq_1) (T := tq_1) (N := 3) (n := 3) hts iq_1 (hts _ wq_21)
    exact ⟨(cC, iS), fun q hq => by cases hq; exact h⟩
  | 2 =>
    obtain ⟨cC, iS, h⟩ := u_known (C := rq_2) (T := tq_2) (N := 10) (n := 10) hts iq_2 (hts _ wq_96)
    exact ⟨(cC, iS), fun q hq => by cases hq; exact h⟩
  | 3 =>
    obtain ⟨cC, iS, h⟩ := u_known (C := rq_3) (T := tq_3) (N := 4) (n := 4) hts iq_3 (hts _ wq_142)
    exact ⟨(cC, iS), fun q hq => by cases hq; exact h⟩
  | 4 =>
    obtain ⟨cC, iS, h⟩ := u_known (C := rq_4) (T := tq_4) (N := 10) (n := 10) hts iq_4 (hts _ wq_44)
    exact ⟨(cC, iS), fun q hq => by cases hq; exact h⟩
  | 5 =>
    obtain ⟨cC, iS, h⟩ := u_known (C := rq_5) (T := tq_5) (N := 5) (n := 5) hts iq_5 (hts _ wq_160)
    exact ⟨(cC, iS), fun q hq => by cases hq; exact h⟩
  | 6 =>
    obtain ⟨cC, iS, h⟩ := u_known (C := rq_6) (T := tq_6) (N := 6) (n := 6) hts iq_6 (hts _ wq_186)
    exact ⟨(cC, iS), fun q hq => by cases hq; exact h⟩
  | 7 =>
    obtain ⟨cC, iS, h⟩ := u_known (C := rq_7) (T := tq_7) (N := 42) (n := 42) hts iq_7 (hts _ xq_598)
    exact ⟨(cC, iS), fun q hq => by cases hq; exact h⟩
  | k + 8 => exact ⟨(0, fun _ => 0), fun q hq => by simp [qz_cl] at hq⟩
theorem qw_ars {args : Array Value} {s : State} (hts : ∀ w ∈ qz_T, w.before args s = true) (hts2 : ∀ w ∈ lw_tbl, w.before args s = true) : ∀ c : Nat, ∃ cA : ClassId, ∀ (q : qz_Y) (a : Nat × FieldType × Nat), qz_tb[c]? = some q → q.2 = .inr a → ArrOfT s cA a.2.1 ∧ va_RA s cA a.2.1 := by
  obtain ⟨c_long, h_long⟩ := qw_arr (hts _ wq_38) (by decide)
  obtain ⟨c_int, h_int⟩ := qw_arr (hts _ wq_90) (by decide)
  obtain ⟨c_boolean, h_boolean⟩ := qw_arr (hts _ wq_91) (by decide)
  obtain ⟨c_Pool, h_Pool⟩ := qw_aro (C := "ExactCurves$Pool") (hts2 _ (List.mem_of_getElem? (i := 84) (by decide +kernel)))
  obtain ⟨c_Mark, h_Mark⟩ := qw_aro (C := "ExactCurves$Mark") (hts2 _ (List.mem_of_getElem? (i := 86) (by decide +kernel)))
  obtain ⟨c_Vault, h_Vault⟩ := qw_aro (C := "ExactCurves$Vault") (hts2 _ (List.mem_of_getElem? (i := 137) (by decide +kernel)))
  obtain ⟨c_Loan, h_Loan⟩ := qw_aro (C := "ExactCurves$Loan") (hts2 _ (List.mem_of_getElem? (i := 139) (by decide +kernel)))
  intro c
  match c with
  | 0 => exact ⟨0, fun q a h1 h2 => by cases h1; cases h2⟩
  | 1 => exact ⟨0, fun q a h1 h2 => by cases h1; cases h2⟩
  | 2 => exact ⟨0, fun q a h1 h2 => by cases h1; cases h2⟩
  | 3 => exact ⟨0, fun q a h1 h2 => by cases h1; cases h2⟩
  | 4 => exact ⟨0, fun q a h1 h2 => by cases h1; cases h2⟩
  | 5 => exact ⟨0, fun q a h1 h2 => by cases h1; cases h2⟩
  | 6 => exact ⟨0, fun q a h1 h2 => by cases h1; cases h2⟩
  | 7 => exact ⟨0, fun q a h1 h2 => by cases h1; cases h2⟩
  | 8 => exact ⟨c_Pool, fun q a h1 h2 => by cases h1; cases h2; exact h_Pool⟩
  | 9 => exact ⟨c_Mark, fun q a h1 h2 => by cases h1; cases h2; exact h_Mark⟩
  | 10 => exact ⟨c_Vault, fun q a h1 h2 => by cases h1; cases h2; exact h_Vault⟩
  | 11 => exact ⟨c_Loan, fun q a h1 h2 => by cases h1; cases h2; exact h_Loan⟩
  | 12 => exact ⟨c_long, fun q a h1 h2 => by cases h1; cases h2; exact h_long⟩
  | 13 => exact ⟨c_long, fun q a h1 h2 => by cases h1; cases h2; exact h_long⟩
  | 14 => exact ⟨c_long, fun q a h1 h2 => by cases h1; cases h2; exact h_long⟩
  | 15 => exact ⟨c_long, fun q a h1 h2 => by cases h1; cases h2; exact h_long⟩
  | 16 => exact ⟨c_int, fun q a h1 h2 => by cases h1; cases h2; exact h_int⟩
  | 17 => exact ⟨c_boolean, fun q a h1 h2 => by cases h1; cases h2; exact h_boolean⟩
  | 18 => exact ⟨c_long, fun q a h1 h2 => by cases h1; cases h2; exact h_long⟩
  | 19 => exact ⟨c_long, fun q a h1 h2 => by cases h1; cases h2; exact h_long⟩
  | 20 => exact ⟨c_long, fun q a h1 h2 => by cases h1; cases h2; exact h_long⟩
  | 21 => exact ⟨c_long, fun q a h1 h2 => by cases h1; cases h2; exact h_long⟩
  | 22 => exact ⟨c_long, fun q a h1 h2 => by cases h1; cases h2; exact h_long⟩
  | 23 => exact ⟨c_long, fun q a h1 h2 => by cases h1; cases h2; exact h_long⟩
  | 24 => exact ⟨c_int, fun q a h1 h2 => by cases h1; cases h2; exact h_int⟩
  | 25 => exact ⟨c_int, fun q a h1 h2 => by cases h1; cases h2; exact h_int⟩
  | 26 => exact ⟨c_int, fun q a h1 h2 => by cases h1; cases h2; exact h_int⟩
  | 27 => exact ⟨c_long, fun q a h1 h2 => by cases h1; cases h2; exact h_long⟩
  | 28 => exact ⟨c_long, fun q a h1 h2 => by cases h1; cases h2; exact h_long⟩
  | 29 => exact ⟨c_long, fun q a h1 h2 => by cases h1; cases h2; exact h_long⟩
  | 30 => exact ⟨c_long, fun q a h1 h2 => by cases h1; cases h2; exact h_long⟩
  | 31 => exact ⟨c_long, fun q a h1 h2 => by cases h1; cases h2; exact h_long⟩
  | 32 => exact ⟨c_int, fun q a h1 h2 => by cases h1; cases h2; exact h_int⟩
  | 33 => exact ⟨c_long, fun q a h1 h2 => by cases h1; cases h2; exact h_long⟩
  | 34 => exact ⟨c_long, fun q a h1 h2 => by cases h1; cases h2; exact h_long⟩
  | 35 => exact ⟨c_int, fun q a h1 h2 => by cases h1; cases h2; exact h_int⟩
  | 36 => exact ⟨c_boolean, fun q a h1 h2 => by cases h1; cases h2; exact h_boolean⟩
  | 37 => exact ⟨c_long, fun q a h1 h2 => by cases h1; cases h2; exact h_long⟩
  | 38 => exact ⟨c_long, fun q a h1 h2 => by cases h1; cases h2; exact h_long⟩
  | 39 => exact ⟨c_long, fun q a h1 h2 => by cases h1; cases h2; exact h_long⟩
  | 40 => exact ⟨c_boolean, fun q a h1 h2 => by cases h1; cases h2; exact h_boolean⟩
  | 41 => exact ⟨c_long, fun q a h1 h2 => by cases h1; cases h2; exact h_long⟩
  | 42 => exact ⟨c_long, fun q a h1 h2 => by cases h1; cases h2; exact h_long⟩
  | 43 => exact ⟨c_long, fun q a h1 h2 => by cases h1; cases h2; exact h_long⟩
  | 44 => exact ⟨c_long, fun q a h1 h2 => by cases h1; cases h2; exact h_long⟩
  | 45 => exact ⟨c_long, fun q a h1 h2 => by cases h1; cases h2; exact h_long⟩
  | 46 => exact ⟨c_boolean, fun q a h1 h2 => by cases h1; cases h2; exact h_boolean⟩
  | 47 => exact ⟨c_int, fun q a h1 h2 => by cases h1; cases h2; exact h_int⟩
  | 48 => exact ⟨c_int, fun q a h1 h2 => by cases h1; cases h2; exact h_int⟩
  | 49 => exact ⟨c_int, fun q a h1 h2 => by cases h1; cases h2; exact h_int⟩
  | 50 => exact ⟨c_long, fun q a h1 h2 => by cases h1; cases h2; exact h_long⟩
  | 51 => exact ⟨c_long, fun q a h1 h2 => by cases h1; cases h2; exact h_long⟩
  | 52 => exact ⟨c_long, fun q a h1 h2 => by cases h1; cases h2; exact h_long⟩
  | 53 => exact ⟨c_long, fun q a h1 h2 => by cases h1; cases h2; exact h_long⟩
  | 54 => exact ⟨c_long, fun q a h1 h2 => by cases h1; cases h2; exact h_long⟩
  | 55 => exact ⟨c_long, fun q a h1 h2 => by cases h1; cases h2; exact h_long⟩
  | c + 56 => exact ⟨0, fun q a h1 h2 => by simp [qz_tb] at h1⟩
theorem qw_ns {args : Array Value} {s : State} (hts : ∀ w ∈ lw_tbl, w.before args s = true) : ∀ w ∈ qy_ns, va_Nw w s ∧ ∃ a i y h, w = Cond.methodLinkNest a i y h := by
  intro w hw
  simp only [qy_ns, List.mem_cons, List.not_mem_nil, or_false] at hw
  rcases hw with rfl | rfl | rfl | rfl | rfl | rfl
  · exact ⟨va_Nw.of rfl (hts _ (List.mem_of_getElem? (i := 231) (by decide +kernel))), _, _, _, _, rfl⟩
  · exact ⟨va_Nw.of rfl (hts _ (List.mem_of_getElem? (i := 205) (by decide +kernel))), _, _, _, _, rfl⟩
  · exact ⟨va_Nw.of rfl (hts _ (List.mem_of_getElem? (i := 187) (by decide +kernel))), _, _, _, _, rfl⟩
  · exact ⟨va_Nw.of rfl (hts _ (List.mem_of_getElem? (i := 141) (by decide +kernel))), _, _, _, _, rfl⟩
  · exact ⟨va_Nw.of rfl (hts _ (List.mem_of_getElem? (i := 89) (by decide +kernel))), _, _, _, _, rfl⟩
  · exact ⟨va_Nw.of rfl (hts _ (List.mem_of_getElem? (i := 66) (by decide +kernel))), _, _, _, _, rfl⟩
theorem qw_ao {args : Array Value} {s : State} (hts : ∀ w ∈ lw_tbl, w.before args s = true) : ∀ C ∈ qy_ao, va_AO C s := by
  intro w hw
  simp only [qy_ao, List.mem_cons, List.not_mem_nil, or_false] at hw
  rcases hw with rfl | rfl | rfl | rfl
  · exact va_AO.of (hts _ (List.mem_of_getElem? (i := 139) (by decide +kernel)))
  · exact va_AO.of (hts _ (List.mem_of_getElem? (i := 137) (by decide +kernel)))
  · exact va_AO.of (hts _ (List.mem_of_getElem? (i := 86) (by decide +kernel)))
  · exact va_AO.of (hts _ (List.mem_of_getElem? (i := 84) (by decide +kernel)))
/-- all objects are there, all references set -/
def qw_full (M : qy_M) : Prop := (∀ (c : Nat) (q : qz_Y), qz_tb[c]? = some q → M.2.2.1 c = q.1) ∧ ∀ (c i : Nat) (q : qz_Y), qz_tb[c]? = some q → i < q.1 → match q.2 with
  | .inl o => ∀ (k : Nat) (t : FieldType × Nat), o.2[k]? = some t → t.1.isReference = true → M.2.2.2.1 c i k = true
  | .inr a => a.2.1.isReference = true → ∀ j, j < a.1 → M.2.2.2.1 c i j = true
theorem qw_fs {ad : Nat → Nat → Nat} {M : qy_M} {c i : Nat} {ts : List (FieldType × Nat)} (h : ∀ (k : Nat) (t : FieldType × Nat), ts[k]? = some t → t.1.isReference = true → M.2.2.2.1 c i k = true) : qy_fs ad M c i 0 ts = qz_fs ad M.2.2.2.2 c i 0 ts := by
  apply List.ext_getElem?
  intro j
  by_cases hl : j < ts.length
  · have h2 : ts[j]? = some ts[j] := List.getElem?_eq_getElem hl
    rw [qy_fs_at ad M c i ts 0 j _ h2, qz_fs_at ad M.2.2.2.2 c i ts 0 j _ h2, Nat.zero_add]
    congr 1
    have h3 := h j _ h2
    generalize ts[j] = t at h3
    obtain ⟨t1, t2⟩ := t
    unfold qy_fv qz_fv
    cases t1 <;> first | rfl | (rw [h3 rfl]; rfl)
  · rw [List.getElem?_eq_none (by rw [qy_fs_len]; omega), List.getElem?_eq_none (by rw [qz_fs_len]; omega)]
theorem qw_arrV {cA : ClassId} {n : Nat} {f g : Nat → Value} (h : ∀ j, j < n → f j = g j) : arrV cA n f = arrV cA n g := by
  unfold arrV
  congr 2
  funext j
  exact h j.val j.isLt
theorem qw_P {G : qz_G} {h0 : Nat} {M : qy_M} {H : Heap} (hP : qy_P G h0 M H) (hF : qw_full M) : qz_P G M.2.2.2.2 H := by
  intro c i q hc hi
  have hp := hP.2.1 c i q hc (by rw [hF.1 c q hc]; exact hi)
  have hf := hF.2 c i q hc hi
  obtain ⟨n, o | a⟩ := q
  · have e : qz_e G M.2.2.2.2 c i (n, .inl o) = qy_e G M c i (n, .inl o) := by
      show (Sum.inr (o.1, qz_fs G.2.2 M.2.2.2.2 c i 0 o.2) : va_E) = Sum.inr (o.1, qy_fs G.2.2 M c i 0 o.2)
      rw [qw_fs hf]
    rw [e]
    exact hp
  · show H[G.2.2 c i]? = some (vp_cell (G.2.1 c) (a.1, qz_ar G.2.2 M.2.2.2.2 c i a.2))
    have hp' : H[G.2.2 c i]? = some (vp_cell (G.2.1 c) (a.1, qy_ar G.2.2 M c i a.2)) := hp
    rw [hp']
    obtain ⟨L, t1, t2⟩ := a
    unfold qz_ar qy_ar
    cases t1 <;> first | rfl | (show some (arrV (G.2.1 c) L (fun j => va_rf (if M.2.2.2.1 c i j = true then some (G.2.2 t2 j) else none))) = some (arrV (G.2.1 c) L (fun j => va_rf (some (G.2.2 t2 j)))); congr 1; apply qw_arrV; intro j hj; rw [hf rfl j hj]; rfl)
/-- by program: which tests 'qw_full' asks -/
def qw_fullB (M : qy_M) : Bool := (List.range qz_tb.length).all fun c => match qz_tb[c]? with
  | none => true
  | some q => (M.2.2.1 c == q.1) && (List.range q.1).all fun i => match q.2 with
    | .inl o => (List.range o.2.length).all fun k => match o.2[k]? with
      | none => true
      | some t => !t.1.isReference || M.2.2.2.1 c i k
    | .inr a => !a.2.1.isReference || (List.range a.1).all fun j => M.2.2.2.1 c i j
theorem qw_fullB_ok {M : qy_M} (h : qw_fullB M = true) : qw_full M := by
  unfold qw_fullB at h
  have key : ∀ (c : Nat) (q : qz_Y), qz_tb[c]? = some q → (M.2.2.1 c == q.1) = true ∧ ((List.range q.1).all fun i => match q.2 with
    | .inl o => (List.range o.2.length).all fun k => match o.2[k]? with
      | none => true
      | some t => !t.1.isReference || M.2.2.2.1 c i k
    | .inr a => !a.2.1.isReference || (List.range a.1).all fun j => M.2.2.2.1 c i j) = true := by
    intro c q hc
    have h1 := List.all_eq_true.mp h c (List.mem_range.mpr (List.getElem?_eq_some_iff.mp hc).1)
    simp only [hc, Bool.and_eq_true] at h1
    exact h1
  refine ⟨fun c q hc => by have := (key c q hc).1; simpa using this, fun c i q hc hi => ?_⟩
  have h2 := List.all_eq_true.mp (key c q hc).2 i (List.mem_range.mpr hi)
  obtain ⟨n, o | a⟩ := q
  · intro k t hk ht
    have h3 := List.all_eq_true.mp h2 k (List.mem_range.mpr (List.getElem?_eq_some_iff.mp hk).1)
    simp only [hk, ht, Bool.not_true, Bool.false_or] at h3
    exact h3
  · intro ht j hj
    have h2' : (!a.2.1.isReference || (List.range a.1).all fun j => M.2.2.2.1 c i j) = true := h2
    rw [ht] at h2'
    simp only [Bool.not_true, Bool.false_or] at h2'
    exact List.all_eq_true.mp h2' j (List.mem_range.mpr hj)
theorem qw_walk {p : Program} {e : Env} {s : State} {m : MethodId} {below : List Frame} {meth : Method} {c : Code} (l : Launch) {b L : Nat} {xs : Nat → Int32} {G : qz_G} (X : qy_X p s m #[Value.ref b] meth c "ExactCurvesLaw" code 4 ret G s.heap.size qy_ns qy_ao) (hX : va_X b L xs s s.heap) (hbl : b < s.heap.size) {r : Int32 × qz_N} (hr1 : r.1 = 1)
    (h : qw_run (fun M => if qw_fullB M = true ∧ M.1 ≤ 600000 ∧ M.2.1 ≤ 7302250 then fW_law_18 xs L 0 0 1100 (M.2.2.2.2, 0) else none) = some r) : qy_W p l e room_1 s m #[Value.ref b] below meth c (lw_Z below #[Value.ref b] s) G s.heap.size s.heap ((0 : Nat), (0 : Nat)) 4 qw_0 0 [(0, .ref b)] [] := by
  have hD := X.2.2.2.2.2.2.1
  have hG := X.2.2.2.2.2.2.2.2.2
  unfold qw_run at h
  refine qy_new X (ty := fq_0) ⟨rfl, rfl⟩ rfl rfl iq_0 yq_0 uq_0 ⟨xq_12, xq_13, wq_1⟩ dq_W_law_0 h (fun h => ?_)
  refine qy_dup X rfl dq_W_law_3 ?_
  refine qz_bind h (fun M1 e1 h => ?_)
  refine qy_ctor X (st := [.ref (G.2.2 0 (qw_0.2.2.1 0))]) (N' := M1) (y := yE_init) ⟨xq_16, wq_1, xq_15, xq_14⟩ ⟨rfl, by decide, by decide, by decide +kernel⟩ (kE_init l G hD hG (qw_0.2.2.1 0) _ _ e1) ⟨by decide, by decide⟩ (Nat.le_of_ble_eq_true rfl) dq_W_law_4 h (fun h => ?_)
  refine qy_astore_n X (lv' := [(1, .ref (G.2.2 0 (qw_0.2.2.1 0))), (0, .ref b)]) rfl (by decide) rfl dq_W_law_7 ?_
  refine qz_ite h (fun h7 h => ?_) (fun _ h => by cases h)
  refine qy_new X (ty := fq_7) ⟨rfl, rfl⟩ rfl rfl iq_7 yq_7 uq_7 ⟨xq_597, xq_598, wq_8⟩ dq_W_law_8 h (fun h => ?_)
  refine qy_dup X rfl dq_W_law_11 ?_
  refine qz_bind h (fun M2 e2 h => ?_)
  refine qy_ctor X (st := [.ref (G.2.2 7 (M1.2.2.1 7))]) (N' := M2) (y := yM_init) ⟨xq_601, wq_8, xq_600, xq_599⟩ ⟨rfl, by decide, by decide, by decide +kernel⟩ (kM_init l G hD hG (M1.2.2.1 7) _ _ e2) ⟨by decide, by decide⟩ (Nat.le_of_ble_eq_true rfl) dq_W_law_12 h (fun h => ?_)
  refine qy_astore_n X (lv' := [(2, .ref (G.2.2 7 (M1.2.2.1 7))), (1, .ref (G.2.2 0 (qw_0.2.2.1 0))), (0, .ref b)]) rfl (by decide) rfl dq_W_law_15 ?_
  refine qy_iconst X (v := (0 : Int32)) (by decide) dq_W_law_16 ?_
  refine qy_istore_n X (lv' := [(3, .int (0 : Int32)), (2, .ref (G.2.2 7 (M1.2.2.1 7))), (1, .ref (G.2.2 0 (qw_0.2.2.1 0))), (0, .ref b)]) rfl (by decide) rfl dq_W_law_17 ?_
  refine qz_ite h (fun hF h => ?_) (fun _ h => by cases h)
  obtain ⟨hF, hc1, hc2⟩ := hF
  have hF := qw_fullB_ok hF
  have hA : ∀ a, qz_A G a → s.heap.size ≤ a := fun a ha => by
    obtain ⟨c, i, q, -, -, rfl⟩ := ha
    rw [hG]; exact Nat.le_add_right _ _
  have hbA : ¬ qz_A G b := fun z => by have := hA b z; omega
  intro H locs ls hP hS hl
  rw [h7] at hl
  have hX' : va_X b L xs s H := hX.kept (hS.1 b hbl)
  refine va_forget hS.2 ?_
  have X' : qz_X p s m #[Value.ref b] meth c "ExactCurvesLaw" code 4 ret G := ⟨X.1, X.2.1, X.2.2.1, X.2.2.2.1, X.2.2.2.2.1, X.2.2.2.2.2.1.1, hD, X.2.2.2.2.2.2.2.1, X.2.2.2.2.2.2.2.2.1⟩
  exact sW_law_18 (H0 := H) X' hX' hbA hA ⟨Nat.le_trans (Nat.sub_le _ _) hc1, Nat.le_trans (Nat.sub_le _ _) hc2⟩ hr1 0 0 (by decide) (by decide) 1100 (M2.2.2.2.2, 0) h H [] ls (qw_P hP hF) qz_S.rf (lv_sub hl [0, 2, 1, 3] rfl)
/-- the whole law, out of what the functions say -/
theorem qw_start {p : Program} {e : Env} {s : State} {m : MethodId} {below : List Frame} {meth : Method} {c : Code} (l : Launch) {b L : Nat} {xs : Nat → Int32} (C0 : lw_At p s m meth c b L xs) {r : Int32 × qz_N} (hr1 : r.1 = 1)
    (h : qw_run (fun M => if qw_fullB M = true ∧ M.1 ≤ 600000 ∧ M.2.1 ≤ 7302250 then fW_law_18 xs L 0 0 1100 (M.2.2.2.2, 0) else none) = some r) : W p l e room_1 s m #[Value.ref b] below meth c s.heap [] 0 0 (lw_Z below #[Value.ref b] s) (entryFrame m ([Value.ref b] : List Value).toArray 4) := by
  obtain ⟨hx, hb, hr, hml, hown, hts, hX, hbl, hlocks, hgv⟩ := id C0
  have hT : ∀ w ∈ qz_T, w.before #[Value.ref b] s = true := fun w hw => hts w (List.mem_filter.mp hw).1
  obtain ⟨fc, hfc⟩ := Classical.axiomOfChoice (qw_cls hT)
  obtain ⟨fa, hfa⟩ := Classical.axiomOfChoice (qw_ars hT hts)
  have hG : ∀ c i, (((fun k => (fc k).1, fun k => (fc k).2), fa, fun c i => s.heap.size + qy_of c i) : qz_G).2.2 c i = s.heap.size + qy_of c i := fun _ _ => rfl
  generalize hGe : (((fun k => (fc k).1, fun k => (fc k).2), fa, fun c i => s.heap.size + qy_of c i) : qz_G) = G at hG
  have hK : qy_K G qy_ns qy_ao s := by
    subst hGe
    exact ⟨⟨⟨fun k q hq => hfc k q hq, fun k q h => by simp at h⟩, fun c q a hc ha => (hfa c q a hc ha).1⟩, fun c q a hc ha => (hfa c q a hc ha).2, qw_ns hts, qw_ao hts⟩
  have X : qy_X p s m #[Value.ref b] meth c "ExactCurvesLaw" code 4 ret G s.heap.size qy_ns qy_ao := ⟨hx, hb, hml, hown, hT, hK, qw_D hG, hlocks, hr, hG⟩
  have hl := lv_entry ([.ref b]) (n := 4) (Nat.le_of_ble_eq_true rfl)
  rw [lg_entry_eq]
  exact qw_walk l X hX hbl hr1 h s.heap [] _ ⟨rfl, fun c i q hc hi => absurd hi (Nat.not_lt_zero _), fun c i k hi => ⟨rfl, rfl, rfl⟩, fun c q hc => Nat.zero_le _⟩ qy_S.rf hl
