def qy_ns : List Cond := [(Jvm.Cond.methodLinkNest "ExactCurves" (50 : Nat) ({ cls := "ExactCurves$Loan", name := "<init>", desc := "()V" } : Jvm.MethodName) "ExactCurves"), (Jvm.Cond.methodLinkNest "ExactCurves" (49 : Nat) ({ cls := "ExactCurves$Vault", name := "<init>", desc := "()V" } : Jvm.MethodName) "ExactCurves"), (Jvm.Cond.methodLinkNest "ExactCurves" (48 : Nat) ({ cls := "ExactCurves$Mark", name := "<init>", desc := "()V" } : Jvm.MethodName) "ExactCurves"), (Jvm.Cond.methodLinkNest "ExactCurves" (47 : Nat) ({ cls := "ExactCurves$Pool", name := "<init>", desc := "()V" } : Jvm.MethodName) "ExactCurves"), (Jvm.Cond.methodLinkNest "ExactCurves" (30 : Nat) ({ cls := "ExactCurves$Batch", name := "<init>", desc := "()V" } : Jvm.MethodName) "ExactCurves"), (Jvm.Cond.methodLinkNest "ExactCurves" (9 : Nat) ({ cls := "ExactCurves$Purses", name := "<init>", desc := "()V" } : Jvm.MethodName) "ExactCurves")]
def qy_ao : List String := ["ExactCurves$Loan", "ExactCurves$Vault", "ExactCurves$Mark", "ExactCurves$Pool"]
theorem oq_init : Cond.code Lib.objectInit ⟨#[0xb1]⟩ 1 none ∈ qz_T := qz_mem 63 (by decide +kernel) rfl
theorem uq_0 : ∀ k, k < 8 → ∃ t, sq_0[k]? = some t ∧ t.1 = fq_0 k ∧ qy_okt t.1 = true := by
  intro k hk
  match k, hk with
  | 0, _ => exact ⟨_, rfl, rfl, rfl⟩
  | 1, _ => exact ⟨_, rfl, rfl, rfl⟩
  | 2, _ => exact ⟨_, rfl, rfl, rfl⟩
  | 3, _ => exact ⟨_, rfl, rfl, rfl⟩
  | 4, _ => exact ⟨_, rfl, rfl, rfl⟩
  | 5, _ => exact ⟨_, rfl, rfl, rfl⟩
  | 6, _ => exact ⟨_, rfl, rfl, rfl⟩
  | 7, _ => exact ⟨_, rfl, rfl, rfl⟩
  | k + 8, hk => exact absurd hk (by omega)
theorem uq_1 : ∀ k, k < 3 → ∃ t, sq_1[k]? = some t ∧ t.1 = fq_1 k ∧ qy_okt t.1 = true := by
  intro k hk
  match k, hk with
  | 0, _ => exact ⟨_, rfl, rfl, rfl⟩
  | 1, _ => exact ⟨_, rfl, rfl, rfl⟩
  | 2, _ => exact ⟨_, rfl, rfl, rfl⟩
  | k + 3, hk => exact absurd hk (by omega)
theorem uq_2 : ∀ k, k < 10 → ∃ t, sq_2[k]? = some t ∧ t.1 = fq_2 k ∧ qy_okt t.1 = true := by
  intro k hk
  match k, hk with
  | 0, _ => exact ⟨_, rfl, rfl, rfl⟩
  | 1, _ => exact ⟨_, rfl, rfl, rfl⟩
  | 2, _ => exact ⟨_, rfl, rfl, rfl⟩
  | 3, _ => exact ⟨_, rfl, rfl, rfl⟩
  | 4, _ => exact ⟨_, rfl, rfl, rfl⟩
  | 5, _ => exact ⟨_, rfl, rfl, rfl⟩
  | 6, _ => exact ⟨_, rfl, rfl, rfl⟩
  | 7, _ => exact ⟨_, rfl, rfl, rfl⟩
  | 8, _ => exact ⟨_, rfl, rfl, rfl⟩
  | 9, _ => exact ⟨_, rfl, rfl, rfl⟩
  | k + 10, hk => exact absurd hk (by omega)
theorem uq_3 : ∀ k, k < 4 → ∃ t, sq_3[k]? = some t ∧ t.1 = fq_3 k ∧ qy_okt t.1 = true := by
  intro k hk
  match k, hk with
  | 0, _ => exact ⟨_, rfl, rfl, rfl⟩
  | 1, _ => exact ⟨_, rfl, rfl, rfl⟩
  | 2, _ => exact ⟨_, rfl, rfl, rfl⟩
  | 3, _ => exact ⟨_, rfl, rfl, rfl⟩
  | k + 4, hk => exact absurd hk (by omega)
theorem uq_4 : ∀ k, k < 10 → ∃ t, sq_4[k]? = some t ∧ t.1 = fq_4 k ∧ qy_okt t.1 = true := by
  intro k hk
  match k, hk with
  | 0, _ => exact ⟨_, rfl, rfl, rfl⟩
  | 1, _ => exact ⟨_, rfl, rfl, rfl⟩
  | 2, _ => exact ⟨_, rfl, rfl, rfl⟩
  | 3, _ => exact ⟨_, rfl, rfl, rfl⟩
  | 4, _ => exact ⟨_, rfl, rfl, rfl⟩
  | 5, _ => exact ⟨_, rfl, rfl, rfl⟩
  | 6, _ => exact ⟨_, rfl, rfl, rfl⟩
  | 7, _ => exact ⟨_, rfl, rfl, rfl⟩
  | 8, _ => exact ⟨_, rfl, rfl, rfl⟩
  | 9, _ => exact ⟨_, rfl, rfl, rfl⟩
  | k + 10, hk => exact absurd hk (by omega)
theorem uq_5 : ∀ k, k < 5 → ∃ t, sq_5[k]? = some t ∧ t.1 = fq_5 k ∧ qy_okt t.1 = true := by
  intro k hk
  match k, hk with
  | 0, _ => exact ⟨_, rfl, rfl, rfl⟩
  | 1, _ => exact ⟨_, rfl, rfl, rfl⟩
  | 2, _ => exact ⟨_, rfl, rfl, rfl⟩
  | 3, _ => exact ⟨_, rfl, rfl, rfl⟩
  | 4, _ => exact ⟨_, rfl, rfl, rfl⟩
  | k + 5, hk => exact absurd hk (by omega)
theorem uq_6 : ∀ k, k < 6 → ∃ t, sq_6[k]? = some t ∧ t.1 = fq_6 k ∧ qy_okt t.1 = true := by
  intro k hk
  match k, hk with
  | 0, _ => exact ⟨_, rfl, rfl, rfl⟩
  | 1, _ => exact ⟨_, rfl, rfl, rfl⟩
  | 2, _ => exact ⟨_, rfl, rfl, rfl⟩
  | 3, _ => exact ⟨_, rfl, rfl, rfl⟩
  | 4, _ => exact ⟨_, rfl, rfl, rfl⟩
  | 5, _ => exact ⟨_, rfl, rfl, rfl⟩
  | k + 6, hk => exact absurd hk (by omega)
theorem uq_7 : ∀ k, k < 42 → ∃ t, sq_7[k]? = some t ∧ t.1 = fq_7 k ∧ qy_okt t.1 = true := by
  intro k hk
  match k, hk with
  | 0, _ => exact ⟨_, rfl, rfl, rfl⟩
  | 1, _ => exact ⟨_, rfl, rfl, rfl⟩
  | 2, _ => exact ⟨_, rfl, rfl, rfl⟩
  | 3, _ => exact ⟨_, rfl, rfl, rfl⟩
  | 4, _ => exact ⟨_, rfl, rfl, rfl⟩
  | 5, _ => exact ⟨_, rfl, rfl, rfl⟩
  | 6, _ => exact ⟨_, rfl, rfl, rfl⟩
  | 7, _ => exact ⟨_, rfl, rfl, rfl⟩
  | 8, _ => exact ⟨_, rfl, rfl, rfl⟩
  | 9, _ => exact ⟨_, rfl, rfl, rfl⟩
  | 10, _ => exact ⟨_, rfl, rfl, rfl⟩
  | 11, _ => exact ⟨_, rfl, rfl, rfl⟩
  | 12, _ => exact ⟨_, rfl, rfl, rfl⟩
  | 13, _ => exact ⟨_, rfl, rfl, rfl⟩
  | 14, _ => exact ⟨_, rfl, rfl, rfl⟩
  | 15, _ => exact ⟨_, rfl, rfl, rfl⟩
  | 16, _ => exact ⟨_, rfl, rfl, rfl⟩
  | 17, _ => exact ⟨_, rfl, rfl, rfl⟩
  | 18, _ => exact ⟨_, rfl, rfl, rfl⟩
  | 19, _ => exact ⟨_, rfl, rfl, rfl⟩
  | 20, _ => exact ⟨_, rfl, rfl, rfl⟩
  | 21, _ => exact ⟨_, rfl, rfl, rfl⟩
  | 22, _ => exact ⟨_, rfl, rfl, rfl⟩
  | 23, _ => exact ⟨_, rfl, rfl, rfl⟩
  | 24, _ => exact ⟨_, rfl, rfl, rfl⟩
  | 25, _ => exact ⟨_, rfl, rfl, rfl⟩
  | 26, _ => exact ⟨_, rfl, rfl, rfl⟩
  | 27, _ => exact ⟨_, rfl, rfl, rfl⟩
  | 28, _ => exact ⟨_, rfl, rfl, rfl⟩
  | 29, _ => exact ⟨_, rfl, rfl, rfl⟩
  | 30, _ => exact ⟨_, rfl, rfl, rfl⟩
  | 31, _ => exact ⟨_, rfl, rfl, rfl⟩
  | 32, _ => exact ⟨_, rfl, rfl, rfl⟩
  | 33, _ => exact ⟨_, rfl, rfl, rfl⟩
  | 34, _ => exact ⟨_, rfl, rfl, rfl⟩
  | 35, _ => exact ⟨_, rfl, rfl, rfl⟩
  | 36, _ => exact ⟨_, rfl, rfl, rfl⟩
  | 37, _ => exact ⟨_, rfl, rfl, rfl⟩
  | 38, _ => exact ⟨_, rfl, rfl, rfl⟩
  | 39, _ => exact ⟨_, rfl, rfl, rfl⟩
  | 40, _ => exact ⟨_, rfl, rfl, rfl⟩
  | 41, _ => exact ⟨_, rfl, rfl, rfl⟩
  | k + 42, hk => exact absurd hk (by omega)
theorem dq_U_init_0 : decode prog_7_method_1_code 0 = .ok (.aload_n 0, 1) := by decide +kernel
theorem dq_U_init_1 : decode prog_7_method_1_code 1 = .ok (.invokespecial 3, 3) := by decide +kernel
theorem dq_U_init_4 : decode prog_7_method_1_code 4 = .ok (.aload_n 0, 1) := by decide +kernel
theorem dq_U_init_5 : decode prog_7_method_1_code 5 = .ok (.bipush 24, 2) := by decide +kernel
theorem dq_U_init_7 : decode prog_7_method_1_code 7 = .ok (.newarray .long, 2) := by decide +kernel
theorem dq_U_init_9 : decode prog_7_method_1_code 9 = .ok (.putfield 9, 3) := by decide +kernel
theorem dq_U_init_12 : decode prog_7_method_1_code 12 = .ok (.aload_n 0, 1) := by decide +kernel
theorem dq_U_init_13 : decode prog_7_method_1_code 13 = .ok (.iconst 4, 1) := by decide +kernel
theorem dq_U_init_14 : decode prog_7_method_1_code 14 = .ok (.newarray .long, 2) := by decide +kernel
theorem dq_U_init_16 : decode prog_7_method_1_code 16 = .ok (.putfield 15, 3) := by decide +kernel
theorem dq_U_init_19 : decode prog_7_method_1_code 19 = .ok (.aload_n 0, 1) := by decide +kernel
theorem dq_U_init_20 : decode prog_7_method_1_code 20 = .ok (.iconst 4, 1) := by decide +kernel
theorem dq_U_init_21 : decode prog_7_method_1_code 21 = .ok (.newarray .long, 2) := by decide +kernel
theorem dq_U_init_23 : decode prog_7_method_1_code 23 = .ok (.putfield 18, 3) := by decide +kernel
theorem dq_U_init_26 : decode prog_7_method_1_code 26 = .ok (.return_, 1) := by decide +kernel
def gU_init (o : Nat) (M0 : qy_M) : Option qy_M :=
  if qy_of 12 (M0.2.2.1 12) = M0.1 ∧ M0.2.2.1 12 < 1 ∧ (M0.1, M0.2.1).1 ≤ M0.1 ∧ (M0.1, M0.2.1).2 ≤ M0.2.1 ∧ M0.1 + 1 ≤ (M0.1, M0.2.1).1 + 3 ∧ M0.2.1 + 24 ≤ (M0.1, M0.2.1).2 + 32 then qz_let (qy_add M0 12 24) fun _ =>
  if (M0.2.2.1 12) = o ∧ o < (qy_add M0 12 24).2.2.1 1 then qz_let (qy_mk (qy_add M0 12 24) 1 o 0) fun M1 =>
  if qy_of 13 (M1.2.2.1 13) = M1.1 ∧ M1.2.2.1 13 < 1 ∧ (M0.1, M0.2.1).1 ≤ M1.1 ∧ (M0.1, M0.2.1).2 ≤ M1.2.1 ∧ M1.1 + 1 ≤ (M0.1, M0.2.1).1 + 3 ∧ M1.2.1 + 4 ≤ (M0.1, M0.2.1).2 + 32 then qz_let (qy_add M1 13 4) fun _ =>
  if (M1.2.2.1 13) = o ∧ o < (qy_add M1 13 4).2.2.1 1 then qz_let (qy_mk (qy_add M1 13 4) 1 o 1) fun M2 =>
  if qy_of 14 (M2.2.2.1 14) = M2.1 ∧ M2.2.2.1 14 < 1 ∧ (M0.1, M0.2.1).1 ≤ M2.1 ∧ (M0.1, M0.2.1).2 ≤ M2.2.1 ∧ M2.1 + 1 ≤ (M0.1, M0.2.1).1 + 3 ∧ M2.2.1 + 4 ≤ (M0.1, M0.2.1).2 + 32 then qz_let (qy_add M2 14 4) fun _ =>
  if (M2.2.2.1 14) = o ∧ o < (qy_add M2 14 4).2.2.1 1 then qz_let (qy_mk (qy_add M2 14 4) 1 o 2) fun M3 =>
  if M3.1 ≤ (M0.1, M0.2.1).1 + 3 ∧ M3.2.1 ≤ (M0.1, M0.2.1).2 + 32 then some M3 else none
  else none
  else none
  else none
  else none
  else none
  else none
set_option maxRecDepth 100000 in
set_option maxHeartbeats 4000000 in
theorem tU_init {p : Program} {l : Launch} {e : Env} {s : State} {m : MethodId} {args : Array Value} {below : List Frame} {meth : Method} {c : Code} {G : qz_G} {h0 : Nat} (hinit : meth.name = "<init>") (hD : qz_D G) (hG : ∀ c i, G.2.2 c i = h0 + qy_of c i) (X : qy_X p s m args meth c "ExactCurves$Purses" prog_7_method_1_code 1 none G h0 qy_ns qy_ao) {r : qy_M} (o : Nat) (M0 : qy_M) (h : gU_init o M0 = some r) : qy_W p l e (qy_R 1 3 32) s m args below meth c (MQ below (qy_Q G h0 r) args s 3 32 (fun a => h0 ≤ a)) G h0 s.heap (M0.1, M0.2.1) 1 M0 0 [(0, .ref (G.2.2 1 o))] [] := by
  unfold gU_init at h
  refine qy_aload_n X 0 rfl dq_U_init_0 ?_
  refine qy_obj X ⟨wq_25, wq_18, oq_init⟩ ⟨by decide, by decide⟩ (Nat.le_of_ble_eq_true rfl) dq_U_init_1 ?_
  refine qy_aload_n X 0 rfl dq_U_init_4 ?_
  refine qy_bipush X (v := (24 : Int32)) (by decide) dq_U_init_5 ?_
  refine qy_newa X (ty := .long) (tg := 0) ⟨rfl, rfl⟩ rfl (by decide) rfl ⟨by decide, by decide, by decide⟩ wq_38 dq_U_init_7 h (fun h => ?_)
  refine qy_putR X rfl kq_U_9 (Or.inr ⟨hinit, 1, sq_1, tq_1, 3, rfl, rfl, rfl⟩) dq_U_init_9 h (fun M1 h => ?_)
  refine qy_aload_n X 0 rfl dq_U_init_12 ?_
  refine qy_iconst X (v := (4 : Int32)) (by decide) dq_U_init_13 ?_
  refine qy_newa X (ty := .long) (tg := 0) ⟨rfl, rfl⟩ rfl (by decide) rfl ⟨by decide, by decide, by decide⟩ wq_38 dq_U_init_14 h (fun h => ?_)
  refine qy_putR X rfl kq_U_15 (Or.inr ⟨hinit, 1, sq_1, tq_1, 3, rfl, rfl, rfl⟩) dq_U_init_16 h (fun M2 h => ?_)
  refine qy_aload_n X 0 rfl dq_U_init_19 ?_
  refine qy_iconst X (v := (4 : Int32)) (by decide) dq_U_init_20 ?_
  refine qy_newa X (ty := .long) (tg := 0) ⟨rfl, rfl⟩ rfl (by decide) rfl ⟨by decide, by decide, by decide⟩ wq_38 dq_U_init_21 h (fun h => ?_)
  refine qy_putR X rfl kq_U_18 (Or.inr ⟨hinit, 1, sq_1, tq_1, 3, rfl, rfl, rfl⟩) dq_U_init_23 h (fun M3 h => ?_)
  exact qy_vret X h dq_U_init_26
theorem kU_init (l : Launch) (G : qz_G) {h0 : Nat} (hD : qz_D G) (hG : ∀ c i, G.2.2 c i = h0 + qy_of c i) (o : Nat) (M0 r : qy_M) (h : gU_init o M0 = some r) : qy_C l yU_init prog_7_method_1_code 1 1 3 32 G h0 qy_ns qy_ao [.ref (G.2.2 1 o)] M0 r :=
  qy_enter (lv := [(0, .ref (G.2.2 1 o))]) rfl rfl hD hG (Nat.le_of_ble_eq_true rfl) rfl (fun p e s m args below meth c hi X => tU_init hi hD hG X o M0 h)
theorem dq_P_init_0 : decode prog_6_method_1_code 0 = .ok (.aload_n 0, 1) := by decide +kernel
theorem dq_P_init_1 : decode prog_6_method_1_code 1 = .ok (.invokespecial 3, 3) := by decide +kernel
theorem dq_P_init_4 : decode prog_6_method_1_code 4 = .ok (.aload_n 0, 1) := by decide +kernel
theorem dq_P_init_5 : decode prog_6_method_1_code 5 = .ok (.bipush 6, 2) := by decide +kernel
theorem dq_P_init_7 : decode prog_6_method_1_code 7 = .ok (.newarray .long, 2) := by decide +kernel
theorem dq_P_init_9 : decode prog_6_method_1_code 9 = .ok (.putfield 9, 3) := by decide +kernel
theorem dq_P_init_12 : decode prog_6_method_1_code 12 = .ok (.return_, 1) := by decide +kernel
def gP_init (o : Nat) (M0 : qy_M) : Option qy_M :=
  if qy_of 15 (M0.2.2.1 15) = M0.1 ∧ M0.2.2.1 15 < 6 ∧ (M0.1, M0.2.1).1 ≤ M0.1 ∧ (M0.1, M0.2.1).2 ≤ M0.2.1 ∧ M0.1 + 1 ≤ (M0.1, M0.2.1).1 + 1 ∧ M0.2.1 + 6 ≤ (M0.1, M0.2.1).2 + 6 then qz_let (qy_add M0 15 6) fun _ =>
  if (M0.2.2.1 15) = o ∧ o < (qy_add M0 15 6).2.2.1 2 then qz_let (qy_mk (qy_add M0 15 6) 2 o 0) fun M1 =>
  if M1.1 ≤ (M0.1, M0.2.1).1 + 1 ∧ M1.2.1 ≤ (M0.1, M0.2.1).2 + 6 then some M1 else none
  else none
  else none
set_option maxRecDepth 100000 in
set_option maxHeartbeats 4000000 in
theorem tP_init {p : Program} {l : Launch} {e : Env} {s : State} {m : MethodId} {args : Array Value} {below : List Frame} {meth : Method} {c : Code} {G : qz_G} {h0 : Nat} (hinit : meth.name = "<init>") (hD : qz_D G) (hG : ∀ c i, G.2.2 c i = h0 + qy_of c i) (X : qy_X p s m args meth c "ExactCurves$Pool" prog_6_method_1_code 1 none G h0 qy_ns qy_ao) {r : qy_M} (o : Nat) (M0 : qy_M) (h : gP_init o M0 = some r) : qy_W p l e (qy_R 1 1 6) s m args below meth c (MQ below (qy_Q G h0 r) args s 1 6 (fun a => h0 ≤ a)) G h0 s.heap (M0.1, M0.2.1) 1 M0 0 [(0, .ref (G.2.2 2 o))] [] := by
  unfold gP_init at h
  refine qy_aload_n X 0 rfl dq_P_init_0 ?_
  refine qy_obj X ⟨wq_100, wq_18, oq_init⟩ ⟨by decide, by decide⟩ (Nat.le_of_ble_eq_true rfl) dq_P_init_1 ?_
  refine qy_aload_n X 0 rfl dq_P_init_4 ?_
  refine qy_bipush X (v := (6 : Int32)) (by decide) dq_P_init_5 ?_
  refine qy_newa X (ty := .long) (tg := 0) ⟨rfl, rfl⟩ rfl (by decide) rfl ⟨by decide, by decide, by decide⟩ wq_38 dq_P_init_7 h (fun h => ?_)
  refine qy_putR X rfl kq_P_9 (Or.inr ⟨hinit, 2, sq_2, tq_2, 10, rfl, rfl, rfl⟩) dq_P_init_9 h (fun M1 h => ?_)
  exact qy_vret X h dq_P_init_12
theorem kP_init (l : Launch) (G : qz_G) {h0 : Nat} (hD : qz_D G) (hG : ∀ c i, G.2.2 c i = h0 + qy_of c i) (o : Nat) (M0 r : qy_M) (h : gP_init o M0 = some r) : qy_C l yP_init prog_6_method_1_code 1 1 1 6 G h0 qy_ns qy_ao [.ref (G.2.2 2 o)] M0 r :=
  qy_enter (lv := [(0, .ref (G.2.2 2 o))]) rfl rfl hD hG (Nat.le_of_ble_eq_true rfl) rfl (fun p e s m args below meth c hi X => tP_init hi hD hG X o M0 h)
theorem dq_K_init_0 : decode prog_5_method_1_code 0 = .ok (.aload_n 0, 1) := by decide +kernel
theorem dq_K_init_1 : decode prog_5_method_1_code 1 = .ok (.invokespecial 1, 3) := by decide +kernel
theorem dq_K_init_4 : decode prog_5_method_1_code 4 = .ok (.return_, 1) := by decide +kernel
def gK_init (o : Nat) (M0 : qy_M) : Option qy_M :=
  if M0.1 ≤ (M0.1, M0.2.1).1 + 0 ∧ M0.2.1 ≤ (M0.1, M0.2.1).2 + 0 then some M0 else none
set_option maxRecDepth 100000 in
set_option maxHeartbeats 4000000 in
theorem tK_init {p : Program} {l : Launch} {e : Env} {s : State} {m : MethodId} {args : Array Value} {below : List Frame} {meth : Method} {c : Code} {G : qz_G} {h0 : Nat} (hinit : meth.name = "<init>") (hD : qz_D G) (hG : ∀ c i, G.2.2 c i = h0 + qy_of c i) (X : qy_X p s m args meth c "ExactCurves$Mark" prog_5_method_1_code 1 none G h0 qy_ns qy_ao) {r : qy_M} (o : Nat) (M0 : qy_M) (h : gK_init o M0 = some r) : qy_W p l e (qy_R 1 0 0) s m args below meth c (MQ below (qy_Q G h0 r) args s 0 0 (fun a => h0 ≤ a)) G h0 s.heap (M0.1, M0.2.1) 1 M0 0 [(0, .ref (G.2.2 3 o))] [] := by
  unfold gK_init at h
  refine qy_aload_n X 0 rfl dq_K_init_0 ?_
  refine qy_obj X ⟨wq_146, wq_18, oq_init⟩ ⟨by decide, by decide⟩ (Nat.le_of_ble_eq_true rfl) dq_K_init_1 ?_
  exact qy_vret X h dq_K_init_4
theorem kK_init (l : Launch) (G : qz_G) {h0 : Nat} (hD : qz_D G) (hG : ∀ c i, G.2.2 c i = h0 + qy_of c i) (o : Nat) (M0 r : qy_M) (h : gK_init o M0 = some r) : qy_C l yK_init prog_5_method_1_code 1 1 0 0 G h0 qy_ns qy_ao [.ref (G.2.2 3 o)] M0 r :=
  qy_enter (lv := [(0, .ref (G.2.2 3 o))]) rfl rfl hD hG (Nat.le_of_ble_eq_true rfl) rfl (fun p e s m args below meth c hi X => tK_init hi hD hG X o M0 h)
theorem dq_B_init_0 : decode prog_2_method_1_code 0 = .ok (.aload_n 0, 1) := by decide +kernel
theorem dq_B_init_1 : decode prog_2_method_1_code 1 = .ok (.invokespecial 3, 3) := by decide +kernel
theorem dq_B_init_4 : decode prog_2_method_1_code 4 = .ok (.aload_n 0, 1) := by decide +kernel
theorem dq_B_init_5 : decode prog_2_method_1_code 5 = .ok (.bipush 40, 2) := by decide +kernel
theorem dq_B_init_7 : decode prog_2_method_1_code 7 = .ok (.newarray .int, 2) := by decide +kernel
theorem dq_B_init_9 : decode prog_2_method_1_code 9 = .ok (.putfield 9, 3) := by decide +kernel
theorem dq_B_init_12 : decode prog_2_method_1_code 12 = .ok (.aload_n 0, 1) := by decide +kernel
theorem dq_B_init_13 : decode prog_2_method_1_code 13 = .ok (.bipush 40, 2) := by decide +kernel
theorem dq_B_init_15 : decode prog_2_method_1_code 15 = .ok (.newarray .boolean, 2) := by decide +kernel
theorem dq_B_init_17 : decode prog_2_method_1_code 17 = .ok (.putfield 15, 3) := by decide +kernel
theorem dq_B_init_20 : decode prog_2_method_1_code 20 = .ok (.aload_n 0, 1) := by decide +kernel
theorem dq_B_init_21 : decode prog_2_method_1_code 21 = .ok (.bipush 40, 2) := by decide +kernel
theorem dq_B_init_23 : decode prog_2_method_1_code 23 = .ok (.newarray .long, 2) := by decide +kernel
theorem dq_B_init_25 : decode prog_2_method_1_code 25 = .ok (.putfield 19, 3) := by decide +kernel
theorem dq_B_init_28 : decode prog_2_method_1_code 28 = .ok (.aload_n 0, 1) := by decide +kernel
theorem dq_B_init_29 : decode prog_2_method_1_code 29 = .ok (.bipush 40, 2) := by decide +kernel
theorem dq_B_init_31 : decode prog_2_method_1_code 31 = .ok (.newarray .long, 2) := by decide +kernel
theorem dq_B_init_33 : decode prog_2_method_1_code 33 = .ok (.putfield 23, 3) := by decide +kernel
theorem dq_B_init_36 : decode prog_2_method_1_code 36 = .ok (.aload_n 0, 1) := by decide +kernel
theorem dq_B_init_37 : decode prog_2_method_1_code 37 = .ok (.bipush 40, 2) := by decide +kernel
theorem dq_B_init_39 : decode prog_2_method_1_code 39 = .ok (.newarray .long, 2) := by decide +kernel
theorem dq_B_init_41 : decode prog_2_method_1_code 41 = .ok (.putfield 26, 3) := by decide +kernel
theorem dq_B_init_44 : decode prog_2_method_1_code 44 = .ok (.aload_n 0, 1) := by decide +kernel
theorem dq_B_init_45 : decode prog_2_method_1_code 45 = .ok (.iconst 0, 1) := by decide +kernel
theorem dq_B_init_46 : decode prog_2_method_1_code 46 = .ok (.putfield 29, 3) := by decide +kernel
theorem dq_B_init_49 : decode prog_2_method_1_code 49 = .ok (.aload_n 0, 1) := by decide +kernel
theorem dq_B_init_50 : decode prog_2_method_1_code 50 = .ok (.iconst 1, 1) := by decide +kernel
theorem dq_B_init_51 : decode prog_2_method_1_code 51 = .ok (.putfield 33, 3) := by decide +kernel
theorem dq_B_init_54 : decode prog_2_method_1_code 54 = .ok (.return_, 1) := by decide +kernel
def gB_init (o : Nat) (M0 : qy_M) : Option qy_M :=
  if qy_of 16 (M0.2.2.1 16) = M0.1 ∧ M0.2.2.1 16 < 1 ∧ (M0.1, M0.2.1).1 ≤ M0.1 ∧ (M0.1, M0.2.1).2 ≤ M0.2.1 ∧ M0.1 + 1 ≤ (M0.1, M0.2.1).1 + 5 ∧ M0.2.1 + 40 ≤ (M0.1, M0.2.1).2 + 200 then qz_let (qy_add M0 16 40) fun _ =>
  if (M0.2.2.1 16) = o ∧ o < (qy_add M0 16 40).2.2.1 4 then qz_let (qy_mk (qy_add M0 16 40) 4 o 0) fun M1 =>
  if qy_of 17 (M1.2.2.1 17) = M1.1 ∧ M1.2.2.1 17 < 1 ∧ (M0.1, M0.2.1).1 ≤ M1.1 ∧ (M0.1, M0.2.1).2 ≤ M1.2.1 ∧ M1.1 + 1 ≤ (M0.1, M0.2.1).1 + 5 ∧ M1.2.1 + 40 ≤ (M0.1, M0.2.1).2 + 200 then qz_let (qy_add M1 17 40) fun _ =>
  if (M1.2.2.1 17) = o ∧ o < (qy_add M1 17 40).2.2.1 4 then qz_let (qy_mk (qy_add M1 17 40) 4 o 1) fun M2 =>
  if qy_of 18 (M2.2.2.1 18) = M2.1 ∧ M2.2.2.1 18 < 1 ∧ (M0.1, M0.2.1).1 ≤ M2.1 ∧ (M0.1, M0.2.1).2 ≤ M2.2.1 ∧ M2.1 + 1 ≤ (M0.1, M0.2.1).1 + 5 ∧ M2.2.1 + 40 ≤ (M0.1, M0.2.1).2 + 200 then qz_let (qy_add M2 18 40) fun _ =>
  if (M2.2.2.1 18) = o ∧ o < (qy_add M2 18 40).2.2.1 4 then qz_let (qy_mk (qy_add M2 18 40) 4 o 2) fun M3 =>
  if qy_of 19 (M3.2.2.1 19) = M3.1 ∧ M3.2.2.1 19 < 1 ∧ (M0.1, M0.2.1).1 ≤ M3.1 ∧ (M0.1, M0.2.1).2 ≤ M3.2.1 ∧ M3.1 + 1 ≤ (M0.1, M0.2.1).1 + 5 ∧ M3.2.1 + 40 ≤ (M0.1, M0.2.1).2 + 200 then qz_let (qy_add M3 19 40) fun _ =>
  if (M3.2.2.1 19) = o ∧ o < (qy_add M3 19 40).2.2.1 4 then qz_let (qy_mk (qy_add M3 19 40) 4 o 3) fun M4 =>
  if qy_of 20 (M4.2.2.1 20) = M4.1 ∧ M4.2.2.1 20 < 1 ∧ (M0.1, M0.2.1).1 ≤ M4.1 ∧ (M0.1, M0.2.1).2 ≤ M4.2.1 ∧ M4.1 + 1 ≤ (M0.1, M0.2.1).1 + 5 ∧ M4.2.1 + 40 ≤ (M0.1, M0.2.1).2 + 200 then qz_let (qy_add M4 20 40) fun _ =>
  if (M4.2.2.1 20) = o ∧ o < (qy_add M4 20 40).2.2.1 4 then qz_let (qy_mk (qy_add M4 20 40) 4 o 4) fun M5 =>
  if o < M5.2.2.1 4 then qz_let (qy_sN M5 (qz_si M5.2.2.2.2 4 o 5 (0 : Int32))) fun M6 =>
  if o < M6.2.2.1 4 then qz_let (qy_sN M6 (qz_si M6.2.2.2.2 4 o 6 (1 : Int32))) fun M7 =>
  if M7.1 ≤ (M0.1, M0.2.1).1 + 5 ∧ M7.2.1 ≤ (M0.1, M0.2.1).2 + 200 then some M7 else none
  else none
  else none
  else none
  else none
  else none
  else none
  else none
  else none
  else none
  else none
  else none
  else none
set_option maxRecDepth 100000 in
set_option maxHeartbeats 4000000 in
theorem tB_init {p : Program} {l : Launch} {e : Env} {s : State} {m : MethodId} {args : Array Value} {below : List Frame} {meth : Method} {c : Code} {G : qz_G} {h0 : Nat} (hinit : meth.name = "<init>") (hD : qz_D G) (hG : ∀ c i, G.2.2 c i = h0 + qy_of c i) (X : qy_X p s m args meth c "ExactCurves$Batch" prog_2_method_1_code 1 none G h0 qy_ns qy_ao) {r : qy_M} (o : Nat) (M0 : qy_M) (h : gB_init o M0 = some r) : qy_W p l e (qy_R 1 5 200) s m args below meth c (MQ below (qy_Q G h0 r) args s 5 200 (fun a => h0 ≤ a)) G h0 s.heap (M0.1, M0.2.1) 1 M0 0 [(0, .ref (G.2.2 4 o))] [] := by
  unfold gB_init at h
  refine qy_aload_n X 0 rfl dq_B_init_0 ?_
  refine qy_obj X ⟨wq_48, wq_18, oq_init⟩ ⟨by decide, by decide⟩ (Nat.le_of_ble_eq_true rfl) dq_B_init_1 ?_
  refine qy_aload_n X 0 rfl dq_B_init_4 ?_
  refine qy_bipush X (v := (40 : Int32)) (by decide) dq_B_init_5 ?_
  refine qy_newa X (ty := .int) (tg := 0) ⟨rfl, rfl⟩ rfl (by decide) rfl ⟨by decide, by decide, by decide⟩ wq_90 dq_B_init_7 h (fun h => ?_)
  refine qy_putR X rfl kq_B_9 (Or.inr ⟨hinit, 4, sq_4, tq_4, 10, rfl, rfl, rfl⟩) dq_B_init_9 h (fun M1 h => ?_)
  refine qy_aload_n X 0 rfl dq_B_init_12 ?_
  refine qy_bipush X (v := (40 : Int32)) (by decide) dq_B_init_13 ?_
  refine qy_newa X (ty := .boolean) (tg := 0) ⟨rfl, rfl⟩ rfl (by decide) rfl ⟨by decide, by decide, by decide⟩ wq_91 dq_B_init_15 h (fun h => ?_)
  refine qy_putR X rfl kq_B_15 (Or.inr ⟨hinit, 4, sq_4, tq_4, 10, rfl, rfl, rfl⟩) dq_B_init_17 h (fun M2 h => ?_)
  refine qy_aload_n X 0 rfl dq_B_init_20 ?_
  refine qy_bipush X (v := (40 : Int32)) (by decide) dq_B_init_21 ?_
  refine qy_newa X (ty := .long) (tg := 0) ⟨rfl, rfl⟩ rfl (by decide) rfl ⟨by decide, by decide, by decide⟩ wq_38 dq_B_init_23 h (fun h => ?_)
  refine qy_putR X rfl kq_B_19 (Or.inr ⟨hinit, 4, sq_4, tq_4, 10, rfl, rfl, rfl⟩) dq_B_init_25 h (fun M3 h => ?_)
  refine qy_aload_n X 0 rfl dq_B_init_28 ?_
  refine qy_bipush X (v := (40 : Int32)) (by decide) dq_B_init_29 ?_
  refine qy_newa X (ty := .long) (tg := 0) ⟨rfl, rfl⟩ rfl (by decide) rfl ⟨by decide, by decide, by decide⟩ wq_38 dq_B_init_31 h (fun h => ?_)
  refine qy_putR X rfl kq_B_23 (Or.inr ⟨hinit, 4, sq_4, tq_4, 10, rfl, rfl, rfl⟩) dq_B_init_33 h (fun M4 h => ?_)
  refine qy_aload_n X 0 rfl dq_B_init_36 ?_
  refine qy_bipush X (v := (40 : Int32)) (by decide) dq_B_init_37 ?_
  refine qy_newa X (ty := .long) (tg := 0) ⟨rfl, rfl⟩ rfl (by decide) rfl ⟨by decide, by decide, by decide⟩ wq_38 dq_B_init_39 h (fun h => ?_)
  refine qy_putR X rfl kq_B_26 (Or.inr ⟨hinit, 4, sq_4, tq_4, 10, rfl, rfl, rfl⟩) dq_B_init_41 h (fun M5 h => ?_)
  refine qy_aload_n X 0 rfl dq_B_init_44 ?_
  refine qy_iconst X (v := (0 : Int32)) (by decide) dq_B_init_45 ?_
  refine qy_putI X kq_B_29 dq_B_init_46 h (fun M6 h => ?_)
  refine qy_aload_n X 0 rfl dq_B_init_49 ?_
  refine qy_iconst X (v := (1 : Int32)) (by decide) dq_B_init_50 ?_
  refine qy_putI X kq_B_33 dq_B_init_51 h (fun M7 h => ?_)
  exact qy_vret X h dq_B_init_54
theorem kB_init (l : Launch) (G : qz_G) {h0 : Nat} (hD : qz_D G) (hG : ∀ c i, G.2.2 c i = h0 + qy_of c i) (o : Nat) (M0 r : qy_M) (h : gB_init o M0 = some r) : qy_C l yB_init prog_2_method_1_code 1 1 5 200 G h0 qy_ns qy_ao [.ref (G.2.2 4 o)] M0 r :=
  qy_enter (lv := [(0, .ref (G.2.2 4 o))]) rfl rfl hD hG (Nat.le_of_ble_eq_true rfl) rfl (fun p e s m args below meth c hi X => tB_init hi hD hG X o M0 h)
theorem dq_V_init_0 : decode prog_8_method_1_code 0 = .ok (.aload_n 0, 1) := by decide +kernel
theorem dq_V_init_1 : decode prog_8_method_1_code 1 = .ok (.invokespecial 3, 3) := by decide +kernel
theorem dq_V_init_4 : decode prog_8_method_1_code 4 = .ok (.aload_n 0, 1) := by decide +kernel
theorem dq_V_init_5 : decode prog_8_method_1_code 5 = .ok (.bipush 6, 2) := by decide +kernel
theorem dq_V_init_7 : decode prog_8_method_1_code 7 = .ok (.newarray .long, 2) := by decide +kernel
theorem dq_V_init_9 : decode prog_8_method_1_code 9 = .ok (.putfield 9, 3) := by decide +kernel
theorem dq_V_init_12 : decode prog_8_method_1_code 12 = .ok (.aload_n 0, 1) := by decide +kernel
theorem dq_V_init_13 : decode prog_8_method_1_code 13 = .ok (.ldc2_w 15, 3) := by decide +kernel
theorem dq_V_init_16 : decode prog_8_method_1_code 16 = .ok (.putfield 17, 3) := by decide +kernel
theorem dq_V_init_19 : decode prog_8_method_1_code 19 = .ok (.return_, 1) := by decide +kernel
def gV_init (o : Nat) (M0 : qy_M) : Option qy_M :=
  if qy_of 21 (M0.2.2.1 21) = M0.1 ∧ M0.2.2.1 21 < 4 ∧ (M0.1, M0.2.1).1 ≤ M0.1 ∧ (M0.1, M0.2.1).2 ≤ M0.2.1 ∧ M0.1 + 1 ≤ (M0.1, M0.2.1).1 + 1 ∧ M0.2.1 + 6 ≤ (M0.1, M0.2.1).2 + 6 then qz_let (qy_add M0 21 6) fun _ =>
  if (M0.2.2.1 21) = o ∧ o < (qy_add M0 21 6).2.2.1 5 then qz_let (qy_mk (qy_add M0 21 6) 5 o 0) fun M1 =>
  if o < M1.2.2.1 5 then qz_let (qy_sN M1 (qz_sl M1.2.2.2.2 5 o 4 (1000000000 : Int64))) fun M2 =>
  if M2.1 ≤ (M0.1, M0.2.1).1 + 1 ∧ M2.2.1 ≤ (M0.1, M0.2.1).2 + 6 then some M2 else none
  else none
  else none
  else none
set_option maxRecDepth 100000 in
set_option maxHeartbeats 4000000 in
theorem tV_init {p : Program} {l : Launch} {e : Env} {s : State} {m : MethodId} {args : Array Value} {below : List Frame} {meth : Method} {c : Code} {G : qz_G} {h0 : Nat} (hinit : meth.name = "<init>") (hD : qz_D G) (hG : ∀ c i, G.2.2 c i = h0 + qy_of c i) (X : qy_X p s m args meth c "ExactCurves$Vault" prog_8_method_1_code 1 none G h0 qy_ns qy_ao) {r : qy_M} (o : Nat) (M0 : qy_M) (h : gV_init o M0 = some r) : qy_W p l e (qy_R 1 1 6) s m args below meth c (MQ below (qy_Q G h0 r) args s 1 6 (fun a => h0 ≤ a)) G h0 s.heap (M0.1, M0.2.1) 1 M0 0 [(0, .ref (G.2.2 5 o))] [] := by
  unfold gV_init at h
  refine qy_aload_n X 0 rfl dq_V_init_0 ?_
  refine qy_obj X ⟨wq_164, wq_18, oq_init⟩ ⟨by decide, by decide⟩ (Nat.le_of_ble_eq_true rfl) dq_V_init_1 ?_
  refine qy_aload_n X 0 rfl dq_V_init_4 ?_
  refine qy_bipush X (v := (6 : Int32)) (by decide) dq_V_init_5 ?_
  refine qy_newa X (ty := .long) (tg := 0) ⟨rfl, rfl⟩ rfl (by decide) rfl ⟨by decide, by decide, by decide⟩ wq_38 dq_V_init_7 h (fun h => ?_)
  refine qy_putR X rfl kq_V_9 (Or.inr ⟨hinit, 5, sq_5, tq_5, 5, rfl, rfl, rfl⟩) dq_V_init_9 h (fun M1 h => ?_)
  refine qy_aload_n X 0 rfl dq_V_init_12 ?_
  refine qy_ldc2 X (v := (1000000000 : Int64)) wq_165 dq_V_init_13 ?_
  refine qy_putJ X kq_V_17 dq_V_init_16 h (fun M2 h => ?_)
  exact qy_vret X h dq_V_init_19
theorem kV_init (l : Launch) (G : qz_G) {h0 : Nat} (hD : qz_D G) (hG : ∀ c i, G.2.2 c i = h0 + qy_of c i) (o : Nat) (M0 r : qy_M) (h : gV_init o M0 = some r) : qy_C l yV_init prog_8_method_1_code 1 1 1 6 G h0 qy_ns qy_ao [.ref (G.2.2 5 o)] M0 r :=
  qy_enter (lv := [(0, .ref (G.2.2 5 o))]) rfl rfl hD hG (Nat.le_of_ble_eq_true rfl) rfl (fun p e s m args below meth c hi X => tV_init hi hD hG X o M0 h)
theorem dq_L_init_0 : decode prog_4_method_1_code 0 = .ok (.aload_n 0, 1) := by decide +kernel
theorem dq_L_init_1 : decode prog_4_method_1_code 1 = .ok (.invokespecial 1, 3) := by decide +kernel
theorem dq_L_init_4 : decode prog_4_method_1_code 4 = .ok (.return_, 1) := by decide +kernel
def gL_init (o : Nat) (M0 : qy_M) : Option qy_M :=
  if M0.1 ≤ (M0.1, M0.2.1).1 + 0 ∧ M0.2.1 ≤ (M0.1, M0.2.1).2 + 0 then some M0 else none
set_option maxRecDepth 100000 in
set_option maxHeartbeats 4000000 in
theorem tL_init {p : Program} {l : Launch} {e : Env} {s : State} {m : MethodId} {args : Array Value} {below : List Frame} {meth : Method} {c : Code} {G : qz_G} {h0 : Nat} (hinit : meth.name = "<init>") (hD : qz_D G) (hG : ∀ c i, G.2.2 c i = h0 + qy_of c i) (X : qy_X p s m args meth c "ExactCurves$Loan" prog_4_method_1_code 1 none G h0 qy_ns qy_ao) {r : qy_M} (o : Nat) (M0 : qy_M) (h : gL_init o M0 = some r) : qy_W p l e (qy_R 1 0 0) s m args below meth c (MQ below (qy_Q G h0 r) args s 0 0 (fun a => h0 ≤ a)) G h0 s.heap (M0.1, M0.2.1) 1 M0 0 [(0, .ref (G.2.2 6 o))] [] := by
  unfold gL_init at h
  refine qy_aload_n X 0 rfl dq_L_init_0 ?_
  refine qy_obj X ⟨wq_190, wq_18, oq_init⟩ ⟨by decide, by decide⟩ (Nat.le_of_ble_eq_true rfl) dq_L_init_1 ?_
  exact qy_vret X h dq_L_init_4
theorem kL_init (l : Launch) (G : qz_G) {h0 : Nat} (hD : qz_D G) (hG : ∀ c i, G.2.2 c i = h0 + qy_of c i) (o : Nat) (M0 r : qy_M) (h : gL_init o M0 = some r) : qy_C l yL_init prog_4_method_1_code 1 1 0 0 G h0 qy_ns qy_ao [.ref (G.2.2 6 o)] M0 r :=
  qy_enter (lv := [(0, .ref (G.2.2 6 o))]) rfl rfl hD hG (Nat.le_of_ble_eq_true rfl) rfl (fun p e s m args below meth c hi X => tL_init hi hD hG X o M0 h)
theorem dq_E_init_0 : decode prog_1_method_1_code 0 = .ok (.aload_n 0, 1) := by decide +kernel
theorem dq_E_init_1 : decode prog_1_method_1_code 1 = .ok (.invokespecial 1, 3) := by decide +kernel
theorem dq_E_init_4 : decode prog_1_method_1_code 4 = .ok (.aload_n 0, 1) := by decide +kernel
theorem dq_E_init_5 : decode prog_1_method_1_code 5 = .ok (.new 7, 3) := by decide +kernel
theorem dq_E_init_8 : decode prog_1_method_1_code 8 = .ok (.dup, 1) := by decide +kernel
theorem dq_E_init_9 : decode prog_1_method_1_code 9 = .ok (.invokespecial 9, 3) := by decide +kernel
theorem dq_E_init_12 : decode prog_1_method_1_code 12 = .ok (.putfield 10, 3) := by decide +kernel
theorem dq_E_init_15 : decode prog_1_method_1_code 15 = .ok (.aload_n 0, 1) := by decide +kernel
theorem dq_E_init_16 : decode prog_1_method_1_code 16 = .ok (.bipush 6, 2) := by decide +kernel
theorem dq_E_init_18 : decode prog_1_method_1_code 18 = .ok (.anewarray 16, 3) := by decide +kernel
theorem dq_E_init_21 : decode prog_1_method_1_code 21 = .ok (.putfield 18, 3) := by decide +kernel
theorem dq_E_init_24 : decode prog_1_method_1_code 24 = .ok (.aload_n 0, 1) := by decide +kernel
theorem dq_E_init_25 : decode prog_1_method_1_code 25 = .ok (.bipush 8, 2) := by decide +kernel
theorem dq_E_init_27 : decode prog_1_method_1_code 27 = .ok (.anewarray 22, 3) := by decide +kernel
theorem dq_E_init_30 : decode prog_1_method_1_code 30 = .ok (.putfield 24, 3) := by decide +kernel
theorem dq_E_init_33 : decode prog_1_method_1_code 33 = .ok (.aload_n 0, 1) := by decide +kernel
theorem dq_E_init_34 : decode prog_1_method_1_code 34 = .ok (.new 28, 3) := by decide +kernel
theorem dq_E_init_37 : decode prog_1_method_1_code 37 = .ok (.dup, 1) := by decide +kernel
theorem dq_E_init_38 : decode prog_1_method_1_code 38 = .ok (.invokespecial 30, 3) := by decide +kernel
theorem dq_E_init_41 : decode prog_1_method_1_code 41 = .ok (.putfield 31, 3) := by decide +kernel
theorem dq_E_init_44 : decode prog_1_method_1_code 44 = .ok (.aload_n 0, 1) := by decide +kernel
theorem dq_E_init_45 : decode prog_1_method_1_code 45 = .ok (.iconst 4, 1) := by decide +kernel
theorem dq_E_init_46 : decode prog_1_method_1_code 46 = .ok (.anewarray 35, 3) := by decide +kernel
theorem dq_E_init_49 : decode prog_1_method_1_code 49 = .ok (.putfield 37, 3) := by decide +kernel
theorem dq_E_init_52 : decode prog_1_method_1_code 52 = .ok (.aload_n 0, 1) := by decide +kernel
theorem dq_E_init_53 : decode prog_1_method_1_code 53 = .ok (.bipush 10, 2) := by decide +kernel
theorem dq_E_init_55 : decode prog_1_method_1_code 55 = .ok (.anewarray 41, 3) := by decide +kernel
theorem dq_E_init_58 : decode prog_1_method_1_code 58 = .ok (.putfield 43, 3) := by decide +kernel
theorem dq_E_init_61 : decode prog_1_method_1_code 61 = .ok (.iconst 0, 1) := by decide +kernel
theorem dq_E_init_62 : decode prog_1_method_1_code 62 = .ok (.istore_n 1, 1) := by decide +kernel
theorem dq_E_init_63 : decode prog_1_method_1_code 63 = .ok (.iload_n 1, 1) := by decide +kernel
theorem dq_E_init_64 : decode prog_1_method_1_code 64 = .ok (.bipush 6, 2) := by decide +kernel
theorem dq_E_init_66 : decode prog_1_method_1_code 66 = .ok (.if_icmp .ge 22, 3) := by decide +kernel
theorem dq_E_init_69 : decode prog_1_method_1_code 69 = .ok (.aload_n 0, 1) := by decide +kernel
theorem dq_E_init_70 : decode prog_1_method_1_code 70 = .ok (.getfield 18, 3) := by decide +kernel
theorem dq_E_init_73 : decode prog_1_method_1_code 73 = .ok (.iload_n 1, 1) := by decide +kernel
theorem dq_E_init_74 : decode prog_1_method_1_code 74 = .ok (.new 16, 3) := by decide +kernel
theorem dq_E_init_77 : decode prog_1_method_1_code 77 = .ok (.dup, 1) := by decide +kernel
theorem dq_E_init_78 : decode prog_1_method_1_code 78 = .ok (.invokespecial 47, 3) := by decide +kernel
theorem dq_E_init_81 : decode prog_1_method_1_code 81 = .ok (.aastore, 1) := by decide +kernel
theorem dq_E_init_82 : decode prog_1_method_1_code 82 = .ok (.iinc 1 1, 3) := by decide +kernel
theorem dq_E_init_85 : decode prog_1_method_1_code 85 = .ok (.goto (-22), 3) := by decide +kernel
theorem dq_E_init_88 : decode prog_1_method_1_code 88 = .ok (.iconst 0, 1) := by decide +kernel
theorem dq_E_init_89 : decode prog_1_method_1_code 89 = .ok (.istore_n 1, 1) := by decide +kernel
theorem dq_E_init_90 : decode prog_1_method_1_code 90 = .ok (.iload_n 1, 1) := by decide +kernel
theorem dq_E_init_91 : decode prog_1_method_1_code 91 = .ok (.bipush 8, 2) := by decide +kernel
theorem dq_E_init_93 : decode prog_1_method_1_code 93 = .ok (.if_icmp .ge 22, 3) := by decide +kernel
theorem dq_E_init_96 : decode prog_1_method_1_code 96 = .ok (.aload_n 0, 1) := by decide +kernel
theorem dq_E_init_97 : decode prog_1_method_1_code 97 = .ok (.getfield 24, 3) := by decide +kernel
theorem dq_E_init_100 : decode prog_1_method_1_code 100 = .ok (.iload_n 1, 1) := by decide +kernel
theorem dq_E_init_101 : decode prog_1_method_1_code 101 = .ok (.new 22, 3) := by decide +kernel
theorem dq_E_init_104 : decode prog_1_method_1_code 104 = .ok (.dup, 1) := by decide +kernel
theorem dq_E_init_105 : decode prog_1_method_1_code 105 = .ok (.invokespecial 48, 3) := by decide +kernel
theorem dq_E_init_108 : decode prog_1_method_1_code 108 = .ok (.aastore, 1) := by decide +kernel
theorem dq_E_init_109 : decode prog_1_method_1_code 109 = .ok (.iinc 1 1, 3) := by decide +kernel
theorem dq_E_init_112 : decode prog_1_method_1_code 112 = .ok (.goto (-22), 3) := by decide +kernel
theorem dq_E_init_115 : decode prog_1_method_1_code 115 = .ok (.iconst 0, 1) := by decide +kernel
theorem dq_E_init_116 : decode prog_1_method_1_code 116 = .ok (.istore_n 1, 1) := by decide +kernel
theorem dq_E_init_117 : decode prog_1_method_1_code 117 = .ok (.iload_n 1, 1) := by decide +kernel
theorem dq_E_init_118 : decode prog_1_method_1_code 118 = .ok (.iconst 4, 1) := by decide +kernel
theorem dq_E_init_119 : decode prog_1_method_1_code 119 = .ok (.if_icmp .ge 22, 3) := by decide +kernel
theorem dq_E_init_122 : decode prog_1_method_1_code 122 = .ok (.aload_n 0, 1) := by decide +kernel
theorem dq_E_init_123 : decode prog_1_method_1_code 123 = .ok (.getfield 37, 3) := by decide +kernel
theorem dq_E_init_126 : decode prog_1_method_1_code 126 = .ok (.iload_n 1, 1) := by decide +kernel
theorem dq_E_init_127 : decode prog_1_method_1_code 127 = .ok (.new 35, 3) := by decide +kernel
theorem dq_E_init_130 : decode prog_1_method_1_code 130 = .ok (.dup, 1) := by decide +kernel
theorem dq_E_init_131 : decode prog_1_method_1_code 131 = .ok (.invokespecial 49, 3) := by decide +kernel
theorem dq_E_init_134 : decode prog_1_method_1_code 134 = .ok (.aastore, 1) := by decide +kernel
theorem dq_E_init_135 : decode prog_1_method_1_code 135 = .ok (.iinc 1 1, 3) := by decide +kernel
theorem dq_E_init_138 : decode prog_1_method_1_code 138 = .ok (.goto (-21), 3) := by decide +kernel
theorem dq_E_init_141 : decode prog_1_method_1_code 141 = .ok (.iconst 0, 1) := by decide +kernel
theorem dq_E_init_142 : decode prog_1_method_1_code 142 = .ok (.istore_n 1, 1) := by decide +kernel
theorem dq_E_init_143 : decode prog_1_method_1_code 143 = .ok (.iload_n 1, 1) := by decide +kernel
theorem dq_E_init_144 : decode prog_1_method_1_code 144 = .ok (.bipush 10, 2) := by decide +kernel
theorem dq_E_init_146 : decode prog_1_method_1_code 146 = .ok (.if_icmp .ge 22, 3) := by decide +kernel
theorem dq_E_init_149 : decode prog_1_method_1_code 149 = .ok (.aload_n 0, 1) := by decide +kernel
theorem dq_E_init_150 : decode prog_1_method_1_code 150 = .ok (.getfield 43, 3) := by decide +kernel
theorem dq_E_init_153 : decode prog_1_method_1_code 153 = .ok (.iload_n 1, 1) := by decide +kernel
theorem dq_E_init_154 : decode prog_1_method_1_code 154 = .ok (.new 41, 3) := by decide +kernel
theorem dq_E_init_157 : decode prog_1_method_1_code 157 = .ok (.dup, 1) := by decide +kernel
theorem dq_E_init_158 : decode prog_1_method_1_code 158 = .ok (.invokespecial 50, 3) := by decide +kernel
theorem dq_E_init_161 : decode prog_1_method_1_code 161 = .ok (.aastore, 1) := by decide +kernel
theorem dq_E_init_162 : decode prog_1_method_1_code 162 = .ok (.iinc 1 1, 3) := by decide +kernel
theorem dq_E_init_165 : decode prog_1_method_1_code 165 = .ok (.goto (-22), 3) := by decide +kernel
theorem dq_E_init_168 : decode prog_1_method_1_code 168 = .ok (.return_, 1) := by decide +kernel
def gE_init_143b (M0 : qy_M) (y0 : Nat) (k143 : qy_M × Int32 → Option qy_M) (N : qy_M) (x1 : Int32) : Option qy_M :=
  if (10 : Int32) ≤ x1 then
    if N.1 ≤ (M0.1, M0.2.1).1 + 52 ∧ N.2.1 ≤ (M0.1, M0.2.1).2 + 505 then some N else none
  else
  if y0 < N.2.2.1 0 ∧ N.2.2.2.1 0 y0 5 = true then
  if qy_of 6 (N.2.2.1 6) = N.1 ∧ N.2.2.1 6 < 10 ∧ (M0.1, M0.2.1).1 ≤ N.1 ∧ (M0.1, M0.2.1).2 ≤ N.2.1 ∧ N.1 + 1 ≤ (M0.1, M0.2.1).1 + 52 ∧ N.2.1 + 6 ≤ (M0.1, M0.2.1).2 + 505 then qz_let (qy_add N 6 6) fun _ =>
  (gL_init (N.2.2.1 6) (qy_add N 6 6)).bind fun M11 => if (M0.1, M0.2.1).1 ≤ (qy_add N 6 6).1 ∧ (M0.1, M0.2.1).2 ≤ (qy_add N 6 6).2.1 ∧ M11.1 = (qy_add N 6 6).1 + 0 ∧ M11.2.1 = (qy_add N 6 6).2.1 + 0 ∧ (qy_add N 6 6).1 + 0 ≤ (M0.1, M0.2.1).1 + (qy_R 2 52 505).cells ∧ (qy_add N 6 6).2.1 + 0 ≤ (M0.1, M0.2.1).2 + (qy_R 2 52 505).slots then
  if ¬ (x1 < 0 ∨ 10 ≤ x1.toNatClampNeg) ∧ y0 < M11.2.2.1 11 ∧ (N.2.2.1 6) = x1.toNatClampNeg ∧ (N.2.2.1 6) < M11.2.2.1 6 then qz_let (qy_mk M11 11 y0 x1.toNatClampNeg) fun M13 =>
  qz_let (x1 + (1 : Int32)) fun v14 =>
  k143 (M13, v14)
  else none
  else none
  else none
  else none
def gE_init_143 (M0 : qy_M) (y0 : Nat) (n : Nat) (a : qy_M × Int32) : Option qy_M := qz_loop (fun k a => gE_init_143b M0 y0 k a.1 a.2) n a
def gE_init_117b (M0 : qy_M) (y0 : Nat) (k117 : qy_M × Int32 → Option qy_M) (N : qy_M) (x1 : Int32) : Option qy_M :=
  if (4 : Int32) ≤ x1 then
    gE_init_143 M0 y0 1100 (N, (0 : Int32))
  else
  if y0 < N.2.2.1 0 ∧ N.2.2.2.1 0 y0 4 = true then
  if qy_of 5 (N.2.2.1 5) = N.1 ∧ N.2.2.1 5 < 4 ∧ (M0.1, M0.2.1).1 ≤ N.1 ∧ (M0.1, M0.2.1).2 ≤ N.2.1 ∧ N.1 + 1 ≤ (M0.1, M0.2.1).1 + 52 ∧ N.2.1 + 5 ≤ (M0.1, M0.2.1).2 + 505 then qz_let (qy_add N 5 5) fun _ =>
  (gV_init (N.2.2.1 5) (qy_add N 5 5)).bind fun M16 => if (M0.1, M0.2.1).1 ≤ (qy_add N 5 5).1 ∧ (M0.1, M0.2.1).2 ≤ (qy_add N 5 5).2.1 ∧ M16.1 = (qy_add N 5 5).1 + 1 ∧ M16.2.1 = (qy_add N 5 5).2.1 + 6 ∧ (qy_add N 5 5).1 + 1 ≤ (M0.1, M0.2.1).1 + (qy_R 2 52 505).cells ∧ (qy_add N 5 5).2.1 + 6 ≤ (M0.1, M0.2.1).2 + (qy_R 2 52 505).slots then
  if ¬ (x1 < 0 ∨ 4 ≤ x1.toNatClampNeg) ∧ y0 < M16.2.2.1 10 ∧ (N.2.2.1 5) = x1.toNatClampNeg ∧ (N.2.2.1 5) < M16.2.2.1 5 then qz_let (qy_mk M16 10 y0 x1.toNatClampNeg) fun M18 =>
  qz_let (x1 + (1 : Int32)) fun v19 =>
  k117 (M18, v19)
  else none
  else none
  else none
  else none
def gE_init_117 (M0 : qy_M) (y0 : Nat) (n : Nat) (a : qy_M × Int32) : Option qy_M := qz_loop (fun k a => gE_init_117b M0 y0 k a.1 a.2) n a
def gE_init_90b (M0 : qy_M) (y0 : Nat) (k90 : qy_M × Int32 → Option qy_M) (N : qy_M) (x1 : Int32) : Option qy_M :=
  if (8 : Int32) ≤ x1 then
    gE_init_117 M0 y0 1100 (N, (0 : Int32))
  else
  if y0 < N.2.2.1 0 ∧ N.2.2.2.1 0 y0 2 = true then
  if qy_of 3 (N.2.2.1 3) = N.1 ∧ N.2.2.1 3 < 8 ∧ (M0.1, M0.2.1).1 ≤ N.1 ∧ (M0.1, M0.2.1).2 ≤ N.2.1 ∧ N.1 + 1 ≤ (M0.1, M0.2.1).1 + 52 ∧ N.2.1 + 4 ≤ (M0.1, M0.2.1).2 + 505 then qz_let (qy_add N 3 4) fun _ =>
  (gK_init (N.2.2.1 3) (qy_add N 3 4)).bind fun M21 => if (M0.1, M0.2.1).1 ≤ (qy_add N 3 4).1 ∧ (M0.1, M0.2.1).2 ≤ (qy_add N 3 4).2.1 ∧ M21.1 = (qy_add N 3 4).1 + 0 ∧ M21.2.1 = (qy_add N 3 4).2.1 + 0 ∧ (qy_add N 3 4).1 + 0 ≤ (M0.1, M0.2.1).1 + (qy_R 2 52 505).cells ∧ (qy_add N 3 4).2.1 + 0 ≤ (M0.1, M0.2.1).2 + (qy_R 2 52 505).slots then
  if ¬ (x1 < 0 ∨ 8 ≤ x1.toNatClampNeg) ∧ y0 < M21.2.2.1 9 ∧ (N.2.2.1 3) = x1.toNatClampNeg ∧ (N.2.2.1 3) < M21.2.2.1 3 then qz_let (qy_mk M21 9 y0 x1.toNatClampNeg) fun M23 =>
  qz_let (x1 + (1 : Int32)) fun v24 =>
  k90 (M23, v24)
  else none
  else none
  else none
  else none
def gE_init_90 (M0 : qy_M) (y0 : Nat) (n : Nat) (a : qy_M × Int32) : Option qy_M := qz_loop (fun k a => gE_init_90b M0 y0 k a.1 a.2) n a
def gE_init_63b (M0 : qy_M) (y0 : Nat) (k63 : qy_M × Int32 → Option qy_M) (N : qy_M) (x1 : Int32) : Option qy_M :=
  if (6 : Int32) ≤ x1 then
    gE_init_90 M0 y0 1100 (N, (0 : Int32))
  else
  if y0 < N.2.2.1 0 ∧ N.2.2.2.1 0 y0 1 = true then
  if qy_of 2 (N.2.2.1 2) = N.1 ∧ N.2.2.1 2 < 6 ∧ (M0.1, M0.2.1).1 ≤ N.1 ∧ (M0.1, M0.2.1).2 ≤ N.2.1 ∧ N.1 + 1 ≤ (M0.1, M0.2.1).1 + 52 ∧ N.2.1 + 10 ≤ (M0.1, M0.2.1).2 + 505 then qz_let (qy_add N 2 10) fun _ =>
  (gP_init (N.2.2.1 2) (qy_add N 2 10)).bind fun M26 => if (M0.1, M0.2.1).1 ≤ (qy_add N 2 10).1 ∧ (M0.1, M0.2.1).2 ≤ (qy_add N 2 10).2.1 ∧ M26.1 = (qy_add N 2 10).1 + 1 ∧ M26.2.1 = (qy_add N 2 10).2.1 + 6 ∧ (qy_add N 2 10).1 + 1 ≤ (M0.1, M0.2.1).1 + (qy_R 2 52 505).cells ∧ (qy_add N 2 10).2.1 + 6 ≤ (M0.1, M0.2.1).2 + (qy_R 2 52 505).slots then
  if ¬ (x1 < 0 ∨ 6 ≤ x1.toNatClampNeg) ∧ y0 < M26.2.2.1 8 ∧ (N.2.2.1 2) = x1.toNatClampNeg ∧ (N.2.2.1 2) < M26.2.2.1 2 then qz_let (qy_mk M26 8 y0 x1.toNatClampNeg) fun M28 =>
  qz_let (x1 + (1 : Int32)) fun v29 =>
  k63 (M28, v29)
  else none
  else none
  else none
  else none
def gE_init_63 (M0 : qy_M) (y0 : Nat) (n : Nat) (a : qy_M × Int32) : Option qy_M := qz_loop (fun k a => gE_init_63b M0 y0 k a.1 a.2) n a
def gE_init (o : Nat) (M0 : qy_M) : Option qy_M :=
  if qy_of 1 (M0.2.2.1 1) = M0.1 ∧ M0.2.2.1 1 < 1 ∧ (M0.1, M0.2.1).1 ≤ M0.1 ∧ (M0.1, M0.2.1).2 ≤ M0.2.1 ∧ M0.1 + 1 ≤ (M0.1, M0.2.1).1 + 52 ∧ M0.2.1 + 3 ≤ (M0.1, M0.2.1).2 + 505 then qz_let (qy_add M0 1 3) fun _ =>
  (gU_init (M0.2.2.1 1) (qy_add M0 1 3)).bind fun M1 => if (M0.1, M0.2.1).1 ≤ (qy_add M0 1 3).1 ∧ (M0.1, M0.2.1).2 ≤ (qy_add M0 1 3).2.1 ∧ M1.1 = (qy_add M0 1 3).1 + 3 ∧ M1.2.1 = (qy_add M0 1 3).2.1 + 32 ∧ (qy_add M0 1 3).1 + 3 ≤ (M0.1, M0.2.1).1 + (qy_R 2 52 505).cells ∧ (qy_add M0 1 3).2.1 + 32 ≤ (M0.1, M0.2.1).2 + (qy_R 2 52 505).slots then
  if (M0.2.2.1 1) = o ∧ o < M1.2.2.1 0 then qz_let (qy_mk M1 0 o 0) fun M3 =>
  if qy_of 8 (M3.2.2.1 8) = M3.1 ∧ M3.2.2.1 8 < 1 ∧ (M0.1, M0.2.1).1 ≤ M3.1 ∧ (M0.1, M0.2.1).2 ≤ M3.2.1 ∧ M3.1 + 1 ≤ (M0.1, M0.2.1).1 + 52 ∧ M3.2.1 + 6 ≤ (M0.1, M0.2.1).2 + 505 then qz_let (qy_add M3 8 6) fun _ =>
  if (M3.2.2.1 8) = o ∧ o < (qy_add M3 8 6).2.2.1 0 then qz_let (qy_mk (qy_add M3 8 6) 0 o 1) fun M4 =>
  if qy_of 9 (M4.2.2.1 9) = M4.1 ∧ M4.2.2.1 9 < 1 ∧ (M0.1, M0.2.1).1 ≤ M4.1 ∧ (M0.1, M0.2.1).2 ≤ M4.2.1 ∧ M4.1 + 1 ≤ (M0.1, M0.2.1).1 + 52 ∧ M4.2.1 + 8 ≤ (M0.1, M0.2.1).2 + 505 then qz_let (qy_add M4 9 8) fun _ =>
  if (M4.2.2.1 9) = o ∧ o < (qy_add M4 9 8).2.2.1 0 then qz_let (qy_mk (qy_add M4 9 8) 0 o 2) fun M5 =>
  if qy_of 4 (M5.2.2.1 4) = M5.1 ∧ M5.2.2.1 4 < 1 ∧ (M0.1, M0.2.1).1 ≤ M5.1 ∧ (M0.1, M0.2.1).2 ≤ M5.2.1 ∧ M5.1 + 1 ≤ (M0.1, M0.2.1).1 + 52 ∧ M5.2.1 + 10 ≤ (M0.1, M0.2.1).2 + 505 then qz_let (qy_add M5 4 10) fun _ =>
  (gB_init (M5.2.2.1 4) (qy_add M5 4 10)).bind fun M6 => if (M0.1, M0.2.1).1 ≤ (qy_add M5 4 10).1 ∧ (M0.1, M0.2.1).2 ≤ (qy_add M5 4 10).2.1 ∧ M6.1 = (qy_add M5 4 10).1 + 5 ∧ M6.2.1 = (qy_add M5 4 10).2.1 + 200 ∧ (qy_add M5 4 10).1 + 5 ≤ (M0.1, M0.2.1).1 + (qy_R 2 52 505).cells ∧ (qy_add M5 4 10).2.1 + 200 ≤ (M0.1, M0.2.1).2 + (qy_R 2 52 505).slots then
  if (M5.2.2.1 4) = o ∧ o < M6.2.2.1 0 then qz_let (qy_mk M6 0 o 3) fun M8 =>
  if qy_of 10 (M8.2.2.1 10) = M8.1 ∧ M8.2.2.1 10 < 1 ∧ (M0.1, M0.2.1).1 ≤ M8.1 ∧ (M0.1, M0.2.1).2 ≤ M8.2.1 ∧ M8.1 + 1 ≤ (M0.1, M0.2.1).1 + 52 ∧ M8.2.1 + 4 ≤ (M0.1, M0.2.1).2 + 505 then qz_let (qy_add M8 10 4) fun _ =>
  if (M8.2.2.1 10) = o ∧ o < (qy_add M8 10 4).2.2.1 0 then qz_let (qy_mk (qy_add M8 10 4) 0 o 4) fun M9 =>
  if qy_of 11 (M9.2.2.1 11) = M9.1 ∧ M9.2.2.1 11 < 1 ∧ (M0.1, M0.2.1).1 ≤ M9.1 ∧ (M0.1, M0.2.1).2 ≤ M9.2.1 ∧ M9.1 + 1 ≤ (M0.1, M0.2.1).1 + 52 ∧ M9.2.1 + 10 ≤ (M0.1, M0.2.1).2 + 505 then qz_let (qy_add M9 11 10) fun _ =>
  if (M9.2.2.1 11) = o ∧ o < (qy_add M9 11 10).2.2.1 0 then qz_let (qy_mk (qy_add M9 11 10) 0 o 5) fun M10 =>
  gE_init_63 M0 o 1100 (M10, (0 : Int32))
  else none
  else none
  else none
  else none
  else none
  else none
  else none
  else none
  else none
  else none
  else none
  else none
  else none
  else none
set_option maxRecDepth 100000 in
set_option maxHeartbeats 4000000 in
theorem tE_init_143b {p : Program} {l : Launch} {e : Env} {s : State} {m : MethodId} {args : Array Value} {below : List Frame} {meth : Method} {c : Code} {G : qz_G} {h0 : Nat} (hinit : meth.name = "<init>") (hD : qz_D G) (hG : ∀ c i, G.2.2 c i = h0 + qy_of c i) (X : qy_X p s m args meth c "ExactCurves" prog_1_method_1_code 2 none G h0 qy_ns qy_ao) {r : qy_M} (M0 : qy_M) (y0 : Nat) (hy0 : True) (k143 : qy_M × Int32 → Option qy_M) (hk143 : ∀ a, k143 a = some r → qy_W p l e (qy_R 2 52 505) s m args below meth c (MQ below (qy_Q G h0 r) args s 52 505 (fun a => h0 ≤ a)) G h0 s.heap (M0.1, M0.2.1) 2 a.1 143 [(1, .int a.2), (0, .ref (G.2.2 0 y0))] []) (N : qy_M) (x1 : Int32) (h : gE_init_143b M0 y0 k143 N x1 = some r) : qy_W p l e (qy_R 2 52 505) s m args below meth c (MQ below (qy_Q G h0 r) args s 52 505 (fun a => h0 ≤ a)) G h0 s.heap (M0.1, M0.2.1) 2 N 143 [(1, .int x1), (0, .ref (G.2.2 0 y0))] [] := by
  unfold gE_init_143b at h
  refine qy_iload_n X 0 rfl dq_E_init_143 ?_
  refine qy_bipush X (v := (10 : Int32)) (by decide) dq_E_init_144 ?_
  refine qy_icmp_ge X (tgt := 168) (by decide) dq_E_init_146 h (fun _ h => ?_) (fun _ h => ?_)
  · exact qy_vret X h dq_E_init_168
  · refine qy_aload_n X 1 rfl dq_E_init_149 ?_
    refine qz_ite h (fun hc h => ?_) (fun _ h => by cases h)
    refine qy_get X (v := .ref (G.2.2 11 y0)) kq_E_43 hc.1 (by show (if _ then _ else _) = _; rw [if_pos hc.2]) dq_E_init_150 ?_
    refine qy_iload_n X 0 rfl dq_E_init_153 ?_
    refine qy_new X (ty := fq_6) ⟨rfl, rfl⟩ rfl rfl iq_6 yq_6 uq_6 ⟨wq_94, wq_186, wq_7⟩ dq_E_init_154 h (fun h => ?_)
    refine qy_dup X rfl dq_E_init_157 ?_
    refine qz_bind h (fun M11 e12 h => ?_)
    refine qy_ctorN X (st := [.ref (G.2.2 6 (N.2.2.1 6)), .int x1, .ref (G.2.2 11 y0)]) (N' := M11) (y := yL_init) ⟨wq_189, wq_7, wq_188, List.mem_of_getElem? (i := 0) rfl⟩ ⟨rfl, by decide, by decide, by decide +kernel⟩ (kL_init l G hD hG (N.2.2.1 6) (qy_add N 6 6) _ e12) ⟨by decide, by decide⟩ (Nat.le_of_ble_eq_true rfl) dq_E_init_158 h (fun h => ?_)
    refine qy_aast X rfl rfl rfl dq_E_init_161 h (fun M13 h => ?_)
    refine qy_iinc_l X (u := (1 : Int32)) (lv' := fun v14 => [(1, .int v14), (0, .ref (G.2.2 0 y0))]) (k := 0) rfl (by decide) (by decide) (fun _ => rfl) dq_E_init_162 h (fun v14 h => ?_)
    refine qy_goto X (tgt := 143) (by decide) dq_E_init_165 ?_
    refine qy_sub [0, 1] rfl ?_
    exact hk143 (M13, v14) h
theorem tE_init_143 {p : Program} {l : Launch} {e : Env} {s : State} {m : MethodId} {args : Array Value} {below : List Frame} {meth : Method} {c : Code} {G : qz_G} {h0 : Nat} (hinit : meth.name = "<init>") (hD : qz_D G) (hG : ∀ c i, G.2.2 c i = h0 + qy_of c i) (X : qy_X p s m args meth c "ExactCurves" prog_1_method_1_code 2 none G h0 qy_ns qy_ao) {r : qy_M} (M0 : qy_M) (y0 : Nat) (hy0 : True) (n : Nat) (a : qy_M × Int32) (h : gE_init_143 M0 y0 n a = some r) : qy_W p l e (qy_R 2 52 505) s m args below meth c (MQ below (qy_Q G h0 r) args s 52 505 (fun a => h0 ≤ a)) G h0 s.heap (M0.1, M0.2.1) 2 a.1 143 [(1, .int a.2), (0, .ref (G.2.2 0 y0))] [] :=
  qz_loop_ind (P := fun a => qy_W p l e (qy_R 2 52 505) s m args below meth c (MQ below (qy_Q G h0 r) args s 52 505 (fun a => h0 ≤ a)) G h0 s.heap (M0.1, M0.2.1) 2 a.1 143 [(1, .int a.2), (0, .ref (G.2.2 0 y0))] []) (fun k hk a h => tE_init_143b hinit hD hG X M0 y0 hy0 k hk a.1 a.2 h) n a h
set_option maxRecDepth 100000 in
set_option maxHeartbeats 4000000 in
theorem tE_init_117b {p : Program} {l : Launch} {e : Env} {s : State} {m : MethodId} {args : Array Value} {below : List Frame} {meth : Method} {c : Code} {G : qz_G} {h0 : Nat} (hinit : meth.name = "<init>") (hD : qz_D G) (hG : ∀ c i, G.2.2 c i = h0 + qy_of c i) (X : qy_X p s m args meth c "ExactCurves" prog_1_method_1_code 2 none G h0 qy_ns qy_ao) {r : qy_M} (M0 : qy_M) (y0 : Nat) (hy0 : True) (k117 : qy_M × Int32 → Option qy_M) (hk117 : ∀ a, k117 a = some r → qy_W p l e (qy_R 2 52 505) s m args below meth c (MQ below (qy_Q G h0 r) args s 52 505 (fun a => h0 ≤ a)) G h0 s.heap (M0.1, M0.2.1) 2 a.1 117 [(1, .int a.2), (0, .ref (G.2.2 0 y0))] []) (N : qy_M) (x1 : Int32) (h : gE_init_117b M0 y0 k117 N x1 = some r) : qy_W p l e (qy_R 2 52 505) s m args below meth c (MQ below (qy_Q G h0 r) args s 52 505 (fun a => h0 ≤ a)) G h0 s.heap (M0.1, M0.2.1) 2 N 117 [(1, .int x1), (0, .ref (G.2.2 0 y0))] [] := by
  unfold gE_init_117b at h
  refine qy_iload_n X 0 rfl dq_E_init_117 ?_
  refine qy_iconst X (v := (4 : Int32)) (by decide) dq_E_init_118 ?_
  refine qy_icmp_ge X (tgt := 141) (by decide) dq_E_init_119 h (fun _ h => ?_) (fun _ h => ?_)
  · refine qy_iconst X (v := (0 : Int32)) (by decide) dq_E_init_141 ?_
    refine qy_istore_n X (lv' := [(1, .int (0 : Int32)), (0, .ref (G.2.2 0 y0))]) rfl (by decide) rfl dq_E_init_142 ?_
    refine qy_sub [0, 1] rfl ?_
    exact tE_init_143 hinit hD hG X M0 y0 hy0 1100 (N, (0 : Int32)) h
  · refine qy_aload_n X 1 rfl dq_E_init_122 ?_
    refine qz_ite h (fun hc h => ?_) (fun _ h => by cases h)
    refine qy_get X (v := .ref (G.2.2 10 y0)) kq_E_37 hc.1 (by show (if _ then _ else _) = _; rw [if_pos hc.2]) dq_E_init_123 ?_
    refine qy_iload_n X 0 rfl dq_E_init_126 ?_
    refine qy_new X (ty := fq_5) ⟨rfl, rfl⟩ rfl rfl iq_5 yq_5 uq_5 ⟨wq_92, wq_160, wq_6⟩ dq_E_init_127 h (fun h => ?_)
    refine qy_dup X rfl dq_E_init_130 ?_
    refine qz_bind h (fun M16 e17 h => ?_)
    refine qy_ctorN X (st := [.ref (G.2.2 5 (N.2.2.1 5)), .int x1, .ref (G.2.2 10 y0)]) (N' := M16) (y := yV_init) ⟨wq_163, wq_6, wq_162, List.mem_of_getElem? (i := 1) rfl⟩ ⟨rfl, by decide, by decide, by decide +kernel⟩ (kV_init l G hD hG (N.2.2.1 5) (qy_add N 5 5) _ e17) ⟨by decide, by decide⟩ (Nat.le_of_ble_eq_true rfl) dq_E_init_131 h (fun h => ?_)
    refine qy_aast X rfl rfl rfl dq_E_init_134 h (fun M18 h => ?_)
    refine qy_iinc_l X (u := (1 : Int32)) (lv' := fun v19 => [(1, .int v19), (0, .ref (G.2.2 0 y0))]) (k := 0) rfl (by decide) (by decide) (fun _ => rfl) dq_E_init_135 h (fun v19 h => ?_)
    refine qy_goto X (tgt := 117) (by decide) dq_E_init_138 ?_
    refine qy_sub [0, 1] rfl ?_
    exact hk117 (M18, v19) h
theorem tE_init_117 {p : Program} {l : Launch} {e : Env} {s : State} {m : MethodId} {args : Array Value} {below : List Frame} {meth : Method} {c : Code} {G : qz_G} {h0 : Nat} (hinit : meth.name = "<init>") (hD : qz_D G) (hG : ∀ c i, G.2.2 c i = h0 + qy_of c i) (X : qy_X p s m args meth c "ExactCurves" prog_1_method_1_code 2 none G h0 qy_ns qy_ao) {r : qy_M} (M0 : qy_M) (y0 : Nat) (hy0 : True) (n : Nat) (a : qy_M × Int32) (h : gE_init_117 M0 y0 n a = some r) : qy_W p l e (qy_R 2 52 505) s m args below meth c (MQ below (qy_Q G h0 r) args s 52 505 (fun a => h0 ≤ a)) G h0 s.heap (M0.1, M0.2.1) 2 a.1 117 [(1, .int a.2), (0, .ref (G.2.2 0 y0))] [] :=
  qz_loop_ind (P := fun a => qy_W p l e (qy_R 2 52 505) s m args below meth c (MQ below (qy_Q G h0 r) args s 52 505 (fun a => h0 ≤ a)) G h0 s.heap (M0.1, M0.2.1) 2 a.1 117 [(1, .int a.2), (0, .ref (G.2.2 0 y0))] []) (fun k hk a h => tE_init_117b hinit hD hG X M0 y0 hy0 k hk a.1 a.2 h) n a h
set_option maxRecDepth 100000 in
set_option maxHeartbeats 4000000 in
theorem tE_init_90b {p : Program} {l : Launch} {e : Env} {s : State} {m : MethodId} {args : Array Value} {below : List Frame} {meth : Method} {c : Code} {G : qz_G} {h0 : Nat} (hinit : meth.name = "<init>") (hD : qz_D G) (hG : ∀ c i, G.2.2 c i = h0 + qy_of c i) (X : qy_X p s m args meth c "ExactCurves" prog_1_method_1_code 2 none G h0 qy_ns qy_ao) {r : qy_M} (M0 : qy_M) (y0 : Nat) (hy0 : True) (k90 : qy_M × Int32 → Option qy_M) (hk90 : ∀ a, k90 a = some r → qy_W p l e (qy_R 2 52 505) s m args below meth c (MQ below (qy_Q G h0 r) args s 52 505 (fun a => h0 ≤ a)) G h0 s.heap (M0.1, M0.2.1) 2 a.1 90 [(1, .int a.2), (0, .ref (G.2.2 0 y0))] []) (N : qy_M) (x1 : Int32) (h : gE_init_90b M0 y0 k90 N x1 = some r) : qy_W p l e (qy_R 2 52 505) s m args below meth c (MQ below (qy_Q G h0 r) args s 52 505 (fun a => h0 ≤ a)) G h0 s.heap (M0.1, M0.2.1) 2 N 90 [(1, .int x1), (0, .ref (G.2.2 0 y0))] [] := by
  unfold gE_init_90b at h
  refine qy_iload_n X 0 rfl dq_E_init_90 ?_
  refine qy_bipush X (v := (8 : Int32)) (by decide) dq_E_init_91 ?_
  refine qy_icmp_ge X (tgt := 115) (by decide) dq_E_init_93 h (fun _ h => ?_) (fun _ h => ?_)
  · refine qy_iconst X (v := (0 : Int32)) (by decide) dq_E_init_115 ?_
    refine qy_istore_n X (lv' := [(1, .int (0 : Int32)), (0, .ref (G.2.2 0 y0))]) rfl (by decide) rfl dq_E_init_116 ?_
    refine qy_sub [0, 1] rfl ?_
    exact tE_init_117 hinit hD hG X M0 y0 hy0 1100 (N, (0 : Int32)) h
  · refine qy_aload_n X 1 rfl dq_E_init_96 ?_
    refine qz_ite h (fun hc h => ?_) (fun _ h => by cases h)
    refine qy_get X (v := .ref (G.2.2 9 y0)) kq_E_24 hc.1 (by show (if _ then _ else _) = _; rw [if_pos hc.2]) dq_E_init_97 ?_
    refine qy_iload_n X 0 rfl dq_E_init_100 ?_
    refine qy_new X (ty := fq_3) ⟨rfl, rfl⟩ rfl rfl iq_3 yq_3 uq_3 ⟨wq_41, wq_142, wq_5⟩ dq_E_init_101 h (fun h => ?_)
    refine qy_dup X rfl dq_E_init_104 ?_
    refine qz_bind h (fun M21 e22 h => ?_)
    refine qy_ctorN X (st := [.ref (G.2.2 3 (N.2.2.1 3)), .int x1, .ref (G.2.2 9 y0)]) (N' := M21) (y := yK_init) ⟨wq_145, wq_5, wq_144, List.mem_of_getElem? (i := 2) rfl⟩ ⟨rfl, by decide, by decide, by decide +kernel⟩ (kK_init l G hD hG (N.2.2.1 3) (qy_add N 3 4) _ e22) ⟨by decide, by decide⟩ (Nat.le_of_ble_eq_true rfl) dq_E_init_105 h (fun h => ?_)
    refine qy_aast X rfl rfl rfl dq_E_init_108 h (fun M23 h => ?_)
    refine qy_iinc_l X (u := (1 : Int32)) (lv' := fun v24 => [(1, .int v24), (0, .ref (G.2.2 0 y0))]) (k := 0) rfl (by decide) (by decide) (fun _ => rfl) dq_E_init_109 h (fun v24 h => ?_)
    refine qy_goto X (tgt := 90) (by decide) dq_E_init_112 ?_
    refine qy_sub [0, 1] rfl ?_
    exact hk90 (M23, v24) h
theorem tE_init_90 {p : Program} {l : Launch} {e : Env} {s : State} {m : MethodId} {args : Array Value} {below : List Frame} {meth : Method} {c : Code} {G : qz_G} {h0 : Nat} (hinit : meth.name = "<init>") (hD : qz_D G) (hG : ∀ c i, G.2.2 c i = h0 + qy_of c i) (X : qy_X p s m args meth c "ExactCurves" prog_1_method_1_code 2 none G h0 qy_ns qy_ao) {r : qy_M} (M0 : qy_M) (y0 : Nat) (hy0 : True) (n : Nat) (a : qy_M × Int32) (h : gE_init_90 M0 y0 n a = some r) : qy_W p l e (qy_R 2 52 505) s m args below meth c (MQ below (qy_Q G h0 r) args s 52 505 (fun a => h0 ≤ a)) G h0 s.heap (M0.1, M0.2.1) 2 a.1 90 [(1, .int a.2), (0, .ref (G.2.2 0 y0))] [] :=
  qz_loop_ind (P := fun a => qy_W p l e (qy_R 2 52 505) s m args below meth c (MQ below (qy_Q G h0 r) args s 52 505 (fun a => h0 ≤ a)) G h0 s.heap (M0.1, M0.2.1) 2 a.1 90 [(1, .int a.2), (0, .ref (G.2.2 0 y0))] []) (fun k hk a h => tE_init_90b hinit hD hG X M0 y0 hy0 k hk a.1 a.2 h) n a h
set_option maxRecDepth 100000 in
set_option maxHeartbeats 4000000 in
theorem tE_init_63b {p : Program} {l : Launch} {e : Env} {s : State} {m : MethodId} {args : Array Value} {below : List Frame} {meth : Method} {c : Code} {G : qz_G} {h0 : Nat} (hinit : meth.name = "<init>") (hD : qz_D G) (hG : ∀ c i, G.2.2 c i = h0 + qy_of c i) (X : qy_X p s m args meth c "ExactCurves" prog_1_method_1_code 2 none G h0 qy_ns qy_ao) {r : qy_M} (M0 : qy_M) (y0 : Nat) (hy0 : True) (k63 : qy_M × Int32 → Option qy_M) (hk63 : ∀ a, k63 a = some r → qy_W p l e (qy_R 2 52 505) s m args below meth c (MQ below (qy_Q G h0 r) args s 52 505 (fun a => h0 ≤ a)) G h0 s.heap (M0.1, M0.2.1) 2 a.1 63 [(1, .int a.2), (0, .ref (G.2.2 0 y0))] []) (N : qy_M) (x1 : Int32) (h : gE_init_63b M0 y0 k63 N x1 = some r) : qy_W p l e (qy_R 2 52 505) s m args below meth c (MQ below (qy_Q G h0 r) args s 52 505 (fun a => h0 ≤ a)) G h0 s.heap (M0.1, M0.2.1) 2 N 63 [(1, .int x1), (0, .ref (G.2.2 0 y0))] [] := by
  unfold gE_init_63b at h
  refine qy_iload_n X 0 rfl dq_E_init_63 ?_
  refine qy_bipush X (v := (6 : Int32)) (by decide) dq_E_init_64 ?_
  refine qy_icmp_ge X (tgt := 88) (by decide) dq_E_init_66 h (fun _ h => ?_) (fun _ h => ?_)
  · refine qy_iconst X (v := (0 : Int32)) (by decide) dq_E_init_88 ?_
    refine qy_istore_n X (lv' := [(1, .int (0 : Int32)), (0, .ref (G.2.2 0 y0))]) rfl (by decide) rfl dq_E_init_89 ?_
    refine qy_sub [0, 1] rfl ?_
    exact tE_init_90 hinit hD hG X M0 y0 hy0 1100 (N, (0 : Int32)) h
  · refine qy_aload_n X 1 rfl dq_E_init_69 ?_
    refine qz_ite h (fun hc h => ?_) (fun _ h => by cases h)
    refine qy_get X (v := .ref (G.2.2 8 y0)) kq_E_18 hc.1 (by show (if _ then _ else _) = _; rw [if_pos hc.2]) dq_E_init_70 ?_
    refine qy_iload_n X 0 rfl dq_E_init_73 ?_
    refine qy_new X (ty := fq_2) ⟨rfl, rfl⟩ rfl rfl iq_2 yq_2 uq_2 ⟨wq_39, wq_96, wq_4⟩ dq_E_init_74 h (fun h => ?_)
    refine qy_dup X rfl dq_E_init_77 ?_
    refine qz_bind h (fun M26 e27 h => ?_)
    refine qy_ctorN X (st := [.ref (G.2.2 2 (N.2.2.1 2)), .int x1, .ref (G.2.2 8 y0)]) (N' := M26) (y := yP_init) ⟨wq_99, wq_4, wq_98, List.mem_of_getElem? (i := 3) rfl⟩ ⟨rfl, by decide, by decide, by decide +kernel⟩ (kP_init l G hD hG (N.2.2.1 2) (qy_add N 2 10) _ e27) ⟨by decide, by decide⟩ (Nat.le_of_ble_eq_true rfl) dq_E_init_78 h (fun h => ?_)
    refine qy_aast X rfl rfl rfl dq_E_init_81 h (fun M28 h => ?_)
    refine qy_iinc_l X (u := (1 : Int32)) (lv' := fun v29 => [(1, .int v29), (0, .ref (G.2.2 0 y0))]) (k := 0) rfl (by decide) (by decide) (fun _ => rfl) dq_E_init_82 h (fun v29 h => ?_)
    refine qy_goto X (tgt := 63) (by decide) dq_E_init_85 ?_
    refine qy_sub [0, 1] rfl ?_
    exact hk63 (M28, v29) h
theorem tE_init_63 {p : Program} {l : Launch} {e : Env} {s : State} {m : MethodId} {args : Array Value} {below : List Frame} {meth : Method} {c : Code} {G : qz_G} {h0 : Nat} (hinit : meth.name = "<init>") (hD : qz_D G) (hG : ∀ c i, G.2.2 c i = h0 + qy_of c i) (X : qy_X p s m args meth c "ExactCurves" prog_1_method_1_code 2 none G h0 qy_ns qy_ao) {r : qy_M} (M0 : qy_M) (y0 : Nat) (hy0 : True) (n : Nat) (a : qy_M × Int32) (h : gE_init_63 M0 y0 n a = some r) : qy_W p l e (qy_R 2 52 505) s m args below meth c (MQ below (qy_Q G h0 r) args s 52 505 (fun a => h0 ≤ a)) G h0 s.heap (M0.1, M0.2.1) 2 a.1 63 [(1, .int a.2), (0, .ref (G.2.2 0 y0))] [] :=
  qz_loop_ind (P := fun a => qy_W p l e (qy_R 2 52 505) s m args below meth c (MQ below (qy_Q G h0 r) args s 52 505 (fun a => h0 ≤ a)) G h0 s.heap (M0.1, M0.2.1) 2 a.1 63 [(1, .int a.2), (0, .ref (G.2.2 0 y0))] []) (fun k hk a h => tE_init_63b hinit hD hG X M0 y0 hy0 k hk a.1 a.2 h) n a h
set_option maxRecDepth 100000 in
set_option maxHeartbeats 4000000 in
theorem tE_init {p : Program} {l : Launch} {e : Env} {s : State} {m : MethodId} {args : Array Value} {below : List Frame} {meth : Method} {c : Code} {G : qz_G} {h0 : Nat} (hinit : meth.name = "<init>") (hD : qz_D G) (hG : ∀ c i, G.2.2 c i = h0 + qy_of c i) (X : qy_X p s m args meth c "ExactCurves" prog_1_method_1_code 2 none G h0 qy_ns qy_ao) {r : qy_M} (o : Nat) (M0 : qy_M) (h : gE_init o M0 = some r) : qy_W p l e (qy_R 2 52 505) s m args below meth c (MQ below (qy_Q G h0 r) args s 52 505 (fun a => h0 ≤ a)) G h0 s.heap (M0.1, M0.2.1) 2 M0 0 [(0, .ref (G.2.2 0 o))] [] := by
  unfold gE_init at h
  refine qy_aload_n X 0 rfl dq_E_init_0 ?_
  refine qy_obj X ⟨wq_17, wq_18, oq_init⟩ ⟨by decide, by decide⟩ (Nat.le_of_ble_eq_true rfl) dq_E_init_1 ?_
  refine qy_aload_n X 0 rfl dq_E_init_4 ?_
  refine qy_new X (ty := fq_1) ⟨rfl, rfl⟩ rfl rfl iq_1 yq_1 uq_1 ⟨wq_20, wq_21, wq_2⟩ dq_E_init_5 h (fun h => ?_)
  refine qy_dup X rfl dq_E_init_8 ?_
  refine qz_bind h (fun M1 e2 h => ?_)
  refine qy_ctorN X (st := [.ref (G.2.2 1 (M0.2.2.1 1)), .ref (G.2.2 0 o)]) (N' := M1) (y := yU_init) ⟨wq_24, wq_2, wq_23, List.mem_of_getElem? (i := 5) rfl⟩ ⟨rfl, by decide, by decide, by decide +kernel⟩ (kU_init l G hD hG (M0.2.2.1 1) (qy_add M0 1 3) _ e2) ⟨by decide, by decide⟩ (Nat.le_of_ble_eq_true rfl) dq_E_init_9 h (fun h => ?_)
  refine qy_putR X rfl kq_E_10 (Or.inr ⟨hinit, 0, sq_0, tq_0, 8, rfl, rfl, rfl⟩) dq_E_init_12 h (fun M3 h => ?_)
  refine qy_aload_n X 0 rfl dq_E_init_15 ?_
  refine qy_bipush X (v := (6 : Int32)) (by decide) dq_E_init_16 ?_
  refine qy_newq X (tg := 2) ⟨rfl, rfl⟩ rfl ⟨by decide, by decide, by decide⟩ wq_39 (List.mem_of_getElem? (i := 3) rfl) dq_E_init_18 h (fun h => ?_)
  refine qy_putR X rfl kq_E_18 (Or.inr ⟨hinit, 0, sq_0, tq_0, 8, rfl, rfl, rfl⟩) dq_E_init_21 h (fun M4 h => ?_)
  refine qy_aload_n X 0 rfl dq_E_init_24 ?_
  refine qy_bipush X (v := (8 : Int32)) (by decide) dq_E_init_25 ?_
  refine qy_newq X (tg := 3) ⟨rfl, rfl⟩ rfl ⟨by decide, by decide, by decide⟩ wq_41 (List.mem_of_getElem? (i := 2) rfl) dq_E_init_27 h (fun h => ?_)
  refine qy_putR X rfl kq_E_24 (Or.inr ⟨hinit, 0, sq_0, tq_0, 8, rfl, rfl, rfl⟩) dq_E_init_30 h (fun M5 h => ?_)
  refine qy_aload_n X 0 rfl dq_E_init_33 ?_
  refine qy_new X (ty := fq_4) ⟨rfl, rfl⟩ rfl rfl iq_4 yq_4 uq_4 ⟨wq_43, wq_44, wq_3⟩ dq_E_init_34 h (fun h => ?_)
  refine qy_dup X rfl dq_E_init_37 ?_
  refine qz_bind h (fun M6 e7 h => ?_)
  refine qy_ctorN X (st := [.ref (G.2.2 4 (M5.2.2.1 4)), .ref (G.2.2 0 o)]) (N' := M6) (y := yB_init) ⟨wq_47, wq_3, wq_46, List.mem_of_getElem? (i := 4) rfl⟩ ⟨rfl, by decide, by decide, by decide +kernel⟩ (kB_init l G hD hG (M5.2.2.1 4) (qy_add M5 4 10) _ e7) ⟨by decide, by decide⟩ (Nat.le_of_ble_eq_true rfl) dq_E_init_38 h (fun h => ?_)
  refine qy_putR X rfl kq_E_31 (Or.inr ⟨hinit, 0, sq_0, tq_0, 8, rfl, rfl, rfl⟩) dq_E_init_41 h (fun M8 h => ?_)
  refine qy_aload_n X 0 rfl dq_E_init_44 ?_
  refine qy_iconst X (v := (4 : Int32)) (by decide) dq_E_init_45 ?_
  refine qy_newq X (tg := 5) ⟨rfl, rfl⟩ rfl ⟨by decide, by decide, by decide⟩ wq_92 (List.mem_of_getElem? (i := 1) rfl) dq_E_init_46 h (fun h => ?_)
  refine qy_putR X rfl kq_E_37 (Or.inr ⟨hinit, 0, sq_0, tq_0, 8, rfl, rfl, rfl⟩) dq_E_init_49 h (fun M9 h => ?_)
  refine qy_aload_n X 0 rfl dq_E_init_52 ?_
  refine qy_bipush X (v := (10 : Int32)) (by decide) dq_E_init_53 ?_
  refine qy_newq X (tg := 6) ⟨rfl, rfl⟩ rfl ⟨by decide, by decide, by decide⟩ wq_94 (List.mem_of_getElem? (i := 0) rfl) dq_E_init_55 h (fun h => ?_)
  refine qy_putR X rfl kq_E_43 (Or.inr ⟨hinit, 0, sq_0, tq_0, 8, rfl, rfl, rfl⟩) dq_E_init_58 h (fun M10 h => ?_)
  refine qy_iconst X (v := (0 : Int32)) (by decide) dq_E_init_61 ?_
  refine qy_istore_n X (lv' := [(1, .int (0 : Int32)), (0, .ref (G.2.2 0 o))]) rfl (by decide) rfl dq_E_init_62 ?_
  refine qy_sub [0, 1] rfl ?_
  exact tE_init_63 hinit hD hG X M0 o trivial 1100 (M10, (0 : Int32)) h
theorem kE_init (l : Launch) (G : qz_G) {h0 : Nat} (hD : qz_D G) (hG : ∀ c i, G.2.2 c i = h0 + qy_of c i) (o : Nat) (M0 r : qy_M) (h : gE_init o M0 = some r) : qy_C l yE_init prog_1_method_1_code 2 2 52 505 G h0 qy_ns qy_ao [.ref (G.2.2 0 o)] M0 r :=
  qy_enter (lv := [(0, .ref (G.2.2 0 o))]) rfl rfl hD hG (Nat.le_of_ble_eq_true rfl) rfl (fun p e s m args below meth c hi X => tE_init hi hD hG X o M0 h)
theorem dq_M_init_0 : decode prog_10_method_1_code 0 = .ok (.aload_n 0, 1) := by decide +kernel
theorem dq_M_init_1 : decode prog_10_method_1_code 1 = .ok (.invokespecial 1, 3) := by decide +kernel
theorem dq_M_init_4 : decode prog_10_method_1_code 4 = .ok (.aload_n 0, 1) := by decide +kernel
theorem dq_M_init_5 : decode prog_10_method_1_code 5 = .ok (.bipush 24, 2) := by decide +kernel
theorem dq_M_init_7 : decode prog_10_method_1_code 7 = .ok (.newarray .long, 2) := by decide +kernel
theorem dq_M_init_9 : decode prog_10_method_1_code 9 = .ok (.putfield 7, 3) := by decide +kernel
theorem dq_M_init_12 : decode prog_10_method_1_code 12 = .ok (.aload_n 0, 1) := by decide +kernel
theorem dq_M_init_13 : decode prog_10_method_1_code 13 = .ok (.iconst 4, 1) := by decide +kernel
theorem dq_M_init_14 : decode prog_10_method_1_code 14 = .ok (.newarray .long, 2) := by decide +kernel
theorem dq_M_init_16 : decode prog_10_method_1_code 16 = .ok (.putfield 13, 3) := by decide +kernel
theorem dq_M_init_19 : decode prog_10_method_1_code 19 = .ok (.aload_n 0, 1) := by decide +kernel
theorem dq_M_init_20 : decode prog_10_method_1_code 20 = .ok (.bipush 12, 2) := by decide +kernel
theorem dq_M_init_22 : decode prog_10_method_1_code 22 = .ok (.newarray .int, 2) := by decide +kernel
theorem dq_M_init_24 : decode prog_10_method_1_code 24 = .ok (.putfield 16, 3) := by decide +kernel
theorem dq_M_init_27 : decode prog_10_method_1_code 27 = .ok (.aload_n 0, 1) := by decide +kernel
theorem dq_M_init_28 : decode prog_10_method_1_code 28 = .ok (.bipush 6, 2) := by decide +kernel
theorem dq_M_init_30 : decode prog_10_method_1_code 30 = .ok (.newarray .int, 2) := by decide +kernel
theorem dq_M_init_32 : decode prog_10_method_1_code 32 = .ok (.putfield 20, 3) := by decide +kernel
theorem dq_M_init_35 : decode prog_10_method_1_code 35 = .ok (.aload_n 0, 1) := by decide +kernel
theorem dq_M_init_36 : decode prog_10_method_1_code 36 = .ok (.bipush 6, 2) := by decide +kernel
theorem dq_M_init_38 : decode prog_10_method_1_code 38 = .ok (.newarray .int, 2) := by decide +kernel
theorem dq_M_init_40 : decode prog_10_method_1_code 40 = .ok (.putfield 23, 3) := by decide +kernel
theorem dq_M_init_43 : decode prog_10_method_1_code 43 = .ok (.aload_n 0, 1) := by decide +kernel
theorem dq_M_init_44 : decode prog_10_method_1_code 44 = .ok (.bipush 12, 2) := by decide +kernel
theorem dq_M_init_46 : decode prog_10_method_1_code 46 = .ok (.newarray .long, 2) := by decide +kernel
theorem dq_M_init_48 : decode prog_10_method_1_code 48 = .ok (.putfield 26, 3) := by decide +kernel
theorem dq_M_init_51 : decode prog_10_method_1_code 51 = .ok (.aload_n 0, 1) := by decide +kernel
theorem dq_M_init_52 : decode prog_10_method_1_code 52 = .ok (.bipush 6, 2) := by decide +kernel
theorem dq_M_init_54 : decode prog_10_method_1_code 54 = .ok (.newarray .long, 2) := by decide +kernel
theorem dq_M_init_56 : decode prog_10_method_1_code 56 = .ok (.putfield 29, 3) := by decide +kernel
theorem dq_M_init_59 : decode prog_10_method_1_code 59 = .ok (.aload_n 0, 1) := by decide +kernel
theorem dq_M_init_60 : decode prog_10_method_1_code 60 = .ok (.bipush 36, 2) := by decide +kernel
theorem dq_M_init_62 : decode prog_10_method_1_code 62 = .ok (.newarray .long, 2) := by decide +kernel
theorem dq_M_init_64 : decode prog_10_method_1_code 64 = .ok (.putfield 32, 3) := by decide +kernel
theorem dq_M_init_67 : decode prog_10_method_1_code 67 = .ok (.aload_n 0, 1) := by decide +kernel
theorem dq_M_init_68 : decode prog_10_method_1_code 68 = .ok (.bipush 6, 2) := by decide +kernel
theorem dq_M_init_70 : decode prog_10_method_1_code 70 = .ok (.newarray .long, 2) := by decide +kernel
theorem dq_M_init_72 : decode prog_10_method_1_code 72 = .ok (.putfield 35, 3) := by decide +kernel
theorem dq_M_init_75 : decode prog_10_method_1_code 75 = .ok (.aload_n 0, 1) := by decide +kernel
theorem dq_M_init_76 : decode prog_10_method_1_code 76 = .ok (.bipush 6, 2) := by decide +kernel
theorem dq_M_init_78 : decode prog_10_method_1_code 78 = .ok (.newarray .long, 2) := by decide +kernel
theorem dq_M_init_80 : decode prog_10_method_1_code 80 = .ok (.putfield 38, 3) := by decide +kernel
theorem dq_M_init_83 : decode prog_10_method_1_code 83 = .ok (.aload_n 0, 1) := by decide +kernel
theorem dq_M_init_84 : decode prog_10_method_1_code 84 = .ok (.bipush 8, 2) := by decide +kernel
theorem dq_M_init_86 : decode prog_10_method_1_code 86 = .ok (.newarray .int, 2) := by decide +kernel
theorem dq_M_init_88 : decode prog_10_method_1_code 88 = .ok (.putfield 41, 3) := by decide +kernel
theorem dq_M_init_91 : decode prog_10_method_1_code 91 = .ok (.aload_n 0, 1) := by decide +kernel
theorem dq_M_init_92 : decode prog_10_method_1_code 92 = .ok (.bipush 8, 2) := by decide +kernel
theorem dq_M_init_94 : decode prog_10_method_1_code 94 = .ok (.newarray .long, 2) := by decide +kernel
theorem dq_M_init_96 : decode prog_10_method_1_code 96 = .ok (.putfield 44, 3) := by decide +kernel
theorem dq_M_init_99 : decode prog_10_method_1_code 99 = .ok (.aload_n 0, 1) := by decide +kernel
theorem dq_M_init_100 : decode prog_10_method_1_code 100 = .ok (.bipush 8, 2) := by decide +kernel
theorem dq_M_init_102 : decode prog_10_method_1_code 102 = .ok (.newarray .long, 2) := by decide +kernel
theorem dq_M_init_104 : decode prog_10_method_1_code 104 = .ok (.putfield 47, 3) := by decide +kernel
theorem dq_M_init_107 : decode prog_10_method_1_code 107 = .ok (.aload_n 0, 1) := by decide +kernel
theorem dq_M_init_108 : decode prog_10_method_1_code 108 = .ok (.iconst 1, 1) := by decide +kernel
theorem dq_M_init_109 : decode prog_10_method_1_code 109 = .ok (.putfield 50, 3) := by decide +kernel
theorem dq_M_init_112 : decode prog_10_method_1_code 112 = .ok (.aload_n 0, 1) := by decide +kernel
theorem dq_M_init_113 : decode prog_10_method_1_code 113 = .ok (.bipush 40, 2) := by decide +kernel
theorem dq_M_init_115 : decode prog_10_method_1_code 115 = .ok (.newarray .int, 2) := by decide +kernel
theorem dq_M_init_117 : decode prog_10_method_1_code 117 = .ok (.putfield 54, 3) := by decide +kernel
theorem dq_M_init_120 : decode prog_10_method_1_code 120 = .ok (.aload_n 0, 1) := by decide +kernel
theorem dq_M_init_121 : decode prog_10_method_1_code 121 = .ok (.bipush 40, 2) := by decide +kernel
theorem dq_M_init_123 : decode prog_10_method_1_code 123 = .ok (.newarray .boolean, 2) := by decide +kernel
theorem dq_M_init_125 : decode prog_10_method_1_code 125 = .ok (.putfield 57, 3) := by decide +kernel
theorem dq_M_init_128 : decode prog_10_method_1_code 128 = .ok (.aload_n 0, 1) := by decide +kernel
theorem dq_M_init_129 : decode prog_10_method_1_code 129 = .ok (.bipush 40, 2) := by decide +kernel
theorem dq_M_init_131 : decode prog_10_method_1_code 131 = .ok (.newarray .long, 2) := by decide +kernel
theorem dq_M_init_133 : decode prog_10_method_1_code 133 = .ok (.putfield 61, 3) := by decide +kernel
theorem dq_M_init_136 : decode prog_10_method_1_code 136 = .ok (.aload_n 0, 1) := by decide +kernel
theorem dq_M_init_137 : decode prog_10_method_1_code 137 = .ok (.bipush 40, 2) := by decide +kernel
theorem dq_M_init_139 : decode prog_10_method_1_code 139 = .ok (.newarray .long, 2) := by decide +kernel
theorem dq_M_init_141 : decode prog_10_method_1_code 141 = .ok (.putfield 64, 3) := by decide +kernel
theorem dq_M_init_144 : decode prog_10_method_1_code 144 = .ok (.aload_n 0, 1) := by decide +kernel
theorem dq_M_init_145 : decode prog_10_method_1_code 145 = .ok (.bipush 40, 2) := by decide +kernel
theorem dq_M_init_147 : decode prog_10_method_1_code 147 = .ok (.newarray .long, 2) := by decide +kernel
theorem dq_M_init_149 : decode prog_10_method_1_code 149 = .ok (.putfield 67, 3) := by decide +kernel
theorem dq_M_init_152 : decode prog_10_method_1_code 152 = .ok (.aload_n 0, 1) := by decide +kernel
theorem dq_M_init_153 : decode prog_10_method_1_code 153 = .ok (.bipush 40, 2) := by decide +kernel
theorem dq_M_init_155 : decode prog_10_method_1_code 155 = .ok (.newarray .boolean, 2) := by decide +kernel
theorem dq_M_init_157 : decode prog_10_method_1_code 157 = .ok (.putfield 70, 3) := by decide +kernel
theorem dq_M_init_160 : decode prog_10_method_1_code 160 = .ok (.aload_n 0, 1) := by decide +kernel
theorem dq_M_init_161 : decode prog_10_method_1_code 161 = .ok (.iconst 4, 1) := by decide +kernel
theorem dq_M_init_162 : decode prog_10_method_1_code 162 = .ok (.newarray .long, 2) := by decide +kernel
theorem dq_M_init_164 : decode prog_10_method_1_code 164 = .ok (.putfield 73, 3) := by decide +kernel
theorem dq_M_init_167 : decode prog_10_method_1_code 167 = .ok (.aload_n 0, 1) := by decide +kernel
theorem dq_M_init_168 : decode prog_10_method_1_code 168 = .ok (.iconst 4, 1) := by decide +kernel
theorem dq_M_init_169 : decode prog_10_method_1_code 169 = .ok (.newarray .long, 2) := by decide +kernel
theorem dq_M_init_171 : decode prog_10_method_1_code 171 = .ok (.putfield 76, 3) := by decide +kernel
theorem dq_M_init_174 : decode prog_10_method_1_code 174 = .ok (.aload_n 0, 1) := by decide +kernel
theorem dq_M_init_175 : decode prog_10_method_1_code 175 = .ok (.bipush 24, 2) := by decide +kernel
theorem dq_M_init_177 : decode prog_10_method_1_code 177 = .ok (.newarray .long, 2) := by decide +kernel
theorem dq_M_init_179 : decode prog_10_method_1_code 179 = .ok (.putfield 79, 3) := by decide +kernel
theorem dq_M_init_182 : decode prog_10_method_1_code 182 = .ok (.aload_n 0, 1) := by decide +kernel
theorem dq_M_init_183 : decode prog_10_method_1_code 183 = .ok (.iconst 4, 1) := by decide +kernel
theorem dq_M_init_184 : decode prog_10_method_1_code 184 = .ok (.newarray .long, 2) := by decide +kernel
theorem dq_M_init_186 : decode prog_10_method_1_code 186 = .ok (.putfield 82, 3) := by decide +kernel
theorem dq_M_init_189 : decode prog_10_method_1_code 189 = .ok (.aload_n 0, 1) := by decide +kernel
theorem dq_M_init_190 : decode prog_10_method_1_code 190 = .ok (.iconst 4, 1) := by decide +kernel
theorem dq_M_init_191 : decode prog_10_method_1_code 191 = .ok (.newarray .long, 2) := by decide +kernel
theorem dq_M_init_193 : decode prog_10_method_1_code 193 = .ok (.putfield 85, 3) := by decide +kernel
theorem dq_M_init_196 : decode prog_10_method_1_code 196 = .ok (.aload_n 0, 1) := by decide +kernel
theorem dq_M_init_197 : decode prog_10_method_1_code 197 = .ok (.bipush 10, 2) := by decide +kernel
theorem dq_M_init_199 : decode prog_10_method_1_code 199 = .ok (.newarray .boolean, 2) := by decide +kernel
theorem dq_M_init_201 : decode prog_10_method_1_code 201 = .ok (.putfield 88, 3) := by decide +kernel
theorem dq_M_init_204 : decode prog_10_method_1_code 204 = .ok (.aload_n 0, 1) := by decide +kernel
theorem dq_M_init_205 : decode prog_10_method_1_code 205 = .ok (.bipush 10, 2) := by decide +kernel
theorem dq_M_init_207 : decode prog_10_method_1_code 207 = .ok (.newarray .int, 2) := by decide +kernel
theorem dq_M_init_209 : decode prog_10_method_1_code 209 = .ok (.putfield 91, 3) := by decide +kernel
theorem dq_M_init_212 : decode prog_10_method_1_code 212 = .ok (.aload_n 0, 1) := by decide +kernel
theorem dq_M_init_213 : decode prog_10_method_1_code 213 = .ok (.bipush 10, 2) := by decide +kernel
theorem dq_M_init_215 : decode prog_10_method_1_code 215 = .ok (.newarray .int, 2) := by decide +kernel
theorem dq_M_init_217 : decode prog_10_method_1_code 217 = .ok (.putfield 94, 3) := by decide +kernel
theorem dq_M_init_220 : decode prog_10_method_1_code 220 = .ok (.aload_n 0, 1) := by decide +kernel
theorem dq_M_init_221 : decode prog_10_method_1_code 221 = .ok (.bipush 10, 2) := by decide +kernel
theorem dq_M_init_223 : decode prog_10_method_1_code 223 = .ok (.newarray .int, 2) := by decide +kernel
theorem dq_M_init_225 : decode prog_10_method_1_code 225 = .ok (.putfield 97, 3) := by decide +kernel
theorem dq_M_init_228 : decode prog_10_method_1_code 228 = .ok (.aload_n 0, 1) := by decide +kernel
theorem dq_M_init_229 : decode prog_10_method_1_code 229 = .ok (.bipush 10, 2) := by decide +kernel
theorem dq_M_init_231 : decode prog_10_method_1_code 231 = .ok (.newarray .long, 2) := by decide +kernel
theorem dq_M_init_233 : decode prog_10_method_1_code 233 = .ok (.putfield 100, 3) := by decide +kernel
theorem dq_M_init_236 : decode prog_10_method_1_code 236 = .ok (.aload_n 0, 1) := by decide +kernel
theorem dq_M_init_237 : decode prog_10_method_1_code 237 = .ok (.bipush 10, 2) := by decide +kernel
theorem dq_M_init_239 : decode prog_10_method_1_code 239 = .ok (.newarray .long, 2) := by decide +kernel
theorem dq_M_init_241 : decode prog_10_method_1_code 241 = .ok (.putfield 103, 3) := by decide +kernel
theorem dq_M_init_244 : decode prog_10_method_1_code 244 = .ok (.aload_n 0, 1) := by decide +kernel
theorem dq_M_init_245 : decode prog_10_method_1_code 245 = .ok (.bipush 6, 2) := by decide +kernel
theorem dq_M_init_247 : decode prog_10_method_1_code 247 = .ok (.newarray .long, 2) := by decide +kernel
theorem dq_M_init_249 : decode prog_10_method_1_code 249 = .ok (.putfield 106, 3) := by decide +kernel
theorem dq_M_init_252 : decode prog_10_method_1_code 252 = .ok (.aload_n 0, 1) := by decide +kernel
theorem dq_M_init_253 : decode prog_10_method_1_code 253 = .ok (.bipush 6, 2) := by decide +kernel
theorem dq_M_init_255 : decode prog_10_method_1_code 255 = .ok (.newarray .long, 2) := by decide +kernel
theorem dq_M_init_257 : decode prog_10_method_1_code 257 = .ok (.putfield 109, 3) := by decide +kernel
theorem dq_M_init_260 : decode prog_10_method_1_code 260 = .ok (.aload_n 0, 1) := by decide +kernel
theorem dq_M_init_261 : decode prog_10_method_1_code 261 = .ok (.bipush 9, 2) := by decide +kernel
theorem dq_M_init_263 : decode prog_10_method_1_code 263 = .ok (.newarray .long, 2) := by decide +kernel
theorem dq_M_init_265 : decode prog_10_method_1_code 265 = .ok (.putfield 112, 3) := by decide +kernel
theorem dq_M_init_268 : decode prog_10_method_1_code 268 = .ok (.aload_n 0, 1) := by decide +kernel
theorem dq_M_init_269 : decode prog_10_method_1_code 269 = .ok (.iconst 3, 1) := by decide +kernel
theorem dq_M_init_270 : decode prog_10_method_1_code 270 = .ok (.newarray .long, 2) := by decide +kernel
theorem dq_M_init_272 : decode prog_10_method_1_code 272 = .ok (.putfield 115, 3) := by decide +kernel
theorem dq_M_init_275 : decode prog_10_method_1_code 275 = .ok (.iconst 0, 1) := by decide +kernel
theorem dq_M_init_276 : decode prog_10_method_1_code 276 = .ok (.istore_n 1, 1) := by decide +kernel
theorem dq_M_init_277 : decode prog_10_method_1_code 277 = .ok (.iload_n 1, 1) := by decide +kernel
theorem dq_M_init_278 : decode prog_10_method_1_code 278 = .ok (.iconst 4, 1) := by decide +kernel
theorem dq_M_init_279 : decode prog_10_method_1_code 279 = .ok (.if_icmp .ge 18, 3) := by decide +kernel
theorem dq_M_init_282 : decode prog_10_method_1_code 282 = .ok (.aload_n 0, 1) := by decide +kernel
theorem dq_M_init_283 : decode prog_10_method_1_code 283 = .ok (.getfield 82, 3) := by decide +kernel
theorem dq_M_init_286 : decode prog_10_method_1_code 286 = .ok (.iload_n 1, 1) := by decide +kernel
theorem dq_M_init_287 : decode prog_10_method_1_code 287 = .ok (.ldc2_w 118, 3) := by decide +kernel
theorem dq_M_init_290 : decode prog_10_method_1_code 290 = .ok (.lastore, 1) := by decide +kernel
theorem dq_M_init_291 : decode prog_10_method_1_code 291 = .ok (.iinc 1 1, 3) := by decide +kernel
theorem dq_M_init_294 : decode prog_10_method_1_code 294 = .ok (.goto (-17), 3) := by decide +kernel
theorem dq_M_init_297 : decode prog_10_method_1_code 297 = .ok (.iconst 0, 1) := by decide +kernel
theorem dq_M_init_298 : decode prog_10_method_1_code 298 = .ok (.istore_n 1, 1) := by decide +kernel
theorem dq_M_init_299 : decode prog_10_method_1_code 299 = .ok (.iload_n 1, 1) := by decide +kernel
theorem dq_M_init_300 : decode prog_10_method_1_code 300 = .ok (.bipush 8, 2) := by decide +kernel
theorem dq_M_init_302 : decode prog_10_method_1_code 302 = .ok (.if_icmp .ge 16, 3) := by decide +kernel
theorem dq_M_init_305 : decode prog_10_method_1_code 305 = .ok (.aload_n 0, 1) := by decide +kernel
theorem dq_M_init_306 : decode prog_10_method_1_code 306 = .ok (.getfield 41, 3) := by decide +kernel
theorem dq_M_init_309 : decode prog_10_method_1_code 309 = .ok (.iload_n 1, 1) := by decide +kernel
theorem dq_M_init_310 : decode prog_10_method_1_code 310 = .ok (.iconst (-1), 1) := by decide +kernel
theorem dq_M_init_311 : decode prog_10_method_1_code 311 = .ok (.iastore, 1) := by decide +kernel
theorem dq_M_init_312 : decode prog_10_method_1_code 312 = .ok (.iinc 1 1, 3) := by decide +kernel
theorem dq_M_init_315 : decode prog_10_method_1_code 315 = .ok (.goto (-16), 3) := by decide +kernel
theorem dq_M_init_318 : decode prog_10_method_1_code 318 = .ok (.return_, 1) := by decide +kernel
def gM_init_299b (M0 : qy_M) (y0 : Nat) (k299 : qy_M × Int32 → Option qy_M) (N : qy_M) (x1 : Int32) : Option qy_M :=
  if (8 : Int32) ≤ x1 then
    if N.1 ≤ (M0.1, M0.2.1).1 + 34 ∧ N.2.1 ≤ (M0.1, M0.2.1).2 + 506 then some N else none
  else
  if y0 < N.2.2.1 7 ∧ N.2.2.2.1 7 y0 12 = true then
  if ¬ (x1 < 0 ∨ 8 ≤ x1.toNatClampNeg) ∧ y0 < N.2.2.1 32 then qz_let (qy_sN N (qz_si N.2.2.2.2 32 y0 x1.toNatClampNeg (-1 : Int32))) fun M36 =>
  qz_let (x1 + (1 : Int32)) fun v37 =>
  k299 (M36, v37)
  else none
  else none
def gM_init_299 (M0 : qy_M) (y0 : Nat) (n : Nat) (a : qy_M × Int32) : Option qy_M := qz_loop (fun k a => gM_init_299b M0 y0 k a.1 a.2) n a
def gM_init_277b (M0 : qy_M) (y0 : Nat) (k277 : qy_M × Int32 → Option qy_M) (N : qy_M) (x1 : Int32) : Option qy_M :=
  if (4 : Int32) ≤ x1 then
    gM_init_299 M0 y0 1100 (N, (0 : Int32))
  else
  if y0 < N.2.2.1 7 ∧ N.2.2.2.1 7 y0 29 = true then
  if ¬ (x1 < 0 ∨ 4 ≤ x1.toNatClampNeg) ∧ y0 < N.2.2.1 44 then qz_let (qy_sN N (qz_sl N.2.2.2.2 44 y0 x1.toNatClampNeg (1000000000 : Int64))) fun M38 =>
  qz_let (x1 + (1 : Int32)) fun v39 =>
  k277 (M38, v39)
  else none
  else none
def gM_init_277 (M0 : qy_M) (y0 : Nat) (n : Nat) (a : qy_M × Int32) : Option qy_M := qz_loop (fun k a => gM_init_277b M0 y0 k a.1 a.2) n a
def gM_init (o : Nat) (M0 : qy_M) : Option qy_M :=
  if qy_of 22 (M0.2.2.1 22) = M0.1 ∧ M0.2.2.1 22 < 1 ∧ (M0.1, M0.2.1).1 ≤ M0.1 ∧ (M0.1, M0.2.1).2 ≤ M0.2.1 ∧ M0.1 + 1 ≤ (M0.1, M0.2.1).1 + 34 ∧ M0.2.1 + 24 ≤ (M0.1, M0.2.1).2 + 506 then qz_let (qy_add M0 22 24) fun _ =>
  if (M0.2.2.1 22) = o ∧ o < (qy_add M0 22 24).2.2.1 7 then qz_let (qy_mk (qy_add M0 22 24) 7 o 0) fun M1 =>
  if qy_of 23 (M1.2.2.1 23) = M1.1 ∧ M1.2.2.1 23 < 1 ∧ (M0.1, M0.2.1).1 ≤ M1.1 ∧ (M0.1, M0.2.1).2 ≤ M1.2.1 ∧ M1.1 + 1 ≤ (M0.1, M0.2.1).1 + 34 ∧ M1.2.1 + 4 ≤ (M0.1, M0.2.1).2 + 506 then qz_let (qy_add M1 23 4) fun _ =>
  if (M1.2.2.1 23) = o ∧ o < (qy_add M1 23 4).2.2.1 7 then qz_let (qy_mk (qy_add M1 23 4) 7 o 1) fun M2 =>
  if qy_of 24 (M2.2.2.1 24) = M2.1 ∧ M2.2.2.1 24 < 1 ∧ (M0.1, M0.2.1).1 ≤ M2.1 ∧ (M0.1, M0.2.1).2 ≤ M2.2.1 ∧ M2.1 + 1 ≤ (M0.1, M0.2.1).1 + 34 ∧ M2.2.1 + 12 ≤ (M0.1, M0.2.1).2 + 506 then qz_let (qy_add M2 24 12) fun _ =>
  if (M2.2.2.1 24) = o ∧ o < (qy_add M2 24 12).2.2.1 7 then qz_let (qy_mk (qy_add M2 24 12) 7 o 4) fun M3 =>
  if qy_of 25 (M3.2.2.1 25) = M3.1 ∧ M3.2.2.1 25 < 1 ∧ (M0.1, M0.2.1).1 ≤ M3.1 ∧ (M0.1, M0.2.1).2 ≤ M3.2.1 ∧ M3.1 + 1 ≤ (M0.1, M0.2.1).1 + 34 ∧ M3.2.1 + 6 ≤ (M0.1, M0.2.1).2 + 506 then qz_let (qy_add M3 25 6) fun _ =>
  if (M3.2.2.1 25) = o ∧ o < (qy_add M3 25 6).2.2.1 7 then qz_let (qy_mk (qy_add M3 25 6) 7 o 5) fun M4 =>
  if qy_of 26 (M4.2.2.1 26) = M4.1 ∧ M4.2.2.1 26 < 1 ∧ (M0.1, M0.2.1).1 ≤ M4.1 ∧ (M0.1, M0.2.1).2 ≤ M4.2.1 ∧ M4.1 + 1 ≤ (M0.1, M0.2.1).1 + 34 ∧ M4.2.1 + 6 ≤ (M0.1, M0.2.1).2 + 506 then qz_let (qy_add M4 26 6) fun _ =>
  if (M4.2.2.1 26) = o ∧ o < (qy_add M4 26 6).2.2.1 7 then qz_let (qy_mk (qy_add M4 26 6) 7 o 6) fun M5 =>
  if qy_of 27 (M5.2.2.1 27) = M5.1 ∧ M5.2.2.1 27 < 1 ∧ (M0.1, M0.2.1).1 ≤ M5.1 ∧ (M0.1, M0.2.1).2 ≤ M5.2.1 ∧ M5.1 + 1 ≤ (M0.1, M0.2.1).1 + 34 ∧ M5.2.1 + 12 ≤ (M0.1, M0.2.1).2 + 506 then qz_let (qy_add M5 27 12) fun _ =>
  if (M5.2.2.1 27) = o ∧ o < (qy_add M5 27 12).2.2.1 7 then qz_let (qy_mk (qy_add M5 27 12) 7 o 7) fun M6 =>
  if qy_of 28 (M6.2.2.1 28) = M6.1 ∧ M6.2.2.1 28 < 1 ∧ (M0.1, M0.2.1).1 ≤ M6.1 ∧ (M0.1, M0.2.1).2 ≤ M6.2.1 ∧ M6.1 + 1 ≤ (M0.1, M0.2.1).1 + 34 ∧ M6.2.1 + 6 ≤ (M0.1, M0.2.1).2 + 506 then qz_let (qy_add M6 28 6) fun _ =>
  if (M6.2.2.1 28) = o ∧ o < (qy_add M6 28 6).2.2.1 7 then qz_let (qy_mk (qy_add M6 28 6) 7 o 8) fun M7 =>
  if qy_of 29 (M7.2.2.1 29) = M7.1 ∧ M7.2.2.1 29 < 1 ∧ (M0.1, M0.2.1).1 ≤ M7.1 ∧ (M0.1, M0.2.1).2 ≤ M7.2.1 ∧ M7.1 + 1 ≤ (M0.1, M0.2.1).1 + 34 ∧ M7.2.1 + 36 ≤ (M0.1, M0.2.1).2 + 506 then qz_let (qy_add M7 29 36) fun _ =>
  if (M7.2.2.1 29) = o ∧ o < (qy_add M7 29 36).2.2.1 7 then qz_let (qy_mk (qy_add M7 29 36) 7 o 9) fun M8 =>
  if qy_of 30 (M8.2.2.1 30) = M8.1 ∧ M8.2.2.1 30 < 1 ∧ (M0.1, M0.2.1).1 ≤ M8.1 ∧ (M0.1, M0.2.1).2 ≤ M8.2.1 ∧ M8.1 + 1 ≤ (M0.1, M0.2.1).1 + 34 ∧ M8.2.1 + 6 ≤ (M0.1, M0.2.1).2 + 506 then qz_let (qy_add M8 30 6) fun _ =>
  if (M8.2.2.1 30) = o ∧ o < (qy_add M8 30 6).2.2.1 7 then qz_let (qy_mk (qy_add M8 30 6) 7 o 10) fun M9 =>
  if qy_of 31 (M9.2.2.1 31) = M9.1 ∧ M9.2.2.1 31 < 1 ∧ (M0.1, M0.2.1).1 ≤ M9.1 ∧ (M0.1, M0.2.1).2 ≤ M9.2.1 ∧ M9.1 + 1 ≤ (M0.1, M0.2.1).1 + 34 ∧ M9.2.1 + 6 ≤ (M0.1, M0.2.1).2 + 506 then qz_let (qy_add M9 31 6) fun _ =>
  if (M9.2.2.1 31) = o ∧ o < (qy_add M9 31 6).2.2.1 7 then qz_let (qy_mk (qy_add M9 31 6) 7 o 11) fun M10 =>
  if qy_of 32 (M10.2.2.1 32) = M10.1 ∧ M10.2.2.1 32 < 1 ∧ (M0.1, M0.2.1).1 ≤ M10.1 ∧ (M0.1, M0.2.1).2 ≤ M10.2.1 ∧ M10.1 + 1 ≤ (M0.1, M0.2.1).1 + 34 ∧ M10.2.1 + 8 ≤ (M0.1, M0.2.1).2 + 506 then qz_let (qy_add M10 32 8) fun _ =>
  if (M10.2.2.1 32) = o ∧ o < (qy_add M10 32 8).2.2.1 7 then qz_let (qy_mk (qy_add M10 32 8) 7 o 12) fun M11 =>
  if qy_of 33 (M11.2.2.1 33) = M11.1 ∧ M11.2.2.1 33 < 1 ∧ (M0.1, M0.2.1).1 ≤ M11.1 ∧ (M0.1, M0.2.1).2 ≤ M11.2.1 ∧ M11.1 + 1 ≤ (M0.1, M0.2.1).1 + 34 ∧ M11.2.1 + 8 ≤ (M0.1, M0.2.1).2 + 506 then qz_let (qy_add M11 33 8) fun _ =>
  if (M11.2.2.1 33) = o ∧ o < (qy_add M11 33 8).2.2.1 7 then qz_let (qy_mk (qy_add M11 33 8) 7 o 13) fun M12 =>
  if qy_of 34 (M12.2.2.1 34) = M12.1 ∧ M12.2.2.1 34 < 1 ∧ (M0.1, M0.2.1).1 ≤ M12.1 ∧ (M0.1, M0.2.1).2 ≤ M12.2.1 ∧ M12.1 + 1 ≤ (M0.1, M0.2.1).1 + 34 ∧ M12.2.1 + 8 ≤ (M0.1, M0.2.1).2 + 506 then qz_let (qy_add M12 34 8) fun _ =>
  if (M12.2.2.1 34) = o ∧ o < (qy_add M12 34 8).2.2.1 7 then qz_let (qy_mk (qy_add M12 34 8) 7 o 14) fun M13 =>
  if o < M13.2.2.1 7 then qz_let (qy_sN M13 (qz_si M13.2.2.2.2 7 o 16 (1 : Int32))) fun M14 =>
  if qy_of 35 (M14.2.2.1 35) = M14.1 ∧ M14.2.2.1 35 < 1 ∧ (M0.1, M0.2.1).1 ≤ M14.1 ∧ (M0.1, M0.2.1).2 ≤ M14.2.1 ∧ M14.1 + 1 ≤ (M0.1, M0.2.1).1 + 34 ∧ M14.2.1 + 40 ≤ (M0.1, M0.2.1).2 + 506 then qz_let (qy_add M14 35 40) fun _ =>
  if (M14.2.2.1 35) = o ∧ o < (qy_add M14 35 40).2.2.1 7 then qz_let (qy_mk (qy_add M14 35 40) 7 o 18) fun M15 =>
  if qy_of 36 (M15.2.2.1 36) = M15.1 ∧ M15.2.2.1 36 < 1 ∧ (M0.1, M0.2.1).1 ≤ M15.1 ∧ (M0.1, M0.2.1).2 ≤ M15.2.1 ∧ M15.1 + 1 ≤ (M0.1, M0.2.1).1 + 34 ∧ M15.2.1 + 40 ≤ (M0.1, M0.2.1).2 + 506 then qz_let (qy_add M15 36 40) fun _ =>
  if (M15.2.2.1 36) = o ∧ o < (qy_add M15 36 40).2.2.1 7 then qz_let (qy_mk (qy_add M15 36 40) 7 o 19) fun M16 =>
  if qy_of 37 (M16.2.2.1 37) = M16.1 ∧ M16.2.2.1 37 < 1 ∧ (M0.1, M0.2.1).1 ≤ M16.1 ∧ (M0.1, M0.2.1).2 ≤ M16.2.1 ∧ M16.1 + 1 ≤ (M0.1, M0.2.1).1 + 34 ∧ M16.2.1 + 40 ≤ (M0.1, M0.2.1).2 + 506 then qz_let (qy_add M16 37 40) fun _ =>
  if (M16.2.2.1 37) = o ∧ o < (qy_add M16 37 40).2.2.1 7 then qz_let (qy_mk (qy_add M16 37 40) 7 o 20) fun M17 =>
  if qy_of 38 (M17.2.2.1 38) = M17.1 ∧ M17.2.2.1 38 < 1 ∧ (M0.1, M0.2.1).1 ≤ M17.1 ∧ (M0.1, M0.2.1).2 ≤ M17.2.1 ∧ M17.1 + 1 ≤ (M0.1, M0.2.1).1 + 34 ∧ M17.2.1 + 40 ≤ (M0.1, M0.2.1).2 + 506 then qz_let (qy_add M17 38 40) fun _ =>
  if (M17.2.2.1 38) = o ∧ o < (qy_add M17 38 40).2.2.1 7 then qz_let (qy_mk (qy_add M17 38 40) 7 o 21) fun M18 =>
  if qy_of 39 (M18.2.2.1 39) = M18.1 ∧ M18.2.2.1 39 < 1 ∧ (M0.1, M0.2.1).1 ≤ M18.1 ∧ (M0.1, M0.2.1).2 ≤ M18.2.1 ∧ M18.1 + 1 ≤ (M0.1, M0.2.1).1 + 34 ∧ M18.2.1 + 40 ≤ (M0.1, M0.2.1).2 + 506 then qz_let (qy_add M18 39 40) fun _ =>
  if (M18.2.2.1 39) = o ∧ o < (qy_add M18 39 40).2.2.1 7 then qz_let (qy_mk (qy_add M18 39 40) 7 o 24) fun M19 =>
  if qy_of 40 (M19.2.2.1 40) = M19.1 ∧ M19.2.2.1 40 < 1 ∧ (M0.1, M0.2.1).1 ≤ M19.1 ∧ (M0.1, M0.2.1).2 ≤ M19.2.1 ∧ M19.1 + 1 ≤ (M0.1, M0.2.1).1 + 34 ∧ M19.2.1 + 40 ≤ (M0.1, M0.2.1).2 + 506 then qz_let (qy_add M19 40 40) fun _ =>
  if (M19.2.2.1 40) = o ∧ o < (qy_add M19 40 40).2.2.1 7 then qz_let (qy_mk (qy_add M19 40 40) 7 o 25) fun M20 =>
  if qy_of 41 (M20.2.2.1 41) = M20.1 ∧ M20.2.2.1 41 < 1 ∧ (M0.1, M0.2.1).1 ≤ M20.1 ∧ (M0.1, M0.2.1).2 ≤ M20.2.1 ∧ M20.1 + 1 ≤ (M0.1, M0.2.1).1 + 34 ∧ M20.2.1 + 4 ≤ (M0.1, M0.2.1).2 + 506 then qz_let (qy_add M20 41 4) fun _ =>
  if (M20.2.2.1 41) = o ∧ o < (qy_add M20 41 4).2.2.1 7 then qz_let (qy_mk (qy_add M20 41 4) 7 o 26) fun M21 =>
  if qy_of 42 (M21.2.2.1 42) = M21.1 ∧ M21.2.2.1 42 < 1 ∧ (M0.1, M0.2.1).1 ≤ M21.1 ∧ (M0.1, M0.2.1).2 ≤ M21.2.1 ∧ M21.1 + 1 ≤ (M0.1, M0.2.1).1 + 34 ∧ M21.2.1 + 4 ≤ (M0.1, M0.2.1).2 + 506 then qz_let (qy_add M21 42 4) fun _ =>
  if (M21.2.2.1 42) = o ∧ o < (qy_add M21 42 4).2.2.1 7 then qz_let (qy_mk (qy_add M21 42 4) 7 o 27) fun M22 =>
  if qy_of 43 (M22.2.2.1 43) = M22.1 ∧ M22.2.2.1 43 < 1 ∧ (M0.1, M0.2.1).1 ≤ M22.1 ∧ (M0.1, M0.2.1).2 ≤ M22.2.1 ∧ M22.1 + 1 ≤ (M0.1, M0.2.1).1 + 34 ∧ M22.2.1 + 24 ≤ (M0.1, M0.2.1).2 + 506 then qz_let (qy_add M22 43 24) fun _ =>
  if (M22.2.2.1 43) = o ∧ o < (qy_add M22 43 24).2.2.1 7 then qz_let (qy_mk (qy_add M22 43 24) 7 o 28) fun M23 =>
  if qy_of 44 (M23.2.2.1 44) = M23.1 ∧ M23.2.2.1 44 < 1 ∧ (M0.1, M0.2.1).1 ≤ M23.1 ∧ (M0.1, M0.2.1).2 ≤ M23.2.1 ∧ M23.1 + 1 ≤ (M0.1, M0.2.1).1 + 34 ∧ M23.2.1 + 4 ≤ (M0.1, M0.2.1).2 + 506 then qz_let (qy_add M23 44 4) fun _ =>
  if (M23.2.2.1 44) = o ∧ o < (qy_add M23 44 4).2.2.1 7 then qz_let (qy_mk (qy_add M23 44 4) 7 o 29) fun M24 =>
  if qy_of 45 (M24.2.2.1 45) = M24.1 ∧ M24.2.2.1 45 < 1 ∧ (M0.1, M0.2.1).1 ≤ M24.1 ∧ (M0.1, M0.2.1).2 ≤ M24.2.1 ∧ M24.1 + 1 ≤ (M0.1, M0.2.1).1 + 34 ∧ M24.2.1 + 4 ≤ (M0.1, M0.2.1).2 + 506 then qz_let (qy_add M24 45 4) fun _ =>
  if (M24.2.2.1 45) = o ∧ o < (qy_add M24 45 4).2.2.1 7 then qz_let (qy_mk (qy_add M24 45 4) 7 o 30) fun M25 =>
  if qy_of 46 (M25.2.2.1 46) = M25.1 ∧ M25.2.2.1 46 < 1 ∧ (M0.1, M0.2.1).1 ≤ M25.1 ∧ (M0.1, M0.2.1).2 ≤ M25.2.1 ∧ M25.1 + 1 ≤ (M0.1, M0.2.1).1 + 34 ∧ M25.2.1 + 10 ≤ (M0.1, M0.2.1).2 + 506 then qz_let (qy_add M25 46 10) fun _ =>
  if (M25.2.2.1 46) = o ∧ o < (qy_add M25 46 10).2.2.1 7 then qz_let (qy_mk (qy_add M25 46 10) 7 o 31) fun M26 =>
  if qy_of 47 (M26.2.2.1 47) = M26.1 ∧ M26.2.2.1 47 < 1 ∧ (M0.1, M0.2.1).1 ≤ M26.1 ∧ (M0.1, M0.2.1).2 ≤ M26.2.1 ∧ M26.1 + 1 ≤ (M0.1, M0.2.1).1 + 34 ∧ M26.2.1 + 10 ≤ (M0.1, M0.2.1).2 + 506 then qz_let (qy_add M26 47 10) fun _ =>
  if (M26.2.2.1 47) = o ∧ o < (qy_add M26 47 10).2.2.1 7 then qz_let (qy_mk (qy_add M26 47 10) 7 o 32) fun M27 =>
  if qy_of 48 (M27.2.2.1 48) = M27.1 ∧ M27.2.2.1 48 < 1 ∧ (M0.1, M0.2.1).1 ≤ M27.1 ∧ (M0.1, M0.2.1).2 ≤ M27.2.1 ∧ M27.1 + 1 ≤ (M0.1, M0.2.1).1 + 34 ∧ M27.2.1 + 10 ≤ (M0.1, M0.2.1).2 + 506 then qz_let (qy_add M27 48 10) fun _ =>
  if (M27.2.2.1 48) = o ∧ o < (qy_add M27 48 10).2.2.1 7 then qz_let (qy_mk (qy_add M27 48 10) 7 o 33) fun M28 =>
  if qy_of 49 (M28.2.2.1 49) = M28.1 ∧ M28.2.2.1 49 < 1 ∧ (M0.1, M0.2.1).1 ≤ M28.1 ∧ (M0.1, M0.2.1).2 ≤ M28.2.1 ∧ M28.1 + 1 ≤ (M0.1, M0.2.1).1 + 34 ∧ M28.2.1 + 10 ≤ (M0.1, M0.2.1).2 + 506 then qz_let (qy_add M28 49 10) fun _ =>
  if (M28.2.2.1 49) = o ∧ o < (qy_add M28 49 10).2.2.1 7 then qz_let (qy_mk (qy_add M28 49 10) 7 o 34) fun M29 =>
  if qy_of 50 (M29.2.2.1 50) = M29.1 ∧ M29.2.2.1 50 < 1 ∧ (M0.1, M0.2.1).1 ≤ M29.1 ∧ (M0.1, M0.2.1).2 ≤ M29.2.1 ∧ M29.1 + 1 ≤ (M0.1, M0.2.1).1 + 34 ∧ M29.2.1 + 10 ≤ (M0.1, M0.2.1).2 + 506 then qz_let (qy_add M29 50 10) fun _ =>
  if (M29.2.2.1 50) = o ∧ o < (qy_add M29 50 10).2.2.1 7 then qz_let (qy_mk (qy_add M29 50 10) 7 o 35) fun M30 =>
  if qy_of 51 (M30.2.2.1 51) = M30.1 ∧ M30.2.2.1 51 < 1 ∧ (M0.1, M0.2.1).1 ≤ M30.1 ∧ (M0.1, M0.2.1).2 ≤ M30.2.1 ∧ M30.1 + 1 ≤ (M0.1, M0.2.1).1 + 34 ∧ M30.2.1 + 10 ≤ (M0.1, M0.2.1).2 + 506 then qz_let (qy_add M30 51 10) fun _ =>
  if (M30.2.2.1 51) = o ∧ o < (qy_add M30 51 10).2.2.1 7 then qz_let (qy_mk (qy_add M30 51 10) 7 o 36) fun M31 =>
  if qy_of 52 (M31.2.2.1 52) = M31.1 ∧ M31.2.2.1 52 < 1 ∧ (M0.1, M0.2.1).1 ≤ M31.1 ∧ (M0.1, M0.2.1).2 ≤ M31.2.1 ∧ M31.1 + 1 ≤ (M0.1, M0.2.1).1 + 34 ∧ M31.2.1 + 6 ≤ (M0.1, M0.2.1).2 + 506 then qz_let (qy_add M31 52 6) fun _ =>
  if (M31.2.2.1 52) = o ∧ o < (qy_add M31 52 6).2.2.1 7 then qz_let (qy_mk (qy_add M31 52 6) 7 o 37) fun M32 =>
  if qy_of 53 (M32.2.2.1 53) = M32.1 ∧ M32.2.2.1 53 < 1 ∧ (M0.1, M0.2.1).1 ≤ M32.1 ∧ (M0.1, M0.2.1).2 ≤ M32.2.1 ∧ M32.1 + 1 ≤ (M0.1, M0.2.1).1 + 34 ∧ M32.2.1 + 6 ≤ (M0.1, M0.2.1).2 + 506 then qz_let (qy_add M32 53 6) fun _ =>
  if (M32.2.2.1 53) = o ∧ o < (qy_add M32 53 6).2.2.1 7 then qz_let (qy_mk (qy_add M32 53 6) 7 o 38) fun M33 =>
  if qy_of 54 (M33.2.2.1 54) = M33.1 ∧ M33.2.2.1 54 < 1 ∧ (M0.1, M0.2.1).1 ≤ M33.1 ∧ (M0.1, M0.2.1).2 ≤ M33.2.1 ∧ M33.1 + 1 ≤ (M0.1, M0.2.1).1 + 34 ∧ M33.2.1 + 9 ≤ (M0.1, M0.2.1).2 + 506 then qz_let (qy_add M33 54 9) fun _ =>
  if (M33.2.2.1 54) = o ∧ o < (qy_add M33 54 9).2.2.1 7 then qz_let (qy_mk (qy_add M33 54 9) 7 o 39) fun M34 =>
  if qy_of 55 (M34.2.2.1 55) = M34.1 ∧ M34.2.2.1 55 < 1 ∧ (M0.1, M0.2.1).1 ≤ M34.1 ∧ (M0.1, M0.2.1).2 ≤ M34.2.1 ∧ M34.1 + 1 ≤ (M0.1, M0.2.1).1 + 34 ∧ M34.2.1 + 3 ≤ (M0.1, M0.2.1).2 + 506 then qz_let (qy_add M34 55 3) fun _ =>
  if (M34.2.2.1 55) = o ∧ o < (qy_add M34 55 3).2.2.1 7 then qz_let (qy_mk (qy_add M34 55 3) 7 o 40) fun M35 =>
  gM_init_277 M0 o 1100 (M35, (0 : Int32))
  else none
  else none
  else none
  else none
  else none
  else none
  else none
  else none
  else none
  else none
  else none
  else none
  else none
  else none
  else none
  else none
  else none
  else none
  else none
  else none
  else none
  else none
  else none
  else none
  else none
  else none
  else none
  else none
  else none
  else none
  else none
  else none
  else none
  else none
  else none
  else none
  else none
  else none
  else none
  else none
  else none
  else none
  else none
  else none
  else none
  else none
  else none
  else none
  else none
  else none
  else none
  else none
  else none
  else none
  else none
  else none
  else none
  else none
  else none
  else none
  else none
  else none
  else none
  else none
  else none
  else none
  else none
  else none
  else none
set_option maxRecDepth 100000 in
set_option maxHeartbeats 4000000 in
theorem tM_init_299b {p : Program} {l : Launch} {e : Env} {s : State} {m : MethodId} {args : Array Value} {below : List Frame} {meth : Method} {c : Code} {G : qz_G} {h0 : Nat} (hinit : meth.name = "<init>") (hD : qz_D G) (hG : ∀ c i, G.2.2 c i = h0 + qy_of c i) (X : qy_X p s m args meth c "ExactCurvesModel" prog_10_method_1_code 2 none G h0 qy_ns qy_ao) {r : qy_M} (M0 : qy_M) (y0 : Nat) (hy0 : True) (k299 : qy_M × Int32 → Option qy_M) (hk299 : ∀ a, k299 a = some r → qy_W p l e (qy_R 1 34 506) s m args below meth c (MQ below (qy_Q G h0 r) args s 34 506 (fun a => h0 ≤ a)) G h0 s.heap (M0.1, M0.2.1) 2 a.1 299 [(1, .int a.2), (0, .ref (G.2.2 7 y0))] []) (N : qy_M) (x1 : Int32) (h : gM_init_299b M0 y0 k299 N x1 = some r) : qy_W p l e (qy_R 1 34 506) s m args below meth c (MQ below (qy_Q G h0 r) args s 34 506 (fun a => h0 ≤ a)) G h0 s.heap (M0.1, M0.2.1) 2 N 299 [(1, .int x1), (0, .ref (G.2.2 7 y0))] [] := by
  unfold gM_init_299b at h
  refine qy_iload_n X 0 rfl dq_M_init_299 ?_
  refine qy_bipush X (v := (8 : Int32)) (by decide) dq_M_init_300 ?_
  refine qy_icmp_ge X (tgt := 318) (by decide) dq_M_init_302 h (fun _ h => ?_) (fun _ h => ?_)
  · exact qy_vret X h dq_M_init_318
  · refine qy_aload_n X 1 rfl dq_M_init_305 ?_
    refine qz_ite h (fun hc h => ?_) (fun _ h => by cases h)
    refine qy_get X (v := .ref (G.2.2 32 y0)) kq_M_41 hc.1 (by show (if _ then _ else _) = _; rw [if_pos hc.2]) dq_M_init_306 ?_
    refine qy_iload_n X 0 rfl dq_M_init_309 ?_
    refine qy_iconst X (v := (-1 : Int32)) (by decide) dq_M_init_310 ?_
    refine qy_iast X rfl dq_M_init_311 h (fun M36 h => ?_)
    refine qy_iinc_l X (u := (1 : Int32)) (lv' := fun v37 => [(1, .int v37), (0, .ref (G.2.2 7 y0))]) (k := 0) rfl (by decide) (by decide) (fun _ => rfl) dq_M_init_312 h (fun v37 h => ?_)
    refine qy_goto X (tgt := 299) (by decide) dq_M_init_315 ?_
    refine qy_sub [0, 1] rfl ?_
    exact hk299 (M36, v37) h
theorem tM_init_299 {p : Program} {l : Launch} {e : Env} {s : State} {m : MethodId} {args : Array Value} {below : List Frame} {meth : Method} {c : Code} {G : qz_G} {h0 : Nat} (hinit : meth.name = "<init>") (hD : qz_D G) (hG : ∀ c i, G.2.2 c i = h0 + qy_of c i) (X : qy_X p s m args meth c "ExactCurvesModel" prog_10_method_1_code 2 none G h0 qy_ns qy_ao) {r : qy_M} (M0 : qy_M) (y0 : Nat) (hy0 : True) (n : Nat) (a : qy_M × Int32) (h : gM_init_299 M0 y0 n a = some r) : qy_W p l e (qy_R 1 34 506) s m args below meth c (MQ below (qy_Q G h0 r) args s 34 506 (fun a => h0 ≤ a)) G h0 s.heap (M0.1, M0.2.1) 2 a.1 299 [(1, .int a.2), (0, .ref (G.2.2 7 y0))] [] :=
  qz_loop_ind (P := fun a => qy_W p l e (qy_R 1 34 506) s m args below meth c (MQ below (qy_Q G h0 r) args s 34 506 (fun a => h0 ≤ a)) G h0 s.heap (M0.1, M0.2.1) 2 a.1 299 [(1, .int a.2), (0, .ref (G.2.2 7 y0))] []) (fun k hk a h => tM_init_299b hinit hD hG X M0 y0 hy0 k hk a.1 a.2 h) n a h
set_option maxRecDepth 100000 in
set_option maxHeartbeats 4000000 in
theorem tM_init_277b {p : Program} {l : Launch} {e : Env} {s : State} {m : MethodId} {args : Array Value} {below : List Frame} {meth : Method} {c : Code} {G : qz_G} {h0 : Nat} (hinit : meth.name = "<init>") (hD : qz_D G) (hG : ∀ c i, G.2.2 c i = h0 + qy_of c i) (X : qy_X p s m args meth c "ExactCurvesModel" prog_10_method_1_code 2 none G h0 qy_ns qy_ao) {r : qy_M} (M0 : qy_M) (y0 : Nat) (hy0 : True) (k277 : qy_M × Int32 → Option qy_M) (hk277 : ∀ a, k277 a = some r → qy_W p l e (qy_R 1 34 506) s m args below meth c (MQ below (qy_Q G h0 r) args s 34 506 (fun a => h0 ≤ a)) G h0 s.heap (M0.1, M0.2.1) 2 a.1 277 [(1, .int a.2), (0, .ref (G.2.2 7 y0))] []) (N : qy_M) (x1 : Int32) (h : gM_init_277b M0 y0 k277 N x1 = some r) : qy_W p l e (qy_R 1 34 506) s m args below meth c (MQ below (qy_Q G h0 r) args s 34 506 (fun a => h0 ≤ a)) G h0 s.heap (M0.1, M0.2.1) 2 N 277 [(1, .int x1), (0, .ref (G.2.2 7 y0))] [] := by
  unfold gM_init_277b at h
  refine qy_iload_n X 0 rfl dq_M_init_277 ?_
  refine qy_iconst X (v := (4 : Int32)) (by decide) dq_M_init_278 ?_
  refine qy_icmp_ge X (tgt := 297) (by decide) dq_M_init_279 h (fun _ h => ?_) (fun _ h => ?_)
  · refine qy_iconst X (v := (0 : Int32)) (by decide) dq_M_init_297 ?_
    refine qy_istore_n X (lv' := [(1, .int (0 : Int32)), (0, .ref (G.2.2 7 y0))]) rfl (by decide) rfl dq_M_init_298 ?_
    refine qy_sub [0, 1] rfl ?_
    exact tM_init_299 hinit hD hG X M0 y0 hy0 1100 (N, (0 : Int32)) h
  · refine qy_aload_n X 1 rfl dq_M_init_282 ?_
    refine qz_ite h (fun hc h => ?_) (fun _ h => by cases h)
    refine qy_get X (v := .ref (G.2.2 44 y0)) kq_M_82 hc.1 (by show (if _ then _ else _) = _; rw [if_pos hc.2]) dq_M_init_283 ?_
    refine qy_iload_n X 0 rfl dq_M_init_286 ?_
    refine qy_ldc2 X (v := (1000000000 : Int64)) wq_603 dq_M_init_287 ?_
    refine qy_last X rfl dq_M_init_290 h (fun M38 h => ?_)
    refine qy_iinc_l X (u := (1 : Int32)) (lv' := fun v39 => [(1, .int v39), (0, .ref (G.2.2 7 y0))]) (k := 0) rfl (by decide) (by decide) (fun _ => rfl) dq_M_init_291 h (fun v39 h => ?_)
    refine qy_goto X (tgt := 277) (by decide) dq_M_init_294 ?_
    refine qy_sub [0, 1] rfl ?_
    exact hk277 (M38, v39) h
theorem tM_init_277 {p : Program} {l : Launch} {e : Env} {s : State} {m : MethodId} {args : Array Value} {below : List Frame} {meth : Method} {c : Code} {G : qz_G} {h0 : Nat} (hinit : meth.name = "<init>") (hD : qz_D G) (hG : ∀ c i, G.2.2 c i = h0 + qy_of c i) (X : qy_X p s m args meth c "ExactCurvesModel" prog_10_method_1_code 2 none G h0 qy_ns qy_ao) {r : qy_M} (M0 : qy_M) (y0 : Nat) (hy0 : True) (n : Nat) (a : qy_M × Int32) (h : gM_init_277 M0 y0 n a = some r) : qy_W p l e (qy_R 1 34 506) s m args below meth c (MQ below (qy_Q G h0 r) args s 34 506 (fun a => h0 ≤ a)) G h0 s.heap (M0.1, M0.2.1) 2 a.1 277 [(1, .int a.2), (0, .ref (G.2.2 7 y0))] [] :=
  qz_loop_ind (P := fun a => qy_W p l e (qy_R 1 34 506) s m args below meth c (MQ below (qy_Q G h0 r) args s 34 506 (fun a => h0 ≤ a)) G h0 s.heap (M0.1, M0.2.1) 2 a.1 277 [(1, .int a.2), (0, .ref (G.2.2 7 y0))] []) (fun k hk a h => tM_init_277b hinit hD hG X M0 y0 hy0 k hk a.1 a.2 h) n a h
set_option maxRecDepth 100000 in
set_option maxHeartbeats 4000000 in
theorem tM_init {p : Program} {l : Launch} {e : Env} {s : State} {m : MethodId} {args : Array Value} {below : List Frame} {meth : Method} {c : Code} {G : qz_G} {h0 : Nat} (hinit : meth.name = "<init>") (hD : qz_D G) (hG : ∀ c i, G.2.2 c i = h0 + qy_of c i) (X : qy_X p s m args meth c "ExactCurvesModel" prog_10_method_1_code 2 none G h0 qy_ns qy_ao) {r : qy_M} (o : Nat) (M0 : qy_M) (h : gM_init o M0 = some r) : qy_W p l e (qy_R 1 34 506) s m args below meth c (MQ below (qy_Q G h0 r) args s 34 506 (fun a => h0 ≤ a)) G h0 s.heap (M0.1, M0.2.1) 2 M0 0 [(0, .ref (G.2.2 7 o))] [] := by
  unfold gM_init at h
  refine qy_aload_n X 0 rfl dq_M_init_0 ?_
  refine qy_obj X ⟨wq_602, wq_18, oq_init⟩ ⟨by decide, by decide⟩ (Nat.le_of_ble_eq_true rfl) dq_M_init_1 ?_
  refine qy_aload_n X 0 rfl dq_M_init_4 ?_
  refine qy_bipush X (v := (24 : Int32)) (by decide) dq_M_init_5 ?_
  refine qy_newa X (ty := .long) (tg := 0) ⟨rfl, rfl⟩ rfl (by decide) rfl ⟨by decide, by decide, by decide⟩ wq_38 dq_M_init_7 h (fun h => ?_)
  refine qy_putR X rfl kq_M_7 (Or.inr ⟨hinit, 7, sq_7, tq_7, 42, rfl, rfl, rfl⟩) dq_M_init_9 h (fun M1 h => ?_)
  refine qy_aload_n X 0 rfl dq_M_init_12 ?_
  refine qy_iconst X (v := (4 : Int32)) (by decide) dq_M_init_13 ?_
  refine qy_newa X (ty := .long) (tg := 0) ⟨rfl, rfl⟩ rfl (by decide) rfl ⟨by decide, by decide, by decide⟩ wq_38 dq_M_init_14 h (fun h => ?_)
  refine qy_putR X rfl kq_M_13 (Or.inr ⟨hinit, 7, sq_7, tq_7, 42, rfl, rfl, rfl⟩) dq_M_init_16 h (fun M2 h => ?_)
  refine qy_aload_n X 0 rfl dq_M_init_19 ?_
  refine qy_bipush X (v := (12 : Int32)) (by decide) dq_M_init_20 ?_
  refine qy_newa X (ty := .int) (tg := 0) ⟨rfl, rfl⟩ rfl (by decide) rfl ⟨by decide, by decide, by decide⟩ wq_90 dq_M_init_22 h (fun h => ?_)
  refine qy_putR X rfl kq_M_16 (Or.inr ⟨hinit, 7, sq_7, tq_7, 42, rfl, rfl, rfl⟩) dq_M_init_24 h (fun M3 h => ?_)
  refine qy_aload_n X 0 rfl dq_M_init_27 ?_
  refine qy_bipush X (v := (6 : Int32)) (by decide) dq_M_init_28 ?_
  refine qy_newa X (ty := .int) (tg := 0) ⟨rfl, rfl⟩ rfl (by decide) rfl ⟨by decide, by decide, by decide⟩ wq_90 dq_M_init_30 h (fun h => ?_)
  refine qy_putR X rfl kq_M_20 (Or.inr ⟨hinit, 7, sq_7, tq_7, 42, rfl, rfl, rfl⟩) dq_M_init_32 h (fun M4 h => ?_)
  refine qy_aload_n X 0 rfl dq_M_init_35 ?_
  refine qy_bipush X (v := (6 : Int32)) (by decide) dq_M_init_36 ?_
  refine qy_newa X (ty := .int) (tg := 0) ⟨rfl, rfl⟩ rfl (by decide) rfl ⟨by decide, by decide, by decide⟩ wq_90 dq_M_init_38 h (fun h => ?_)
  refine qy_putR X rfl kq_M_23 (Or.inr ⟨hinit, 7, sq_7, tq_7, 42, rfl, rfl, rfl⟩) dq_M_init_40 h (fun M5 h => ?_)
  refine qy_aload_n X 0 rfl dq_M_init_43 ?_
  refine qy_bipush X (v := (12 : Int32)) (by decide) dq_M_init_44 ?_
  refine qy_newa X (ty := .long) (tg := 0) ⟨rfl, rfl⟩ rfl (by decide) rfl ⟨by decide, by decide, by decide⟩ wq_38 dq_M_init_46 h (fun h => ?_)
  refine qy_putR X rfl kq_M_26 (Or.inr ⟨hinit, 7, sq_7, tq_7, 42, rfl, rfl, rfl⟩) dq_M_init_48 h (fun M6 h => ?_)
  refine qy_aload_n X 0 rfl dq_M_init_51 ?_
  refine qy_bipush X (v := (6 : Int32)) (by decide) dq_M_init_52 ?_
  refine qy_newa X (ty := .long) (tg := 0) ⟨rfl, rfl⟩ rfl (by decide) rfl ⟨by decide, by decide, by decide⟩ wq_38 dq_M_init_54 h (fun h => ?_)
  refine qy_putR X rfl kq_M_29 (Or.inr ⟨hinit, 7, sq_7, tq_7, 42, rfl, rfl, rfl⟩) dq_M_init_56 h (fun M7 h => ?_)
  refine qy_aload_n X 0 rfl dq_M_init_59 ?_
  refine qy_bipush X (v := (36 : Int32)) (by decide) dq_M_init_60 ?_
  refine qy_newa X (ty := .long) (tg := 0) ⟨rfl, rfl⟩ rfl (by decide) rfl ⟨by decide, by decide, by decide⟩ wq_38 dq_M_init_62 h (fun h => ?_)
  refine qy_putR X rfl kq_M_32 (Or.inr ⟨hinit, 7, sq_7, tq_7, 42, rfl, rfl, rfl⟩) dq_M_init_64 h (fun M8 h => ?_)
  refine qy_aload_n X 0 rfl dq_M_init_67 ?_
  refine qy_bipush X (v := (6 : Int32)) (by decide) dq_M_init_68 ?_
  refine qy_newa X (ty := .long) (tg := 0) ⟨rfl, rfl⟩ rfl (by decide) rfl ⟨by decide, by decide, by decide⟩ wq_38 dq_M_init_70 h (fun h => ?_)
  refine qy_putR X rfl kq_M_35 (Or.inr ⟨hinit, 7, sq_7, tq_7, 42, rfl, rfl, rfl⟩) dq_M_init_72 h (fun M9 h => ?_)
  refine qy_aload_n X 0 rfl dq_M_init_75 ?_
  refine qy_bipush X (v := (6 : Int32)) (by decide) dq_M_init_76 ?_
  refine qy_newa X (ty := .long) (tg := 0) ⟨rfl, rfl⟩ rfl (by decide) rfl ⟨by decide, by decide, by decide⟩ wq_38 dq_M_init_78 h (fun h => ?_)
  refine qy_putR X rfl kq_M_38 (Or.inr ⟨hinit, 7, sq_7, tq_7, 42, rfl, rfl, rfl⟩) dq_M_init_80 h (fun M10 h => ?_)
  refine qy_aload_n X 0 rfl dq_M_init_83 ?_
  refine qy_bipush X (v := (8 : Int32)) (by decide) dq_M_init_84 ?_
  refine qy_newa X (ty := .int) (tg := 0) ⟨rfl, rfl⟩ rfl (by decide) rfl ⟨by decide, by decide, by decide⟩ wq_90 dq_M_init_86 h (fun h => ?_)
  refine qy_putR X rfl kq_M_41 (Or.inr ⟨hinit, 7, sq_7, tq_7, 42, rfl, rfl, rfl⟩) dq_M_init_88 h (fun M11 h => ?_)
  refine qy_aload_n X 0 rfl dq_M_init_91 ?_
  refine qy_bipush X (v := (8 : Int32)) (by decide) dq_M_init_92 ?_
  refine qy_newa X (ty := .long) (tg := 0) ⟨rfl, rfl⟩ rfl (by decide) rfl ⟨by decide, by decide, by decide⟩ wq_38 dq_M_init_94 h (fun h => ?_)
  refine qy_putR X rfl kq_M_44 (Or.inr ⟨hinit, 7, sq_7, tq_7, 42, rfl, rfl, rfl⟩) dq_M_init_96 h (fun M12 h => ?_)
  refine qy_aload_n X 0 rfl dq_M_init_99 ?_
  refine qy_bipush X (v := (8 : Int32)) (by decide) dq_M_init_100 ?_
  refine qy_newa X (ty := .long) (tg := 0) ⟨rfl, rfl⟩ rfl (by decide) rfl ⟨by decide, by decide, by decide⟩ wq_38 dq_M_init_102 h (fun h => ?_)
  refine qy_putR X rfl kq_M_47 (Or.inr ⟨hinit, 7, sq_7, tq_7, 42, rfl, rfl, rfl⟩) dq_M_init_104 h (fun M13 h => ?_)
  refine qy_aload_n X 0 rfl dq_M_init_107 ?_
  refine qy_iconst X (v := (1 : Int32)) (by decide) dq_M_init_108 ?_
  refine qy_putI X kq_M_50 dq_M_init_109 h (fun M14 h => ?_)
  refine qy_aload_n X 0 rfl dq_M_init_112 ?_
  refine qy_bipush X (v := (40 : Int32)) (by decide) dq_M_init_113 ?_
  refine qy_newa X (ty := .int) (tg := 0) ⟨rfl, rfl⟩ rfl (by decide) rfl ⟨by decide, by decide, by decide⟩ wq_90 dq_M_init_115 h (fun h => ?_)
  refine qy_putR X rfl kq_M_54 (Or.inr ⟨hinit, 7, sq_7, tq_7, 42, rfl, rfl, rfl⟩) dq_M_init_117 h (fun M15 h => ?_)
  refine qy_aload_n X 0 rfl dq_M_init_120 ?_
  refine qy_bipush X (v := (40 : Int32)) (by decide) dq_M_init_121 ?_
  refine qy_newa X (ty := .boolean) (tg := 0) ⟨rfl, rfl⟩ rfl (by decide) rfl ⟨by decide, by decide, by decide⟩ wq_91 dq_M_init_123 h (fun h => ?_)
  refine qy_putR X rfl kq_M_57 (Or.inr ⟨hinit, 7, sq_7, tq_7, 42, rfl, rfl, rfl⟩) dq_M_init_125 h (fun M16 h => ?_)
  refine qy_aload_n X 0 rfl dq_M_init_128 ?_
  refine qy_bipush X (v := (40 : Int32)) (by decide) dq_M_init_129 ?_
  refine qy_newa X (ty := .long) (tg := 0) ⟨rfl, rfl⟩ rfl (by decide) rfl ⟨by decide, by decide, by decide⟩ wq_38 dq_M_init_131 h (fun h => ?_)
  refine qy_putR X rfl kq_M_61 (Or.inr ⟨hinit, 7, sq_7, tq_7, 42, rfl, rfl, rfl⟩) dq_M_init_133 h (fun M17 h => ?_)
  refine qy_aload_n X 0 rfl dq_M_init_136 ?_
  refine qy_bipush X (v := (40 : Int32)) (by decide) dq_M_init_137 ?_
  refine qy_newa X (ty := .long) (tg := 0) ⟨rfl, rfl⟩ rfl (by decide) rfl ⟨by decide, by decide, by decide⟩ wq_38 dq_M_init_139 h (fun h => ?_)
  refine qy_putR X rfl kq_M_64 (Or.inr ⟨hinit, 7, sq_7, tq_7, 42, rfl, rfl, rfl⟩) dq_M_init_141 h (fun M18 h => ?_)
  refine qy_aload_n X 0 rfl dq_M_init_144 ?_
  refine qy_bipush X (v := (40 : Int32)) (by decide) dq_M_init_145 ?_
  refine qy_newa X (ty := .long) (tg := 0) ⟨rfl, rfl⟩ rfl (by decide) rfl ⟨by decide, by decide, by decide⟩ wq_38 dq_M_init_147 h (fun h => ?_)
  refine qy_putR X rfl kq_M_67 (Or.inr ⟨hinit, 7, sq_7, tq_7, 42, rfl, rfl, rfl⟩) dq_M_init_149 h (fun M19 h => ?_)
  refine qy_aload_n X 0 rfl dq_M_init_152 ?_
  refine qy_bipush X (v := (40 : Int32)) (by decide) dq_M_init_153 ?_
  refine qy_newa X (ty := .boolean) (tg := 0) ⟨rfl, rfl⟩ rfl (by decide) rfl ⟨by decide, by decide, by decide⟩ wq_91 dq_M_init_155 h (fun h => ?_)
  refine qy_putR X rfl kq_M_70 (Or.inr ⟨hinit, 7, sq_7, tq_7, 42, rfl, rfl, rfl⟩) dq_M_init_157 h (fun M20 h => ?_)
  refine qy_aload_n X 0 rfl dq_M_init_160 ?_
  refine qy_iconst X (v := (4 : Int32)) (by decide) dq_M_init_161 ?_
  refine qy_newa X (ty := .long) (tg := 0) ⟨rfl, rfl⟩ rfl (by decide) rfl ⟨by decide, by decide, by decide⟩ wq_38 dq_M_init_162 h (fun h => ?_)
  refine qy_putR X rfl kq_M_73 (Or.inr ⟨hinit, 7, sq_7, tq_7, 42, rfl, rfl, rfl⟩) dq_M_init_164 h (fun M21 h => ?_)
  refine qy_aload_n X 0 rfl dq_M_init_167 ?_
  refine qy_iconst X (v := (4 : Int32)) (by decide) dq_M_init_168 ?_
  refine qy_newa X (ty := .long) (tg := 0) ⟨rfl, rfl⟩ rfl (by decide) rfl ⟨by decide, by decide, by decide⟩ wq_38 dq_M_init_169 h (fun h => ?_)
  refine qy_putR X rfl kq_M_76 (Or.inr ⟨hinit, 7, sq_7, tq_7, 42, rfl, rfl, rfl⟩) dq_M_init_171 h (fun M22 h => ?_)
  refine qy_aload_n X 0 rfl dq_M_init_174 ?_
  refine qy_bipush X (v := (24 : Int32)) (by decide) dq_M_init_175 ?_
  refine qy_newa X (ty := .long) (tg := 0) ⟨rfl, rfl⟩ rfl (by decide) rfl ⟨by decide, by decide, by decide⟩ wq_38 dq_M_init_177 h (fun h => ?_)
  refine qy_putR X rfl kq_M_79 (Or.inr ⟨hinit, 7, sq_7, tq_7, 42, rfl, rfl, rfl⟩) dq_M_init_179 h (fun M23 h => ?_)
  refine qy_aload_n X 0 rfl dq_M_init_182 ?_
  refine qy_iconst X (v := (4 : Int32)) (by decide) dq_M_init_183 ?_
  refine qy_newa X (ty := .long) (tg := 0) ⟨rfl, rfl⟩ rfl (by decide) rfl ⟨by decide, by decide, by decide⟩ wq_38 dq_M_init_184 h (fun h => ?_)
  refine qy_putR X rfl kq_M_82 (Or.inr ⟨hinit, 7, sq_7, tq_7, 42, rfl, rfl, rfl⟩) dq_M_init_186 h (fun M24 h => ?_)
  refine qy_aload_n X 0 rfl dq_M_init_189 ?_
  refine qy_iconst X (v := (4 : Int32)) (by decide) dq_M_init_190 ?_
  refine qy_newa X (ty := .long) (tg := 0) ⟨rfl, rfl⟩ rfl (by decide) rfl ⟨by decide, by decide, by decide⟩ wq_38 dq_M_init_191 h (fun h => ?_)
  refine qy_putR X rfl kq_M_85 (Or.inr ⟨hinit, 7, sq_7, tq_7, 42, rfl, rfl, rfl⟩) dq_M_init_193 h (fun M25 h => ?_)
  refine qy_aload_n X 0 rfl dq_M_init_196 ?_
  refine qy_bipush X (v := (10 : Int32)) (by decide) dq_M_init_197 ?_
  refine qy_newa X (ty := .boolean) (tg := 0) ⟨rfl, rfl⟩ rfl (by decide) rfl ⟨by decide, by decide, by decide⟩ wq_91 dq_M_init_199 h (fun h => ?_)
  refine qy_putR X rfl kq_M_88 (Or.inr ⟨hinit, 7, sq_7, tq_7, 42, rfl, rfl, rfl⟩) dq_M_init_201 h (fun M26 h => ?_)
  refine qy_aload_n X 0 rfl dq_M_init_204 ?_
  refine qy_bipush X (v := (10 : Int32)) (by decide) dq_M_init_205 ?_
  refine qy_newa X (ty := .int) (tg := 0) ⟨rfl, rfl⟩ rfl (by decide) rfl ⟨by decide, by decide, by decide⟩ wq_90 dq_M_init_207 h (fun h => ?_)
  refine qy_putR X rfl kq_M_91 (Or.inr ⟨hinit, 7, sq_7, tq_7, 42, rfl, rfl, rfl⟩) dq_M_init_209 h (fun M27 h => ?_)
  refine qy_aload_n X 0 rfl dq_M_init_212 ?_
  refine qy_bipush X (v := (10 : Int32)) (by decide) dq_M_init_213 ?_
  refine qy_newa X (ty := .int) (tg := 0) ⟨rfl, rfl⟩ rfl (by decide) rfl ⟨by decide, by decide, by decide⟩ wq_90 dq_M_init_215 h (fun h => ?_)
  refine qy_putR X rfl kq_M_94 (Or.inr ⟨hinit, 7, sq_7, tq_7, 42, rfl, rfl, rfl⟩) dq_M_init_217 h (fun M28 h => ?_)
  refine qy_aload_n X 0 rfl dq_M_init_220 ?_
  refine qy_bipush X (v := (10 : Int32)) (by decide) dq_M_init_221 ?_
  refine qy_newa X (ty := .int) (tg := 0) ⟨rfl, rfl⟩ rfl (by decide) rfl ⟨by decide, by decide, by decide⟩ wq_90 dq_M_init_223 h (fun h => ?_)
  refine qy_putR X rfl kq_M_97 (Or.inr ⟨hinit, 7, sq_7, tq_7, 42, rfl, rfl, rfl⟩) dq_M_init_225 h (fun M29 h => ?_)
  refine qy_aload_n X 0 rfl dq_M_init_228 ?_
  refine qy_bipush X (v := (10 : Int32)) (by decide) dq_M_init_229 ?_
  refine qy_newa X (ty := .long) (tg := 0) ⟨rfl, rfl⟩ rfl (by decide) rfl ⟨by decide, by decide, by decide⟩ wq_38 dq_M_init_231 h (fun h => ?_)
  refine qy_putR X rfl kq_M_100 (Or.inr ⟨hinit, 7, sq_7, tq_7, 42, rfl, rfl, rfl⟩) dq_M_init_233 h (fun M30 h => ?_)
  refine qy_aload_n X 0 rfl dq_M_init_236 ?_
  refine qy_bipush X (v := (10 : Int32)) (by decide) dq_M_init_237 ?_
  refine qy_newa X (ty := .long) (tg := 0) ⟨rfl, rfl⟩ rfl (by decide) rfl ⟨by decide, by decide, by decide⟩ wq_38 dq_M_init_239 h (fun h => ?_)
  refine qy_putR X rfl kq_M_103 (Or.inr ⟨hinit, 7, sq_7, tq_7, 42, rfl, rfl, rfl⟩) dq_M_init_241 h (fun M31 h => ?_)
  refine qy_aload_n X 0 rfl dq_M_init_244 ?_
  refine qy_bipush X (v := (6 : Int32)) (by decide) dq_M_init_245 ?_
  refine qy_newa X (ty := .long) (tg := 0) ⟨rfl, rfl⟩ rfl (by decide) rfl ⟨by decide, by decide, by decide⟩ wq_38 dq_M_init_247 h (fun h => ?_)
  refine qy_putR X rfl kq_M_106 (Or.inr ⟨hinit, 7, sq_7, tq_7, 42, rfl, rfl, rfl⟩) dq_M_init_249 h (fun M32 h => ?_)
  refine qy_aload_n X 0 rfl dq_M_init_252 ?_
  refine qy_bipush X (v := (6 : Int32)) (by decide) dq_M_init_253 ?_
  refine qy_newa X (ty := .long) (tg := 0) ⟨rfl, rfl⟩ rfl (by decide) rfl ⟨by decide, by decide, by decide⟩ wq_38 dq_M_init_255 h (fun h => ?_)
  refine qy_putR X rfl kq_M_109 (Or.inr ⟨hinit, 7, sq_7, tq_7, 42, rfl, rfl, rfl⟩) dq_M_init_257 h (fun M33 h => ?_)
  refine qy_aload_n X 0 rfl dq_M_init_260 ?_
  refine qy_bipush X (v := (9 : Int32)) (by decide) dq_M_init_261 ?_
  refine qy_newa X (ty := .long) (tg := 0) ⟨rfl, rfl⟩ rfl (by decide) rfl ⟨by decide, by decide, by decide⟩ wq_38 dq_M_init_263 h (fun h => ?_)
  refine qy_putR X rfl kq_M_112 (Or.inr ⟨hinit, 7, sq_7, tq_7, 42, rfl, rfl, rfl⟩) dq_M_init_265 h (fun M34 h => ?_)
  refine qy_aload_n X 0 rfl dq_M_init_268 ?_
  refine qy_iconst X (v := (3 : Int32)) (by decide) dq_M_init_269 ?_
  refine qy_newa X (ty := .long) (tg := 0) ⟨rfl, rfl⟩ rfl (by decide) rfl ⟨by decide, by decide, by decide⟩ wq_38 dq_M_init_270 h (fun h => ?_)
  refine qy_putR X rfl kq_M_115 (Or.inr ⟨hinit, 7, sq_7, tq_7, 42, rfl, rfl, rfl⟩) dq_M_init_272 h (fun M35 h => ?_)
  refine qy_iconst X (v := (0 : Int32)) (by decide) dq_M_init_275 ?_
  refine qy_istore_n X (lv' := [(1, .int (0 : Int32)), (0, .ref (G.2.2 7 o))]) rfl (by decide) rfl dq_M_init_276 ?_
  refine qy_sub [0, 1] rfl ?_
  exact tM_init_277 hinit hD hG X M0 o trivial 1100 (M35, (0 : Int32)) h
theorem kM_init (l : Launch) (G : qz_G) {h0 : Nat} (hD : qz_D G) (hG : ∀ c i, G.2.2 c i = h0 + qy_of c i) (o : Nat) (M0 r : qy_M) (h : gM_init o M0 = some r) : qy_C l yM_init prog_10_method_1_code 2 1 34 506 G h0 qy_ns qy_ao [.ref (G.2.2 7 o)] M0 r :=
  qy_enter (lv := [(0, .ref (G.2.2 7 o))]) rfl rfl hD hG (Nat.le_of_ble_eq_true rfl) rfl (fun p e s m args below meth c hi X => tM_init hi hD hG X o M0 h)
