-- ExactCurves.openLoans()I
theorem dq_E_openLoans_0 : decode prog_1_method_40_code 0 = .ok (.iconst 0, 1) := by decide +kernel
theorem dq_E_openLoans_1 : decode prog_1_method_40_code 1 = .ok (.istore_n 1, 1) := by decide +kernel
theorem dq_E_openLoans_2 : decode prog_1_method_40_code 2 = .ok (.iconst 0, 1) := by decide +kernel
theorem dq_E_openLoans_3 : decode prog_1_method_40_code 3 = .ok (.istore_n 2, 1) := by decide +kernel
theorem dq_E_openLoans_4 : decode prog_1_method_40_code 4 = .ok (.iload_n 2, 1) := by decide +kernel
theorem dq_E_openLoans_5 : decode prog_1_method_40_code 5 = .ok (.bipush 10, 2) := by decide +kernel
theorem dq_E_openLoans_7 : decode prog_1_method_40_code 7 = .ok (.if_icmp .ge 24, 3) := by decide +kernel
theorem dq_E_openLoans_10 : decode prog_1_method_40_code 10 = .ok (.aload_n 0, 1) := by decide +kernel
theorem dq_E_openLoans_11 : decode prog_1_method_40_code 11 = .ok (.getfield 43, 3) := by decide +kernel
theorem dq_E_openLoans_14 : decode prog_1_method_40_code 14 = .ok (.iload_n 2, 1) := by decide +kernel
theorem dq_E_openLoans_15 : decode prog_1_method_40_code 15 = .ok (.aaload, 1) := by decide +kernel
theorem dq_E_openLoans_16 : decode prog_1_method_40_code 16 = .ok (.getfield 314, 3) := by decide +kernel
theorem dq_E_openLoans_19 : decode prog_1_method_40_code 19 = .ok (.ifCond .eq 6, 3) := by decide +kernel
theorem dq_E_openLoans_22 : decode prog_1_method_40_code 22 = .ok (.iinc 1 1, 3) := by decide +kernel
theorem dq_E_openLoans_25 : decode prog_1_method_40_code 25 = .ok (.iinc 2 1, 3) := by decide +kernel
theorem dq_E_openLoans_28 : decode prog_1_method_40_code 28 = .ok (.goto (-24), 3) := by decide +kernel
theorem dq_E_openLoans_31 : decode prog_1_method_40_code 31 = .ok (.iload_n 1, 1) := by decide +kernel
theorem dq_E_openLoans_32 : decode prog_1_method_40_code 32 = .ok (.ireturn, 1) := by decide +kernel
def fE_openLoans_25 (y0 : Nat) (k4 : qz_N × Int32 × Int32 → Option (Int32 × qz_N)) (N : qz_N) (x1 : Int32) (x2 : Int32) : Option (Int32 × qz_N) :=
  qz_let (x2 + (1 : Int32)) fun v2 =>
  k4 (N, x1, v2)
def fE_openLoans_4b (y0 : Nat) (k4 : qz_N × Int32 × Int32 → Option (Int32 × qz_N)) (N : qz_N) (x1 : Int32) (x2 : Int32) : Option (Int32 × qz_N) :=
  if (10 : Int32) ≤ x2 then
    some (x1, N)
  else
  if x2 < 0 ∨ 10 ≤ x2.toNatClampNeg then none else
  if (qz_gi N 6 x2.toNatClampNeg 0) = 0 then
    fE_openLoans_25 y0 k4 N x1 x2
  else
  qz_let (x1 + (1 : Int32)) fun v3 =>
  fE_openLoans_25 y0 k4 N v3 x2
def fE_openLoans_4 (y0 : Nat) (n : Nat) (a : qz_N × Int32 × Int32) : Option (Int32 × qz_N) := qz_loop (fun k a => fE_openLoans_4b y0 k a.1 a.2.1 a.2.2) n a
def fE_openLoans (o : Nat) (N : qz_N) : Option (Int32 × qz_N) :=
  fE_openLoans_4 o 1100 (N, (0 : Int32), (0 : Int32))
set_option maxRecDepth 100000 in
set_option maxHeartbeats 4000000 in
theorem sE_openLoans_25 {p : Program} {l : Launch} {e : Env} {s : State} {m : MethodId} {args : Array Value} {below : List Frame} {meth : Method} {c : Code} {G : qz_G} (X : qz_X p s m args meth c "ExactCurves" prog_1_method_40_code 3 (some .int) G) {r : (Int32 × qz_N)} (y0 : Nat) (hy0 : y0 < 1) (k4 : qz_N × Int32 × Int32 → Option (Int32 × qz_N)) (hk4 : ∀ a, k4 a = some r → qz_W p l e (qz_R 0) s m args below meth c 0 0 (MQ below (qz_Q G r.2 (some (.int r.1))) args s 0 0 (qz_A G)) G s.heap 3 a.1 4 [(1, .int a.2.1), (2, .int a.2.2), (0, .ref (G.2.2 0 y0))] []) (N : qz_N) (x1 : Int32) (x2 : Int32) (h : fE_openLoans_25 y0 k4 N x1 x2 = some r) : qz_W p l e (qz_R 0) s m args below meth c 0 0 (MQ below (qz_Q G r.2 (some (.int r.1))) args s 0 0 (qz_A G)) G s.heap 3 N 25 [(1, .int x1), (2, .int x2), (0, .ref (G.2.2 0 y0))] [] := by
  unfold fE_openLoans_25 at h
  refine qz_iinc_l X (u := (1 : Int32)) (lv' := fun v2 => [(2, .int v2), (1, .int x1), (0, .ref (G.2.2 0 y0))]) (k := 1) rfl (by decide) (by decide) (fun _ => rfl) dq_E_openLoans_25 h (fun v2 h => ?_)
  refine qz_goto X (tgt := 4) (by decide) dq_E_openLoans_28 ?_
  refine qz_sub [1, 0, 2] rfl ?_
  exact hk4 (N, x1, v2) h
set_option maxRecDepth 100000 in
set_option maxHeartbeats 4000000 in
theorem sE_openLoans_4b {p : Program} {l : Launch} {e : Env} {s : State} {m : MethodId} {args : Array Value} {below : List Frame} {meth : Method} {c : Code} {G : qz_G} (X : qz_X p s m args meth c "ExactCurves" prog_1_method_40_code 3 (some .int) G) {r : (Int32 × qz_N)} (y0 : Nat) (hy0 : y0 < 1) (k4 : qz_N × Int32 × Int32 → Option (Int32 × qz_N)) (hk4 : ∀ a, k4 a = some r → qz_W p l e (qz_R 0) s m args below meth c 0 0 (MQ below (qz_Q G r.2 (some (.int r.1))) args s 0 0 (qz_A G)) G s.heap 3 a.1 4 [(1, .int a.2.1), (2, .int a.2.2), (0, .ref (G.2.2 0 y0))] []) (N : qz_N) (x1 : Int32) (x2 : Int32) (h : fE_openLoans_4b y0 k4 N x1 x2 = some r) : qz_W p l e (qz_R 0) s m args below meth c 0 0 (MQ below (qz_Q G r.2 (some (.int r.1))) args s 0 0 (qz_A G)) G s.heap 3 N 4 [(1, .int x1), (2, .int x2), (0, .ref (G.2.2 0 y0))] [] := by
  unfold fE_openLoans_4b at h
  refine qz_iload_n X 1 rfl dq_E_openLoans_4 ?_
  refine qz_bipush X (v := (10 : Int32)) (by decide) dq_E_openLoans_5 ?_
  refine qz_icmp_ge X (tgt := 31) (by decide) dq_E_openLoans_7 h (fun _ h => ?_) (fun _ h => ?_)
  · refine qz_iload_n X 0 rfl dq_E_openLoans_31 ?_
    exact qz_iret X h dq_E_openLoans_32
  · refine qz_aload_n X 2 rfl dq_E_openLoans_10 ?_
    refine qz_get X (v := .ref (G.2.2 11 y0)) kq_E_43 hy0 rfl dq_E_openLoans_11 ?_
    refine qz_iload_n X 1 rfl dq_E_openLoans_14 ?_
    refine qz_aald X (c0 := 11) (i := y0) (tg := 6) (n := 10) rfl rfl hy0 dq_E_openLoans_15 h (fun hb1 h => ?_)
    refine qz_get X (v := .int (qz_gi N 6 x2.toNatClampNeg 0)) kq_E_314 hb1 rfl dq_E_openLoans_16 ?_
    refine qz_if_eq X (tgt := 25) (by decide) dq_E_openLoans_19 h (fun _ h => ?_) (fun _ h => ?_)
    · refine qz_sub [0, 1, 2] rfl ?_
      exact sE_openLoans_25 X y0 hy0 k4 hk4 N x1 x2 h
    · refine qz_iinc_l X (u := (1 : Int32)) (lv' := fun v3 => [(1, .int v3), (2, .int x2), (0, .ref (G.2.2 0 y0))]) (k := 0) rfl (by decide) (by decide) (fun _ => rfl) dq_E_openLoans_22 h (fun v3 h => ?_)
      refine qz_sub [0, 1, 2] rfl ?_
      exact sE_openLoans_25 X y0 hy0 k4 hk4 N v3 x2 h
theorem sE_openLoans_4 {p : Program} {l : Launch} {e : Env} {s : State} {m : MethodId} {args : Array Value} {below : List Frame} {meth : Method} {c : Code} {G : qz_G} (X : qz_X p s m args meth c "ExactCurves" prog_1_method_40_code 3 (some .int) G) {r : (Int32 × qz_N)} (y0 : Nat) (hy0 : y0 < 1) (n : Nat) (a : qz_N × Int32 × Int32) (h : fE_openLoans_4 y0 n a = some r) : qz_W p l e (qz_R 0) s m args below meth c 0 0 (MQ below (qz_Q G r.2 (some (.int r.1))) args s 0 0 (qz_A G)) G s.heap 3 a.1 4 [(1, .int a.2.1), (2, .int a.2.2), (0, .ref (G.2.2 0 y0))] [] :=
  qz_loop_ind (P := fun a => qz_W p l e (qz_R 0) s m args below meth c 0 0 (MQ below (qz_Q G r.2 (some (.int r.1))) args s 0 0 (qz_A G)) G s.heap 3 a.1 4 [(1, .int a.2.1), (2, .int a.2.2), (0, .ref (G.2.2 0 y0))] []) (fun k hk a h => sE_openLoans_4b X y0 hy0 k hk a.1 a.2.1 a.2.2 h) n a h
set_option maxRecDepth 100000 in
set_option maxHeartbeats 4000000 in
theorem sE_openLoans {p : Program} {l : Launch} {e : Env} {s : State} {m : MethodId} {args : Array Value} {below : List Frame} {meth : Method} {c : Code} {G : qz_G} (X : qz_X p s m args meth c "ExactCurves" prog_1_method_40_code 3 (some .int) G) {r : (Int32 × qz_N)} (o : Nat) (ho : o < 1) (N : qz_N) (h : fE_openLoans o N = some r) : qz_W p l e (qz_R 0) s m args below meth c 0 0 (MQ below (qz_Q G r.2 (some (.int r.1))) args s 0 0 (qz_A G)) G s.heap 3 N 0 [(0, .ref (G.2.2 0 o))] [] := by
  unfold fE_openLoans at h
  refine qz_iconst X (v := (0 : Int32)) (by decide) dq_E_openLoans_0 ?_
  refine qz_istore_n X (lv' := [(1, .int (0 : Int32)), (0, .ref (G.2.2 0 o))]) rfl (by decide) rfl dq_E_openLoans_1 ?_
  refine qz_iconst X (v := (0 : Int32)) (by decide) dq_E_openLoans_2 ?_
  refine qz_istore_n X (lv' := [(2, .int (0 : Int32)), (1, .int (0 : Int32)), (0, .ref (G.2.2 0 o))]) rfl (by decide) rfl dq_E_openLoans_3 ?_
  refine qz_sub [1, 0, 2] rfl ?_
  exact sE_openLoans_4 X o ho 1100 (N, (0 : Int32), (0 : Int32)) h
theorem cE_openLoans (l : Launch) (G : qz_G) (hD : qz_D G) (o : Nat) (N : qz_N) (ho : o < 1) (r : (Int32 × qz_N)) (h : fE_openLoans o N = some r) : qz_M l yE_openLoans prog_1_method_40_code 3 (some .int) 0 G [.ref (G.2.2 0 o)] N (some (.int r.1)) r.2 :=
  qz_enter (lv := [(0, .ref (G.2.2 0 o))]) rfl hD (Nat.le_of_ble_eq_true rfl) rfl (fun p e s m args below meth c X => sE_openLoans X o ho N h)
-- ExactCurves.count(I)I
theorem dq_E_count_0 : decode prog_1_method_28_code 0 = .ok (.iload_n 1, 1) := by decide +kernel
theorem dq_E_count_1 : decode prog_1_method_28_code 1 = .ok (.tableswitch 54 0 3 #[31, 36, 44, 49], 31) := by decide +kernel
theorem dq_E_count_32 : decode prog_1_method_28_code 32 = .ok (.aload_n 0, 1) := by decide +kernel
theorem dq_E_count_33 : decode prog_1_method_28_code 33 = .ok (.getfield 79, 3) := by decide +kernel
theorem dq_E_count_36 : decode prog_1_method_28_code 36 = .ok (.ireturn, 1) := by decide +kernel
theorem dq_E_count_37 : decode prog_1_method_28_code 37 = .ok (.aload_n 0, 1) := by decide +kernel
theorem dq_E_count_38 : decode prog_1_method_28_code 38 = .ok (.getfield 31, 3) := by decide +kernel
theorem dq_E_count_41 : decode prog_1_method_28_code 41 = .ok (.getfield 184, 3) := by decide +kernel
theorem dq_E_count_44 : decode prog_1_method_28_code 44 = .ok (.ireturn, 1) := by decide +kernel
theorem dq_E_count_45 : decode prog_1_method_28_code 45 = .ok (.aload_n 0, 1) := by decide +kernel
theorem dq_E_count_46 : decode prog_1_method_28_code 46 = .ok (.invokevirtual 327, 3) := by decide +kernel
theorem dq_E_count_49 : decode prog_1_method_28_code 49 = .ok (.ireturn, 1) := by decide +kernel
theorem dq_E_count_50 : decode prog_1_method_28_code 50 = .ok (.aload_n 0, 1) := by decide +kernel
theorem dq_E_count_51 : decode prog_1_method_28_code 51 = .ok (.getfield 158, 3) := by decide +kernel
theorem dq_E_count_54 : decode prog_1_method_28_code 54 = .ok (.ireturn, 1) := by decide +kernel
theorem dq_E_count_55 : decode prog_1_method_28_code 55 = .ok (.bipush (-2), 2) := by decide +kernel
theorem dq_E_count_57 : decode prog_1_method_28_code 57 = .ok (.ireturn, 1) := by decide +kernel
def fE_count (o : Nat) (x1 : Int32) (N : qz_N) : Option (Int32 × qz_N) :=
  if x1 = (0 : Int32) then
    some (qz_gi N 0 o 6, N)
  else
  if x1 = (1 : Int32) then
    some (qz_gi N 4 o 7, N)
  else
  if x1 = (2 : Int32) then
    (fE_openLoans o N).bind fun q1 =>
    some (q1.1, q1.2)
  else
  if x1 = (3 : Int32) then
    some (qz_gi N 0 o 7, N)
  else
  some ((-2 : Int32), N)
set_option maxRecDepth 100000 in
set_option maxHeartbeats 4000000 in
theorem sE_count {p : Program} {l : Launch} {e : Env} {s : State} {m : MethodId} {args : Array Value} {below : List Frame} {meth : Method} {c : Code} {G : qz_G} (X : qz_X p s m args meth c "ExactCurves" prog_1_method_28_code 2 (some .int) G) {r : (Int32 × qz_N)} (o : Nat) (x1 : Int32) (ho : o < 1) (N : qz_N) (h : fE_count o x1 N = some r) : qz_W p l e (qz_R 1) s m args below meth c 0 0 (MQ below (qz_Q G r.2 (some (.int r.1))) args s 0 0 (qz_A G)) G s.heap 2 N 0 [(0, .ref (G.2.2 0 o)), (1, .int x1)] [] := by
  unfold fE_count at h
  refine qz_iload_n X 1 rfl dq_E_count_0 ?_
  refine qz_ite h (fun c0_1 h => ?_) (fun c0_1 h => ?_)
  · refine qz_tabIn X (tgt := 32) c0_1 (by decide) (by decide) rfl (by decide) dq_E_count_1 ?_
    refine qz_aload_n X 0 rfl dq_E_count_32 ?_
    refine qz_get X (v := .int (qz_gi N 0 o 6)) kq_E_79 ho rfl dq_E_count_33 ?_
    exact qz_iret X h dq_E_count_36
  · refine qz_ite h (fun c1_1 h => ?_) (fun c1_1 h => ?_)
    · refine qz_tabIn X (tgt := 37) c1_1 (by decide) (by decide) rfl (by decide) dq_E_count_1 ?_
      refine qz_aload_n X 0 rfl dq_E_count_37 ?_
      refine qz_get X (v := .ref (G.2.2 4 o)) kq_E_31 ho rfl dq_E_count_38 ?_
      refine qz_get X (v := .int (qz_gi N 4 o 7)) kq_E_184 ho rfl dq_E_count_41 ?_
      exact qz_iret X h dq_E_count_44
    · refine qz_ite h (fun c2_1 h => ?_) (fun c2_1 h => ?_)
      · refine qz_tabIn X (tgt := 45) c2_1 (by decide) (by decide) rfl (by decide) dq_E_count_1 ?_
        refine qz_aload_n X 0 rfl dq_E_count_45 ?_
        refine qz_bind h (fun q1 e2 h => ?_)
        refine qz_callV X (as := []) (st := []) (o := some (.int q1.1)) (N' := q1.2) cq_E_327 ho (cE_openLoans l G X.2.2.2.2.2.2.1 o N ho _ e2) ⟨by decide, by decide⟩ rfl rfl (Nat.le_of_ble_eq_true rfl) ⟨Nat.zero_le _, Nat.zero_le _⟩ dq_E_count_46 ?_
        exact qz_iret X h dq_E_count_49
      · refine qz_ite h (fun c3_1 h => ?_) (fun c3_1 h => ?_)
        · refine qz_tabIn X (tgt := 50) c3_1 (by decide) (by decide) rfl (by decide) dq_E_count_1 ?_
          refine qz_aload_n X 0 rfl dq_E_count_50 ?_
          refine qz_get X (v := .int (qz_gi N 0 o 7)) kq_E_158 ho rfl dq_E_count_51 ?_
          exact qz_iret X h dq_E_count_54
        · refine qz_tabOut X (tgt := 55) (by decide) (qz_out4 0 c0_1 c1_1 c2_1 c3_1) dq_E_count_1 ?_
          refine qz_bipush X (v := (-2 : Int32)) (by decide) dq_E_count_55 ?_
          exact qz_iret X h dq_E_count_57
theorem cE_count (l : Launch) (G : qz_G) (hD : qz_D G) (o : Nat) (x1 : Int32) (N : qz_N) (ho : o < 1) (r : (Int32 × qz_N)) (h : fE_count o x1 N = some r) : qz_M l yE_count prog_1_method_28_code 2 (some .int) 1 G [.ref (G.2.2 0 o), .int x1] N (some (.int r.1)) r.2 :=
  qz_enter (lv := [(0, .ref (G.2.2 0 o)), (1, .int x1)]) rfl hD (Nat.le_of_ble_eq_true rfl) rfl (fun p e s m args below meth c X => sE_count X o x1 ho N h)
