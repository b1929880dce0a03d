-- ExactCurvesModel.count(I)I
theorem dq_M_count_0 : decode prog_10_method_61_code 0 = .ok (.iconst 0, 1) := by decide +kernel
theorem dq_M_count_1 : decode prog_10_method_61_code 1 = .ok (.istore_n 2, 1) := by decide +kernel
theorem dq_M_count_2 : decode prog_10_method_61_code 2 = .ok (.iconst 0, 1) := by decide +kernel
theorem dq_M_count_3 : decode prog_10_method_61_code 3 = .ok (.istore_n 3, 1) := by decide +kernel
theorem dq_M_count_4 : decode prog_10_method_61_code 4 = .ok (.iload_n 3, 1) := by decide +kernel
theorem dq_M_count_5 : decode prog_10_method_61_code 5 = .ok (.bipush 10, 2) := by decide +kernel
theorem dq_M_count_7 : decode prog_10_method_61_code 7 = .ok (.if_icmp .ge 26, 3) := by decide +kernel
theorem dq_M_count_10 : decode prog_10_method_61_code 10 = .ok (.iload_n 2, 1) := by decide +kernel
theorem dq_M_count_11 : decode prog_10_method_61_code 11 = .ok (.aload_n 0, 1) := by decide +kernel
theorem dq_M_count_12 : decode prog_10_method_61_code 12 = .ok (.getfield 88, 3) := by decide +kernel
theorem dq_M_count_15 : decode prog_10_method_61_code 15 = .ok (.iload_n 3, 1) := by decide +kernel
theorem dq_M_count_16 : decode prog_10_method_61_code 16 = .ok (.baload, 1) := by decide +kernel
theorem dq_M_count_17 : decode prog_10_method_61_code 17 = .ok (.ifCond .eq 7, 3) := by decide +kernel
theorem dq_M_count_20 : decode prog_10_method_61_code 20 = .ok (.iconst 1, 1) := by decide +kernel
theorem dq_M_count_21 : decode prog_10_method_61_code 21 = .ok (.goto 4, 3) := by decide +kernel
theorem dq_M_count_24 : decode prog_10_method_61_code 24 = .ok (.iconst 0, 1) := by decide +kernel
theorem dq_M_count_25 : decode prog_10_method_61_code 25 = .ok (.iadd, 1) := by decide +kernel
theorem dq_M_count_26 : decode prog_10_method_61_code 26 = .ok (.istore_n 2, 1) := by decide +kernel
theorem dq_M_count_27 : decode prog_10_method_61_code 27 = .ok (.iinc 3 1, 3) := by decide +kernel
theorem dq_M_count_30 : decode prog_10_method_61_code 30 = .ok (.goto (-26), 3) := by decide +kernel
theorem dq_M_count_33 : decode prog_10_method_61_code 33 = .ok (.iload_n 1, 1) := by decide +kernel
theorem dq_M_count_34 : decode prog_10_method_61_code 34 = .ok (.ifCond .ne 10, 3) := by decide +kernel
theorem dq_M_count_37 : decode prog_10_method_61_code 37 = .ok (.aload_n 0, 1) := by decide +kernel
theorem dq_M_count_38 : decode prog_10_method_61_code 38 = .ok (.getfield 145, 3) := by decide +kernel
theorem dq_M_count_41 : decode prog_10_method_61_code 41 = .ok (.goto 38, 3) := by decide +kernel
theorem dq_M_count_44 : decode prog_10_method_61_code 44 = .ok (.iload_n 1, 1) := by decide +kernel
theorem dq_M_count_45 : decode prog_10_method_61_code 45 = .ok (.iconst 1, 1) := by decide +kernel
theorem dq_M_count_46 : decode prog_10_method_61_code 46 = .ok (.if_icmp .ne 10, 3) := by decide +kernel
theorem dq_M_count_49 : decode prog_10_method_61_code 49 = .ok (.aload_n 0, 1) := by decide +kernel
theorem dq_M_count_50 : decode prog_10_method_61_code 50 = .ok (.getfield 152, 3) := by decide +kernel
theorem dq_M_count_53 : decode prog_10_method_61_code 53 = .ok (.goto 26, 3) := by decide +kernel
theorem dq_M_count_56 : decode prog_10_method_61_code 56 = .ok (.iload_n 1, 1) := by decide +kernel
theorem dq_M_count_57 : decode prog_10_method_61_code 57 = .ok (.iconst 2, 1) := by decide +kernel
theorem dq_M_count_58 : decode prog_10_method_61_code 58 = .ok (.if_icmp .ne 7, 3) := by decide +kernel
theorem dq_M_count_61 : decode prog_10_method_61_code 61 = .ok (.iload_n 2, 1) := by decide +kernel
theorem dq_M_count_62 : decode prog_10_method_61_code 62 = .ok (.goto 17, 3) := by decide +kernel
theorem dq_M_count_65 : decode prog_10_method_61_code 65 = .ok (.iload_n 1, 1) := by decide +kernel
theorem dq_M_count_66 : decode prog_10_method_61_code 66 = .ok (.iconst 3, 1) := by decide +kernel
theorem dq_M_count_67 : decode prog_10_method_61_code 67 = .ok (.if_icmp .ne 10, 3) := by decide +kernel
theorem dq_M_count_70 : decode prog_10_method_61_code 70 = .ok (.aload_n 0, 1) := by decide +kernel
theorem dq_M_count_71 : decode prog_10_method_61_code 71 = .ok (.getfield 215, 3) := by decide +kernel
theorem dq_M_count_74 : decode prog_10_method_61_code 74 = .ok (.goto 5, 3) := by decide +kernel
theorem dq_M_count_77 : decode prog_10_method_61_code 77 = .ok (.bipush (-2), 2) := by decide +kernel
theorem dq_M_count_79 : decode prog_10_method_61_code 79 = .ok (.ireturn, 1) := by decide +kernel
def fM_count_25 (y0 : Nat) (k4 : qz_N × Int32 × Int32 × Int32 → Option (Int32 × qz_N)) (N : qz_N) (x1 : Int32) (x3 : Int32) (s0 : Int32) (s1 : Int32) : Option (Int32 × qz_N) :=
  qz_let (s1 + s0) fun v1 =>
  qz_let (x3 + (1 : Int32)) fun v2 =>
  k4 (N, x1, v1, v2)
def fM_count_4b (y0 : Nat) (k4 : qz_N × Int32 × Int32 × Int32 → Option (Int32 × qz_N)) (N : qz_N) (x1 : Int32) (x2 : Int32) (x3 : Int32) : Option (Int32 × qz_N) :=
  if (10 : Int32) ≤ x3 then
    if x1 = 0 then
      some (qz_gi N 7 y0 3, N)
    else
    if x1 = (1 : Int32) then
      some (qz_gi N 7 y0 17, N)
    else
    if x1 = (2 : Int32) then
      some (x2, N)
    else
    if x1 = (3 : Int32) then
      some (qz_gi N 7 y0 2, N)
    else
    some ((-2 : Int32), N)
  else
  if x3 < 0 ∨ 10 ≤ x3.toNatClampNeg then none else
  if (qz_gi N 46 y0 x3.toNatClampNeg) = 0 then
    fM_count_25 y0 k4 N x1 x3 (0 : Int32) x2
  else
  fM_count_25 y0 k4 N x1 x3 (1 : Int32) x2
def fM_count_4 (y0 : Nat) (n : Nat) (a : qz_N × Int32 × Int32 × Int32) : Option (Int32 × qz_N) := qz_loop (fun k a => fM_count_4b y0 k a.1 a.2.1 a.2.2.1 a.2.2.2) n a
def fM_count (o : Nat) (x1 : Int32) (N : qz_N) : Option (Int32 × qz_N) :=
  fM_count_4 o 1100 (N, x1, (0 : Int32), (0 : Int32))
set_option maxRecDepth 100000 in
set_option maxHeartbeats 4000000 in
theorem sM_count_25 {p : Program} {l : Launch} {e : Env} {s : State} {m : MethodId} {args : Array Value} {below : List Frame} {meth : Method} {c : Code} {G : qz_G} (X : qz_X p s m args meth c "ExactCurvesModel" prog_10_method_61_code 4 (some .int) G) {r : (Int32 × qz_N)} (y0 : Nat) (hy0 : y0 < 1) (k4 : qz_N × Int32 × Int32 × Int32 → Option (Int32 × qz_N)) (hk4 : ∀ a, k4 a = some r → qz_W p l e (qz_R 0) s m args below meth c 0 0 (MQ below (qz_Q G r.2 (some (.int r.1))) args s 0 0 (qz_A G)) G s.heap 4 a.1 4 [(1, .int a.2.1), (2, .int a.2.2.1), (3, .int a.2.2.2), (0, .ref (G.2.2 7 y0))] []) (N : qz_N) (x1 : Int32) (x3 : Int32) (s0 : Int32) (s1 : Int32) (h : fM_count_25 y0 k4 N x1 x3 s0 s1 = some r) : qz_W p l e (qz_R 0) s m args below meth c 0 0 (MQ below (qz_Q G r.2 (some (.int r.1))) args s 0 0 (qz_A G)) G s.heap 4 N 25 [(1, .int x1), (3, .int x3), (0, .ref (G.2.2 7 y0))] [.int s0, .int s1] := by
  unfold fM_count_25 at h
  refine qz_iadd X dq_M_count_25 ?_
  refine qz_leti h (fun v1 h => ?_)
  refine qz_istore_n X (lv' := [(2, .int v1), (1, .int x1), (3, .int x3), (0, .ref (G.2.2 7 y0))]) rfl (by decide) rfl dq_M_count_26 ?_
  refine qz_iinc_l X (u := (1 : Int32)) (lv' := fun v2 => [(3, .int v2), (2, .int v1), (1, .int x1), (0, .ref (G.2.2 7 y0))]) (k := 2) rfl (by decide) (by decide) (fun _ => rfl) dq_M_count_27 h (fun v2 h => ?_)
  refine qz_goto X (tgt := 4) (by decide) dq_M_count_30 ?_
  refine qz_sub [2, 1, 0, 3] rfl ?_
  exact hk4 (N, x1, v1, v2) h
set_option maxRecDepth 100000 in
set_option maxHeartbeats 4000000 in
theorem sM_count_4b {p : Program} {l : Launch} {e : Env} {s : State} {m : MethodId} {args : Array Value} {below : List Frame} {meth : Method} {c : Code} {G : qz_G} (X : qz_X p s m args meth c "ExactCurvesModel" prog_10_method_61_code 4 (some .int) G) {r : (Int32 × qz_N)} (y0 : Nat) (hy0 : y0 < 1) (k4 : qz_N × Int32 × Int32 × Int32 → Option (Int32 × qz_N)) (hk4 : ∀ a, k4 a = some r → qz_W p l e (qz_R 0) s m args below meth c 0 0 (MQ below (qz_Q G r.2 (some (.int r.1))) args s 0 0 (qz_A G)) G s.heap 4 a.1 4 [(1, .int a.2.1), (2, .int a.2.2.1), (3, .int a.2.2.2), (0, .ref (G.2.2 7 y0))] []) (N : qz_N) (x1 : Int32) (x2 : Int32) (x3 : Int32) (h : fM_count_4b y0 k4 N x1 x2 x3 = some r) : qz_W p l e (qz_R 0) s m args below meth c 0 0 (MQ below (qz_Q G r.2 (some (.int r.1))) args s 0 0 (qz_A G)) G s.heap 4 N 4 [(1, .int x1), (2, .int x2), (3, .int x3), (0, .ref (G.2.2 7 y0))] [] := by
  unfold fM_count_4b at h
  refine qz_iload_n X 2 rfl dq_M_count_4 ?_
  refine qz_bipush X (v := (10 : Int32)) (by decide) dq_M_count_5 ?_
  refine qz_icmp_ge X (tgt := 33) (by decide) dq_M_count_7 h (fun _ h => ?_) (fun _ h => ?_)
  · refine qz_iload_n X 0 rfl dq_M_count_33 ?_
    refine qz_if_ne X (tgt := 44) (by decide) dq_M_count_34 h (fun _ h => ?_) (fun _ h => ?_)
    · refine qz_iload_n X 0 rfl dq_M_count_44 ?_
      refine qz_iconst X (v := (1 : Int32)) (by decide) dq_M_count_45 ?_
      refine qz_icmp_ne X (tgt := 56) (by decide) dq_M_count_46 h (fun _ h => ?_) (fun _ h => ?_)
      · refine qz_iload_n X 0 rfl dq_M_count_56 ?_
        refine qz_iconst X (v := (2 : Int32)) (by decide) dq_M_count_57 ?_
        refine qz_icmp_ne X (tgt := 65) (by decide) dq_M_count_58 h (fun _ h => ?_) (fun _ h => ?_)
        · refine qz_iload_n X 0 rfl dq_M_count_65 ?_
          refine qz_iconst X (v := (3 : Int32)) (by decide) dq_M_count_66 ?_
          refine qz_icmp_ne X (tgt := 77) (by decide) dq_M_count_67 h (fun _ h => ?_) (fun _ h => ?_)
          · refine qz_bipush X (v := (-2 : Int32)) (by decide) dq_M_count_77 ?_
            exact qz_iret X h dq_M_count_79
          · refine qz_aload_n X 3 rfl dq_M_count_70 ?_
            refine qz_get X (v := .int (qz_gi N 7 y0 2)) kq_M_215 hy0 rfl dq_M_count_71 ?_
            refine qz_goto X (tgt := 79) (by decide) dq_M_count_74 ?_
            exact qz_iret X h dq_M_count_79
        · refine qz_iload_n X 1 rfl dq_M_count_61 ?_
          refine qz_goto X (tgt := 79) (by decide) dq_M_count_62 ?_
          exact qz_iret X h dq_M_count_79
      · refine qz_aload_n X 3 rfl dq_M_count_49 ?_
        refine qz_get X (v := .int (qz_gi N 7 y0 17)) kq_M_152 hy0 rfl dq_M_count_50 ?_
        refine qz_goto X (tgt := 79) (by decide) dq_M_count_53 ?_
        exact qz_iret X h dq_M_count_79
    · refine qz_aload_n X 3 rfl dq_M_count_37 ?_
      refine qz_get X (v := .int (qz_gi N 7 y0 3)) kq_M_145 hy0 rfl dq_M_count_38 ?_
      refine qz_goto X (tgt := 79) (by decide) dq_M_count_41 ?_
      exact qz_iret X h dq_M_count_79
  · refine qz_iload_n X 1 rfl dq_M_count_10 ?_
    refine qz_aload_n X 3 rfl dq_M_count_11 ?_
    refine qz_get X (v := .ref (G.2.2 46 y0)) kq_M_88 hy0 rfl dq_M_count_12 ?_
    refine qz_iload_n X 2 rfl dq_M_count_15 ?_
    refine qz_zald X (c0 := 46) (i := y0) (n := 10) rfl hy0 dq_M_count_16 h (fun h => ?_)
    refine qz_if_eq X (tgt := 24) (by decide) dq_M_count_17 h (fun _ h => ?_) (fun _ h => ?_)
    · refine qz_iconst X (v := (0 : Int32)) (by decide) dq_M_count_24 ?_
      refine qz_sub [0, 2, 3] rfl ?_
      exact sM_count_25 X y0 hy0 k4 hk4 N x1 x3 (0 : Int32) x2 h
    · refine qz_iconst X (v := (1 : Int32)) (by decide) dq_M_count_20 ?_
      refine qz_goto X (tgt := 25) (by decide) dq_M_count_21 ?_
      refine qz_sub [0, 2, 3] rfl ?_
      exact sM_count_25 X y0 hy0 k4 hk4 N x1 x3 (1 : Int32) x2 h
theorem sM_count_4 {p : Program} {l : Launch} {e : Env} {s : State} {m : MethodId} {args : Array Value} {below : List Frame} {meth : Method} {c : Code} {G : qz_G} (X : qz_X p s m args meth c "ExactCurvesModel" prog_10_method_61_code 4 (some .int) G) {r : (Int32 × qz_N)} (y0 : Nat) (hy0 : y0 < 1) (n : Nat) (a : qz_N × Int32 × Int32 × Int32) (h : fM_count_4 y0 n a = some r) : qz_W p l e (qz_R 0) s m args below meth c 0 0 (MQ below (qz_Q G r.2 (some (.int r.1))) args s 0 0 (qz_A G)) G s.heap 4 a.1 4 [(1, .int a.2.1), (2, .int a.2.2.1), (3, .int a.2.2.2), (0, .ref (G.2.2 7 y0))] [] :=
  qz_loop_ind (P := fun a => qz_W p l e (qz_R 0) s m args below meth c 0 0 (MQ below (qz_Q G r.2 (some (.int r.1))) args s 0 0 (qz_A G)) G s.heap 4 a.1 4 [(1, .int a.2.1), (2, .int a.2.2.1), (3, .int a.2.2.2), (0, .ref (G.2.2 7 y0))] []) (fun k hk a h => sM_count_4b X y0 hy0 k hk a.1 a.2.1 a.2.2.1 a.2.2.2 h) n a h
set_option maxRecDepth 100000 in
set_option maxHeartbeats 4000000 in
theorem sM_count {p : Program} {l : Launch} {e : Env} {s : State} {m : MethodId} {args : Array Value} {below : List Frame} {meth : Method} {c : Code} {G : qz_G} (X : qz_X p s m args meth c "ExactCurvesModel" prog_10_method_61_code 4 (some .int) G) {r : (Int32 × qz_N)} (o : Nat) (x1 : Int32) (ho : o < 1) (N : qz_N) (h : fM_count o x1 N = some r) : qz_W p l e (qz_R 0) s m args below meth c 0 0 (MQ below (qz_Q G r.2 (some (.int r.1))) args s 0 0 (qz_A G)) G s.heap 4 N 0 [(0, .ref (G.2.2 7 o)), (1, .int x1)] [] := by
  unfold fM_count at h
  refine qz_iconst X (v := (0 : Int32)) (by decide) dq_M_count_0 ?_
  refine qz_istore_n X (lv' := [(2, .int (0 : Int32)), (0, .ref (G.2.2 7 o)), (1, .int x1)]) rfl (by decide) rfl dq_M_count_1 ?_
  refine qz_iconst X (v := (0 : Int32)) (by decide) dq_M_count_2 ?_
  refine qz_istore_n X (lv' := [(3, .int (0 : Int32)), (2, .int (0 : Int32)), (0, .ref (G.2.2 7 o)), (1, .int x1)]) rfl (by decide) rfl dq_M_count_3 ?_
  refine qz_sub [3, 1, 0, 2] rfl ?_
  exact sM_count_4 X o ho 1100 (N, x1, (0 : Int32), (0 : Int32)) h
theorem cM_count (l : Launch) (G : qz_G) (hD : qz_D G) (o : Nat) (x1 : Int32) (N : qz_N) (ho : o < 1) (r : (Int32 × qz_N)) (h : fM_count o x1 N = some r) : qz_M l yM_count prog_10_method_61_code 4 (some .int) 0 G [.ref (G.2.2 7 o), .int x1] N (some (.int r.1)) r.2 :=
  qz_enter (lv := [(0, .ref (G.2.2 7 o)), (1, .int x1)]) rfl hD (Nat.le_of_ble_eq_true rfl) rfl (fun p e s m args below meth c X => sM_count X o x1 ho N h)
