-- ExactCurvesModel.allAt(ZJ)J
theorem dq_M_allAt_0 : decode prog_10_method_38_code 0 = .ok (.lconst 0, 1) := by decide +kernel
theorem dq_M_allAt_1 : decode prog_10_method_38_code 1 = .ok (.lstore 4, 2) := by decide +kernel
theorem dq_M_allAt_3 : decode prog_10_method_38_code 3 = .ok (.iconst 0, 1) := by decide +kernel
theorem dq_M_allAt_4 : decode prog_10_method_38_code 4 = .ok (.istore 6, 2) := by decide +kernel
theorem dq_M_allAt_6 : decode prog_10_method_38_code 6 = .ok (.iload 6, 2) := by decide +kernel
theorem dq_M_allAt_8 : decode prog_10_method_38_code 8 = .ok (.aload_n 0, 1) := by decide +kernel
theorem dq_M_allAt_9 : decode prog_10_method_38_code 9 = .ok (.getfield 152, 3) := by decide +kernel
theorem dq_M_allAt_12 : decode prog_10_method_38_code 12 = .ok (.if_icmp .ge 79, 3) := by decide +kernel
theorem dq_M_allAt_15 : decode prog_10_method_38_code 15 = .ok (.aload_n 0, 1) := by decide +kernel
theorem dq_M_allAt_16 : decode prog_10_method_38_code 16 = .ok (.getfield 57, 3) := by decide +kernel
theorem dq_M_allAt_19 : decode prog_10_method_38_code 19 = .ok (.iload 6, 2) := by decide +kernel
theorem dq_M_allAt_21 : decode prog_10_method_38_code 21 = .ok (.baload, 1) := by decide +kernel
theorem dq_M_allAt_22 : decode prog_10_method_38_code 22 = .ok (.iload_n 1, 1) := by decide +kernel
theorem dq_M_allAt_23 : decode prog_10_method_38_code 23 = .ok (.if_icmp .ne 38, 3) := by decide +kernel
theorem dq_M_allAt_26 : decode prog_10_method_38_code 26 = .ok (.iload_n 1, 1) := by decide +kernel
theorem dq_M_allAt_27 : decode prog_10_method_38_code 27 = .ok (.ifCond .eq 18, 3) := by decide +kernel
theorem dq_M_allAt_30 : decode prog_10_method_38_code 30 = .ok (.aload_n 0, 1) := by decide +kernel
theorem dq_M_allAt_31 : decode prog_10_method_38_code 31 = .ok (.getfield 64, 3) := by decide +kernel
theorem dq_M_allAt_34 : decode prog_10_method_38_code 34 = .ok (.iload 6, 2) := by decide +kernel
theorem dq_M_allAt_36 : decode prog_10_method_38_code 36 = .ok (.laload, 1) := by decide +kernel
theorem dq_M_allAt_37 : decode prog_10_method_38_code 37 = .ok (.lload_n 2, 1) := by decide +kernel
theorem dq_M_allAt_38 : decode prog_10_method_38_code 38 = .ok (.lcmp, 1) := by decide +kernel
theorem dq_M_allAt_39 : decode prog_10_method_38_code 39 = .ok (.ifCond .lt 22, 3) := by decide +kernel
theorem dq_M_allAt_42 : decode prog_10_method_38_code 42 = .ok (.goto 15, 3) := by decide +kernel
theorem dq_M_allAt_45 : decode prog_10_method_38_code 45 = .ok (.aload_n 0, 1) := by decide +kernel
theorem dq_M_allAt_46 : decode prog_10_method_38_code 46 = .ok (.getfield 64, 3) := by decide +kernel
theorem dq_M_allAt_49 : decode prog_10_method_38_code 49 = .ok (.iload 6, 2) := by decide +kernel
theorem dq_M_allAt_51 : decode prog_10_method_38_code 51 = .ok (.laload, 1) := by decide +kernel
theorem dq_M_allAt_52 : decode prog_10_method_38_code 52 = .ok (.lload_n 2, 1) := by decide +kernel
theorem dq_M_allAt_53 : decode prog_10_method_38_code 53 = .ok (.lcmp, 1) := by decide +kernel
theorem dq_M_allAt_54 : decode prog_10_method_38_code 54 = .ok (.ifCond .gt 7, 3) := by decide +kernel
theorem dq_M_allAt_57 : decode prog_10_method_38_code 57 = .ok (.iconst 1, 1) := by decide +kernel
theorem dq_M_allAt_58 : decode prog_10_method_38_code 58 = .ok (.goto 4, 3) := by decide +kernel
theorem dq_M_allAt_61 : decode prog_10_method_38_code 61 = .ok (.iconst 0, 1) := by decide +kernel
theorem dq_M_allAt_62 : decode prog_10_method_38_code 62 = .ok (.istore 7, 2) := by decide +kernel
theorem dq_M_allAt_64 : decode prog_10_method_38_code 64 = .ok (.lload 4, 2) := by decide +kernel
theorem dq_M_allAt_66 : decode prog_10_method_38_code 66 = .ok (.iload 7, 2) := by decide +kernel
theorem dq_M_allAt_68 : decode prog_10_method_38_code 68 = .ok (.ifCond .eq 13, 3) := by decide +kernel
theorem dq_M_allAt_71 : decode prog_10_method_38_code 71 = .ok (.aload_n 0, 1) := by decide +kernel
theorem dq_M_allAt_72 : decode prog_10_method_38_code 72 = .ok (.getfield 61, 3) := by decide +kernel
theorem dq_M_allAt_75 : decode prog_10_method_38_code 75 = .ok (.iload 6, 2) := by decide +kernel
theorem dq_M_allAt_77 : decode prog_10_method_38_code 77 = .ok (.laload, 1) := by decide +kernel
theorem dq_M_allAt_78 : decode prog_10_method_38_code 78 = .ok (.goto 4, 3) := by decide +kernel
theorem dq_M_allAt_81 : decode prog_10_method_38_code 81 = .ok (.lconst 0, 1) := by decide +kernel
theorem dq_M_allAt_82 : decode prog_10_method_38_code 82 = .ok (.ladd, 1) := by decide +kernel
theorem dq_M_allAt_83 : decode prog_10_method_38_code 83 = .ok (.lstore 4, 2) := by decide +kernel
theorem dq_M_allAt_85 : decode prog_10_method_38_code 85 = .ok (.iinc 6 1, 3) := by decide +kernel
theorem dq_M_allAt_88 : decode prog_10_method_38_code 88 = .ok (.goto (-82), 3) := by decide +kernel
theorem dq_M_allAt_91 : decode prog_10_method_38_code 91 = .ok (.lload 4, 2) := by decide +kernel
theorem dq_M_allAt_93 : decode prog_10_method_38_code 93 = .ok (.lreturn, 1) := by decide +kernel
def fM_allAt_82 (y0 : Nat) (k6 : qz_N × Int32 × Int64 × Int64 × Int32 → Option (Int64 × qz_N)) (N : qz_N) (x1 : Int32) (x2 : Int64) (x6 : Int32) (s0 : Int64) (s1 : Int64) : Option (Int64 × qz_N) :=
  qz_let (s1 + s0) fun v1 =>
  qz_let (x6 + (1 : Int32)) fun v2 =>
  k6 (N, x1, x2, v1, v2)
def fM_allAt_62 (y0 : Nat) (k6 : qz_N × Int32 × Int64 × Int64 × Int32 → Option (Int64 × qz_N)) (N : qz_N) (x1 : Int32) (x2 : Int64) (x4 : Int64) (x6 : Int32) (s0 : Int32) : Option (Int64 × qz_N) :=
  if s0 = 0 then
    fM_allAt_82 y0 k6 N x1 x2 x6 (0 : Int64) x4
  else
  if x6 < 0 ∨ 40 ≤ x6.toNatClampNeg then none else
  fM_allAt_82 y0 k6 N x1 x2 x6 (qz_gl N 37 y0 x6.toNatClampNeg) x4
def fM_allAt_61 (y0 : Nat) (k6 : qz_N × Int32 × Int64 × Int64 × Int32 → Option (Int64 × qz_N)) (N : qz_N) (x1 : Int32) (x2 : Int64) (x4 : Int64) (x6 : Int32) : Option (Int64 × qz_N) :=
  fM_allAt_62 y0 k6 N x1 x2 x4 x6 (0 : Int32)
def fM_allAt_57 (y0 : Nat) (k6 : qz_N × Int32 × Int64 × Int64 × Int32 → Option (Int64 × qz_N)) (N : qz_N) (x1 : Int32) (x2 : Int64) (x4 : Int64) (x6 : Int32) : Option (Int64 × qz_N) :=
  fM_allAt_62 y0 k6 N x1 x2 x4 x6 (1 : Int32)
def fM_allAt_6b (y0 : Nat) (k6 : qz_N × Int32 × Int64 × Int64 × Int32 → Option (Int64 × qz_N)) (N : qz_N) (x1 : Int32) (x2 : Int64) (x4 : Int64) (x6 : Int32) : Option (Int64 × qz_N) :=
  if (qz_gi N 7 y0 17) ≤ x6 then
    some (x4, N)
  else
  if x6 < 0 ∨ 40 ≤ x6.toNatClampNeg then none else
  if (qz_gi N 36 y0 x6.toNatClampNeg) = x1 then
    if x1 = 0 then
      if x6 < 0 ∨ 40 ≤ x6.toNatClampNeg then none else
      if x2 < (qz_gl N 38 y0 x6.toNatClampNeg) then
        fM_allAt_61 y0 k6 N x1 x2 x4 x6
      else
      fM_allAt_57 y0 k6 N x1 x2 x4 x6
    else
    if x6 < 0 ∨ 40 ≤ x6.toNatClampNeg then none else
    if (qz_gl N 38 y0 x6.toNatClampNeg) < x2 then
      fM_allAt_61 y0 k6 N x1 x2 x4 x6
    else
    fM_allAt_57 y0 k6 N x1 x2 x4 x6
  else
  fM_allAt_61 y0 k6 N x1 x2 x4 x6
def fM_allAt_6 (y0 : Nat) (n : Nat) (a : qz_N × Int32 × Int64 × Int64 × Int32) : Option (Int64 × qz_N) := qz_loop (fun k a => fM_allAt_6b y0 k a.1 a.2.1 a.2.2.1 a.2.2.2.1 a.2.2.2.2) n a
def fM_allAt (o : Nat) (x1 : Int32) (x2 : Int64) (N : qz_N) : Option (Int64 × qz_N) :=
  fM_allAt_6 o 1100 (N, x1, x2, (0 : Int64), (0 : Int32))
set_option maxRecDepth 100000 in
set_option maxHeartbeats 4000000 in
theorem sM_allAt_82 {p : Program} {l : Launch} {e : Env} {s : State} {m : MethodId} {args : Array Value} {below : List Frame} {meth : Method} {c : Code} {G : qz_G} (X : qz_X p s m args meth c "ExactCurvesModel" prog_10_method_38_code 8 (some .long) G) {r : (Int64 × qz_N)} (y0 : Nat) (hy0 : y0 < 1) (k6 : qz_N × Int32 × Int64 × Int64 × Int32 → Option (Int64 × qz_N)) (hk6 : ∀ a, k6 a = some r → qz_W p l e (qz_R 0) s m args below meth c 0 0 (MQ below (qz_Q G r.2 (some (.long r.1))) args s 0 0 (qz_A G)) G s.heap 8 a.1 6 [(1, .int a.2.1), (2, .long a.2.2.1), (4, .long a.2.2.2.1), (6, .int a.2.2.2.2), (0, .ref (G.2.2 7 y0))] []) (N : qz_N) (x1 : Int32) (x2 : Int64) (x6 : Int32) (s0 : Int64) (s1 : Int64) (h : fM_allAt_82 y0 k6 N x1 x2 x6 s0 s1 = some r) : qz_W p l e (qz_R 0) s m args below meth c 0 0 (MQ below (qz_Q G r.2 (some (.long r.1))) args s 0 0 (qz_A G)) G s.heap 8 N 82 [(1, .int x1), (2, .long x2), (6, .int x6), (0, .ref (G.2.2 7 y0))] [.long s0, .long s1] := by
  unfold fM_allAt_82 at h
  refine qz_ladd X dq_M_allAt_82 ?_
  refine qz_letj h (fun v1 h => ?_)
  refine qz_lstore X (lv' := [(4, .long v1), (1, .int x1), (2, .long x2), (6, .int x6), (0, .ref (G.2.2 7 y0))]) (by decide) rfl dq_M_allAt_83 ?_
  refine qz_iinc_l X (u := (1 : Int32)) (lv' := fun v2 => [(6, .int v2), (4, .long v1), (1, .int x1), (2, .long x2), (0, .ref (G.2.2 7 y0))]) (k := 3) rfl (by decide) (by decide) (fun _ => rfl) dq_M_allAt_85 h (fun v2 h => ?_)
  refine qz_goto X (tgt := 6) (by decide) dq_M_allAt_88 ?_
  refine qz_sub [2, 3, 1, 0, 4] rfl ?_
  exact hk6 (N, x1, x2, v1, v2) h
set_option maxRecDepth 100000 in
set_option maxHeartbeats 4000000 in
theorem sM_allAt_62 {p : Program} {l : Launch} {e : Env} {s : State} {m : MethodId} {args : Array Value} {below : List Frame} {meth : Method} {c : Code} {G : qz_G} (X : qz_X p s m args meth c "ExactCurvesModel" prog_10_method_38_code 8 (some .long) G) {r : (Int64 × qz_N)} (y0 : Nat) (hy0 : y0 < 1) (k6 : qz_N × Int32 × Int64 × Int64 × Int32 → Option (Int64 × qz_N)) (hk6 : ∀ a, k6 a = some r → qz_W p l e (qz_R 0) s m args below meth c 0 0 (MQ below (qz_Q G r.2 (some (.long r.1))) args s 0 0 (qz_A G)) G s.heap 8 a.1 6 [(1, .int a.2.1), (2, .long a.2.2.1), (4, .long a.2.2.2.1), (6, .int a.2.2.2.2), (0, .ref (G.2.2 7 y0))] []) (N : qz_N) (x1 : Int32) (x2 : Int64) (x4 : Int64) (x6 : Int32) (s0 : Int32) (h : fM_allAt_62 y0 k6 N x1 x2 x4 x6 s0 = some r) : qz_W p l e (qz_R 0) s m args below meth c 0 0 (MQ below (qz_Q G r.2 (some (.long r.1))) args s 0 0 (qz_A G)) G s.heap 8 N 62 [(1, .int x1), (2, .long x2), (4, .long x4), (6, .int x6), (0, .ref (G.2.2 7 y0))] [.int s0] := by
  unfold fM_allAt_62 at h
  refine qz_istore X (lv' := [(7, .int s0), (1, .int x1), (2, .long x2), (4, .long x4), (6, .int x6), (0, .ref (G.2.2 7 y0))]) (by decide) rfl dq_M_allAt_62 ?_
  refine qz_lload X 3 rfl dq_M_allAt_64 ?_
  refine qz_iload X 0 rfl dq_M_allAt_66 ?_
  refine qz_if_eq X (tgt := 81) (by decide) dq_M_allAt_68 h (fun _ h => ?_) (fun _ h => ?_)
  · refine qz_lconst X (v := (0 : Int64)) (by decide) dq_M_allAt_81 ?_
    refine qz_sub [1, 2, 4, 5] rfl ?_
    exact sM_allAt_82 X y0 hy0 k6 hk6 N x1 x2 x6 (0 : Int64) x4 h
  · refine qz_aload_n X 5 rfl dq_M_allAt_71 ?_
    refine qz_get X (v := .ref (G.2.2 37 y0)) kq_M_61 hy0 rfl dq_M_allAt_72 ?_
    refine qz_iload X 4 rfl dq_M_allAt_75 ?_
    refine qz_lald X (c0 := 37) (i := y0) (n := 40) rfl hy0 dq_M_allAt_77 h (fun h => ?_)
    refine qz_goto X (tgt := 82) (by decide) dq_M_allAt_78 ?_
    refine qz_sub [1, 2, 4, 5] rfl ?_
    exact sM_allAt_82 X y0 hy0 k6 hk6 N x1 x2 x6 (qz_gl N 37 y0 x6.toNatClampNeg) x4 h
set_option maxRecDepth 100000 in
set_option maxHeartbeats 4000000 in
theorem sM_allAt_61 {p : Program} {l : Launch} {e : Env} {s : State} {m : MethodId} {args : Array Value} {below : List Frame} {meth : Method} {c : Code} {G : qz_G} (X : qz_X p s m args meth c "ExactCurvesModel" prog_10_method_38_code 8 (some .long) G) {r : (Int64 × qz_N)} (y0 : Nat) (hy0 : y0 < 1) (k6 : qz_N × Int32 × Int64 × Int64 × Int32 → Option (Int64 × qz_N)) (hk6 : ∀ a, k6 a = some r → qz_W p l e (qz_R 0) s m args below meth c 0 0 (MQ below (qz_Q G r.2 (some (.long r.1))) args s 0 0 (qz_A G)) G s.heap 8 a.1 6 [(1, .int a.2.1), (2, .long a.2.2.1), (4, .long a.2.2.2.1), (6, .int a.2.2.2.2), (0, .ref (G.2.2 7 y0))] []) (N : qz_N) (x1 : Int32) (x2 : Int64) (x4 : Int64) (x6 : Int32) (h : fM_allAt_61 y0 k6 N x1 x2 x4 x6 = some r) : qz_W p l e (qz_R 0) s m args below meth c 0 0 (MQ below (qz_Q G r.2 (some (.long r.1))) args s 0 0 (qz_A G)) G s.heap 8 N 61 [(1, .int x1), (2, .long x2), (4, .long x4), (6, .int x6), (0, .ref (G.2.2 7 y0))] [] := by
  unfold fM_allAt_61 at h
  refine qz_iconst X (v := (0 : Int32)) (by decide) dq_M_allAt_61 ?_
  refine qz_sub [0, 1, 2, 3, 4] rfl ?_
  exact sM_allAt_62 X y0 hy0 k6 hk6 N x1 x2 x4 x6 (0 : Int32) h
set_option maxRecDepth 100000 in
set_option maxHeartbeats 4000000 in
theorem sM_allAt_57 {p : Program} {l : Launch} {e : Env} {s : State} {m : MethodId} {args : Array Value} {below : List Frame} {meth : Method} {c : Code} {G : qz_G} (X : qz_X p s m args meth c "ExactCurvesModel" prog_10_method_38_code 8 (some .long) G) {r : (Int64 × qz_N)} (y0 : Nat) (hy0 : y0 < 1) (k6 : qz_N × Int32 × Int64 × Int64 × Int32 → Option (Int64 × qz_N)) (hk6 : ∀ a, k6 a = some r → qz_W p l e (qz_R 0) s m args below meth c 0 0 (MQ below (qz_Q G r.2 (some (.long r.1))) args s 0 0 (qz_A G)) G s.heap 8 a.1 6 [(1, .int a.2.1), (2, .long a.2.2.1), (4, .long a.2.2.2.1), (6, .int a.2.2.2.2), (0, .ref (G.2.2 7 y0))] []) (N : qz_N) (x1 : Int32) (x2 : Int64) (x4 : Int64) (x6 : Int32) (h : fM_allAt_57 y0 k6 N x1 x2 x4 x6 = some r) : qz_W p l e (qz_R 0) s m args below meth c 0 0 (MQ below (qz_Q G r.2 (some (.long r.1))) args s 0 0 (qz_A G)) G s.heap 8 N 57 [(1, .int x1), (2, .long x2), (4, .long x4), (6, .int x6), (0, .ref (G.2.2 7 y0))] [] := by
  unfold fM_allAt_57 at h
  refine qz_iconst X (v := (1 : Int32)) (by decide) dq_M_allAt_57 ?_
  refine qz_goto X (tgt := 62) (by decide) dq_M_allAt_58 ?_
  refine qz_sub [0, 1, 2, 3, 4] rfl ?_
  exact sM_allAt_62 X y0 hy0 k6 hk6 N x1 x2 x4 x6 (1 : Int32) h
set_option maxRecDepth 100000 in
set_option maxHeartbeats 4000000 in
theorem sM_allAt_6b {p : Program} {l : Launch} {e : Env} {s : State} {m : MethodId} {args : Array Value} {below : List Frame} {meth : Method} {c : Code} {G : qz_G} (X : qz_X p s m args meth c "ExactCurvesModel" prog_10_method_38_code 8 (some .long) G) {r : (Int64 × qz_N)} (y0 : Nat) (hy0 : y0 < 1) (k6 : qz_N × Int32 × Int64 × Int64 × Int32 → Option (Int64 × qz_N)) (hk6 : ∀ a, k6 a = some r → qz_W p l e (qz_R 0) s m args below meth c 0 0 (MQ below (qz_Q G r.2 (some (.long r.1))) args s 0 0 (qz_A G)) G s.heap 8 a.1 6 [(1, .int a.2.1), (2, .long a.2.2.1), (4, .long a.2.2.2.1), (6, .int a.2.2.2.2), (0, .ref (G.2.2 7 y0))] []) (N : qz_N) (x1 : Int32) (x2 : Int64) (x4 : Int64) (x6 : Int32) (h : fM_allAt_6b y0 k6 N x1 x2 x4 x6 = some r) : qz_W p l e (qz_R 0) s m args below meth c 0 0 (MQ below (qz_Q G r.2 (some (.long r.1))) args s 0 0 (qz_A G)) G s.heap 8 N 6 [(1, .int x1), (2, .long x2), (4, .long x4), (6, .int x6), (0, .ref (G.2.2 7 y0))] [] := by
  unfold fM_allAt_6b at h
  refine qz_iload X 3 rfl dq_M_allAt_6 ?_
  refine qz_aload_n X 4 rfl dq_M_allAt_8 ?_
  refine qz_get X (v := .int (qz_gi N 7 y0 17)) kq_M_152 hy0 rfl dq_M_allAt_9 ?_
  refine qz_icmp_ge X (tgt := 91) (by decide) dq_M_allAt_12 h (fun _ h => ?_) (fun _ h => ?_)
  · refine qz_lload X 2 rfl dq_M_allAt_91 ?_
    exact qz_lret X h dq_M_allAt_93
  · refine qz_aload_n X 4 rfl dq_M_allAt_15 ?_
    refine qz_get X (v := .ref (G.2.2 36 y0)) kq_M_57 hy0 rfl dq_M_allAt_16 ?_
    refine qz_iload X 3 rfl dq_M_allAt_19 ?_
    refine qz_zald X (c0 := 36) (i := y0) (n := 40) rfl hy0 dq_M_allAt_21 h (fun h => ?_)
    refine qz_iload_n X 0 rfl dq_M_allAt_22 ?_
    refine qz_icmp_ne X (tgt := 61) (by decide) dq_M_allAt_23 h (fun _ h => ?_) (fun _ h => ?_)
    · refine qz_sub [0, 1, 2, 3, 4] rfl ?_
      exact sM_allAt_61 X y0 hy0 k6 hk6 N x1 x2 x4 x6 h
    · refine qz_iload_n X 0 rfl dq_M_allAt_26 ?_
      refine qz_if_eq X (tgt := 45) (by decide) dq_M_allAt_27 h (fun _ h => ?_) (fun _ h => ?_)
      · refine qz_aload_n X 4 rfl dq_M_allAt_45 ?_
        refine qz_get X (v := .ref (G.2.2 38 y0)) kq_M_64 hy0 rfl dq_M_allAt_46 ?_
        refine qz_iload X 3 rfl dq_M_allAt_49 ?_
        refine qz_lald X (c0 := 38) (i := y0) (n := 40) rfl hy0 dq_M_allAt_51 h (fun h => ?_)
        refine qz_lload_n X 1 rfl dq_M_allAt_52 ?_
        refine qz_lcmp_gt X (tgt := 61) (by decide) dq_M_allAt_53 dq_M_allAt_54 h (fun _ h => ?_) (fun _ h => ?_)
        · refine qz_sub [0, 1, 2, 3, 4] rfl ?_
          exact sM_allAt_61 X y0 hy0 k6 hk6 N x1 x2 x4 x6 h
        · refine qz_sub [0, 1, 2, 3, 4] rfl ?_
          exact sM_allAt_57 X y0 hy0 k6 hk6 N x1 x2 x4 x6 h
      · refine qz_aload_n X 4 rfl dq_M_allAt_30 ?_
        refine qz_get X (v := .ref (G.2.2 38 y0)) kq_M_64 hy0 rfl dq_M_allAt_31 ?_
        refine qz_iload X 3 rfl dq_M_allAt_34 ?_
        refine qz_lald X (c0 := 38) (i := y0) (n := 40) rfl hy0 dq_M_allAt_36 h (fun h => ?_)
        refine qz_lload_n X 1 rfl dq_M_allAt_37 ?_
        refine qz_lcmp_lt X (tgt := 61) (by decide) dq_M_allAt_38 dq_M_allAt_39 h (fun _ h => ?_) (fun _ h => ?_)
        · refine qz_sub [0, 1, 2, 3, 4] rfl ?_
          exact sM_allAt_61 X y0 hy0 k6 hk6 N x1 x2 x4 x6 h
        · refine qz_goto X (tgt := 57) (by decide) dq_M_allAt_42 ?_
          refine qz_sub [0, 1, 2, 3, 4] rfl ?_
          exact sM_allAt_57 X y0 hy0 k6 hk6 N x1 x2 x4 x6 h
theorem sM_allAt_6 {p : Program} {l : Launch} {e : Env} {s : State} {m : MethodId} {args : Array Value} {below : List Frame} {meth : Method} {c : Code} {G : qz_G} (X : qz_X p s m args meth c "ExactCurvesModel" prog_10_method_38_code 8 (some .long) G) {r : (Int64 × qz_N)} (y0 : Nat) (hy0 : y0 < 1) (n : Nat) (a : qz_N × Int32 × Int64 × Int64 × Int32) (h : fM_allAt_6 y0 n a = some r) : qz_W p l e (qz_R 0) s m args below meth c 0 0 (MQ below (qz_Q G r.2 (some (.long r.1))) args s 0 0 (qz_A G)) G s.heap 8 a.1 6 [(1, .int a.2.1), (2, .long a.2.2.1), (4, .long a.2.2.2.1), (6, .int a.2.2.2.2), (0, .ref (G.2.2 7 y0))] [] :=
  qz_loop_ind (P := fun a => qz_W p l e (qz_R 0) s m args below meth c 0 0 (MQ below (qz_Q G r.2 (some (.long r.1))) args s 0 0 (qz_A G)) G s.heap 8 a.1 6 [(1, .int a.2.1), (2, .long a.2.2.1), (4, .long a.2.2.2.1), (6, .int a.2.2.2.2), (0, .ref (G.2.2 7 y0))] []) (fun k hk a h => sM_allAt_6b X y0 hy0 k hk a.1 a.2.1 a.2.2.1 a.2.2.2.1 a.2.2.2.2 h) n a h
set_option maxRecDepth 100000 in
set_option maxHeartbeats 4000000 in
theorem sM_allAt {p : Program} {l : Launch} {e : Env} {s : State} {m : MethodId} {args : Array Value} {below : List Frame} {meth : Method} {c : Code} {G : qz_G} (X : qz_X p s m args meth c "ExactCurvesModel" prog_10_method_38_code 8 (some .long) G) {r : (Int64 × qz_N)} (o : Nat) (x1 : Int32) (x2 : Int64) (ho : o < 1) (N : qz_N) (h : fM_allAt o x1 x2 N = some r) : qz_W p l e (qz_R 0) s m args below meth c 0 0 (MQ below (qz_Q G r.2 (some (.long r.1))) args s 0 0 (qz_A G)) G s.heap 8 N 0 [(0, .ref (G.2.2 7 o)), (1, .int x1), (2, .long x2)] [] := by
  unfold fM_allAt at h
  refine qz_lconst X (v := (0 : Int64)) (by decide) dq_M_allAt_0 ?_
  refine qz_lstore X (lv' := [(4, .long (0 : Int64)), (0, .ref (G.2.2 7 o)), (1, .int x1), (2, .long x2)]) (by decide) rfl dq_M_allAt_1 ?_
  refine qz_iconst X (v := (0 : Int32)) (by decide) dq_M_allAt_3 ?_
  refine qz_istore X (lv' := [(6, .int (0 : Int32)), (4, .long (0 : Int64)), (0, .ref (G.2.2 7 o)), (1, .int x1), (2, .long x2)]) (by decide) rfl dq_M_allAt_4 ?_
  refine qz_sub [3, 4, 1, 0, 2] rfl ?_
  exact sM_allAt_6 X o ho 1100 (N, x1, x2, (0 : Int64), (0 : Int32)) h
theorem cM_allAt (l : Launch) (G : qz_G) (hD : qz_D G) (o : Nat) (x1 : Int32) (x2 : Int64) (N : qz_N) (ho : o < 1) (r : (Int64 × qz_N)) (h : fM_allAt o x1 x2 N = some r) : qz_M l yM_allAt prog_10_method_38_code 8 (some .long) 0 G [.ref (G.2.2 7 o), .int x1, .long x2] N (some (.long r.1)) r.2 :=
  qz_enter (lv := [(0, .ref (G.2.2 7 o)), (1, .int x1), (2, .long x2)]) rfl hD (Nat.le_of_ble_eq_true rfl) rfl (fun p e s m args below meth c X => sM_allAt X o x1 x2 ho N h)
-- ExactCurvesModel.bestPrice()J
theorem dq_M_bestPrice_0 : decode prog_10_method_39_code 0 = .ok (.lconst 0, 1) := by decide +kernel
theorem dq_M_bestPrice_1 : decode prog_10_method_39_code 1 = .ok (.lstore_n 1, 1) := by decide +kernel
theorem dq_M_bestPrice_2 : decode prog_10_method_39_code 2 = .ok (.lconst 0, 1) := by decide +kernel
theorem dq_M_bestPrice_3 : decode prog_10_method_39_code 3 = .ok (.lstore_n 3, 1) := by decide +kernel
theorem dq_M_bestPrice_4 : decode prog_10_method_39_code 4 = .ok (.lconst 0, 1) := by decide +kernel
theorem dq_M_bestPrice_5 : decode prog_10_method_39_code 5 = .ok (.lstore 5, 2) := by decide +kernel
theorem dq_M_bestPrice_7 : decode prog_10_method_39_code 7 = .ok (.iconst 0, 1) := by decide +kernel
theorem dq_M_bestPrice_8 : decode prog_10_method_39_code 8 = .ok (.istore 7, 2) := by decide +kernel
theorem dq_M_bestPrice_10 : decode prog_10_method_39_code 10 = .ok (.iload 7, 2) := by decide +kernel
theorem dq_M_bestPrice_12 : decode prog_10_method_39_code 12 = .ok (.aload_n 0, 1) := by decide +kernel
theorem dq_M_bestPrice_13 : decode prog_10_method_39_code 13 = .ok (.getfield 152, 3) := by decide +kernel
theorem dq_M_bestPrice_16 : decode prog_10_method_39_code 16 = .ok (.if_icmp .ge 134, 3) := by decide +kernel
theorem dq_M_bestPrice_19 : decode prog_10_method_39_code 19 = .ok (.aload_n 0, 1) := by decide +kernel
theorem dq_M_bestPrice_20 : decode prog_10_method_39_code 20 = .ok (.getfield 64, 3) := by decide +kernel
theorem dq_M_bestPrice_23 : decode prog_10_method_39_code 23 = .ok (.iload 7, 2) := by decide +kernel
theorem dq_M_bestPrice_25 : decode prog_10_method_39_code 25 = .ok (.laload, 1) := by decide +kernel
theorem dq_M_bestPrice_26 : decode prog_10_method_39_code 26 = .ok (.lstore 8, 2) := by decide +kernel
theorem dq_M_bestPrice_28 : decode prog_10_method_39_code 28 = .ok (.aload_n 0, 1) := by decide +kernel
theorem dq_M_bestPrice_29 : decode prog_10_method_39_code 29 = .ok (.iconst 1, 1) := by decide +kernel
theorem dq_M_bestPrice_30 : decode prog_10_method_39_code 30 = .ok (.lload 8, 2) := by decide +kernel
theorem dq_M_bestPrice_32 : decode prog_10_method_39_code 32 = .ok (.invokevirtual 234, 3) := by decide +kernel
theorem dq_M_bestPrice_35 : decode prog_10_method_39_code 35 = .ok (.lstore 10, 2) := by decide +kernel
theorem dq_M_bestPrice_37 : decode prog_10_method_39_code 37 = .ok (.aload_n 0, 1) := by decide +kernel
theorem dq_M_bestPrice_38 : decode prog_10_method_39_code 38 = .ok (.iconst 0, 1) := by decide +kernel
theorem dq_M_bestPrice_39 : decode prog_10_method_39_code 39 = .ok (.lload 8, 2) := by decide +kernel
theorem dq_M_bestPrice_41 : decode prog_10_method_39_code 41 = .ok (.invokevirtual 234, 3) := by decide +kernel
theorem dq_M_bestPrice_44 : decode prog_10_method_39_code 44 = .ok (.lstore 12, 2) := by decide +kernel
theorem dq_M_bestPrice_46 : decode prog_10_method_39_code 46 = .ok (.lload 10, 2) := by decide +kernel
theorem dq_M_bestPrice_48 : decode prog_10_method_39_code 48 = .ok (.lload 12, 2) := by decide +kernel
theorem dq_M_bestPrice_50 : decode prog_10_method_39_code 50 = .ok (.invokestatic 200, 3) := by decide +kernel
theorem dq_M_bestPrice_53 : decode prog_10_method_39_code 53 = .ok (.lstore 14, 2) := by decide +kernel
theorem dq_M_bestPrice_55 : decode prog_10_method_39_code 55 = .ok (.lload 10, 2) := by decide +kernel
theorem dq_M_bestPrice_57 : decode prog_10_method_39_code 57 = .ok (.lload 12, 2) := by decide +kernel
theorem dq_M_bestPrice_59 : decode prog_10_method_39_code 59 = .ok (.lcmp, 1) := by decide +kernel
theorem dq_M_bestPrice_60 : decode prog_10_method_39_code 60 = .ok (.ifCond .ge 11, 3) := by decide +kernel
theorem dq_M_bestPrice_63 : decode prog_10_method_39_code 63 = .ok (.lload 12, 2) := by decide +kernel
theorem dq_M_bestPrice_65 : decode prog_10_method_39_code 65 = .ok (.lload 10, 2) := by decide +kernel
theorem dq_M_bestPrice_67 : decode prog_10_method_39_code 67 = .ok (.lsub, 1) := by decide +kernel
theorem dq_M_bestPrice_68 : decode prog_10_method_39_code 68 = .ok (.goto 8, 3) := by decide +kernel
theorem dq_M_bestPrice_71 : decode prog_10_method_39_code 71 = .ok (.lload 10, 2) := by decide +kernel
theorem dq_M_bestPrice_73 : decode prog_10_method_39_code 73 = .ok (.lload 12, 2) := by decide +kernel
theorem dq_M_bestPrice_75 : decode prog_10_method_39_code 75 = .ok (.lsub, 1) := by decide +kernel
theorem dq_M_bestPrice_76 : decode prog_10_method_39_code 76 = .ok (.lstore 16, 2) := by decide +kernel
theorem dq_M_bestPrice_78 : decode prog_10_method_39_code 78 = .ok (.lload 14, 2) := by decide +kernel
theorem dq_M_bestPrice_80 : decode prog_10_method_39_code 80 = .ok (.lload_n 3, 1) := by decide +kernel
theorem dq_M_bestPrice_81 : decode prog_10_method_39_code 81 = .ok (.lcmp, 1) := by decide +kernel
theorem dq_M_bestPrice_82 : decode prog_10_method_39_code 82 = .ok (.ifCond .gt 40, 3) := by decide +kernel
theorem dq_M_bestPrice_85 : decode prog_10_method_39_code 85 = .ok (.lload 14, 2) := by decide +kernel
theorem dq_M_bestPrice_87 : decode prog_10_method_39_code 87 = .ok (.lload_n 3, 1) := by decide +kernel
theorem dq_M_bestPrice_88 : decode prog_10_method_39_code 88 = .ok (.lcmp, 1) := by decide +kernel
theorem dq_M_bestPrice_89 : decode prog_10_method_39_code 89 = .ok (.ifCond .ne 37, 3) := by decide +kernel
theorem dq_M_bestPrice_92 : decode prog_10_method_39_code 92 = .ok (.lload 14, 2) := by decide +kernel
theorem dq_M_bestPrice_94 : decode prog_10_method_39_code 94 = .ok (.lconst 0, 1) := by decide +kernel
theorem dq_M_bestPrice_95 : decode prog_10_method_39_code 95 = .ok (.lcmp, 1) := by decide +kernel
theorem dq_M_bestPrice_96 : decode prog_10_method_39_code 96 = .ok (.ifCond .le 30, 3) := by decide +kernel
theorem dq_M_bestPrice_99 : decode prog_10_method_39_code 99 = .ok (.lload 16, 2) := by decide +kernel
theorem dq_M_bestPrice_101 : decode prog_10_method_39_code 101 = .ok (.lload 5, 2) := by decide +kernel
theorem dq_M_bestPrice_103 : decode prog_10_method_39_code 103 = .ok (.lcmp, 1) := by decide +kernel
theorem dq_M_bestPrice_104 : decode prog_10_method_39_code 104 = .ok (.ifCond .lt 18, 3) := by decide +kernel
theorem dq_M_bestPrice_107 : decode prog_10_method_39_code 107 = .ok (.lload 16, 2) := by decide +kernel
theorem dq_M_bestPrice_109 : decode prog_10_method_39_code 109 = .ok (.lload 5, 2) := by decide +kernel
theorem dq_M_bestPrice_111 : decode prog_10_method_39_code 111 = .ok (.lcmp, 1) := by decide +kernel
theorem dq_M_bestPrice_112 : decode prog_10_method_39_code 112 = .ok (.ifCond .ne 14, 3) := by decide +kernel
theorem dq_M_bestPrice_115 : decode prog_10_method_39_code 115 = .ok (.lload 8, 2) := by decide +kernel
theorem dq_M_bestPrice_117 : decode prog_10_method_39_code 117 = .ok (.lload_n 1, 1) := by decide +kernel
theorem dq_M_bestPrice_118 : decode prog_10_method_39_code 118 = .ok (.lcmp, 1) := by decide +kernel
theorem dq_M_bestPrice_119 : decode prog_10_method_39_code 119 = .ok (.ifCond .ge 7, 3) := by decide +kernel
theorem dq_M_bestPrice_122 : decode prog_10_method_39_code 122 = .ok (.iconst 1, 1) := by decide +kernel
theorem dq_M_bestPrice_123 : decode prog_10_method_39_code 123 = .ok (.goto 4, 3) := by decide +kernel
theorem dq_M_bestPrice_126 : decode prog_10_method_39_code 126 = .ok (.iconst 0, 1) := by decide +kernel
theorem dq_M_bestPrice_127 : decode prog_10_method_39_code 127 = .ok (.istore 18, 2) := by decide +kernel
theorem dq_M_bestPrice_129 : decode prog_10_method_39_code 129 = .ok (.iload 18, 2) := by decide +kernel
theorem dq_M_bestPrice_131 : decode prog_10_method_39_code 131 = .ok (.ifCond .eq 13, 3) := by decide +kernel
theorem dq_M_bestPrice_134 : decode prog_10_method_39_code 134 = .ok (.lload 8, 2) := by decide +kernel
theorem dq_M_bestPrice_136 : decode prog_10_method_39_code 136 = .ok (.lstore_n 1, 1) := by decide +kernel
theorem dq_M_bestPrice_137 : decode prog_10_method_39_code 137 = .ok (.lload 14, 2) := by decide +kernel
theorem dq_M_bestPrice_139 : decode prog_10_method_39_code 139 = .ok (.lstore_n 3, 1) := by decide +kernel
theorem dq_M_bestPrice_140 : decode prog_10_method_39_code 140 = .ok (.lload 16, 2) := by decide +kernel
theorem dq_M_bestPrice_142 : decode prog_10_method_39_code 142 = .ok (.lstore 5, 2) := by decide +kernel
theorem dq_M_bestPrice_144 : decode prog_10_method_39_code 144 = .ok (.iinc 7 1, 3) := by decide +kernel
theorem dq_M_bestPrice_147 : decode prog_10_method_39_code 147 = .ok (.goto (-137), 3) := by decide +kernel
theorem dq_M_bestPrice_150 : decode prog_10_method_39_code 150 = .ok (.lload_n 1, 1) := by decide +kernel
theorem dq_M_bestPrice_151 : decode prog_10_method_39_code 151 = .ok (.lreturn, 1) := by decide +kernel
def fM_bestPrice_144 (y0 : Nat) (k10 : qz_N × Int64 × Int64 × Int64 × Int32 → Option (Int64 × qz_N)) (N : qz_N) (x1 : Int64) (x3 : Int64) (x5 : Int64) (x7 : Int32) : Option (Int64 × qz_N) :=
  qz_let (x7 + (1 : Int32)) fun v8 =>
  k10 (N, x1, x3, x5, v8)
def fM_bestPrice_127 (y0 : Nat) (k10 : qz_N × Int64 × Int64 × Int64 × Int32 → Option (Int64 × qz_N)) (N : qz_N) (x1 : Int64) (x3 : Int64) (x5 : Int64) (x7 : Int32) (x8 : Int64) (x14 : Int64) (x16 : Int64) (s0 : Int32) : Option (Int64 × qz_N) :=
  if s0 = 0 then
    fM_bestPrice_144 y0 k10 N x1 x3 x5 x7
  else
  fM_bestPrice_144 y0 k10 N x8 x14 x16 x7
def fM_bestPrice_122 (y0 : Nat) (k10 : qz_N × Int64 × Int64 × Int64 × Int32 → Option (Int64 × qz_N)) (N : qz_N) (x1 : Int64) (x3 : Int64) (x5 : Int64) (x7 : Int32) (x8 : Int64) (x14 : Int64) (x16 : Int64) : Option (Int64 × qz_N) :=
  fM_bestPrice_127 y0 k10 N x1 x3 x5 x7 x8 x14 x16 (1 : Int32)
def fM_bestPrice_126 (y0 : Nat) (k10 : qz_N × Int64 × Int64 × Int64 × Int32 → Option (Int64 × qz_N)) (N : qz_N) (x1 : Int64) (x3 : Int64) (x5 : Int64) (x7 : Int32) (x8 : Int64) (x14 : Int64) (x16 : Int64) : Option (Int64 × qz_N) :=
  fM_bestPrice_127 y0 k10 N x1 x3 x5 x7 x8 x14 x16 (0 : Int32)
def fM_bestPrice_76 (y0 : Nat) (k10 : qz_N × Int64 × Int64 × Int64 × Int32 → Option (Int64 × qz_N)) (N : qz_N) (x1 : Int64) (x3 : Int64) (x5 : Int64) (x7 : Int32) (x8 : Int64) (x14 : Int64) (s0 : Int64) : Option (Int64 × qz_N) :=
  if x3 < x14 then
    fM_bestPrice_122 y0 k10 N x1 x3 x5 x7 x8 x14 s0
  else
  if x14 = x3 then
    if x14 ≤ (0 : Int64) then
      fM_bestPrice_126 y0 k10 N x1 x3 x5 x7 x8 x14 s0
    else
    if s0 < x5 then
      fM_bestPrice_122 y0 k10 N x1 x3 x5 x7 x8 x14 s0
    else
    if s0 = x5 then
      if x1 ≤ x8 then
        fM_bestPrice_126 y0 k10 N x1 x3 x5 x7 x8 x14 s0
      else
      fM_bestPrice_122 y0 k10 N x1 x3 x5 x7 x8 x14 s0
    else
    fM_bestPrice_126 y0 k10 N x1 x3 x5 x7 x8 x14 s0
  else
  fM_bestPrice_126 y0 k10 N x1 x3 x5 x7 x8 x14 s0
def fM_bestPrice_10b (y0 : Nat) (k10 : qz_N × Int64 × Int64 × Int64 × Int32 → Option (Int64 × qz_N)) (N : qz_N) (x1 : Int64) (x3 : Int64) (x5 : Int64) (x7 : Int32) : Option (Int64 × qz_N) :=
  if (qz_gi N 7 y0 17) ≤ x7 then
    some (x1, N)
  else
  if x7 < 0 ∨ 40 ≤ x7.toNatClampNeg then none else
  qz_let (qz_gl N 38 y0 x7.toNatClampNeg) fun v1 =>
  (fM_allAt y0 (1 : Int32) v1 N).bind fun q2 =>
  (fM_allAt y0 (0 : Int32) v1 q2.2).bind fun q4 =>
  (fM_least q2.1 q4.1 q4.2).bind fun q6 =>
  if q4.1 ≤ q2.1 then
    fM_bestPrice_76 y0 k10 q6.2 x1 x3 x5 x7 v1 q6.1 (q2.1 - q4.1)
  else
  fM_bestPrice_76 y0 k10 q6.2 x1 x3 x5 x7 v1 q6.1 (q4.1 - q2.1)
def fM_bestPrice_10 (y0 : Nat) (n : Nat) (a : qz_N × Int64 × Int64 × Int64 × Int32) : Option (Int64 × qz_N) := qz_loop (fun k a => fM_bestPrice_10b y0 k a.1 a.2.1 a.2.2.1 a.2.2.2.1 a.2.2.2.2) n a
def fM_bestPrice (o : Nat) (N : qz_N) : Option (Int64 × qz_N) :=
  fM_bestPrice_10 o 1100 (N, (0 : Int64), (0 : Int64), (0 : Int64), (0 : Int32))
set_option maxRecDepth 100000 in
set_option maxHeartbeats 4000000 in
theorem sM_bestPrice_144 {p : Program} {l : Launch} {e : Env} {s : State} {m : MethodId} {args : Array Value} {below : List Frame} {meth : Method} {c : Code} {G : qz_G} (X : qz_X p s m args meth c "ExactCurvesModel" prog_10_method_39_code 19 (some .long) G) {r : (Int64 × qz_N)} (y0 : Nat) (hy0 : y0 < 1) (k10 : qz_N × Int64 × Int64 × Int64 × Int32 → Option (Int64 × qz_N)) (hk10 : ∀ a, k10 a = some r → qz_W p l e (qz_R 1) s m args below meth c 0 0 (MQ below (qz_Q G r.2 (some (.long r.1))) args s 0 0 (qz_A G)) G s.heap 19 a.1 10 [(1, .long a.2.1), (3, .long a.2.2.1), (5, .long a.2.2.2.1), (7, .int a.2.2.2.2), (0, .ref (G.2.2 7 y0))] []) (N : qz_N) (x1 : Int64) (x3 : Int64) (x5 : Int64) (x7 : Int32) (h : fM_bestPrice_144 y0 k10 N x1 x3 x5 x7 = some r) : qz_W p l e (qz_R 1) s m args below meth c 0 0 (MQ below (qz_Q G r.2 (some (.long r.1))) args s 0 0 (qz_A G)) G s.heap 19 N 144 [(1, .long x1), (3, .long x3), (5, .long x5), (7, .int x7), (0, .ref (G.2.2 7 y0))] [] := by
  unfold fM_bestPrice_144 at h
  refine qz_iinc_l X (u := (1 : Int32)) (lv' := fun v8 => [(7, .int v8), (1, .long x1), (3, .long x3), (5, .long x5), (0, .ref (G.2.2 7 y0))]) (k := 3) rfl (by decide) (by decide) (fun _ => rfl) dq_M_bestPrice_144 h (fun v8 h => ?_)
  refine qz_goto X (tgt := 10) (by decide) dq_M_bestPrice_147 ?_
  refine qz_sub [1, 2, 3, 0, 4] rfl ?_
  exact hk10 (N, x1, x3, x5, v8) h
set_option maxRecDepth 100000 in
set_option maxHeartbeats 4000000 in
theorem sM_bestPrice_127 {p : Program} {l : Launch} {e : Env} {s : State} {m : MethodId} {args : Array Value} {below : List Frame} {meth : Method} {c : Code} {G : qz_G} (X : qz_X p s m args meth c "ExactCurvesModel" prog_10_method_39_code 19 (some .long) G) {r : (Int64 × qz_N)} (y0 : Nat) (hy0 : y0 < 1) (k10 : qz_N × Int64 × Int64 × Int64 × Int32 → Option (Int64 × qz_N)) (hk10 : ∀ a, k10 a = some r → qz_W p l e (qz_R 1) s m args below meth c 0 0 (MQ below (qz_Q G r.2 (some (.long r.1))) args s 0 0 (qz_A G)) G s.heap 19 a.1 10 [(1, .long a.2.1), (3, .long a.2.2.1), (5, .long a.2.2.2.1), (7, .int a.2.2.2.2), (0, .ref (G.2.2 7 y0))] []) (N : qz_N) (x1 : Int64) (x3 : Int64) (x5 : Int64) (x7 : Int32) (x8 : Int64) (x14 : Int64) (x16 : Int64) (s0 : Int32) (h : fM_bestPrice_127 y0 k10 N x1 x3 x5 x7 x8 x14 x16 s0 = some r) : qz_W p l e (qz_R 1) s m args below meth c 0 0 (MQ below (qz_Q G r.2 (some (.long r.1))) args s 0 0 (qz_A G)) G s.heap 19 N 127 [(1, .long x1), (3, .long x3), (5, .long x5), (7, .int x7), (8, .long x8), (14, .long x14), (16, .long x16), (0, .ref (G.2.2 7 y0))] [.int s0] := by
  unfold fM_bestPrice_127 at h
  refine qz_istore X (lv' := [(18, .int s0), (1, .long x1), (3, .long x3), (5, .long x5), (7, .int x7), (8, .long x8), (14, .long x14), (16, .long x16), (0, .ref (G.2.2 7 y0))]) (by decide) rfl dq_M_bestPrice_127 ?_
  refine qz_iload X 0 rfl dq_M_bestPrice_129 ?_
  refine qz_if_eq X (tgt := 144) (by decide) dq_M_bestPrice_131 h (fun _ h => ?_) (fun _ h => ?_)
  · refine qz_sub [1, 2, 3, 4, 8] rfl ?_
    exact sM_bestPrice_144 X y0 hy0 k10 hk10 N x1 x3 x5 x7 h
  · refine qz_lload X 5 rfl dq_M_bestPrice_134 ?_
    refine qz_lstore_n X (lv' := [(1, .long x8), (18, .int s0), (3, .long x3), (5, .long x5), (7, .int x7), (8, .long x8), (14, .long x14), (16, .long x16), (0, .ref (G.2.2 7 y0))]) rfl (by decide) rfl dq_M_bestPrice_136 ?_
    refine qz_lload X 6 rfl dq_M_bestPrice_137 ?_
    refine qz_lstore_n X (lv' := [(3, .long x14), (1, .long x8), (18, .int s0), (5, .long x5), (7, .int x7), (8, .long x8), (14, .long x14), (16, .long x16), (0, .ref (G.2.2 7 y0))]) rfl (by decide) rfl dq_M_bestPrice_139 ?_
    refine qz_lload X 7 rfl dq_M_bestPrice_140 ?_
    refine qz_lstore X (lv' := [(5, .long x16), (3, .long x14), (1, .long x8), (18, .int s0), (7, .int x7), (8, .long x8), (14, .long x14), (16, .long x16), (0, .ref (G.2.2 7 y0))]) (by decide) rfl dq_M_bestPrice_142 ?_
    refine qz_sub [2, 1, 0, 4, 8] rfl ?_
    exact sM_bestPrice_144 X y0 hy0 k10 hk10 N x8 x14 x16 x7 h
set_option maxRecDepth 100000 in
set_option maxHeartbeats 4000000 in
theorem sM_bestPrice_122 {p : Program} {l : Launch} {e : Env} {s : State} {m : MethodId} {args : Array Value} {below : List Frame} {meth : Method} {c : Code} {G : qz_G} (X : qz_X p s m args meth c "ExactCurvesModel" prog_10_method_39_code 19 (some .long) G) {r : (Int64 × qz_N)} (y0 : Nat) (hy0 : y0 < 1) (k10 : qz_N × Int64 × Int64 × Int64 × Int32 → Option (Int64 × qz_N)) (hk10 : ∀ a, k10 a = some r → qz_W p l e (qz_R 1) s m args below meth c 0 0 (MQ below (qz_Q G r.2 (some (.long r.1))) args s 0 0 (qz_A G)) G s.heap 19 a.1 10 [(1, .long a.2.1), (3, .long a.2.2.1), (5, .long a.2.2.2.1), (7, .int a.2.2.2.2), (0, .ref (G.2.2 7 y0))] []) (N : qz_N) (x1 : Int64) (x3 : Int64) (x5 : Int64) (x7 : Int32) (x8 : Int64) (x14 : Int64) (x16 : Int64) (h : fM_bestPrice_122 y0 k10 N x1 x3 x5 x7 x8 x14 x16 = some r) : qz_W p l e (qz_R 1) s m args below meth c 0 0 (MQ below (qz_Q G r.2 (some (.long r.1))) args s 0 0 (qz_A G)) G s.heap 19 N 122 [(1, .long x1), (3, .long x3), (5, .long x5), (7, .int x7), (8, .long x8), (14, .long x14), (16, .long x16), (0, .ref (G.2.2 7 y0))] [] := by
  unfold fM_bestPrice_122 at h
  refine qz_iconst X (v := (1 : Int32)) (by decide) dq_M_bestPrice_122 ?_
  refine qz_goto X (tgt := 127) (by decide) dq_M_bestPrice_123 ?_
  refine qz_sub [0, 1, 2, 3, 4, 5, 6, 7] rfl ?_
  exact sM_bestPrice_127 X y0 hy0 k10 hk10 N x1 x3 x5 x7 x8 x14 x16 (1 : Int32) h
set_option maxRecDepth 100000 in
set_option maxHeartbeats 4000000 in
theorem sM_bestPrice_126 {p : Program} {l : Launch} {e : Env} {s : State} {m : MethodId} {args : Array Value} {below : List Frame} {meth : Method} {c : Code} {G : qz_G} (X : qz_X p s m args meth c "ExactCurvesModel" prog_10_method_39_code 19 (some .long) G) {r : (Int64 × qz_N)} (y0 : Nat) (hy0 : y0 < 1) (k10 : qz_N × Int64 × Int64 × Int64 × Int32 → Option (Int64 × qz_N)) (hk10 : ∀ a, k10 a = some r → qz_W p l e (qz_R 1) s m args below meth c 0 0 (MQ below (qz_Q G r.2 (some (.long r.1))) args s 0 0 (qz_A G)) G s.heap 19 a.1 10 [(1, .long a.2.1), (3, .long a.2.2.1), (5, .long a.2.2.2.1), (7, .int a.2.2.2.2), (0, .ref (G.2.2 7 y0))] []) (N : qz_N) (x1 : Int64) (x3 : Int64) (x5 : Int64) (x7 : Int32) (x8 : Int64) (x14 : Int64) (x16 : Int64) (h : fM_bestPrice_126 y0 k10 N x1 x3 x5 x7 x8 x14 x16 = some r) : qz_W p l e (qz_R 1) s m args below meth c 0 0 (MQ below (qz_Q G r.2 (some (.long r.1))) args s 0 0 (qz_A G)) G s.heap 19 N 126 [(1, .long x1), (3, .long x3), (5, .long x5), (7, .int x7), (8, .long x8), (14, .long x14), (16, .long x16), (0, .ref (G.2.2 7 y0))] [] := by
  unfold fM_bestPrice_126 at h
  refine qz_iconst X (v := (0 : Int32)) (by decide) dq_M_bestPrice_126 ?_
  refine qz_sub [0, 1, 2, 3, 4, 5, 6, 7] rfl ?_
  exact sM_bestPrice_127 X y0 hy0 k10 hk10 N x1 x3 x5 x7 x8 x14 x16 (0 : Int32) h
set_option maxRecDepth 100000 in
set_option maxHeartbeats 4000000 in
theorem sM_bestPrice_76 {p : Program} {l : Launch} {e : Env} {s : State} {m : MethodId} {args : Array Value} {below : List Frame} {meth : Method} {c : Code} {G : qz_G} (X : qz_X p s m args meth c "ExactCurvesModel" prog_10_method_39_code 19 (some .long) G) {r : (Int64 × qz_N)} (y0 : Nat) (hy0 : y0 < 1) (k10 : qz_N × Int64 × Int64 × Int64 × Int32 → Option (Int64 × qz_N)) (hk10 : ∀ a, k10 a = some r → qz_W p l e (qz_R 1) s m args below meth c 0 0 (MQ below (qz_Q G r.2 (some (.long r.1))) args s 0 0 (qz_A G)) G s.heap 19 a.1 10 [(1, .long a.2.1), (3, .long a.2.2.1), (5, .long a.2.2.2.1), (7, .int a.2.2.2.2), (0, .ref (G.2.2 7 y0))] []) (N : qz_N) (x1 : Int64) (x3 : Int64) (x5 : Int64) (x7 : Int32) (x8 : Int64) (x14 : Int64) (s0 : Int64) (h : fM_bestPrice_76 y0 k10 N x1 x3 x5 x7 x8 x14 s0 = some r) : qz_W p l e (qz_R 1) s m args below meth c 0 0 (MQ below (qz_Q G r.2 (some (.long r.1))) args s 0 0 (qz_A G)) G s.heap 19 N 76 [(1, .long x1), (3, .long x3), (5, .long x5), (7, .int x7), (8, .long x8), (14, .long x14), (0, .ref (G.2.2 7 y0))] [.long s0] := by
  unfold fM_bestPrice_76 at h
  refine qz_lstore X (lv' := [(16, .long s0), (1, .long x1), (3, .long x3), (5, .long x5), (7, .int x7), (8, .long x8), (14, .long x14), (0, .ref (G.2.2 7 y0))]) (by decide) rfl dq_M_bestPrice_76 ?_
  refine qz_lload X 6 rfl dq_M_bestPrice_78 ?_
  refine qz_lload_n X 2 rfl dq_M_bestPrice_80 ?_
  refine qz_lcmp_gt X (tgt := 122) (by decide) dq_M_bestPrice_81 dq_M_bestPrice_82 h (fun _ h => ?_) (fun _ h => ?_)
  · refine qz_sub [1, 2, 3, 4, 5, 6, 0, 7] rfl ?_
    exact sM_bestPrice_122 X y0 hy0 k10 hk10 N x1 x3 x5 x7 x8 x14 s0 h
  · refine qz_lload X 6 rfl dq_M_bestPrice_85 ?_
    refine qz_lload_n X 2 rfl dq_M_bestPrice_87 ?_
    refine qz_lcmp_ne X (tgt := 126) (by decide) dq_M_bestPrice_88 dq_M_bestPrice_89 h (fun _ h => ?_) (fun _ h => ?_)
    · refine qz_sub [1, 2, 3, 4, 5, 6, 0, 7] rfl ?_
      exact sM_bestPrice_126 X y0 hy0 k10 hk10 N x1 x3 x5 x7 x8 x14 s0 h
    · refine qz_lload X 6 rfl dq_M_bestPrice_92 ?_
      refine qz_lconst X (v := (0 : Int64)) (by decide) dq_M_bestPrice_94 ?_
      refine qz_lcmp_le X (tgt := 126) (by decide) dq_M_bestPrice_95 dq_M_bestPrice_96 h (fun _ h => ?_) (fun _ h => ?_)
      · refine qz_sub [1, 2, 3, 4, 5, 6, 0, 7] rfl ?_
        exact sM_bestPrice_126 X y0 hy0 k10 hk10 N x1 x3 x5 x7 x8 x14 s0 h
      · refine qz_lload X 0 rfl dq_M_bestPrice_99 ?_
        refine qz_lload X 3 rfl dq_M_bestPrice_101 ?_
        refine qz_lcmp_lt X (tgt := 122) (by decide) dq_M_bestPrice_103 dq_M_bestPrice_104 h (fun _ h => ?_) (fun _ h => ?_)
        · refine qz_sub [1, 2, 3, 4, 5, 6, 0, 7] rfl ?_
          exact sM_bestPrice_122 X y0 hy0 k10 hk10 N x1 x3 x5 x7 x8 x14 s0 h
        · refine qz_lload X 0 rfl dq_M_bestPrice_107 ?_
          refine qz_lload X 3 rfl dq_M_bestPrice_109 ?_
          refine qz_lcmp_ne X (tgt := 126) (by decide) dq_M_bestPrice_111 dq_M_bestPrice_112 h (fun _ h => ?_) (fun _ h => ?_)
          · refine qz_sub [1, 2, 3, 4, 5, 6, 0, 7] rfl ?_
            exact sM_bestPrice_126 X y0 hy0 k10 hk10 N x1 x3 x5 x7 x8 x14 s0 h
          · refine qz_lload X 5 rfl dq_M_bestPrice_115 ?_
            refine qz_lload_n X 1 rfl dq_M_bestPrice_117 ?_
            refine qz_lcmp_ge X (tgt := 126) (by decide) dq_M_bestPrice_118 dq_M_bestPrice_119 h (fun _ h => ?_) (fun _ h => ?_)
            · refine qz_sub [1, 2, 3, 4, 5, 6, 0, 7] rfl ?_
              exact sM_bestPrice_126 X y0 hy0 k10 hk10 N x1 x3 x5 x7 x8 x14 s0 h
            · refine qz_sub [1, 2, 3, 4, 5, 6, 0, 7] rfl ?_
              exact sM_bestPrice_122 X y0 hy0 k10 hk10 N x1 x3 x5 x7 x8 x14 s0 h
set_option maxRecDepth 100000 in
set_option maxHeartbeats 4000000 in
theorem sM_bestPrice_10b {p : Program} {l : Launch} {e : Env} {s : State} {m : MethodId} {args : Array Value} {below : List Frame} {meth : Method} {c : Code} {G : qz_G} (X : qz_X p s m args meth c "ExactCurvesModel" prog_10_method_39_code 19 (some .long) G) {r : (Int64 × qz_N)} (y0 : Nat) (hy0 : y0 < 1) (k10 : qz_N × Int64 × Int64 × Int64 × Int32 → Option (Int64 × qz_N)) (hk10 : ∀ a, k10 a = some r → qz_W p l e (qz_R 1) s m args below meth c 0 0 (MQ below (qz_Q G r.2 (some (.long r.1))) args s 0 0 (qz_A G)) G s.heap 19 a.1 10 [(1, .long a.2.1), (3, .long a.2.2.1), (5, .long a.2.2.2.1), (7, .int a.2.2.2.2), (0, .ref (G.2.2 7 y0))] []) (N : qz_N) (x1 : Int64) (x3 : Int64) (x5 : Int64) (x7 : Int32) (h : fM_bestPrice_10b y0 k10 N x1 x3 x5 x7 = some r) : qz_W p l e (qz_R 1) s m args below meth c 0 0 (MQ below (qz_Q G r.2 (some (.long r.1))) args s 0 0 (qz_A G)) G s.heap 19 N 10 [(1, .long x1), (3, .long x3), (5, .long x5), (7, .int x7), (0, .ref (G.2.2 7 y0))] [] := by
  unfold fM_bestPrice_10b at h
  refine qz_iload X 3 rfl dq_M_bestPrice_10 ?_
  refine qz_aload_n X 4 rfl dq_M_bestPrice_12 ?_
  refine qz_get X (v := .int (qz_gi N 7 y0 17)) kq_M_152 hy0 rfl dq_M_bestPrice_13 ?_
  refine qz_icmp_ge X (tgt := 150) (by decide) dq_M_bestPrice_16 h (fun _ h => ?_) (fun _ h => ?_)
  · refine qz_lload_n X 0 rfl dq_M_bestPrice_150 ?_
    exact qz_lret X h dq_M_bestPrice_151
  · refine qz_aload_n X 4 rfl dq_M_bestPrice_19 ?_
    refine qz_get X (v := .ref (G.2.2 38 y0)) kq_M_64 hy0 rfl dq_M_bestPrice_20 ?_
    refine qz_iload X 3 rfl dq_M_bestPrice_23 ?_
    refine qz_lald X (c0 := 38) (i := y0) (n := 40) rfl hy0 dq_M_bestPrice_25 h (fun h => ?_)
    refine qz_letj h (fun v1 h => ?_)
    refine qz_lstore X (lv' := [(8, .long v1), (1, .long x1), (3, .long x3), (5, .long x5), (7, .int x7), (0, .ref (G.2.2 7 y0))]) (by decide) rfl dq_M_bestPrice_26 ?_
    refine qz_aload_n X 5 rfl dq_M_bestPrice_28 ?_
    refine qz_iconst X (v := (1 : Int32)) (by decide) dq_M_bestPrice_29 ?_
    refine qz_lload X 0 rfl dq_M_bestPrice_30 ?_
    refine qz_bind h (fun q2 e3 h => ?_)
    refine qz_callV X (as := [.int (1 : Int32), .long v1]) (st := []) (o := some (.long q2.1)) (N' := q2.2) cq_M_234 hy0 (cM_allAt l G X.2.2.2.2.2.2.1 y0 (1 : Int32) v1 N hy0 _ e3) ⟨by decide, by decide⟩ rfl rfl (Nat.le_of_ble_eq_true rfl) ⟨Nat.zero_le _, Nat.zero_le _⟩ dq_M_bestPrice_32 ?_
    refine qz_lstore X (lv' := [(10, .long q2.1), (8, .long v1), (1, .long x1), (3, .long x3), (5, .long x5), (7, .int x7), (0, .ref (G.2.2 7 y0))]) (by decide) rfl dq_M_bestPrice_35 ?_
    refine qz_aload_n X 6 rfl dq_M_bestPrice_37 ?_
    refine qz_iconst X (v := (0 : Int32)) (by decide) dq_M_bestPrice_38 ?_
    refine qz_lload X 1 rfl dq_M_bestPrice_39 ?_
    refine qz_bind h (fun q4 e5 h => ?_)
    refine qz_callV X (as := [.int (0 : Int32), .long v1]) (st := []) (o := some (.long q4.1)) (N' := q4.2) cq_M_234 hy0 (cM_allAt l G X.2.2.2.2.2.2.1 y0 (0 : Int32) v1 q2.2 hy0 _ e5) ⟨by decide, by decide⟩ rfl rfl (Nat.le_of_ble_eq_true rfl) ⟨Nat.zero_le _, Nat.zero_le _⟩ dq_M_bestPrice_41 ?_
    refine qz_lstore X (lv' := [(12, .long q4.1), (10, .long q2.1), (8, .long v1), (1, .long x1), (3, .long x3), (5, .long x5), (7, .int x7), (0, .ref (G.2.2 7 y0))]) (by decide) rfl dq_M_bestPrice_44 ?_
    refine qz_lload X 1 rfl dq_M_bestPrice_46 ?_
    refine qz_lload X 0 rfl dq_M_bestPrice_48 ?_
    refine qz_bind h (fun q6 e7 h => ?_)
    refine qz_callS X (as := [.long q2.1, .long q4.1]) (st := []) (o := some (.long q6.1)) (N' := q6.2) cq_M_200 (cM_least l G X.2.2.2.2.2.2.1 q2.1 q4.1 q4.2 _ e7) ⟨by decide, by decide⟩ rfl rfl (Nat.le_of_ble_eq_true rfl) ⟨Nat.zero_le _, Nat.zero_le _⟩ dq_M_bestPrice_50 ?_
    refine qz_lstore X (lv' := [(14, .long q6.1), (12, .long q4.1), (10, .long q2.1), (8, .long v1), (1, .long x1), (3, .long x3), (5, .long x5), (7, .int x7), (0, .ref (G.2.2 7 y0))]) (by decide) rfl dq_M_bestPrice_53 ?_
    refine qz_lload X 2 rfl dq_M_bestPrice_55 ?_
    refine qz_lload X 1 rfl dq_M_bestPrice_57 ?_
    refine qz_lcmp_ge X (tgt := 71) (by decide) dq_M_bestPrice_59 dq_M_bestPrice_60 h (fun _ h => ?_) (fun _ h => ?_)
    · refine qz_lload X 2 rfl dq_M_bestPrice_71 ?_
      refine qz_lload X 1 rfl dq_M_bestPrice_73 ?_
      refine qz_lsub X dq_M_bestPrice_75 ?_
      refine qz_sub [4, 5, 6, 7, 3, 0, 8] rfl ?_
      exact sM_bestPrice_76 X y0 hy0 k10 hk10 q6.2 x1 x3 x5 x7 v1 q6.1 (q2.1 - q4.1) h
    · refine qz_lload X 1 rfl dq_M_bestPrice_63 ?_
      refine qz_lload X 2 rfl dq_M_bestPrice_65 ?_
      refine qz_lsub X dq_M_bestPrice_67 ?_
      refine qz_goto X (tgt := 76) (by decide) dq_M_bestPrice_68 ?_
      refine qz_sub [4, 5, 6, 7, 3, 0, 8] rfl ?_
      exact sM_bestPrice_76 X y0 hy0 k10 hk10 q6.2 x1 x3 x5 x7 v1 q6.1 (q4.1 - q2.1) h
theorem sM_bestPrice_10 {p : Program} {l : Launch} {e : Env} {s : State} {m : MethodId} {args : Array Value} {below : List Frame} {meth : Method} {c : Code} {G : qz_G} (X : qz_X p s m args meth c "ExactCurvesModel" prog_10_method_39_code 19 (some .long) G) {r : (Int64 × qz_N)} (y0 : Nat) (hy0 : y0 < 1) (n : Nat) (a : qz_N × Int64 × Int64 × Int64 × Int32) (h : fM_bestPrice_10 y0 n a = some r) : qz_W p l e (qz_R 1) s m args below meth c 0 0 (MQ below (qz_Q G r.2 (some (.long r.1))) args s 0 0 (qz_A G)) G s.heap 19 a.1 10 [(1, .long a.2.1), (3, .long a.2.2.1), (5, .long a.2.2.2.1), (7, .int a.2.2.2.2), (0, .ref (G.2.2 7 y0))] [] :=
  qz_loop_ind (P := fun a => qz_W p l e (qz_R 1) s m args below meth c 0 0 (MQ below (qz_Q G r.2 (some (.long r.1))) args s 0 0 (qz_A G)) G s.heap 19 a.1 10 [(1, .long a.2.1), (3, .long a.2.2.1), (5, .long a.2.2.2.1), (7, .int a.2.2.2.2), (0, .ref (G.2.2 7 y0))] []) (fun k hk a h => sM_bestPrice_10b X y0 hy0 k hk a.1 a.2.1 a.2.2.1 a.2.2.2.1 a.2.2.2.2 h) n a h
set_option maxRecDepth 100000 in
set_option maxHeartbeats 4000000 in
theorem sM_bestPrice {p : Program} {l : Launch} {e : Env} {s : State} {m : MethodId} {args : Array Value} {below : List Frame} {meth : Method} {c : Code} {G : qz_G} (X : qz_X p s m args meth c "ExactCurvesModel" prog_10_method_39_code 19 (some .long) G) {r : (Int64 × qz_N)} (o : Nat) (ho : o < 1) (N : qz_N) (h : fM_bestPrice o N = some r) : qz_W p l e (qz_R 1) s m args below meth c 0 0 (MQ below (qz_Q G r.2 (some (.long r.1))) args s 0 0 (qz_A G)) G s.heap 19 N 0 [(0, .ref (G.2.2 7 o))] [] := by
  unfold fM_bestPrice at h
  refine qz_lconst X (v := (0 : Int64)) (by decide) dq_M_bestPrice_0 ?_
  refine qz_lstore_n X (lv' := [(1, .long (0 : Int64)), (0, .ref (G.2.2 7 o))]) rfl (by decide) rfl dq_M_bestPrice_1 ?_
  refine qz_lconst X (v := (0 : Int64)) (by decide) dq_M_bestPrice_2 ?_
  refine qz_lstore_n X (lv' := [(3, .long (0 : Int64)), (1, .long (0 : Int64)), (0, .ref (G.2.2 7 o))]) rfl (by decide) rfl dq_M_bestPrice_3 ?_
  refine qz_lconst X (v := (0 : Int64)) (by decide) dq_M_bestPrice_4 ?_
  refine qz_lstore X (lv' := [(5, .long (0 : Int64)), (3, .long (0 : Int64)), (1, .long (0 : Int64)), (0, .ref (G.2.2 7 o))]) (by decide) rfl dq_M_bestPrice_5 ?_
  refine qz_iconst X (v := (0 : Int32)) (by decide) dq_M_bestPrice_7 ?_
  refine qz_istore X (lv' := [(7, .int (0 : Int32)), (5, .long (0 : Int64)), (3, .long (0 : Int64)), (1, .long (0 : Int64)), (0, .ref (G.2.2 7 o))]) (by decide) rfl dq_M_bestPrice_8 ?_
  refine qz_sub [3, 2, 1, 0, 4] rfl ?_
  exact sM_bestPrice_10 X o ho 1100 (N, (0 : Int64), (0 : Int64), (0 : Int64), (0 : Int32)) h
theorem cM_bestPrice (l : Launch) (G : qz_G) (hD : qz_D G) (o : Nat) (N : qz_N) (ho : o < 1) (r : (Int64 × qz_N)) (h : fM_bestPrice o N = some r) : qz_M l yM_bestPrice prog_10_method_39_code 19 (some .long) 1 G [.ref (G.2.2 7 o)] N (some (.long r.1)) r.2 :=
  qz_enter (lv := [(0, .ref (G.2.2 7 o))]) rfl hD (Nat.le_of_ble_eq_true rfl) rfl (fun p e s m args below meth c X => sM_bestPrice X o ho N h)
-- ExactCurvesModel.deal(ZJJ)V
theorem dq_M_deal_0 : decode prog_10_method_40_code 0 = .ok (.lload 4, 2) := by decide +kernel
theorem dq_M_deal_2 : decode prog_10_method_40_code 2 = .ok (.lstore 6, 2) := by decide +kernel
theorem dq_M_deal_4 : decode prog_10_method_40_code 4 = .ok (.iconst 1, 1) := by decide +kernel
theorem dq_M_deal_5 : decode prog_10_method_40_code 5 = .ok (.istore 8, 2) := by decide +kernel
theorem dq_M_deal_7 : decode prog_10_method_40_code 7 = .ok (.iload 8, 2) := by decide +kernel
theorem dq_M_deal_9 : decode prog_10_method_40_code 9 = .ok (.ifCond .eq 206, 3) := by decide +kernel
theorem dq_M_deal_12 : decode prog_10_method_40_code 12 = .ok (.lload 6, 2) := by decide +kernel
theorem dq_M_deal_14 : decode prog_10_method_40_code 14 = .ok (.lconst 0, 1) := by decide +kernel
theorem dq_M_deal_15 : decode prog_10_method_40_code 15 = .ok (.lcmp, 1) := by decide +kernel
theorem dq_M_deal_16 : decode prog_10_method_40_code 16 = .ok (.ifCond .le 199, 3) := by decide +kernel
theorem dq_M_deal_19 : decode prog_10_method_40_code 19 = .ok (.iconst (-1), 1) := by decide +kernel
theorem dq_M_deal_20 : decode prog_10_method_40_code 20 = .ok (.istore 9, 2) := by decide +kernel
theorem dq_M_deal_22 : decode prog_10_method_40_code 22 = .ok (.iconst 0, 1) := by decide +kernel
theorem dq_M_deal_23 : decode prog_10_method_40_code 23 = .ok (.istore 10, 2) := by decide +kernel
theorem dq_M_deal_25 : decode prog_10_method_40_code 25 = .ok (.iload 10, 2) := by decide +kernel
theorem dq_M_deal_27 : decode prog_10_method_40_code 27 = .ok (.aload_n 0, 1) := by decide +kernel
theorem dq_M_deal_28 : decode prog_10_method_40_code 28 = .ok (.getfield 152, 3) := by decide +kernel
theorem dq_M_deal_31 : decode prog_10_method_40_code 31 = .ok (.if_icmp .ge 125, 3) := by decide +kernel
theorem dq_M_deal_34 : decode prog_10_method_40_code 34 = .ok (.aload_n 0, 1) := by decide +kernel
theorem dq_M_deal_35 : decode prog_10_method_40_code 35 = .ok (.getfield 57, 3) := by decide +kernel
theorem dq_M_deal_38 : decode prog_10_method_40_code 38 = .ok (.iload 10, 2) := by decide +kernel
theorem dq_M_deal_40 : decode prog_10_method_40_code 40 = .ok (.baload, 1) := by decide +kernel
theorem dq_M_deal_41 : decode prog_10_method_40_code 41 = .ok (.iload_n 1, 1) := by decide +kernel
theorem dq_M_deal_42 : decode prog_10_method_40_code 42 = .ok (.if_icmp .ne 48, 3) := by decide +kernel
theorem dq_M_deal_45 : decode prog_10_method_40_code 45 = .ok (.aload_n 0, 1) := by decide +kernel
theorem dq_M_deal_46 : decode prog_10_method_40_code 46 = .ok (.getfield 70, 3) := by decide +kernel
theorem dq_M_deal_49 : decode prog_10_method_40_code 49 = .ok (.iload 10, 2) := by decide +kernel
theorem dq_M_deal_51 : decode prog_10_method_40_code 51 = .ok (.baload, 1) := by decide +kernel
theorem dq_M_deal_52 : decode prog_10_method_40_code 52 = .ok (.ifCond .ne 38, 3) := by decide +kernel
theorem dq_M_deal_55 : decode prog_10_method_40_code 55 = .ok (.iload_n 1, 1) := by decide +kernel
theorem dq_M_deal_56 : decode prog_10_method_40_code 56 = .ok (.ifCond .eq 18, 3) := by decide +kernel
theorem dq_M_deal_59 : decode prog_10_method_40_code 59 = .ok (.aload_n 0, 1) := by decide +kernel
theorem dq_M_deal_60 : decode prog_10_method_40_code 60 = .ok (.getfield 64, 3) := by decide +kernel
theorem dq_M_deal_63 : decode prog_10_method_40_code 63 = .ok (.iload 10, 2) := by decide +kernel
theorem dq_M_deal_65 : decode prog_10_method_40_code 65 = .ok (.laload, 1) := by decide +kernel
theorem dq_M_deal_66 : decode prog_10_method_40_code 66 = .ok (.lload_n 2, 1) := by decide +kernel
theorem dq_M_deal_67 : decode prog_10_method_40_code 67 = .ok (.lcmp, 1) := by decide +kernel
theorem dq_M_deal_68 : decode prog_10_method_40_code 68 = .ok (.ifCond .lt 22, 3) := by decide +kernel
theorem dq_M_deal_71 : decode prog_10_method_40_code 71 = .ok (.goto 15, 3) := by decide +kernel
theorem dq_M_deal_74 : decode prog_10_method_40_code 74 = .ok (.aload_n 0, 1) := by decide +kernel
theorem dq_M_deal_75 : decode prog_10_method_40_code 75 = .ok (.getfield 64, 3) := by decide +kernel
theorem dq_M_deal_78 : decode prog_10_method_40_code 78 = .ok (.iload 10, 2) := by decide +kernel
theorem dq_M_deal_80 : decode prog_10_method_40_code 80 = .ok (.laload, 1) := by decide +kernel
theorem dq_M_deal_81 : decode prog_10_method_40_code 81 = .ok (.lload_n 2, 1) := by decide +kernel
theorem dq_M_deal_82 : decode prog_10_method_40_code 82 = .ok (.lcmp, 1) := by decide +kernel
theorem dq_M_deal_83 : decode prog_10_method_40_code 83 = .ok (.ifCond .gt 7, 3) := by decide +kernel
theorem dq_M_deal_86 : decode prog_10_method_40_code 86 = .ok (.iconst 1, 1) := by decide +kernel
theorem dq_M_deal_87 : decode prog_10_method_40_code 87 = .ok (.goto 4, 3) := by decide +kernel
theorem dq_M_deal_90 : decode prog_10_method_40_code 90 = .ok (.iconst 0, 1) := by decide +kernel
theorem dq_M_deal_91 : decode prog_10_method_40_code 91 = .ok (.istore 11, 2) := by decide +kernel
theorem dq_M_deal_93 : decode prog_10_method_40_code 93 = .ok (.iload 11, 2) := by decide +kernel
theorem dq_M_deal_95 : decode prog_10_method_40_code 95 = .ok (.ifCond .eq 55, 3) := by decide +kernel
theorem dq_M_deal_98 : decode prog_10_method_40_code 98 = .ok (.iload 9, 2) := by decide +kernel
theorem dq_M_deal_100 : decode prog_10_method_40_code 100 = .ok (.ifCond .lt 46, 3) := by decide +kernel
theorem dq_M_deal_103 : decode prog_10_method_40_code 103 = .ok (.iload_n 1, 1) := by decide +kernel
theorem dq_M_deal_104 : decode prog_10_method_40_code 104 = .ok (.ifCond .eq 24, 3) := by decide +kernel
theorem dq_M_deal_107 : decode prog_10_method_40_code 107 = .ok (.aload_n 0, 1) := by decide +kernel
theorem dq_M_deal_108 : decode prog_10_method_40_code 108 = .ok (.getfield 64, 3) := by decide +kernel
theorem dq_M_deal_111 : decode prog_10_method_40_code 111 = .ok (.iload 10, 2) := by decide +kernel
theorem dq_M_deal_113 : decode prog_10_method_40_code 113 = .ok (.laload, 1) := by decide +kernel
theorem dq_M_deal_114 : decode prog_10_method_40_code 114 = .ok (.aload_n 0, 1) := by decide +kernel
theorem dq_M_deal_115 : decode prog_10_method_40_code 115 = .ok (.getfield 64, 3) := by decide +kernel
theorem dq_M_deal_118 : decode prog_10_method_40_code 118 = .ok (.iload 9, 2) := by decide +kernel
theorem dq_M_deal_120 : decode prog_10_method_40_code 120 = .ok (.laload, 1) := by decide +kernel
theorem dq_M_deal_121 : decode prog_10_method_40_code 121 = .ok (.lcmp, 1) := by decide +kernel
theorem dq_M_deal_122 : decode prog_10_method_40_code 122 = .ok (.ifCond .le 28, 3) := by decide +kernel
theorem dq_M_deal_125 : decode prog_10_method_40_code 125 = .ok (.goto 21, 3) := by decide +kernel
theorem dq_M_deal_128 : decode prog_10_method_40_code 128 = .ok (.aload_n 0, 1) := by decide +kernel
theorem dq_M_deal_129 : decode prog_10_method_40_code 129 = .ok (.getfield 64, 3) := by decide +kernel
theorem dq_M_deal_132 : decode prog_10_method_40_code 132 = .ok (.iload 10, 2) := by decide +kernel
theorem dq_M_deal_134 : decode prog_10_method_40_code 134 = .ok (.laload, 1) := by decide +kernel
theorem dq_M_deal_135 : decode prog_10_method_40_code 135 = .ok (.aload_n 0, 1) := by decide +kernel
theorem dq_M_deal_136 : decode prog_10_method_40_code 136 = .ok (.getfield 64, 3) := by decide +kernel
theorem dq_M_deal_139 : decode prog_10_method_40_code 139 = .ok (.iload 9, 2) := by decide +kernel
theorem dq_M_deal_141 : decode prog_10_method_40_code 141 = .ok (.laload, 1) := by decide +kernel
theorem dq_M_deal_142 : decode prog_10_method_40_code 142 = .ok (.lcmp, 1) := by decide +kernel
theorem dq_M_deal_143 : decode prog_10_method_40_code 143 = .ok (.ifCond .ge 7, 3) := by decide +kernel
theorem dq_M_deal_146 : decode prog_10_method_40_code 146 = .ok (.iload 10, 2) := by decide +kernel
theorem dq_M_deal_148 : decode prog_10_method_40_code 148 = .ok (.istore 9, 2) := by decide +kernel
theorem dq_M_deal_150 : decode prog_10_method_40_code 150 = .ok (.iinc 10 1, 3) := by decide +kernel
theorem dq_M_deal_153 : decode prog_10_method_40_code 153 = .ok (.goto (-128), 3) := by decide +kernel
theorem dq_M_deal_156 : decode prog_10_method_40_code 156 = .ok (.iload 9, 2) := by decide +kernel
theorem dq_M_deal_158 : decode prog_10_method_40_code 158 = .ok (.ifCond .lt 7, 3) := by decide +kernel
theorem dq_M_deal_161 : decode prog_10_method_40_code 161 = .ok (.iconst 1, 1) := by decide +kernel
theorem dq_M_deal_162 : decode prog_10_method_40_code 162 = .ok (.goto 4, 3) := by decide +kernel
theorem dq_M_deal_165 : decode prog_10_method_40_code 165 = .ok (.iconst 0, 1) := by decide +kernel
theorem dq_M_deal_166 : decode prog_10_method_40_code 166 = .ok (.istore 8, 2) := by decide +kernel
theorem dq_M_deal_168 : decode prog_10_method_40_code 168 = .ok (.iload 8, 2) := by decide +kernel
theorem dq_M_deal_170 : decode prog_10_method_40_code 170 = .ok (.ifCond .eq 42, 3) := by decide +kernel
theorem dq_M_deal_173 : decode prog_10_method_40_code 173 = .ok (.aload_n 0, 1) := by decide +kernel
theorem dq_M_deal_174 : decode prog_10_method_40_code 174 = .ok (.getfield 70, 3) := by decide +kernel
theorem dq_M_deal_177 : decode prog_10_method_40_code 177 = .ok (.iload 9, 2) := by decide +kernel
theorem dq_M_deal_179 : decode prog_10_method_40_code 179 = .ok (.iconst 1, 1) := by decide +kernel
theorem dq_M_deal_180 : decode prog_10_method_40_code 180 = .ok (.bastore, 1) := by decide +kernel
theorem dq_M_deal_181 : decode prog_10_method_40_code 181 = .ok (.aload_n 0, 1) := by decide +kernel
theorem dq_M_deal_182 : decode prog_10_method_40_code 182 = .ok (.getfield 67, 3) := by decide +kernel
theorem dq_M_deal_185 : decode prog_10_method_40_code 185 = .ok (.iload 9, 2) := by decide +kernel
theorem dq_M_deal_187 : decode prog_10_method_40_code 187 = .ok (.lload 6, 2) := by decide +kernel
theorem dq_M_deal_189 : decode prog_10_method_40_code 189 = .ok (.aload_n 0, 1) := by decide +kernel
theorem dq_M_deal_190 : decode prog_10_method_40_code 190 = .ok (.getfield 61, 3) := by decide +kernel
theorem dq_M_deal_193 : decode prog_10_method_40_code 193 = .ok (.iload 9, 2) := by decide +kernel
theorem dq_M_deal_195 : decode prog_10_method_40_code 195 = .ok (.laload, 1) := by decide +kernel
theorem dq_M_deal_196 : decode prog_10_method_40_code 196 = .ok (.invokestatic 200, 3) := by decide +kernel
theorem dq_M_deal_199 : decode prog_10_method_40_code 199 = .ok (.lastore, 1) := by decide +kernel
theorem dq_M_deal_200 : decode prog_10_method_40_code 200 = .ok (.lload 6, 2) := by decide +kernel
theorem dq_M_deal_202 : decode prog_10_method_40_code 202 = .ok (.aload_n 0, 1) := by decide +kernel
theorem dq_M_deal_203 : decode prog_10_method_40_code 203 = .ok (.getfield 67, 3) := by decide +kernel
theorem dq_M_deal_206 : decode prog_10_method_40_code 206 = .ok (.iload 9, 2) := by decide +kernel
theorem dq_M_deal_208 : decode prog_10_method_40_code 208 = .ok (.laload, 1) := by decide +kernel
theorem dq_M_deal_209 : decode prog_10_method_40_code 209 = .ok (.lsub, 1) := by decide +kernel
theorem dq_M_deal_210 : decode prog_10_method_40_code 210 = .ok (.lstore 6, 2) := by decide +kernel
theorem dq_M_deal_212 : decode prog_10_method_40_code 212 = .ok (.goto (-205), 3) := by decide +kernel
theorem dq_M_deal_215 : decode prog_10_method_40_code 215 = .ok (.return_, 1) := by decide +kernel
def fM_deal_212 (y0 : Nat) (k7 : qz_N × Int32 × Int64 × Int64 × Int32 → Option (Unit × qz_N)) (N : qz_N) (x1 : Int32) (x2 : Int64) (x6 : Int64) (x8 : Int32) : Option (Unit × qz_N) :=
  k7 (N, x1, x2, x6, x8)
def fM_deal_166 (y0 : Nat) (k7 : qz_N × Int32 × Int64 × Int64 × Int32 → Option (Unit × qz_N)) (N : qz_N) (x1 : Int32) (x2 : Int64) (x6 : Int64) (x9 : Int32) (s0 : Int32) : Option (Unit × qz_N) :=
  if s0 = 0 then
    fM_deal_212 y0 k7 N x1 x2 x6 s0
  else
  if x9 < 0 ∨ 40 ≤ x9.toNatClampNeg then none else
  qz_let (qz_si N 40 y0 x9.toNatClampNeg (vp_nar .boolean (1 : Int32))) fun N1 =>
  if x9 < 0 ∨ 40 ≤ x9.toNatClampNeg then none else
  (fM_least x6 (qz_gl N1 37 y0 x9.toNatClampNeg) N1).bind fun q2 =>
  if x9 < 0 ∨ 40 ≤ x9.toNatClampNeg then none else
  qz_let (qz_sl q2.2 39 y0 x9.toNatClampNeg q2.1) fun N4 =>
  if x9 < 0 ∨ 40 ≤ x9.toNatClampNeg then none else
  qz_let (x6 - (qz_gl N4 39 y0 x9.toNatClampNeg)) fun v5 =>
  fM_deal_212 y0 k7 N4 x1 x2 v5 s0
def fM_deal_150 (y0 : Nat) (k25 : qz_N × Int32 × Int64 × Int64 × Int32 × Int32 → Option (Unit × qz_N)) (N : qz_N) (x1 : Int32) (x2 : Int64) (x6 : Int64) (x9 : Int32) (x10 : Int32) : Option (Unit × qz_N) :=
  qz_let (x10 + (1 : Int32)) fun v6 =>
  k25 (N, x1, x2, x6, x9, v6)
def fM_deal_146 (y0 : Nat) (k25 : qz_N × Int32 × Int64 × Int64 × Int32 × Int32 → Option (Unit × qz_N)) (N : qz_N) (x1 : Int32) (x2 : Int64) (x6 : Int64) (x10 : Int32) : Option (Unit × qz_N) :=
  fM_deal_150 y0 k25 N x1 x2 x6 x10 x10
def fM_deal_91 (y0 : Nat) (k25 : qz_N × Int32 × Int64 × Int64 × Int32 × Int32 → Option (Unit × qz_N)) (N : qz_N) (x1 : Int32) (x2 : Int64) (x6 : Int64) (x9 : Int32) (x10 : Int32) (s0 : Int32) : Option (Unit × qz_N) :=
  if s0 = 0 then
    fM_deal_150 y0 k25 N x1 x2 x6 x9 x10
  else
  if x9 < 0 then
    fM_deal_146 y0 k25 N x1 x2 x6 x10
  else
  if x1 = 0 then
    if x10 < 0 ∨ 40 ≤ x10.toNatClampNeg then none else
    if x9 < 0 ∨ 40 ≤ x9.toNatClampNeg then none else
    if (qz_gl N 38 y0 x9.toNatClampNeg) ≤ (qz_gl N 38 y0 x10.toNatClampNeg) then
      fM_deal_150 y0 k25 N x1 x2 x6 x9 x10
    else
    fM_deal_146 y0 k25 N x1 x2 x6 x10
  else
  if x10 < 0 ∨ 40 ≤ x10.toNatClampNeg then none else
  if x9 < 0 ∨ 40 ≤ x9.toNatClampNeg then none else
  if (qz_gl N 38 y0 x10.toNatClampNeg) ≤ (qz_gl N 38 y0 x9.toNatClampNeg) then
    fM_deal_150 y0 k25 N x1 x2 x6 x9 x10
  else
  fM_deal_146 y0 k25 N x1 x2 x6 x10
def fM_deal_90 (y0 : Nat) (k25 : qz_N × Int32 × Int64 × Int64 × Int32 × Int32 → Option (Unit × qz_N)) (N : qz_N) (x1 : Int32) (x2 : Int64) (x6 : Int64) (x9 : Int32) (x10 : Int32) : Option (Unit × qz_N) :=
  fM_deal_91 y0 k25 N x1 x2 x6 x9 x10 (0 : Int32)
def fM_deal_86 (y0 : Nat) (k25 : qz_N × Int32 × Int64 × Int64 × Int32 × Int32 → Option (Unit × qz_N)) (N : qz_N) (x1 : Int32) (x2 : Int64) (x6 : Int64) (x9 : Int32) (x10 : Int32) : Option (Unit × qz_N) :=
  fM_deal_91 y0 k25 N x1 x2 x6 x9 x10 (1 : Int32)
def fM_deal_25b (y0 : Nat) (k7 : qz_N × Int32 × Int64 × Int64 × Int32 → Option (Unit × qz_N)) (k25 : qz_N × Int32 × Int64 × Int64 × Int32 × Int32 → Option (Unit × qz_N)) (N : qz_N) (x1 : Int32) (x2 : Int64) (x6 : Int64) (x9 : Int32) (x10 : Int32) : Option (Unit × qz_N) :=
  if (qz_gi N 7 y0 17) ≤ x10 then
    if x9 < 0 then
      fM_deal_166 y0 k7 N x1 x2 x6 x9 (0 : Int32)
    else
    fM_deal_166 y0 k7 N x1 x2 x6 x9 (1 : Int32)
  else
  if x10 < 0 ∨ 40 ≤ x10.toNatClampNeg then none else
  if (qz_gi N 36 y0 x10.toNatClampNeg) = x1 then
    if x10 < 0 ∨ 40 ≤ x10.toNatClampNeg then none else
    if (qz_gi N 40 y0 x10.toNatClampNeg) = 0 then
      if x1 = 0 then
        if x10 < 0 ∨ 40 ≤ x10.toNatClampNeg then none else
        if x2 < (qz_gl N 38 y0 x10.toNatClampNeg) then
          fM_deal_90 y0 k25 N x1 x2 x6 x9 x10
        else
        fM_deal_86 y0 k25 N x1 x2 x6 x9 x10
      else
      if x10 < 0 ∨ 40 ≤ x10.toNatClampNeg then none else
      if (qz_gl N 38 y0 x10.toNatClampNeg) < x2 then
        fM_deal_90 y0 k25 N x1 x2 x6 x9 x10
      else
      fM_deal_86 y0 k25 N x1 x2 x6 x9 x10
    else
    fM_deal_90 y0 k25 N x1 x2 x6 x9 x10
  else
  fM_deal_90 y0 k25 N x1 x2 x6 x9 x10
def fM_deal_25 (y0 : Nat) (k7 : qz_N × Int32 × Int64 × Int64 × Int32 → Option (Unit × qz_N)) (n : Nat) (a : qz_N × Int32 × Int64 × Int64 × Int32 × Int32) : Option (Unit × qz_N) := qz_loop (fun k a => fM_deal_25b y0 k7 k a.1 a.2.1 a.2.2.1 a.2.2.2.1 a.2.2.2.2.1 a.2.2.2.2.2) n a
def fM_deal_7b (y0 : Nat) (k7 : qz_N × Int32 × Int64 × Int64 × Int32 → Option (Unit × qz_N)) (N : qz_N) (x1 : Int32) (x2 : Int64) (x6 : Int64) (x8 : Int32) : Option (Unit × qz_N) :=
  if x8 = 0 then
    some ((), N)
  else
  if x6 ≤ (0 : Int64) then
    some ((), N)
  else
  fM_deal_25 y0 k7 1100 (N, x1, x2, x6, (-1 : Int32), (0 : Int32))
def fM_deal_7 (y0 : Nat) (n : Nat) (a : qz_N × Int32 × Int64 × Int64 × Int32) : Option (Unit × qz_N) := qz_loop (fun k a => fM_deal_7b y0 k a.1 a.2.1 a.2.2.1 a.2.2.2.1 a.2.2.2.2) n a
def fM_deal (o : Nat) (x1 : Int32) (x2 : Int64) (x4 : Int64) (N : qz_N) : Option (Unit × qz_N) :=
  fM_deal_7 o 1100 (N, x1, x2, x4, (1 : Int32))
set_option maxRecDepth 100000 in
set_option maxHeartbeats 4000000 in
theorem sM_deal_212 {p : Program} {l : Launch} {e : Env} {s : State} {m : MethodId} {args : Array Value} {below : List Frame} {meth : Method} {c : Code} {G : qz_G} (X : qz_X p s m args meth c "ExactCurvesModel" prog_10_method_40_code 12 none G) {r : (Unit × qz_N)} (y0 : Nat) (hy0 : y0 < 1) (k7 : qz_N × Int32 × Int64 × Int64 × Int32 → Option (Unit × qz_N)) (hk7 : ∀ a, k7 a = some r → qz_W p l e (qz_R 1) s m args below meth c 0 0 (MQ below (qz_Q G r.2 none) args s 0 0 (qz_A G)) G s.heap 12 a.1 7 [(1, .int a.2.1), (2, .long a.2.2.1), (6, .long a.2.2.2.1), (8, .int a.2.2.2.2), (0, .ref (G.2.2 7 y0))] []) (N : qz_N) (x1 : Int32) (x2 : Int64) (x6 : Int64) (x8 : Int32) (h : fM_deal_212 y0 k7 N x1 x2 x6 x8 = some r) : qz_W p l e (qz_R 1) s m args below meth c 0 0 (MQ below (qz_Q G r.2 none) args s 0 0 (qz_A G)) G s.heap 12 N 212 [(1, .int x1), (2, .long x2), (6, .long x6), (8, .int x8), (0, .ref (G.2.2 7 y0))] [] := by
  unfold fM_deal_212 at h
  refine qz_goto X (tgt := 7) (by decide) dq_M_deal_212 ?_
  refine qz_sub [0, 1, 2, 3, 4] rfl ?_
  exact hk7 (N, x1, x2, x6, x8) h
set_option maxRecDepth 100000 in
set_option maxHeartbeats 4000000 in
theorem sM_deal_166 {p : Program} {l : Launch} {e : Env} {s : State} {m : MethodId} {args : Array Value} {below : List Frame} {meth : Method} {c : Code} {G : qz_G} (X : qz_X p s m args meth c "ExactCurvesModel" prog_10_method_40_code 12 none G) {r : (Unit × qz_N)} (y0 : Nat) (hy0 : y0 < 1) (k7 : qz_N × Int32 × Int64 × Int64 × Int32 → Option (Unit × qz_N)) (hk7 : ∀ a, k7 a = some r → qz_W p l e (qz_R 1) s m args below meth c 0 0 (MQ below (qz_Q G r.2 none) args s 0 0 (qz_A G)) G s.heap 12 a.1 7 [(1, .int a.2.1), (2, .long a.2.2.1), (6, .long a.2.2.2.1), (8, .int a.2.2.2.2), (0, .ref (G.2.2 7 y0))] []) (N : qz_N) (x1 : Int32) (x2 : Int64) (x6 : Int64) (x9 : Int32) (s0 : Int32) (h : fM_deal_166 y0 k7 N x1 x2 x6 x9 s0 = some r) : qz_W p l e (qz_R 1) s m args below meth c 0 0 (MQ below (qz_Q G r.2 none) args s 0 0 (qz_A G)) G s.heap 12 N 166 [(1, .int x1), (2, .long x2), (6, .long x6), (9, .int x9), (0, .ref (G.2.2 7 y0))] [.int s0] := by
  unfold fM_deal_166 at h
  refine qz_istore X (lv' := [(8, .int s0), (1, .int x1), (2, .long x2), (6, .long x6), (9, .int x9), (0, .ref (G.2.2 7 y0))]) (by decide) rfl dq_M_deal_166 ?_
  refine qz_iload X 0 rfl dq_M_deal_168 ?_
  refine qz_if_eq X (tgt := 212) (by decide) dq_M_deal_170 h (fun _ h => ?_) (fun _ h => ?_)
  · refine qz_sub [1, 2, 3, 0, 5] rfl ?_
    exact sM_deal_212 X y0 hy0 k7 hk7 N x1 x2 x6 s0 h
  · refine qz_aload_n X 5 rfl dq_M_deal_173 ?_
    refine qz_get X (v := .ref (G.2.2 40 y0)) kq_M_70 hy0 rfl dq_M_deal_174 ?_
    refine qz_iload X 4 rfl dq_M_deal_177 ?_
    refine qz_iconst X (v := (1 : Int32)) (by decide) dq_M_deal_179 ?_
    refine qz_zast X (c0 := 40) (i := y0) (n := 40) rfl hy0 dq_M_deal_180 h (fun N1 h => ?_)
    refine qz_aload_n X 5 rfl dq_M_deal_181 ?_
    refine qz_get X (v := .ref (G.2.2 39 y0)) kq_M_67 hy0 rfl dq_M_deal_182 ?_
    refine qz_iload X 4 rfl dq_M_deal_185 ?_
    refine qz_lload X 3 rfl dq_M_deal_187 ?_
    refine qz_aload_n X 5 rfl dq_M_deal_189 ?_
    refine qz_get X (v := .ref (G.2.2 37 y0)) kq_M_61 hy0 rfl dq_M_deal_190 ?_
    refine qz_iload X 4 rfl dq_M_deal_193 ?_
    refine qz_lald X (c0 := 37) (i := y0) (n := 40) rfl hy0 dq_M_deal_195 h (fun h => ?_)
    refine qz_bind h (fun q2 e3 h => ?_)
    refine qz_callS X (as := [.long x6, .long (qz_gl N1 37 y0 x9.toNatClampNeg)]) (st := [.int x9, .ref (G.2.2 39 y0)]) (o := some (.long q2.1)) (N' := q2.2) cq_M_200 (cM_least l G X.2.2.2.2.2.2.1 x6 (qz_gl N1 37 y0 x9.toNatClampNeg) N1 _ e3) ⟨by decide, by decide⟩ rfl rfl (Nat.le_of_ble_eq_true rfl) ⟨Nat.zero_le _, Nat.zero_le _⟩ dq_M_deal_196 ?_
    refine qz_last X (c0 := 39) (i := y0) (n := 40) rfl hy0 dq_M_deal_199 h (fun N4 h => ?_)
    refine qz_lload X 3 rfl dq_M_deal_200 ?_
    refine qz_aload_n X 5 rfl dq_M_deal_202 ?_
    refine qz_get X (v := .ref (G.2.2 39 y0)) kq_M_67 hy0 rfl dq_M_deal_203 ?_
    refine qz_iload X 4 rfl dq_M_deal_206 ?_
    refine qz_lald X (c0 := 39) (i := y0) (n := 40) rfl hy0 dq_M_deal_208 h (fun h => ?_)
    refine qz_lsub X dq_M_deal_209 ?_
    refine qz_letj h (fun v5 h => ?_)
    refine qz_lstore X (lv' := [(6, .long v5), (8, .int s0), (1, .int x1), (2, .long x2), (9, .int x9), (0, .ref (G.2.2 7 y0))]) (by decide) rfl dq_M_deal_210 ?_
    refine qz_sub [2, 3, 0, 1, 5] rfl ?_
    exact sM_deal_212 X y0 hy0 k7 hk7 N4 x1 x2 v5 s0 h
set_option maxRecDepth 100000 in
set_option maxHeartbeats 4000000 in
theorem sM_deal_150 {p : Program} {l : Launch} {e : Env} {s : State} {m : MethodId} {args : Array Value} {below : List Frame} {meth : Method} {c : Code} {G : qz_G} (X : qz_X p s m args meth c "ExactCurvesModel" prog_10_method_40_code 12 none G) {r : (Unit × qz_N)} (y0 : Nat) (hy0 : y0 < 1) (k25 : qz_N × Int32 × Int64 × Int64 × Int32 × Int32 → Option (Unit × qz_N)) (hk25 : ∀ a, k25 a = some r → qz_W p l e (qz_R 1) s m args below meth c 0 0 (MQ below (qz_Q G r.2 none) args s 0 0 (qz_A G)) G s.heap 12 a.1 25 [(1, .int a.2.1), (2, .long a.2.2.1), (6, .long a.2.2.2.1), (9, .int a.2.2.2.2.1), (10, .int a.2.2.2.2.2), (0, .ref (G.2.2 7 y0))] []) (N : qz_N) (x1 : Int32) (x2 : Int64) (x6 : Int64) (x9 : Int32) (x10 : Int32) (h : fM_deal_150 y0 k25 N x1 x2 x6 x9 x10 = some r) : qz_W p l e (qz_R 1) s m args below meth c 0 0 (MQ below (qz_Q G r.2 none) args s 0 0 (qz_A G)) G s.heap 12 N 150 [(1, .int x1), (2, .long x2), (6, .long x6), (9, .int x9), (10, .int x10), (0, .ref (G.2.2 7 y0))] [] := by
  unfold fM_deal_150 at h
  refine qz_iinc_l X (u := (1 : Int32)) (lv' := fun v6 => [(10, .int v6), (1, .int x1), (2, .long x2), (6, .long x6), (9, .int x9), (0, .ref (G.2.2 7 y0))]) (k := 4) rfl (by decide) (by decide) (fun _ => rfl) dq_M_deal_150 h (fun v6 h => ?_)
  refine qz_goto X (tgt := 25) (by decide) dq_M_deal_153 ?_
  refine qz_sub [1, 2, 3, 4, 0, 5] rfl ?_
  exact hk25 (N, x1, x2, x6, x9, v6) h
set_option maxRecDepth 100000 in
set_option maxHeartbeats 4000000 in
theorem sM_deal_146 {p : Program} {l : Launch} {e : Env} {s : State} {m : MethodId} {args : Array Value} {below : List Frame} {meth : Method} {c : Code} {G : qz_G} (X : qz_X p s m args meth c "ExactCurvesModel" prog_10_method_40_code 12 none G) {r : (Unit × qz_N)} (y0 : Nat) (hy0 : y0 < 1) (k25 : qz_N × Int32 × Int64 × Int64 × Int32 × Int32 → Option (Unit × qz_N)) (hk25 : ∀ a, k25 a = some r → qz_W p l e (qz_R 1) s m args below meth c 0 0 (MQ below (qz_Q G r.2 none) args s 0 0 (qz_A G)) G s.heap 12 a.1 25 [(1, .int a.2.1), (2, .long a.2.2.1), (6, .long a.2.2.2.1), (9, .int a.2.2.2.2.1), (10, .int a.2.2.2.2.2), (0, .ref (G.2.2 7 y0))] []) (N : qz_N) (x1 : Int32) (x2 : Int64) (x6 : Int64) (x10 : Int32) (h : fM_deal_146 y0 k25 N x1 x2 x6 x10 = some r) : qz_W p l e (qz_R 1) s m args below meth c 0 0 (MQ below (qz_Q G r.2 none) args s 0 0 (qz_A G)) G s.heap 12 N 146 [(1, .int x1), (2, .long x2), (6, .long x6), (10, .int x10), (0, .ref (G.2.2 7 y0))] [] := by
  unfold fM_deal_146 at h
  refine qz_iload X 3 rfl dq_M_deal_146 ?_
  refine qz_istore X (lv' := [(9, .int x10), (1, .int x1), (2, .long x2), (6, .long x6), (10, .int x10), (0, .ref (G.2.2 7 y0))]) (by decide) rfl dq_M_deal_148 ?_
  refine qz_sub [1, 2, 3, 0, 4, 5] rfl ?_
  exact sM_deal_150 X y0 hy0 k25 hk25 N x1 x2 x6 x10 x10 h
set_option maxRecDepth 100000 in
set_option maxHeartbeats 4000000 in
theorem sM_deal_91 {p : Program} {l : Launch} {e : Env} {s : State} {m : MethodId} {args : Array Value} {below : List Frame} {meth : Method} {c : Code} {G : qz_G} (X : qz_X p s m args meth c "ExactCurvesModel" prog_10_method_40_code 12 none G) {r : (Unit × qz_N)} (y0 : Nat) (hy0 : y0 < 1) (k25 : qz_N × Int32 × Int64 × Int64 × Int32 × Int32 → Option (Unit × qz_N)) (hk25 : ∀ a, k25 a = some r → qz_W p l e (qz_R 1) s m args below meth c 0 0 (MQ below (qz_Q G r.2 none) args s 0 0 (qz_A G)) G s.heap 12 a.1 25 [(1, .int a.2.1), (2, .long a.2.2.1), (6, .long a.2.2.2.1), (9, .int a.2.2.2.2.1), (10, .int a.2.2.2.2.2), (0, .ref (G.2.2 7 y0))] []) (N : qz_N) (x1 : Int32) (x2 : Int64) (x6 : Int64) (x9 : Int32) (x10 : Int32) (s0 : Int32) (h : fM_deal_91 y0 k25 N x1 x2 x6 x9 x10 s0 = some r) : qz_W p l e (qz_R 1) s m args below meth c 0 0 (MQ below (qz_Q G r.2 none) args s 0 0 (qz_A G)) G s.heap 12 N 91 [(1, .int x1), (2, .long x2), (6, .long x6), (9, .int x9), (10, .int x10), (0, .ref (G.2.2 7 y0))] [.int s0] := by
  unfold fM_deal_91 at h
  refine qz_istore X (lv' := [(11, .int s0), (1, .int x1), (2, .long x2), (6, .long x6), (9, .int x9), (10, .int x10), (0, .ref (G.2.2 7 y0))]) (by decide) rfl dq_M_deal_91 ?_
  refine qz_iload X 0 rfl dq_M_deal_93 ?_
  refine qz_if_eq X (tgt := 150) (by decide) dq_M_deal_95 h (fun _ h => ?_) (fun _ h => ?_)
  · refine qz_sub [1, 2, 3, 4, 5, 6] rfl ?_
    exact sM_deal_150 X y0 hy0 k25 hk25 N x1 x2 x6 x9 x10 h
  · refine qz_iload X 4 rfl dq_M_deal_98 ?_
    refine qz_if_lt X (tgt := 146) (by decide) dq_M_deal_100 h (fun _ h => ?_) (fun _ h => ?_)
    · refine qz_sub [1, 2, 3, 5, 6] rfl ?_
      exact sM_deal_146 X y0 hy0 k25 hk25 N x1 x2 x6 x10 h
    · refine qz_iload_n X 1 rfl dq_M_deal_103 ?_
      refine qz_if_eq X (tgt := 128) (by decide) dq_M_deal_104 h (fun _ h => ?_) (fun _ h => ?_)
      · refine qz_aload_n X 6 rfl dq_M_deal_128 ?_
        refine qz_get X (v := .ref (G.2.2 38 y0)) kq_M_64 hy0 rfl dq_M_deal_129 ?_
        refine qz_iload X 5 rfl dq_M_deal_132 ?_
        refine qz_lald X (c0 := 38) (i := y0) (n := 40) rfl hy0 dq_M_deal_134 h (fun h => ?_)
        refine qz_aload_n X 6 rfl dq_M_deal_135 ?_
        refine qz_get X (v := .ref (G.2.2 38 y0)) kq_M_64 hy0 rfl dq_M_deal_136 ?_
        refine qz_iload X 4 rfl dq_M_deal_139 ?_
        refine qz_lald X (c0 := 38) (i := y0) (n := 40) rfl hy0 dq_M_deal_141 h (fun h => ?_)
        refine qz_lcmp_ge X (tgt := 150) (by decide) dq_M_deal_142 dq_M_deal_143 h (fun _ h => ?_) (fun _ h => ?_)
        · refine qz_sub [1, 2, 3, 4, 5, 6] rfl ?_
          exact sM_deal_150 X y0 hy0 k25 hk25 N x1 x2 x6 x9 x10 h
        · refine qz_sub [1, 2, 3, 5, 6] rfl ?_
          exact sM_deal_146 X y0 hy0 k25 hk25 N x1 x2 x6 x10 h
      · refine qz_aload_n X 6 rfl dq_M_deal_107 ?_
        refine qz_get X (v := .ref (G.2.2 38 y0)) kq_M_64 hy0 rfl dq_M_deal_108 ?_
        refine qz_iload X 5 rfl dq_M_deal_111 ?_
        refine qz_lald X (c0 := 38) (i := y0) (n := 40) rfl hy0 dq_M_deal_113 h (fun h => ?_)
        refine qz_aload_n X 6 rfl dq_M_deal_114 ?_
        refine qz_get X (v := .ref (G.2.2 38 y0)) kq_M_64 hy0 rfl dq_M_deal_115 ?_
        refine qz_iload X 4 rfl dq_M_deal_118 ?_
        refine qz_lald X (c0 := 38) (i := y0) (n := 40) rfl hy0 dq_M_deal_120 h (fun h => ?_)
        refine qz_lcmp_le X (tgt := 150) (by decide) dq_M_deal_121 dq_M_deal_122 h (fun _ h => ?_) (fun _ h => ?_)
        · refine qz_sub [1, 2, 3, 4, 5, 6] rfl ?_
          exact sM_deal_150 X y0 hy0 k25 hk25 N x1 x2 x6 x9 x10 h
        · refine qz_goto X (tgt := 146) (by decide) dq_M_deal_125 ?_
          refine qz_sub [1, 2, 3, 5, 6] rfl ?_
          exact sM_deal_146 X y0 hy0 k25 hk25 N x1 x2 x6 x10 h
set_option maxRecDepth 100000 in
set_option maxHeartbeats 4000000 in
theorem sM_deal_90 {p : Program} {l : Launch} {e : Env} {s : State} {m : MethodId} {args : Array Value} {below : List Frame} {meth : Method} {c : Code} {G : qz_G} (X : qz_X p s m args meth c "ExactCurvesModel" prog_10_method_40_code 12 none G) {r : (Unit × qz_N)} (y0 : Nat) (hy0 : y0 < 1) (k25 : qz_N × Int32 × Int64 × Int64 × Int32 × Int32 → Option (Unit × qz_N)) (hk25 : ∀ a, k25 a = some r → qz_W p l e (qz_R 1) s m args below meth c 0 0 (MQ below (qz_Q G r.2 none) args s 0 0 (qz_A G)) G s.heap 12 a.1 25 [(1, .int a.2.1), (2, .long a.2.2.1), (6, .long a.2.2.2.1), (9, .int a.2.2.2.2.1), (10, .int a.2.2.2.2.2), (0, .ref (G.2.2 7 y0))] []) (N : qz_N) (x1 : Int32) (x2 : Int64) (x6 : Int64) (x9 : Int32) (x10 : Int32) (h : fM_deal_90 y0 k25 N x1 x2 x6 x9 x10 = some r) : qz_W p l e (qz_R 1) s m args below meth c 0 0 (MQ below (qz_Q G r.2 none) args s 0 0 (qz_A G)) G s.heap 12 N 90 [(1, .int x1), (2, .long x2), (6, .long x6), (9, .int x9), (10, .int x10), (0, .ref (G.2.2 7 y0))] [] := by
  unfold fM_deal_90 at h
  refine qz_iconst X (v := (0 : Int32)) (by decide) dq_M_deal_90 ?_
  refine qz_sub [0, 1, 2, 3, 4, 5] rfl ?_
  exact sM_deal_91 X y0 hy0 k25 hk25 N x1 x2 x6 x9 x10 (0 : Int32) h
set_option maxRecDepth 100000 in
set_option maxHeartbeats 4000000 in
theorem sM_deal_86 {p : Program} {l : Launch} {e : Env} {s : State} {m : MethodId} {args : Array Value} {below : List Frame} {meth : Method} {c : Code} {G : qz_G} (X : qz_X p s m args meth c "ExactCurvesModel" prog_10_method_40_code 12 none G) {r : (Unit × qz_N)} (y0 : Nat) (hy0 : y0 < 1) (k25 : qz_N × Int32 × Int64 × Int64 × Int32 × Int32 → Option (Unit × qz_N)) (hk25 : ∀ a, k25 a = some r → qz_W p l e (qz_R 1) s m args below meth c 0 0 (MQ below (qz_Q G r.2 none) args s 0 0 (qz_A G)) G s.heap 12 a.1 25 [(1, .int a.2.1), (2, .long a.2.2.1), (6, .long a.2.2.2.1), (9, .int a.2.2.2.2.1), (10, .int a.2.2.2.2.2), (0, .ref (G.2.2 7 y0))] []) (N : qz_N) (x1 : Int32) (x2 : Int64) (x6 : Int64) (x9 : Int32) (x10 : Int32) (h : fM_deal_86 y0 k25 N x1 x2 x6 x9 x10 = some r) : qz_W p l e (qz_R 1) s m args below meth c 0 0 (MQ below (qz_Q G r.2 none) args s 0 0 (qz_A G)) G s.heap 12 N 86 [(1, .int x1), (2, .long x2), (6, .long x6), (9, .int x9), (10, .int x10), (0, .ref (G.2.2 7 y0))] [] := by
  unfold fM_deal_86 at h
  refine qz_iconst X (v := (1 : Int32)) (by decide) dq_M_deal_86 ?_
  refine qz_goto X (tgt := 91) (by decide) dq_M_deal_87 ?_
  refine qz_sub [0, 1, 2, 3, 4, 5] rfl ?_
  exact sM_deal_91 X y0 hy0 k25 hk25 N x1 x2 x6 x9 x10 (1 : Int32) h
set_option maxRecDepth 100000 in
set_option maxHeartbeats 4000000 in
theorem sM_deal_25b {p : Program} {l : Launch} {e : Env} {s : State} {m : MethodId} {args : Array Value} {below : List Frame} {meth : Method} {c : Code} {G : qz_G} (X : qz_X p s m args meth c "ExactCurvesModel" prog_10_method_40_code 12 none G) {r : (Unit × qz_N)} (y0 : Nat) (hy0 : y0 < 1) (k7 : qz_N × Int32 × Int64 × Int64 × Int32 → Option (Unit × qz_N)) (k25 : qz_N × Int32 × Int64 × Int64 × Int32 × Int32 → Option (Unit × qz_N)) (hk7 : ∀ a, k7 a = some r → qz_W p l e (qz_R 1) s m args below meth c 0 0 (MQ below (qz_Q G r.2 none) args s 0 0 (qz_A G)) G s.heap 12 a.1 7 [(1, .int a.2.1), (2, .long a.2.2.1), (6, .long a.2.2.2.1), (8, .int a.2.2.2.2), (0, .ref (G.2.2 7 y0))] []) (hk25 : ∀ a, k25 a = some r → qz_W p l e (qz_R 1) s m args below meth c 0 0 (MQ below (qz_Q G r.2 none) args s 0 0 (qz_A G)) G s.heap 12 a.1 25 [(1, .int a.2.1), (2, .long a.2.2.1), (6, .long a.2.2.2.1), (9, .int a.2.2.2.2.1), (10, .int a.2.2.2.2.2), (0, .ref (G.2.2 7 y0))] []) (N : qz_N) (x1 : Int32) (x2 : Int64) (x6 : Int64) (x9 : Int32) (x10 : Int32) (h : fM_deal_25b y0 k7 k25 N x1 x2 x6 x9 x10 = some r) : qz_W p l e (qz_R 1) s m args below meth c 0 0 (MQ below (qz_Q G r.2 none) args s 0 0 (qz_A G)) G s.heap 12 N 25 [(1, .int x1), (2, .long x2), (6, .long x6), (9, .int x9), (10, .int x10), (0, .ref (G.2.2 7 y0))] [] := by
  unfold fM_deal_25b at h
  refine qz_iload X 4 rfl dq_M_deal_25 ?_
  refine qz_aload_n X 5 rfl dq_M_deal_27 ?_
  refine qz_get X (v := .int (qz_gi N 7 y0 17)) kq_M_152 hy0 rfl dq_M_deal_28 ?_
  refine qz_icmp_ge X (tgt := 156) (by decide) dq_M_deal_31 h (fun _ h => ?_) (fun _ h => ?_)
  · refine qz_iload X 3 rfl dq_M_deal_156 ?_
    refine qz_if_lt X (tgt := 165) (by decide) dq_M_deal_158 h (fun _ h => ?_) (fun _ h => ?_)
    · refine qz_iconst X (v := (0 : Int32)) (by decide) dq_M_deal_165 ?_
      refine qz_sub [0, 1, 2, 3, 5] rfl ?_
      exact sM_deal_166 X y0 hy0 k7 hk7 N x1 x2 x6 x9 (0 : Int32) h
    · refine qz_iconst X (v := (1 : Int32)) (by decide) dq_M_deal_161 ?_
      refine qz_goto X (tgt := 166) (by decide) dq_M_deal_162 ?_
      refine qz_sub [0, 1, 2, 3, 5] rfl ?_
      exact sM_deal_166 X y0 hy0 k7 hk7 N x1 x2 x6 x9 (1 : Int32) h
  · refine qz_aload_n X 5 rfl dq_M_deal_34 ?_
    refine qz_get X (v := .ref (G.2.2 36 y0)) kq_M_57 hy0 rfl dq_M_deal_35 ?_
    refine qz_iload X 4 rfl dq_M_deal_38 ?_
    refine qz_zald X (c0 := 36) (i := y0) (n := 40) rfl hy0 dq_M_deal_40 h (fun h => ?_)
    refine qz_iload_n X 0 rfl dq_M_deal_41 ?_
    refine qz_icmp_ne X (tgt := 90) (by decide) dq_M_deal_42 h (fun _ h => ?_) (fun _ h => ?_)
    · refine qz_sub [0, 1, 2, 3, 4, 5] rfl ?_
      exact sM_deal_90 X y0 hy0 k25 hk25 N x1 x2 x6 x9 x10 h
    · refine qz_aload_n X 5 rfl dq_M_deal_45 ?_
      refine qz_get X (v := .ref (G.2.2 40 y0)) kq_M_70 hy0 rfl dq_M_deal_46 ?_
      refine qz_iload X 4 rfl dq_M_deal_49 ?_
      refine qz_zald X (c0 := 40) (i := y0) (n := 40) rfl hy0 dq_M_deal_51 h (fun h => ?_)
      refine qz_if_ne X (tgt := 90) (by decide) dq_M_deal_52 h (fun _ h => ?_) (fun _ h => ?_)
      · refine qz_sub [0, 1, 2, 3, 4, 5] rfl ?_
        exact sM_deal_90 X y0 hy0 k25 hk25 N x1 x2 x6 x9 x10 h
      · refine qz_iload_n X 0 rfl dq_M_deal_55 ?_
        refine qz_if_eq X (tgt := 74) (by decide) dq_M_deal_56 h (fun _ h => ?_) (fun _ h => ?_)
        · refine qz_aload_n X 5 rfl dq_M_deal_74 ?_
          refine qz_get X (v := .ref (G.2.2 38 y0)) kq_M_64 hy0 rfl dq_M_deal_75 ?_
          refine qz_iload X 4 rfl dq_M_deal_78 ?_
          refine qz_lald X (c0 := 38) (i := y0) (n := 40) rfl hy0 dq_M_deal_80 h (fun h => ?_)
          refine qz_lload_n X 1 rfl dq_M_deal_81 ?_
          refine qz_lcmp_gt X (tgt := 90) (by decide) dq_M_deal_82 dq_M_deal_83 h (fun _ h => ?_) (fun _ h => ?_)
          · refine qz_sub [0, 1, 2, 3, 4, 5] rfl ?_
            exact sM_deal_90 X y0 hy0 k25 hk25 N x1 x2 x6 x9 x10 h
          · refine qz_sub [0, 1, 2, 3, 4, 5] rfl ?_
            exact sM_deal_86 X y0 hy0 k25 hk25 N x1 x2 x6 x9 x10 h
        · refine qz_aload_n X 5 rfl dq_M_deal_59 ?_
          refine qz_get X (v := .ref (G.2.2 38 y0)) kq_M_64 hy0 rfl dq_M_deal_60 ?_
          refine qz_iload X 4 rfl dq_M_deal_63 ?_
          refine qz_lald X (c0 := 38) (i := y0) (n := 40) rfl hy0 dq_M_deal_65 h (fun h => ?_)
          refine qz_lload_n X 1 rfl dq_M_deal_66 ?_
          refine qz_lcmp_lt X (tgt := 90) (by decide) dq_M_deal_67 dq_M_deal_68 h (fun _ h => ?_) (fun _ h => ?_)
          · refine qz_sub [0, 1, 2, 3, 4, 5] rfl ?_
            exact sM_deal_90 X y0 hy0 k25 hk25 N x1 x2 x6 x9 x10 h
          · refine qz_goto X (tgt := 86) (by decide) dq_M_deal_71 ?_
            refine qz_sub [0, 1, 2, 3, 4, 5] rfl ?_
            exact sM_deal_86 X y0 hy0 k25 hk25 N x1 x2 x6 x9 x10 h
theorem sM_deal_25 {p : Program} {l : Launch} {e : Env} {s : State} {m : MethodId} {args : Array Value} {below : List Frame} {meth : Method} {c : Code} {G : qz_G} (X : qz_X p s m args meth c "ExactCurvesModel" prog_10_method_40_code 12 none G) {r : (Unit × qz_N)} (y0 : Nat) (hy0 : y0 < 1) (k7 : qz_N × Int32 × Int64 × Int64 × Int32 → Option (Unit × qz_N)) (hk7 : ∀ a, k7 a = some r → qz_W p l e (qz_R 1) s m args below meth c 0 0 (MQ below (qz_Q G r.2 none) args s 0 0 (qz_A G)) G s.heap 12 a.1 7 [(1, .int a.2.1), (2, .long a.2.2.1), (6, .long a.2.2.2.1), (8, .int a.2.2.2.2), (0, .ref (G.2.2 7 y0))] []) (n : Nat) (a : qz_N × Int32 × Int64 × Int64 × Int32 × Int32) (h : fM_deal_25 y0 k7 n a = some r) : qz_W p l e (qz_R 1) s m args below meth c 0 0 (MQ below (qz_Q G r.2 none) args s 0 0 (qz_A G)) G s.heap 12 a.1 25 [(1, .int a.2.1), (2, .long a.2.2.1), (6, .long a.2.2.2.1), (9, .int a.2.2.2.2.1), (10, .int a.2.2.2.2.2), (0, .ref (G.2.2 7 y0))] [] :=
  qz_loop_ind (P := fun a => qz_W p l e (qz_R 1) s m args below meth c 0 0 (MQ below (qz_Q G r.2 none) args s 0 0 (qz_A G)) G s.heap 12 a.1 25 [(1, .int a.2.1), (2, .long a.2.2.1), (6, .long a.2.2.2.1), (9, .int a.2.2.2.2.1), (10, .int a.2.2.2.2.2), (0, .ref (G.2.2 7 y0))] []) (fun k hk a h => sM_deal_25b X y0 hy0 k7 k hk7 hk a.1 a.2.1 a.2.2.1 a.2.2.2.1 a.2.2.2.2.1 a.2.2.2.2.2 h) n a h
set_option maxRecDepth 100000 in
set_option maxHeartbeats 4000000 in
theorem sM_deal_7b {p : Program} {l : Launch} {e : Env} {s : State} {m : MethodId} {args : Array Value} {below : List Frame} {meth : Method} {c : Code} {G : qz_G} (X : qz_X p s m args meth c "ExactCurvesModel" prog_10_method_40_code 12 none G) {r : (Unit × qz_N)} (y0 : Nat) (hy0 : y0 < 1) (k7 : qz_N × Int32 × Int64 × Int64 × Int32 → Option (Unit × qz_N)) (hk7 : ∀ a, k7 a = some r → qz_W p l e (qz_R 1) s m args below meth c 0 0 (MQ below (qz_Q G r.2 none) args s 0 0 (qz_A G)) G s.heap 12 a.1 7 [(1, .int a.2.1), (2, .long a.2.2.1), (6, .long a.2.2.2.1), (8, .int a.2.2.2.2), (0, .ref (G.2.2 7 y0))] []) (N : qz_N) (x1 : Int32) (x2 : Int64) (x6 : Int64) (x8 : Int32) (h : fM_deal_7b y0 k7 N x1 x2 x6 x8 = some r) : qz_W p l e (qz_R 1) s m args below meth c 0 0 (MQ below (qz_Q G r.2 none) args s 0 0 (qz_A G)) G s.heap 12 N 7 [(1, .int x1), (2, .long x2), (6, .long x6), (8, .int x8), (0, .ref (G.2.2 7 y0))] [] := by
  unfold fM_deal_7b at h
  refine qz_iload X 3 rfl dq_M_deal_7 ?_
  refine qz_if_eq X (tgt := 215) (by decide) dq_M_deal_9 h (fun _ h => ?_) (fun _ h => ?_)
  · exact qz_vret X h dq_M_deal_215
  · refine qz_lload X 2 rfl dq_M_deal_12 ?_
    refine qz_lconst X (v := (0 : Int64)) (by decide) dq_M_deal_14 ?_
    refine qz_lcmp_le X (tgt := 215) (by decide) dq_M_deal_15 dq_M_deal_16 h (fun _ h => ?_) (fun _ h => ?_)
    · exact qz_vret X h dq_M_deal_215
    · refine qz_iconst X (v := (-1 : Int32)) (by decide) dq_M_deal_19 ?_
      refine qz_istore X (lv' := [(9, .int (-1 : Int32)), (1, .int x1), (2, .long x2), (6, .long x6), (8, .int x8), (0, .ref (G.2.2 7 y0))]) (by decide) rfl dq_M_deal_20 ?_
      refine qz_iconst X (v := (0 : Int32)) (by decide) dq_M_deal_22 ?_
      refine qz_istore X (lv' := [(10, .int (0 : Int32)), (9, .int (-1 : Int32)), (1, .int x1), (2, .long x2), (6, .long x6), (8, .int x8), (0, .ref (G.2.2 7 y0))]) (by decide) rfl dq_M_deal_23 ?_
      refine qz_sub [2, 3, 4, 1, 0, 6] rfl ?_
      exact sM_deal_25 X y0 hy0 k7 hk7 1100 (N, x1, x2, x6, (-1 : Int32), (0 : Int32)) h
theorem sM_deal_7 {p : Program} {l : Launch} {e : Env} {s : State} {m : MethodId} {args : Array Value} {below : List Frame} {meth : Method} {c : Code} {G : qz_G} (X : qz_X p s m args meth c "ExactCurvesModel" prog_10_method_40_code 12 none G) {r : (Unit × qz_N)} (y0 : Nat) (hy0 : y0 < 1) (n : Nat) (a : qz_N × Int32 × Int64 × Int64 × Int32) (h : fM_deal_7 y0 n a = some r) : qz_W p l e (qz_R 1) s m args below meth c 0 0 (MQ below (qz_Q G r.2 none) args s 0 0 (qz_A G)) G s.heap 12 a.1 7 [(1, .int a.2.1), (2, .long a.2.2.1), (6, .long a.2.2.2.1), (8, .int a.2.2.2.2), (0, .ref (G.2.2 7 y0))] [] :=
  qz_loop_ind (P := fun a => qz_W p l e (qz_R 1) s m args below meth c 0 0 (MQ below (qz_Q G r.2 none) args s 0 0 (qz_A G)) G s.heap 12 a.1 7 [(1, .int a.2.1), (2, .long a.2.2.1), (6, .long a.2.2.2.1), (8, .int a.2.2.2.2), (0, .ref (G.2.2 7 y0))] []) (fun k hk a h => sM_deal_7b X y0 hy0 k hk a.1 a.2.1 a.2.2.1 a.2.2.2.1 a.2.2.2.2 h) n a h
set_option maxRecDepth 100000 in
set_option maxHeartbeats 4000000 in
theorem sM_deal {p : Program} {l : Launch} {e : Env} {s : State} {m : MethodId} {args : Array Value} {below : List Frame} {meth : Method} {c : Code} {G : qz_G} (X : qz_X p s m args meth c "ExactCurvesModel" prog_10_method_40_code 12 none G) {r : (Unit × qz_N)} (o : Nat) (x1 : Int32) (x2 : Int64) (x4 : Int64) (ho : o < 1) (N : qz_N) (h : fM_deal o x1 x2 x4 N = some r) : qz_W p l e (qz_R 1) s m args below meth c 0 0 (MQ below (qz_Q G r.2 none) args s 0 0 (qz_A G)) G s.heap 12 N 0 [(0, .ref (G.2.2 7 o)), (1, .int x1), (2, .long x2), (4, .long x4)] [] := by
  unfold fM_deal at h
  refine qz_lload X 3 rfl dq_M_deal_0 ?_
  refine qz_lstore X (lv' := [(6, .long x4), (0, .ref (G.2.2 7 o)), (1, .int x1), (2, .long x2), (4, .long x4)]) (by decide) rfl dq_M_deal_2 ?_
  refine qz_iconst X (v := (1 : Int32)) (by decide) dq_M_deal_4 ?_
  refine qz_istore X (lv' := [(8, .int (1 : Int32)), (6, .long x4), (0, .ref (G.2.2 7 o)), (1, .int x1), (2, .long x2), (4, .long x4)]) (by decide) rfl dq_M_deal_5 ?_
  refine qz_sub [3, 4, 1, 0, 2] rfl ?_
  exact sM_deal_7 X o ho 1100 (N, x1, x2, x4, (1 : Int32)) h
theorem cM_deal (l : Launch) (G : qz_G) (hD : qz_D G) (o : Nat) (x1 : Int32) (x2 : Int64) (x4 : Int64) (N : qz_N) (ho : o < 1) (r : (Unit × qz_N)) (h : fM_deal o x1 x2 x4 N = some r) : qz_M l yM_deal prog_10_method_40_code 12 none 1 G [.ref (G.2.2 7 o), .int x1, .long x2, .long x4] N none r.2 :=
  qz_enter (lv := [(0, .ref (G.2.2 7 o)), (1, .int x1), (2, .long x2), (4, .long x4)]) rfl hD (Nat.le_of_ble_eq_true rfl) rfl (fun p e s m args below meth c X => sM_deal X o x1 x2 x4 ho N h)
