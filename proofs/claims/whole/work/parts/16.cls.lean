-- ExactCurves$Batch.soldAt(J)J
theorem dq_B_soldAt_0 : decode prog_2_method_5_code 0 = .ok (.lconst 0, 1) := by decide +kernel
theorem dq_B_soldAt_1 : decode prog_2_method_5_code 1 = .ok (.lstore_n 3, 1) := by decide +kernel
theorem dq_B_soldAt_2 : decode prog_2_method_5_code 2 = .ok (.iconst 0, 1) := by decide +kernel
theorem dq_B_soldAt_3 : decode prog_2_method_5_code 3 = .ok (.istore 5, 2) := by decide +kernel
theorem dq_B_soldAt_5 : decode prog_2_method_5_code 5 = .ok (.iload 5, 2) := by decide +kernel
theorem dq_B_soldAt_7 : decode prog_2_method_5_code 7 = .ok (.aload_n 0, 1) := by decide +kernel
theorem dq_B_soldAt_8 : decode prog_2_method_5_code 8 = .ok (.getfield 38, 3) := by decide +kernel
theorem dq_B_soldAt_11 : decode prog_2_method_5_code 11 = .ok (.if_icmp .ge 41, 3) := by decide +kernel
theorem dq_B_soldAt_14 : decode prog_2_method_5_code 14 = .ok (.aload_n 0, 1) := by decide +kernel
theorem dq_B_soldAt_15 : decode prog_2_method_5_code 15 = .ok (.getfield 15, 3) := by decide +kernel
theorem dq_B_soldAt_18 : decode prog_2_method_5_code 18 = .ok (.iload 5, 2) := by decide +kernel
theorem dq_B_soldAt_20 : decode prog_2_method_5_code 20 = .ok (.baload, 1) := by decide +kernel
theorem dq_B_soldAt_21 : decode prog_2_method_5_code 21 = .ok (.ifCond .ne 25, 3) := by decide +kernel
theorem dq_B_soldAt_24 : decode prog_2_method_5_code 24 = .ok (.aload_n 0, 1) := by decide +kernel
theorem dq_B_soldAt_25 : decode prog_2_method_5_code 25 = .ok (.getfield 23, 3) := by decide +kernel
theorem dq_B_soldAt_28 : decode prog_2_method_5_code 28 = .ok (.iload 5, 2) := by decide +kernel
theorem dq_B_soldAt_30 : decode prog_2_method_5_code 30 = .ok (.laload, 1) := by decide +kernel
theorem dq_B_soldAt_31 : decode prog_2_method_5_code 31 = .ok (.lload_n 1, 1) := by decide +kernel
theorem dq_B_soldAt_32 : decode prog_2_method_5_code 32 = .ok (.lcmp, 1) := by decide +kernel
theorem dq_B_soldAt_33 : decode prog_2_method_5_code 33 = .ok (.ifCond .gt 13, 3) := by decide +kernel
theorem dq_B_soldAt_36 : decode prog_2_method_5_code 36 = .ok (.lload_n 3, 1) := by decide +kernel
theorem dq_B_soldAt_37 : decode prog_2_method_5_code 37 = .ok (.aload_n 0, 1) := by decide +kernel
theorem dq_B_soldAt_38 : decode prog_2_method_5_code 38 = .ok (.getfield 19, 3) := by decide +kernel
theorem dq_B_soldAt_41 : decode prog_2_method_5_code 41 = .ok (.iload 5, 2) := by decide +kernel
theorem dq_B_soldAt_43 : decode prog_2_method_5_code 43 = .ok (.laload, 1) := by decide +kernel
theorem dq_B_soldAt_44 : decode prog_2_method_5_code 44 = .ok (.ladd, 1) := by decide +kernel
theorem dq_B_soldAt_45 : decode prog_2_method_5_code 45 = .ok (.lstore_n 3, 1) := by decide +kernel
theorem dq_B_soldAt_46 : decode prog_2_method_5_code 46 = .ok (.iinc 5 1, 3) := by decide +kernel
theorem dq_B_soldAt_49 : decode prog_2_method_5_code 49 = .ok (.goto (-44), 3) := by decide +kernel
theorem dq_B_soldAt_52 : decode prog_2_method_5_code 52 = .ok (.lload_n 3, 1) := by decide +kernel
theorem dq_B_soldAt_53 : decode prog_2_method_5_code 53 = .ok (.lreturn, 1) := by decide +kernel
def fB_soldAt_46 (y0 : Nat) (k5 : qz_N × Int64 × Int64 × Int32 → Option (Int64 × qz_N)) (N : qz_N) (x1 : Int64) (x3 : Int64) (x5 : Int32) : Option (Int64 × qz_N) :=
  qz_let (x5 + (1 : Int32)) fun v1 =>
  k5 (N, x1, x3, v1)
def fB_soldAt_5b (y0 : Nat) (k5 : qz_N × Int64 × Int64 × Int32 → Option (Int64 × qz_N)) (N : qz_N) (x1 : Int64) (x3 : Int64) (x5 : Int32) : Option (Int64 × qz_N) :=
  if (qz_gi N 4 y0 7) ≤ x5 then
    some (x3, N)
  else
  if x5 < 0 ∨ 40 ≤ x5.toNatClampNeg then none else
  if (qz_gi N 17 y0 x5.toNatClampNeg) = 0 then
    if x5 < 0 ∨ 40 ≤ x5.toNatClampNeg then none else
    if x1 < (qz_gl N 19 y0 x5.toNatClampNeg) then
      fB_soldAt_46 y0 k5 N x1 x3 x5
    else
    if x5 < 0 ∨ 40 ≤ x5.toNatClampNeg then none else
    qz_let (x3 + (qz_gl N 18 y0 x5.toNatClampNeg)) fun v2 =>
    fB_soldAt_46 y0 k5 N x1 v2 x5
  else
  fB_soldAt_46 y0 k5 N x1 x3 x5
def fB_soldAt_5 (y0 : Nat) (n : Nat) (a : qz_N × Int64 × Int64 × Int32) : Option (Int64 × qz_N) := qz_loop (fun k a => fB_soldAt_5b y0 k a.1 a.2.1 a.2.2.1 a.2.2.2) n a
def fB_soldAt (o : Nat) (x1 : Int64) (N : qz_N) : Option (Int64 × qz_N) :=
  fB_soldAt_5 o 1100 (N, x1, (0 : Int64), (0 : Int32))
set_option maxRecDepth 100000 in
set_option maxHeartbeats 4000000 in
theorem sB_soldAt_46 {p : Program} {l : Launch} {e : Env} {s : State} {m : MethodId} {args : Array Value} {below : List Frame} {meth : Method} {c : Code} {G : qz_G} (X : qz_X p s m args meth c "ExactCurves$Batch" prog_2_method_5_code 6 (some .long) G) {r : (Int64 × qz_N)} (y0 : Nat) (hy0 : y0 < 1) (k5 : qz_N × Int64 × Int64 × Int32 → Option (Int64 × qz_N)) (hk5 : ∀ a, k5 a = some r → qz_W p l e (qz_R 0) s m args below meth c 0 0 (MQ below (qz_Q G r.2 (some (.long r.1))) args s 0 0 (qz_A G)) G s.heap 6 a.1 5 [(1, .long a.2.1), (3, .long a.2.2.1), (5, .int a.2.2.2), (0, .ref (G.2.2 4 y0))] []) (N : qz_N) (x1 : Int64) (x3 : Int64) (x5 : Int32) (h : fB_soldAt_46 y0 k5 N x1 x3 x5 = some r) : qz_W p l e (qz_R 0) s m args below meth c 0 0 (MQ below (qz_Q G r.2 (some (.long r.1))) args s 0 0 (qz_A G)) G s.heap 6 N 46 [(1, .long x1), (3, .long x3), (5, .int x5), (0, .ref (G.2.2 4 y0))] [] := by
  unfold fB_soldAt_46 at h
  refine qz_iinc_l X (u := (1 : Int32)) (lv' := fun v1 => [(5, .int v1), (1, .long x1), (3, .long x3), (0, .ref (G.2.2 4 y0))]) (k := 2) rfl (by decide) (by decide) (fun _ => rfl) dq_B_soldAt_46 h (fun v1 h => ?_)
  refine qz_goto X (tgt := 5) (by decide) dq_B_soldAt_49 ?_
  refine qz_sub [1, 2, 0, 3] rfl ?_
  exact hk5 (N, x1, x3, v1) h
set_option maxRecDepth 100000 in
set_option maxHeartbeats 4000000 in
theorem sB_soldAt_5b {p : Program} {l : Launch} {e : Env} {s : State} {m : MethodId} {args : Array Value} {below : List Frame} {meth : Method} {c : Code} {G : qz_G} (X : qz_X p s m args meth c "ExactCurves$Batch" prog_2_method_5_code 6 (some .long) G) {r : (Int64 × qz_N)} (y0 : Nat) (hy0 : y0 < 1) (k5 : qz_N × Int64 × Int64 × Int32 → Option (Int64 × qz_N)) (hk5 : ∀ a, k5 a = some r → qz_W p l e (qz_R 0) s m args below meth c 0 0 (MQ below (qz_Q G r.2 (some (.long r.1))) args s 0 0 (qz_A G)) G s.heap 6 a.1 5 [(1, .long a.2.1), (3, .long a.2.2.1), (5, .int a.2.2.2), (0, .ref (G.2.2 4 y0))] []) (N : qz_N) (x1 : Int64) (x3 : Int64) (x5 : Int32) (h : fB_soldAt_5b y0 k5 N x1 x3 x5 = some r) : qz_W p l e (qz_R 0) s m args below meth c 0 0 (MQ below (qz_Q G r.2 (some (.long r.1))) args s 0 0 (qz_A G)) G s.heap 6 N 5 [(1, .long x1), (3, .long x3), (5, .int x5), (0, .ref (G.2.2 4 y0))] [] := by
  unfold fB_soldAt_5b at h
  refine qz_iload X 2 rfl dq_B_soldAt_5 ?_
  refine qz_aload_n X 3 rfl dq_B_soldAt_7 ?_
  refine qz_get X (v := .int (qz_gi N 4 y0 7)) kq_B_38 hy0 rfl dq_B_soldAt_8 ?_
  refine qz_icmp_ge X (tgt := 52) (by decide) dq_B_soldAt_11 h (fun _ h => ?_) (fun _ h => ?_)
  · refine qz_lload_n X 1 rfl dq_B_soldAt_52 ?_
    exact qz_lret X h dq_B_soldAt_53
  · refine qz_aload_n X 3 rfl dq_B_soldAt_14 ?_
    refine qz_get X (v := .ref (G.2.2 17 y0)) kq_B_15 hy0 rfl dq_B_soldAt_15 ?_
    refine qz_iload X 2 rfl dq_B_soldAt_18 ?_
    refine qz_zald X (c0 := 17) (i := y0) (n := 40) rfl hy0 dq_B_soldAt_20 h (fun h => ?_)
    refine qz_if_ne X (tgt := 46) (by decide) dq_B_soldAt_21 h (fun _ h => ?_) (fun _ h => ?_)
    · refine qz_sub [0, 1, 2, 3] rfl ?_
      exact sB_soldAt_46 X y0 hy0 k5 hk5 N x1 x3 x5 h
    · refine qz_aload_n X 3 rfl dq_B_soldAt_24 ?_
      refine qz_get X (v := .ref (G.2.2 19 y0)) kq_B_23 hy0 rfl dq_B_soldAt_25 ?_
      refine qz_iload X 2 rfl dq_B_soldAt_28 ?_
      refine qz_lald X (c0 := 19) (i := y0) (n := 40) rfl hy0 dq_B_soldAt_30 h (fun h => ?_)
      refine qz_lload_n X 0 rfl dq_B_soldAt_31 ?_
      refine qz_lcmp_gt X (tgt := 46) (by decide) dq_B_soldAt_32 dq_B_soldAt_33 h (fun _ h => ?_) (fun _ h => ?_)
      · refine qz_sub [0, 1, 2, 3] rfl ?_
        exact sB_soldAt_46 X y0 hy0 k5 hk5 N x1 x3 x5 h
      · refine qz_lload_n X 1 rfl dq_B_soldAt_36 ?_
        refine qz_aload_n X 3 rfl dq_B_soldAt_37 ?_
        refine qz_get X (v := .ref (G.2.2 18 y0)) kq_B_19 hy0 rfl dq_B_soldAt_38 ?_
        refine qz_iload X 2 rfl dq_B_soldAt_41 ?_
        refine qz_lald X (c0 := 18) (i := y0) (n := 40) rfl hy0 dq_B_soldAt_43 h (fun h => ?_)
        refine qz_ladd X dq_B_soldAt_44 ?_
        refine qz_letj h (fun v2 h => ?_)
        refine qz_lstore_n X (lv' := [(3, .long v2), (1, .long x1), (5, .int x5), (0, .ref (G.2.2 4 y0))]) rfl (by decide) rfl dq_B_soldAt_45 ?_
        refine qz_sub [1, 0, 2, 3] rfl ?_
        exact sB_soldAt_46 X y0 hy0 k5 hk5 N x1 v2 x5 h
theorem sB_soldAt_5 {p : Program} {l : Launch} {e : Env} {s : State} {m : MethodId} {args : Array Value} {below : List Frame} {meth : Method} {c : Code} {G : qz_G} (X : qz_X p s m args meth c "ExactCurves$Batch" prog_2_method_5_code 6 (some .long) G) {r : (Int64 × qz_N)} (y0 : Nat) (hy0 : y0 < 1) (n : Nat) (a : qz_N × Int64 × Int64 × Int32) (h : fB_soldAt_5 y0 n a = some r) : qz_W p l e (qz_R 0) s m args below meth c 0 0 (MQ below (qz_Q G r.2 (some (.long r.1))) args s 0 0 (qz_A G)) G s.heap 6 a.1 5 [(1, .long a.2.1), (3, .long a.2.2.1), (5, .int a.2.2.2), (0, .ref (G.2.2 4 y0))] [] :=
  qz_loop_ind (P := fun a => qz_W p l e (qz_R 0) s m args below meth c 0 0 (MQ below (qz_Q G r.2 (some (.long r.1))) args s 0 0 (qz_A G)) G s.heap 6 a.1 5 [(1, .long a.2.1), (3, .long a.2.2.1), (5, .int a.2.2.2), (0, .ref (G.2.2 4 y0))] []) (fun k hk a h => sB_soldAt_5b X y0 hy0 k hk a.1 a.2.1 a.2.2.1 a.2.2.2 h) n a h
set_option maxRecDepth 100000 in
set_option maxHeartbeats 4000000 in
theorem sB_soldAt {p : Program} {l : Launch} {e : Env} {s : State} {m : MethodId} {args : Array Value} {below : List Frame} {meth : Method} {c : Code} {G : qz_G} (X : qz_X p s m args meth c "ExactCurves$Batch" prog_2_method_5_code 6 (some .long) G) {r : (Int64 × qz_N)} (o : Nat) (x1 : Int64) (ho : o < 1) (N : qz_N) (h : fB_soldAt o x1 N = some r) : qz_W p l e (qz_R 0) s m args below meth c 0 0 (MQ below (qz_Q G r.2 (some (.long r.1))) args s 0 0 (qz_A G)) G s.heap 6 N 0 [(0, .ref (G.2.2 4 o)), (1, .long x1)] [] := by
  unfold fB_soldAt at h
  refine qz_lconst X (v := (0 : Int64)) (by decide) dq_B_soldAt_0 ?_
  refine qz_lstore_n X (lv' := [(3, .long (0 : Int64)), (0, .ref (G.2.2 4 o)), (1, .long x1)]) rfl (by decide) rfl dq_B_soldAt_1 ?_
  refine qz_iconst X (v := (0 : Int32)) (by decide) dq_B_soldAt_2 ?_
  refine qz_istore X (lv' := [(5, .int (0 : Int32)), (3, .long (0 : Int64)), (0, .ref (G.2.2 4 o)), (1, .long x1)]) (by decide) rfl dq_B_soldAt_3 ?_
  refine qz_sub [3, 1, 0, 2] rfl ?_
  exact sB_soldAt_5 X o ho 1100 (N, x1, (0 : Int64), (0 : Int32)) h
theorem cB_soldAt (l : Launch) (G : qz_G) (hD : qz_D G) (o : Nat) (x1 : Int64) (N : qz_N) (ho : o < 1) (r : (Int64 × qz_N)) (h : fB_soldAt o x1 N = some r) : qz_M l yB_soldAt prog_2_method_5_code 6 (some .long) 0 G [.ref (G.2.2 4 o), .long x1] N (some (.long r.1)) r.2 :=
  qz_enter (lv := [(0, .ref (G.2.2 4 o)), (1, .long x1)]) rfl hD (Nat.le_of_ble_eq_true rfl) rfl (fun p e s m args below meth c X => sB_soldAt X o x1 ho N h)
-- ExactCurves$Batch.bestPrice()J
theorem dq_B_bestPrice_0 : decode prog_2_method_6_code 0 = .ok (.lconst 0, 1) := by decide +kernel
theorem dq_B_bestPrice_1 : decode prog_2_method_6_code 1 = .ok (.lstore_n 1, 1) := by decide +kernel
theorem dq_B_bestPrice_2 : decode prog_2_method_6_code 2 = .ok (.lconst 0, 1) := by decide +kernel
theorem dq_B_bestPrice_3 : decode prog_2_method_6_code 3 = .ok (.lstore_n 3, 1) := by decide +kernel
theorem dq_B_bestPrice_4 : decode prog_2_method_6_code 4 = .ok (.lconst 0, 1) := by decide +kernel
theorem dq_B_bestPrice_5 : decode prog_2_method_6_code 5 = .ok (.lstore 5, 2) := by decide +kernel
theorem dq_B_bestPrice_7 : decode prog_2_method_6_code 7 = .ok (.iconst 0, 1) := by decide +kernel
theorem dq_B_bestPrice_8 : decode prog_2_method_6_code 8 = .ok (.istore 7, 2) := by decide +kernel
theorem dq_B_bestPrice_10 : decode prog_2_method_6_code 10 = .ok (.iload 7, 2) := by decide +kernel
theorem dq_B_bestPrice_12 : decode prog_2_method_6_code 12 = .ok (.aload_n 0, 1) := by decide +kernel
theorem dq_B_bestPrice_13 : decode prog_2_method_6_code 13 = .ok (.getfield 38, 3) := by decide +kernel
theorem dq_B_bestPrice_16 : decode prog_2_method_6_code 16 = .ok (.if_icmp .ge 121, 3) := by decide +kernel
theorem dq_B_bestPrice_19 : decode prog_2_method_6_code 19 = .ok (.aload_n 0, 1) := by decide +kernel
theorem dq_B_bestPrice_20 : decode prog_2_method_6_code 20 = .ok (.getfield 23, 3) := by decide +kernel
theorem dq_B_bestPrice_23 : decode prog_2_method_6_code 23 = .ok (.iload 7, 2) := by decide +kernel
theorem dq_B_bestPrice_25 : decode prog_2_method_6_code 25 = .ok (.laload, 1) := by decide +kernel
theorem dq_B_bestPrice_26 : decode prog_2_method_6_code 26 = .ok (.lstore 8, 2) := by decide +kernel
theorem dq_B_bestPrice_28 : decode prog_2_method_6_code 28 = .ok (.aload_n 0, 1) := by decide +kernel
theorem dq_B_bestPrice_29 : decode prog_2_method_6_code 29 = .ok (.lload 8, 2) := by decide +kernel
theorem dq_B_bestPrice_31 : decode prog_2_method_6_code 31 = .ok (.invokevirtual 41, 3) := by decide +kernel
theorem dq_B_bestPrice_34 : decode prog_2_method_6_code 34 = .ok (.lstore 10, 2) := by decide +kernel
theorem dq_B_bestPrice_36 : decode prog_2_method_6_code 36 = .ok (.aload_n 0, 1) := by decide +kernel
theorem dq_B_bestPrice_37 : decode prog_2_method_6_code 37 = .ok (.lload 8, 2) := by decide +kernel
theorem dq_B_bestPrice_39 : decode prog_2_method_6_code 39 = .ok (.invokevirtual 45, 3) := by decide +kernel
theorem dq_B_bestPrice_42 : decode prog_2_method_6_code 42 = .ok (.lstore 12, 2) := by decide +kernel
theorem dq_B_bestPrice_44 : decode prog_2_method_6_code 44 = .ok (.lload 10, 2) := by decide +kernel
theorem dq_B_bestPrice_46 : decode prog_2_method_6_code 46 = .ok (.lload 12, 2) := by decide +kernel
theorem dq_B_bestPrice_48 : decode prog_2_method_6_code 48 = .ok (.invokestatic 48, 3) := by decide +kernel
theorem dq_B_bestPrice_51 : decode prog_2_method_6_code 51 = .ok (.lstore 14, 2) := by decide +kernel
theorem dq_B_bestPrice_53 : decode prog_2_method_6_code 53 = .ok (.lload 10, 2) := by decide +kernel
theorem dq_B_bestPrice_55 : decode prog_2_method_6_code 55 = .ok (.lload 12, 2) := by decide +kernel
theorem dq_B_bestPrice_57 : decode prog_2_method_6_code 57 = .ok (.invokestatic 54, 3) := by decide +kernel
theorem dq_B_bestPrice_60 : decode prog_2_method_6_code 60 = .ok (.lload 14, 2) := by decide +kernel
theorem dq_B_bestPrice_62 : decode prog_2_method_6_code 62 = .ok (.lsub, 1) := by decide +kernel
theorem dq_B_bestPrice_63 : decode prog_2_method_6_code 63 = .ok (.lstore 16, 2) := by decide +kernel
theorem dq_B_bestPrice_65 : decode prog_2_method_6_code 65 = .ok (.lload 14, 2) := by decide +kernel
theorem dq_B_bestPrice_67 : decode prog_2_method_6_code 67 = .ok (.lload_n 3, 1) := by decide +kernel
theorem dq_B_bestPrice_68 : decode prog_2_method_6_code 68 = .ok (.lcmp, 1) := by decide +kernel
theorem dq_B_bestPrice_69 : decode prog_2_method_6_code 69 = .ok (.ifCond .gt 33, 3) := by decide +kernel
theorem dq_B_bestPrice_72 : decode prog_2_method_6_code 72 = .ok (.lload 14, 2) := by decide +kernel
theorem dq_B_bestPrice_74 : decode prog_2_method_6_code 74 = .ok (.lload_n 3, 1) := by decide +kernel
theorem dq_B_bestPrice_75 : decode prog_2_method_6_code 75 = .ok (.lcmp, 1) := by decide +kernel
theorem dq_B_bestPrice_76 : decode prog_2_method_6_code 76 = .ok (.ifCond .ne 30, 3) := by decide +kernel
theorem dq_B_bestPrice_79 : decode prog_2_method_6_code 79 = .ok (.lload 16, 2) := by decide +kernel
theorem dq_B_bestPrice_81 : decode prog_2_method_6_code 81 = .ok (.lload 5, 2) := by decide +kernel
theorem dq_B_bestPrice_83 : decode prog_2_method_6_code 83 = .ok (.lcmp, 1) := by decide +kernel
theorem dq_B_bestPrice_84 : decode prog_2_method_6_code 84 = .ok (.ifCond .lt 18, 3) := by decide +kernel
theorem dq_B_bestPrice_87 : decode prog_2_method_6_code 87 = .ok (.lload 16, 2) := by decide +kernel
theorem dq_B_bestPrice_89 : decode prog_2_method_6_code 89 = .ok (.lload 5, 2) := by decide +kernel
theorem dq_B_bestPrice_91 : decode prog_2_method_6_code 91 = .ok (.lcmp, 1) := by decide +kernel
theorem dq_B_bestPrice_92 : decode prog_2_method_6_code 92 = .ok (.ifCond .ne 14, 3) := by decide +kernel
theorem dq_B_bestPrice_95 : decode prog_2_method_6_code 95 = .ok (.lload 8, 2) := by decide +kernel
theorem dq_B_bestPrice_97 : decode prog_2_method_6_code 97 = .ok (.lload_n 1, 1) := by decide +kernel
theorem dq_B_bestPrice_98 : decode prog_2_method_6_code 98 = .ok (.lcmp, 1) := by decide +kernel
theorem dq_B_bestPrice_99 : decode prog_2_method_6_code 99 = .ok (.ifCond .ge 7, 3) := by decide +kernel
theorem dq_B_bestPrice_102 : decode prog_2_method_6_code 102 = .ok (.iconst 1, 1) := by decide +kernel
theorem dq_B_bestPrice_103 : decode prog_2_method_6_code 103 = .ok (.goto 4, 3) := by decide +kernel
theorem dq_B_bestPrice_106 : decode prog_2_method_6_code 106 = .ok (.iconst 0, 1) := by decide +kernel
theorem dq_B_bestPrice_107 : decode prog_2_method_6_code 107 = .ok (.istore 18, 2) := by decide +kernel
theorem dq_B_bestPrice_109 : decode prog_2_method_6_code 109 = .ok (.lload 14, 2) := by decide +kernel
theorem dq_B_bestPrice_111 : decode prog_2_method_6_code 111 = .ok (.lconst 0, 1) := by decide +kernel
theorem dq_B_bestPrice_112 : decode prog_2_method_6_code 112 = .ok (.lcmp, 1) := by decide +kernel
theorem dq_B_bestPrice_113 : decode prog_2_method_6_code 113 = .ok (.ifCond .le 18, 3) := by decide +kernel
theorem dq_B_bestPrice_116 : decode prog_2_method_6_code 116 = .ok (.iload 18, 2) := by decide +kernel
theorem dq_B_bestPrice_118 : decode prog_2_method_6_code 118 = .ok (.ifCond .eq 13, 3) := by decide +kernel
theorem dq_B_bestPrice_121 : decode prog_2_method_6_code 121 = .ok (.lload 8, 2) := by decide +kernel
theorem dq_B_bestPrice_123 : decode prog_2_method_6_code 123 = .ok (.lstore_n 1, 1) := by decide +kernel
theorem dq_B_bestPrice_124 : decode prog_2_method_6_code 124 = .ok (.lload 14, 2) := by decide +kernel
theorem dq_B_bestPrice_126 : decode prog_2_method_6_code 126 = .ok (.lstore_n 3, 1) := by decide +kernel
theorem dq_B_bestPrice_127 : decode prog_2_method_6_code 127 = .ok (.lload 16, 2) := by decide +kernel
theorem dq_B_bestPrice_129 : decode prog_2_method_6_code 129 = .ok (.lstore 5, 2) := by decide +kernel
theorem dq_B_bestPrice_131 : decode prog_2_method_6_code 131 = .ok (.iinc 7 1, 3) := by decide +kernel
theorem dq_B_bestPrice_134 : decode prog_2_method_6_code 134 = .ok (.goto (-124), 3) := by decide +kernel
theorem dq_B_bestPrice_137 : decode prog_2_method_6_code 137 = .ok (.lload_n 1, 1) := by decide +kernel
theorem dq_B_bestPrice_138 : decode prog_2_method_6_code 138 = .ok (.lreturn, 1) := by decide +kernel
def fB_bestPrice_131 (y0 : Nat) (k10 : qz_N × Int64 × Int64 × Int64 × Int32 → Option (Int64 × qz_N)) (N : qz_N) (x1 : Int64) (x3 : Int64) (x5 : Int64) (x7 : Int32) : Option (Int64 × qz_N) :=
  qz_let (x7 + (1 : Int32)) fun v8 =>
  k10 (N, x1, x3, x5, v8)
def fB_bestPrice_107 (y0 : Nat) (k10 : qz_N × Int64 × Int64 × Int64 × Int32 → Option (Int64 × qz_N)) (N : qz_N) (x1 : Int64) (x3 : Int64) (x5 : Int64) (x7 : Int32) (x8 : Int64) (x14 : Int64) (x16 : Int64) (s0 : Int32) : Option (Int64 × qz_N) :=
  if x14 ≤ (0 : Int64) then
    fB_bestPrice_131 y0 k10 N x1 x3 x5 x7
  else
  if s0 = 0 then
    fB_bestPrice_131 y0 k10 N x1 x3 x5 x7
  else
  fB_bestPrice_131 y0 k10 N x8 x14 x16 x7
def fB_bestPrice_102 (y0 : Nat) (k10 : qz_N × Int64 × Int64 × Int64 × Int32 → Option (Int64 × qz_N)) (N : qz_N) (x1 : Int64) (x3 : Int64) (x5 : Int64) (x7 : Int32) (x8 : Int64) (x14 : Int64) (x16 : Int64) : Option (Int64 × qz_N) :=
  fB_bestPrice_107 y0 k10 N x1 x3 x5 x7 x8 x14 x16 (1 : Int32)
def fB_bestPrice_106 (y0 : Nat) (k10 : qz_N × Int64 × Int64 × Int64 × Int32 → Option (Int64 × qz_N)) (N : qz_N) (x1 : Int64) (x3 : Int64) (x5 : Int64) (x7 : Int32) (x8 : Int64) (x14 : Int64) (x16 : Int64) : Option (Int64 × qz_N) :=
  fB_bestPrice_107 y0 k10 N x1 x3 x5 x7 x8 x14 x16 (0 : Int32)
def fB_bestPrice_10b (y0 : Nat) (k10 : qz_N × Int64 × Int64 × Int64 × Int32 → Option (Int64 × qz_N)) (N : qz_N) (x1 : Int64) (x3 : Int64) (x5 : Int64) (x7 : Int32) : Option (Int64 × qz_N) :=
  if (qz_gi N 4 y0 7) ≤ x7 then
    some (x1, N)
  else
  if x7 < 0 ∨ 40 ≤ x7.toNatClampNeg then none else
  qz_let (qz_gl N 19 y0 x7.toNatClampNeg) fun v1 =>
  (fB_boughtAt y0 v1 N).bind fun q2 =>
  (fB_soldAt y0 v1 q2.2).bind fun q4 =>
  qz_let (if q4.1 < q2.1 then q4.1 else q2.1) fun v6 =>
  qz_let ((if q4.1 < q2.1 then q2.1 else q4.1) - v6) fun v7 =>
  if x3 < v6 then
    fB_bestPrice_102 y0 k10 q4.2 x1 x3 x5 x7 v1 v6 v7
  else
  if v6 = x3 then
    if v7 < x5 then
      fB_bestPrice_102 y0 k10 q4.2 x1 x3 x5 x7 v1 v6 v7
    else
    if v7 = x5 then
      if x1 ≤ v1 then
        fB_bestPrice_106 y0 k10 q4.2 x1 x3 x5 x7 v1 v6 v7
      else
      fB_bestPrice_102 y0 k10 q4.2 x1 x3 x5 x7 v1 v6 v7
    else
    fB_bestPrice_106 y0 k10 q4.2 x1 x3 x5 x7 v1 v6 v7
  else
  fB_bestPrice_106 y0 k10 q4.2 x1 x3 x5 x7 v1 v6 v7
def fB_bestPrice_10 (y0 : Nat) (n : Nat) (a : qz_N × Int64 × Int64 × Int64 × Int32) : Option (Int64 × qz_N) := qz_loop (fun k a => fB_bestPrice_10b y0 k a.1 a.2.1 a.2.2.1 a.2.2.2.1 a.2.2.2.2) n a
def fB_bestPrice (o : Nat) (N : qz_N) : Option (Int64 × qz_N) :=
  fB_bestPrice_10 o 1100 (N, (0 : Int64), (0 : Int64), (0 : Int64), (0 : Int32))
set_option maxRecDepth 100000 in
set_option maxHeartbeats 4000000 in
theorem sB_bestPrice_131 {p : Program} {l : Launch} {e : Env} {s : State} {m : MethodId} {args : Array Value} {below : List Frame} {meth : Method} {c : Code} {G : qz_G} (X : qz_X p s m args meth c "ExactCurves$Batch" prog_2_method_6_code 19 (some .long) G) {r : (Int64 × qz_N)} (y0 : Nat) (hy0 : y0 < 1) (k10 : qz_N × Int64 × Int64 × Int64 × Int32 → Option (Int64 × qz_N)) (hk10 : ∀ a, k10 a = some r → qz_W p l e (qz_R 1) s m args below meth c 0 0 (MQ below (qz_Q G r.2 (some (.long r.1))) args s 0 0 (qz_A G)) G s.heap 19 a.1 10 [(1, .long a.2.1), (3, .long a.2.2.1), (5, .long a.2.2.2.1), (7, .int a.2.2.2.2), (0, .ref (G.2.2 4 y0))] []) (N : qz_N) (x1 : Int64) (x3 : Int64) (x5 : Int64) (x7 : Int32) (h : fB_bestPrice_131 y0 k10 N x1 x3 x5 x7 = some r) : qz_W p l e (qz_R 1) s m args below meth c 0 0 (MQ below (qz_Q G r.2 (some (.long r.1))) args s 0 0 (qz_A G)) G s.heap 19 N 131 [(1, .long x1), (3, .long x3), (5, .long x5), (7, .int x7), (0, .ref (G.2.2 4 y0))] [] := by
  unfold fB_bestPrice_131 at h
  refine qz_iinc_l X (u := (1 : Int32)) (lv' := fun v8 => [(7, .int v8), (1, .long x1), (3, .long x3), (5, .long x5), (0, .ref (G.2.2 4 y0))]) (k := 3) rfl (by decide) (by decide) (fun _ => rfl) dq_B_bestPrice_131 h (fun v8 h => ?_)
  refine qz_goto X (tgt := 10) (by decide) dq_B_bestPrice_134 ?_
  refine qz_sub [1, 2, 3, 0, 4] rfl ?_
  exact hk10 (N, x1, x3, x5, v8) h
set_option maxRecDepth 100000 in
set_option maxHeartbeats 4000000 in
theorem sB_bestPrice_107 {p : Program} {l : Launch} {e : Env} {s : State} {m : MethodId} {args : Array Value} {below : List Frame} {meth : Method} {c : Code} {G : qz_G} (X : qz_X p s m args meth c "ExactCurves$Batch" prog_2_method_6_code 19 (some .long) G) {r : (Int64 × qz_N)} (y0 : Nat) (hy0 : y0 < 1) (k10 : qz_N × Int64 × Int64 × Int64 × Int32 → Option (Int64 × qz_N)) (hk10 : ∀ a, k10 a = some r → qz_W p l e (qz_R 1) s m args below meth c 0 0 (MQ below (qz_Q G r.2 (some (.long r.1))) args s 0 0 (qz_A G)) G s.heap 19 a.1 10 [(1, .long a.2.1), (3, .long a.2.2.1), (5, .long a.2.2.2.1), (7, .int a.2.2.2.2), (0, .ref (G.2.2 4 y0))] []) (N : qz_N) (x1 : Int64) (x3 : Int64) (x5 : Int64) (x7 : Int32) (x8 : Int64) (x14 : Int64) (x16 : Int64) (s0 : Int32) (h : fB_bestPrice_107 y0 k10 N x1 x3 x5 x7 x8 x14 x16 s0 = some r) : qz_W p l e (qz_R 1) s m args below meth c 0 0 (MQ below (qz_Q G r.2 (some (.long r.1))) args s 0 0 (qz_A G)) G s.heap 19 N 107 [(1, .long x1), (3, .long x3), (5, .long x5), (7, .int x7), (8, .long x8), (14, .long x14), (16, .long x16), (0, .ref (G.2.2 4 y0))] [.int s0] := by
  unfold fB_bestPrice_107 at h
  refine qz_istore X (lv' := [(18, .int s0), (1, .long x1), (3, .long x3), (5, .long x5), (7, .int x7), (8, .long x8), (14, .long x14), (16, .long x16), (0, .ref (G.2.2 4 y0))]) (by decide) rfl dq_B_bestPrice_107 ?_
  refine qz_lload X 6 rfl dq_B_bestPrice_109 ?_
  refine qz_lconst X (v := (0 : Int64)) (by decide) dq_B_bestPrice_111 ?_
  refine qz_lcmp_le X (tgt := 131) (by decide) dq_B_bestPrice_112 dq_B_bestPrice_113 h (fun _ h => ?_) (fun _ h => ?_)
  · refine qz_sub [1, 2, 3, 4, 8] rfl ?_
    exact sB_bestPrice_131 X y0 hy0 k10 hk10 N x1 x3 x5 x7 h
  · refine qz_iload X 0 rfl dq_B_bestPrice_116 ?_
    refine qz_if_eq X (tgt := 131) (by decide) dq_B_bestPrice_118 h (fun _ h => ?_) (fun _ h => ?_)
    · refine qz_sub [1, 2, 3, 4, 8] rfl ?_
      exact sB_bestPrice_131 X y0 hy0 k10 hk10 N x1 x3 x5 x7 h
    · refine qz_lload X 5 rfl dq_B_bestPrice_121 ?_
      refine qz_lstore_n X (lv' := [(1, .long x8), (18, .int s0), (3, .long x3), (5, .long x5), (7, .int x7), (8, .long x8), (14, .long x14), (16, .long x16), (0, .ref (G.2.2 4 y0))]) rfl (by decide) rfl dq_B_bestPrice_123 ?_
      refine qz_lload X 6 rfl dq_B_bestPrice_124 ?_
      refine qz_lstore_n X (lv' := [(3, .long x14), (1, .long x8), (18, .int s0), (5, .long x5), (7, .int x7), (8, .long x8), (14, .long x14), (16, .long x16), (0, .ref (G.2.2 4 y0))]) rfl (by decide) rfl dq_B_bestPrice_126 ?_
      refine qz_lload X 7 rfl dq_B_bestPrice_127 ?_
      refine qz_lstore X (lv' := [(5, .long x16), (3, .long x14), (1, .long x8), (18, .int s0), (7, .int x7), (8, .long x8), (14, .long x14), (16, .long x16), (0, .ref (G.2.2 4 y0))]) (by decide) rfl dq_B_bestPrice_129 ?_
      refine qz_sub [2, 1, 0, 4, 8] rfl ?_
      exact sB_bestPrice_131 X y0 hy0 k10 hk10 N x8 x14 x16 x7 h
set_option maxRecDepth 100000 in
set_option maxHeartbeats 4000000 in
theorem sB_bestPrice_102 {p : Program} {l : Launch} {e : Env} {s : State} {m : MethodId} {args : Array Value} {below : List Frame} {meth : Method} {c : Code} {G : qz_G} (X : qz_X p s m args meth c "ExactCurves$Batch" prog_2_method_6_code 19 (some .long) G) {r : (Int64 × qz_N)} (y0 : Nat) (hy0 : y0 < 1) (k10 : qz_N × Int64 × Int64 × Int64 × Int32 → Option (Int64 × qz_N)) (hk10 : ∀ a, k10 a = some r → qz_W p l e (qz_R 1) s m args below meth c 0 0 (MQ below (qz_Q G r.2 (some (.long r.1))) args s 0 0 (qz_A G)) G s.heap 19 a.1 10 [(1, .long a.2.1), (3, .long a.2.2.1), (5, .long a.2.2.2.1), (7, .int a.2.2.2.2), (0, .ref (G.2.2 4 y0))] []) (N : qz_N) (x1 : Int64) (x3 : Int64) (x5 : Int64) (x7 : Int32) (x8 : Int64) (x14 : Int64) (x16 : Int64) (h : fB_bestPrice_102 y0 k10 N x1 x3 x5 x7 x8 x14 x16 = some r) : qz_W p l e (qz_R 1) s m args below meth c 0 0 (MQ below (qz_Q G r.2 (some (.long r.1))) args s 0 0 (qz_A G)) G s.heap 19 N 102 [(1, .long x1), (3, .long x3), (5, .long x5), (7, .int x7), (8, .long x8), (14, .long x14), (16, .long x16), (0, .ref (G.2.2 4 y0))] [] := by
  unfold fB_bestPrice_102 at h
  refine qz_iconst X (v := (1 : Int32)) (by decide) dq_B_bestPrice_102 ?_
  refine qz_goto X (tgt := 107) (by decide) dq_B_bestPrice_103 ?_
  refine qz_sub [0, 1, 2, 3, 4, 5, 6, 7] rfl ?_
  exact sB_bestPrice_107 X y0 hy0 k10 hk10 N x1 x3 x5 x7 x8 x14 x16 (1 : Int32) h
set_option maxRecDepth 100000 in
set_option maxHeartbeats 4000000 in
theorem sB_bestPrice_106 {p : Program} {l : Launch} {e : Env} {s : State} {m : MethodId} {args : Array Value} {below : List Frame} {meth : Method} {c : Code} {G : qz_G} (X : qz_X p s m args meth c "ExactCurves$Batch" prog_2_method_6_code 19 (some .long) G) {r : (Int64 × qz_N)} (y0 : Nat) (hy0 : y0 < 1) (k10 : qz_N × Int64 × Int64 × Int64 × Int32 → Option (Int64 × qz_N)) (hk10 : ∀ a, k10 a = some r → qz_W p l e (qz_R 1) s m args below meth c 0 0 (MQ below (qz_Q G r.2 (some (.long r.1))) args s 0 0 (qz_A G)) G s.heap 19 a.1 10 [(1, .long a.2.1), (3, .long a.2.2.1), (5, .long a.2.2.2.1), (7, .int a.2.2.2.2), (0, .ref (G.2.2 4 y0))] []) (N : qz_N) (x1 : Int64) (x3 : Int64) (x5 : Int64) (x7 : Int32) (x8 : Int64) (x14 : Int64) (x16 : Int64) (h : fB_bestPrice_106 y0 k10 N x1 x3 x5 x7 x8 x14 x16 = some r) : qz_W p l e (qz_R 1) s m args below meth c 0 0 (MQ below (qz_Q G r.2 (some (.long r.1))) args s 0 0 (qz_A G)) G s.heap 19 N 106 [(1, .long x1), (3, .long x3), (5, .long x5), (7, .int x7), (8, .long x8), (14, .long x14), (16, .long x16), (0, .ref (G.2.2 4 y0))] [] := by
  unfold fB_bestPrice_106 at h
  refine qz_iconst X (v := (0 : Int32)) (by decide) dq_B_bestPrice_106 ?_
  refine qz_sub [0, 1, 2, 3, 4, 5, 6, 7] rfl ?_
  exact sB_bestPrice_107 X y0 hy0 k10 hk10 N x1 x3 x5 x7 x8 x14 x16 (0 : Int32) h
set_option maxRecDepth 100000 in
set_option maxHeartbeats 4000000 in
theorem sB_bestPrice_10b {p : Program} {l : Launch} {e : Env} {s : State} {m : MethodId} {args : Array Value} {below : List Frame} {meth : Method} {c : Code} {G : qz_G} (X : qz_X p s m args meth c "ExactCurves$Batch" prog_2_method_6_code 19 (some .long) G) {r : (Int64 × qz_N)} (y0 : Nat) (hy0 : y0 < 1) (k10 : qz_N × Int64 × Int64 × Int64 × Int32 → Option (Int64 × qz_N)) (hk10 : ∀ a, k10 a = some r → qz_W p l e (qz_R 1) s m args below meth c 0 0 (MQ below (qz_Q G r.2 (some (.long r.1))) args s 0 0 (qz_A G)) G s.heap 19 a.1 10 [(1, .long a.2.1), (3, .long a.2.2.1), (5, .long a.2.2.2.1), (7, .int a.2.2.2.2), (0, .ref (G.2.2 4 y0))] []) (N : qz_N) (x1 : Int64) (x3 : Int64) (x5 : Int64) (x7 : Int32) (h : fB_bestPrice_10b y0 k10 N x1 x3 x5 x7 = some r) : qz_W p l e (qz_R 1) s m args below meth c 0 0 (MQ below (qz_Q G r.2 (some (.long r.1))) args s 0 0 (qz_A G)) G s.heap 19 N 10 [(1, .long x1), (3, .long x3), (5, .long x5), (7, .int x7), (0, .ref (G.2.2 4 y0))] [] := by
  unfold fB_bestPrice_10b at h
  refine qz_iload X 3 rfl dq_B_bestPrice_10 ?_
  refine qz_aload_n X 4 rfl dq_B_bestPrice_12 ?_
  refine qz_get X (v := .int (qz_gi N 4 y0 7)) kq_B_38 hy0 rfl dq_B_bestPrice_13 ?_
  refine qz_icmp_ge X (tgt := 137) (by decide) dq_B_bestPrice_16 h (fun _ h => ?_) (fun _ h => ?_)
  · refine qz_lload_n X 0 rfl dq_B_bestPrice_137 ?_
    exact qz_lret X h dq_B_bestPrice_138
  · refine qz_aload_n X 4 rfl dq_B_bestPrice_19 ?_
    refine qz_get X (v := .ref (G.2.2 19 y0)) kq_B_23 hy0 rfl dq_B_bestPrice_20 ?_
    refine qz_iload X 3 rfl dq_B_bestPrice_23 ?_
    refine qz_lald X (c0 := 19) (i := y0) (n := 40) rfl hy0 dq_B_bestPrice_25 h (fun h => ?_)
    refine qz_letj h (fun v1 h => ?_)
    refine qz_lstore X (lv' := [(8, .long v1), (1, .long x1), (3, .long x3), (5, .long x5), (7, .int x7), (0, .ref (G.2.2 4 y0))]) (by decide) rfl dq_B_bestPrice_26 ?_
    refine qz_aload_n X 5 rfl dq_B_bestPrice_28 ?_
    refine qz_lload X 0 rfl dq_B_bestPrice_29 ?_
    refine qz_bind h (fun q2 e3 h => ?_)
    refine qz_callV X (as := [.long v1]) (st := []) (o := some (.long q2.1)) (N' := q2.2) cq_B_41 hy0 (cB_boughtAt l G X.2.2.2.2.2.2.1 y0 v1 N hy0 _ e3) ⟨by decide, by decide⟩ rfl rfl (Nat.le_of_ble_eq_true rfl) ⟨Nat.zero_le _, Nat.zero_le _⟩ dq_B_bestPrice_31 ?_
    refine qz_lstore X (lv' := [(10, .long q2.1), (8, .long v1), (1, .long x1), (3, .long x3), (5, .long x5), (7, .int x7), (0, .ref (G.2.2 4 y0))]) (by decide) rfl dq_B_bestPrice_34 ?_
    refine qz_aload_n X 6 rfl dq_B_bestPrice_36 ?_
    refine qz_lload X 1 rfl dq_B_bestPrice_37 ?_
    refine qz_bind h (fun q4 e5 h => ?_)
    refine qz_callV X (as := [.long v1]) (st := []) (o := some (.long q4.1)) (N' := q4.2) cq_B_45 hy0 (cB_soldAt l G X.2.2.2.2.2.2.1 y0 v1 q2.2 hy0 _ e5) ⟨by decide, by decide⟩ rfl rfl (Nat.le_of_ble_eq_true rfl) ⟨Nat.zero_le _, Nat.zero_le _⟩ dq_B_bestPrice_39 ?_
    refine qz_lstore X (lv' := [(12, .long q4.1), (10, .long q2.1), (8, .long v1), (1, .long x1), (3, .long x3), (5, .long x5), (7, .int x7), (0, .ref (G.2.2 4 y0))]) (by decide) rfl dq_B_bestPrice_42 ?_
    refine qz_lload X 1 rfl dq_B_bestPrice_44 ?_
    refine qz_lload X 0 rfl dq_B_bestPrice_46 ?_
    refine qz_mmin X (st := []) wq_457 ⟨mq_min, wq_327, wq_11⟩ ⟨by decide, by decide⟩ (Nat.le_of_ble_eq_true rfl) ⟨Nat.zero_le _, Nat.zero_le _⟩ dq_B_bestPrice_48 ?_
    refine qz_letj h (fun v6 h => ?_)
    refine qz_lstore X (lv' := [(14, .long v6), (12, .long q4.1), (10, .long q2.1), (8, .long v1), (1, .long x1), (3, .long x3), (5, .long x5), (7, .int x7), (0, .ref (G.2.2 4 y0))]) (by decide) rfl dq_B_bestPrice_51 ?_
    refine qz_lload X 2 rfl dq_B_bestPrice_53 ?_
    refine qz_lload X 1 rfl dq_B_bestPrice_55 ?_
    refine qz_mmax X (st := []) wq_458 ⟨mq_max, wq_459, wq_11⟩ ⟨by decide, by decide⟩ (Nat.le_of_ble_eq_true rfl) ⟨Nat.zero_le _, Nat.zero_le _⟩ dq_B_bestPrice_57 ?_
    refine qz_lload X 0 rfl dq_B_bestPrice_60 ?_
    refine qz_lsub X dq_B_bestPrice_62 ?_
    refine qz_letj h (fun v7 h => ?_)
    refine qz_lstore X (lv' := [(16, .long v7), (14, .long v6), (12, .long q4.1), (10, .long q2.1), (8, .long v1), (1, .long x1), (3, .long x3), (5, .long x5), (7, .int x7), (0, .ref (G.2.2 4 y0))]) (by decide) rfl dq_B_bestPrice_63 ?_
    refine qz_lload X 1 rfl dq_B_bestPrice_65 ?_
    refine qz_lload_n X 6 rfl dq_B_bestPrice_67 ?_
    refine qz_lcmp_gt X (tgt := 102) (by decide) dq_B_bestPrice_68 dq_B_bestPrice_69 h (fun _ h => ?_) (fun _ h => ?_)
    · refine qz_sub [5, 6, 7, 8, 4, 1, 0, 9] rfl ?_
      exact sB_bestPrice_102 X y0 hy0 k10 hk10 q4.2 x1 x3 x5 x7 v1 v6 v7 h
    · refine qz_lload X 1 rfl dq_B_bestPrice_72 ?_
      refine qz_lload_n X 6 rfl dq_B_bestPrice_74 ?_
      refine qz_lcmp_ne X (tgt := 106) (by decide) dq_B_bestPrice_75 dq_B_bestPrice_76 h (fun _ h => ?_) (fun _ h => ?_)
      · refine qz_sub [5, 6, 7, 8, 4, 1, 0, 9] rfl ?_
        exact sB_bestPrice_106 X y0 hy0 k10 hk10 q4.2 x1 x3 x5 x7 v1 v6 v7 h
      · refine qz_lload X 0 rfl dq_B_bestPrice_79 ?_
        refine qz_lload X 7 rfl dq_B_bestPrice_81 ?_
        refine qz_lcmp_lt X (tgt := 102) (by decide) dq_B_bestPrice_83 dq_B_bestPrice_84 h (fun _ h => ?_) (fun _ h => ?_)
        · refine qz_sub [5, 6, 7, 8, 4, 1, 0, 9] rfl ?_
          exact sB_bestPrice_102 X y0 hy0 k10 hk10 q4.2 x1 x3 x5 x7 v1 v6 v7 h
        · refine qz_lload X 0 rfl dq_B_bestPrice_87 ?_
          refine qz_lload X 7 rfl dq_B_bestPrice_89 ?_
          refine qz_lcmp_ne X (tgt := 106) (by decide) dq_B_bestPrice_91 dq_B_bestPrice_92 h (fun _ h => ?_) (fun _ h => ?_)
          · refine qz_sub [5, 6, 7, 8, 4, 1, 0, 9] rfl ?_
            exact sB_bestPrice_106 X y0 hy0 k10 hk10 q4.2 x1 x3 x5 x7 v1 v6 v7 h
          · refine qz_lload X 4 rfl dq_B_bestPrice_95 ?_
            refine qz_lload_n X 5 rfl dq_B_bestPrice_97 ?_
            refine qz_lcmp_ge X (tgt := 106) (by decide) dq_B_bestPrice_98 dq_B_bestPrice_99 h (fun _ h => ?_) (fun _ h => ?_)
            · refine qz_sub [5, 6, 7, 8, 4, 1, 0, 9] rfl ?_
              exact sB_bestPrice_106 X y0 hy0 k10 hk10 q4.2 x1 x3 x5 x7 v1 v6 v7 h
            · refine qz_sub [5, 6, 7, 8, 4, 1, 0, 9] rfl ?_
              exact sB_bestPrice_102 X y0 hy0 k10 hk10 q4.2 x1 x3 x5 x7 v1 v6 v7 h
theorem sB_bestPrice_10 {p : Program} {l : Launch} {e : Env} {s : State} {m : MethodId} {args : Array Value} {below : List Frame} {meth : Method} {c : Code} {G : qz_G} (X : qz_X p s m args meth c "ExactCurves$Batch" prog_2_method_6_code 19 (some .long) G) {r : (Int64 × qz_N)} (y0 : Nat) (hy0 : y0 < 1) (n : Nat) (a : qz_N × Int64 × Int64 × Int64 × Int32) (h : fB_bestPrice_10 y0 n a = some r) : qz_W p l e (qz_R 1) s m args below meth c 0 0 (MQ below (qz_Q G r.2 (some (.long r.1))) args s 0 0 (qz_A G)) G s.heap 19 a.1 10 [(1, .long a.2.1), (3, .long a.2.2.1), (5, .long a.2.2.2.1), (7, .int a.2.2.2.2), (0, .ref (G.2.2 4 y0))] [] :=
  qz_loop_ind (P := fun a => qz_W p l e (qz_R 1) s m args below meth c 0 0 (MQ below (qz_Q G r.2 (some (.long r.1))) args s 0 0 (qz_A G)) G s.heap 19 a.1 10 [(1, .long a.2.1), (3, .long a.2.2.1), (5, .long a.2.2.2.1), (7, .int a.2.2.2.2), (0, .ref (G.2.2 4 y0))] []) (fun k hk a h => sB_bestPrice_10b X y0 hy0 k hk a.1 a.2.1 a.2.2.1 a.2.2.2.1 a.2.2.2.2 h) n a h
set_option maxRecDepth 100000 in
set_option maxHeartbeats 4000000 in
theorem sB_bestPrice {p : Program} {l : Launch} {e : Env} {s : State} {m : MethodId} {args : Array Value} {below : List Frame} {meth : Method} {c : Code} {G : qz_G} (X : qz_X p s m args meth c "ExactCurves$Batch" prog_2_method_6_code 19 (some .long) G) {r : (Int64 × qz_N)} (o : Nat) (ho : o < 1) (N : qz_N) (h : fB_bestPrice o N = some r) : qz_W p l e (qz_R 1) s m args below meth c 0 0 (MQ below (qz_Q G r.2 (some (.long r.1))) args s 0 0 (qz_A G)) G s.heap 19 N 0 [(0, .ref (G.2.2 4 o))] [] := by
  unfold fB_bestPrice at h
  refine qz_lconst X (v := (0 : Int64)) (by decide) dq_B_bestPrice_0 ?_
  refine qz_lstore_n X (lv' := [(1, .long (0 : Int64)), (0, .ref (G.2.2 4 o))]) rfl (by decide) rfl dq_B_bestPrice_1 ?_
  refine qz_lconst X (v := (0 : Int64)) (by decide) dq_B_bestPrice_2 ?_
  refine qz_lstore_n X (lv' := [(3, .long (0 : Int64)), (1, .long (0 : Int64)), (0, .ref (G.2.2 4 o))]) rfl (by decide) rfl dq_B_bestPrice_3 ?_
  refine qz_lconst X (v := (0 : Int64)) (by decide) dq_B_bestPrice_4 ?_
  refine qz_lstore X (lv' := [(5, .long (0 : Int64)), (3, .long (0 : Int64)), (1, .long (0 : Int64)), (0, .ref (G.2.2 4 o))]) (by decide) rfl dq_B_bestPrice_5 ?_
  refine qz_iconst X (v := (0 : Int32)) (by decide) dq_B_bestPrice_7 ?_
  refine qz_istore X (lv' := [(7, .int (0 : Int32)), (5, .long (0 : Int64)), (3, .long (0 : Int64)), (1, .long (0 : Int64)), (0, .ref (G.2.2 4 o))]) (by decide) rfl dq_B_bestPrice_8 ?_
  refine qz_sub [3, 2, 1, 0, 4] rfl ?_
  exact sB_bestPrice_10 X o ho 1100 (N, (0 : Int64), (0 : Int64), (0 : Int64), (0 : Int32)) h
theorem cB_bestPrice (l : Launch) (G : qz_G) (hD : qz_D G) (o : Nat) (N : qz_N) (ho : o < 1) (r : (Int64 × qz_N)) (h : fB_bestPrice o N = some r) : qz_M l yB_bestPrice prog_2_method_6_code 19 (some .long) 1 G [.ref (G.2.2 4 o)] N (some (.long r.1)) r.2 :=
  qz_enter (lv := [(0, .ref (G.2.2 4 o))]) rfl hD (Nat.le_of_ble_eq_true rfl) rfl (fun p e s m args below meth c X => sB_bestPrice X o ho N h)
-- ExactCurves$Batch.isBefore(II)Z
theorem dq_B_isBefore_0 : decode prog_2_method_9_code 0 = .ok (.aload_n 0, 1) := by decide +kernel
theorem dq_B_isBefore_1 : decode prog_2_method_9_code 1 = .ok (.getfield 23, 3) := by decide +kernel
theorem dq_B_isBefore_4 : decode prog_2_method_9_code 4 = .ok (.iload_n 1, 1) := by decide +kernel
theorem dq_B_isBefore_5 : decode prog_2_method_9_code 5 = .ok (.laload, 1) := by decide +kernel
theorem dq_B_isBefore_6 : decode prog_2_method_9_code 6 = .ok (.aload_n 0, 1) := by decide +kernel
theorem dq_B_isBefore_7 : decode prog_2_method_9_code 7 = .ok (.getfield 23, 3) := by decide +kernel
theorem dq_B_isBefore_10 : decode prog_2_method_9_code 10 = .ok (.iload_n 2, 1) := by decide +kernel
theorem dq_B_isBefore_11 : decode prog_2_method_9_code 11 = .ok (.laload, 1) := by decide +kernel
theorem dq_B_isBefore_12 : decode prog_2_method_9_code 12 = .ok (.lcmp, 1) := by decide +kernel
theorem dq_B_isBefore_13 : decode prog_2_method_9_code 13 = .ok (.ifCond .ne 14, 3) := by decide +kernel
theorem dq_B_isBefore_16 : decode prog_2_method_9_code 16 = .ok (.iload_n 1, 1) := by decide +kernel
theorem dq_B_isBefore_17 : decode prog_2_method_9_code 17 = .ok (.iload_n 2, 1) := by decide +kernel
theorem dq_B_isBefore_18 : decode prog_2_method_9_code 18 = .ok (.if_icmp .ge 7, 3) := by decide +kernel
theorem dq_B_isBefore_21 : decode prog_2_method_9_code 21 = .ok (.iconst 1, 1) := by decide +kernel
theorem dq_B_isBefore_22 : decode prog_2_method_9_code 22 = .ok (.goto 4, 3) := by decide +kernel
theorem dq_B_isBefore_25 : decode prog_2_method_9_code 25 = .ok (.iconst 0, 1) := by decide +kernel
theorem dq_B_isBefore_26 : decode prog_2_method_9_code 26 = .ok (.ireturn, 1) := by decide +kernel
theorem dq_B_isBefore_27 : decode prog_2_method_9_code 27 = .ok (.aload_n 0, 1) := by decide +kernel
theorem dq_B_isBefore_28 : decode prog_2_method_9_code 28 = .ok (.getfield 15, 3) := by decide +kernel
theorem dq_B_isBefore_31 : decode prog_2_method_9_code 31 = .ok (.iload_n 2, 1) := by decide +kernel
theorem dq_B_isBefore_32 : decode prog_2_method_9_code 32 = .ok (.baload, 1) := by decide +kernel
theorem dq_B_isBefore_33 : decode prog_2_method_9_code 33 = .ok (.ifCond .eq 27, 3) := by decide +kernel
theorem dq_B_isBefore_36 : decode prog_2_method_9_code 36 = .ok (.aload_n 0, 1) := by decide +kernel
theorem dq_B_isBefore_37 : decode prog_2_method_9_code 37 = .ok (.getfield 23, 3) := by decide +kernel
theorem dq_B_isBefore_40 : decode prog_2_method_9_code 40 = .ok (.iload_n 1, 1) := by decide +kernel
theorem dq_B_isBefore_41 : decode prog_2_method_9_code 41 = .ok (.laload, 1) := by decide +kernel
theorem dq_B_isBefore_42 : decode prog_2_method_9_code 42 = .ok (.aload_n 0, 1) := by decide +kernel
theorem dq_B_isBefore_43 : decode prog_2_method_9_code 43 = .ok (.getfield 23, 3) := by decide +kernel
theorem dq_B_isBefore_46 : decode prog_2_method_9_code 46 = .ok (.iload_n 2, 1) := by decide +kernel
theorem dq_B_isBefore_47 : decode prog_2_method_9_code 47 = .ok (.laload, 1) := by decide +kernel
theorem dq_B_isBefore_48 : decode prog_2_method_9_code 48 = .ok (.lcmp, 1) := by decide +kernel
theorem dq_B_isBefore_49 : decode prog_2_method_9_code 49 = .ok (.ifCond .le 7, 3) := by decide +kernel
theorem dq_B_isBefore_52 : decode prog_2_method_9_code 52 = .ok (.iconst 1, 1) := by decide +kernel
theorem dq_B_isBefore_53 : decode prog_2_method_9_code 53 = .ok (.goto 28, 3) := by decide +kernel
theorem dq_B_isBefore_56 : decode prog_2_method_9_code 56 = .ok (.iconst 0, 1) := by decide +kernel
theorem dq_B_isBefore_57 : decode prog_2_method_9_code 57 = .ok (.goto 24, 3) := by decide +kernel
theorem dq_B_isBefore_60 : decode prog_2_method_9_code 60 = .ok (.aload_n 0, 1) := by decide +kernel
theorem dq_B_isBefore_61 : decode prog_2_method_9_code 61 = .ok (.getfield 23, 3) := by decide +kernel
theorem dq_B_isBefore_64 : decode prog_2_method_9_code 64 = .ok (.iload_n 1, 1) := by decide +kernel
theorem dq_B_isBefore_65 : decode prog_2_method_9_code 65 = .ok (.laload, 1) := by decide +kernel
theorem dq_B_isBefore_66 : decode prog_2_method_9_code 66 = .ok (.aload_n 0, 1) := by decide +kernel
theorem dq_B_isBefore_67 : decode prog_2_method_9_code 67 = .ok (.getfield 23, 3) := by decide +kernel
theorem dq_B_isBefore_70 : decode prog_2_method_9_code 70 = .ok (.iload_n 2, 1) := by decide +kernel
theorem dq_B_isBefore_71 : decode prog_2_method_9_code 71 = .ok (.laload, 1) := by decide +kernel
theorem dq_B_isBefore_72 : decode prog_2_method_9_code 72 = .ok (.lcmp, 1) := by decide +kernel
theorem dq_B_isBefore_73 : decode prog_2_method_9_code 73 = .ok (.ifCond .ge 7, 3) := by decide +kernel
theorem dq_B_isBefore_76 : decode prog_2_method_9_code 76 = .ok (.iconst 1, 1) := by decide +kernel
theorem dq_B_isBefore_77 : decode prog_2_method_9_code 77 = .ok (.goto 4, 3) := by decide +kernel
theorem dq_B_isBefore_80 : decode prog_2_method_9_code 80 = .ok (.iconst 0, 1) := by decide +kernel
theorem dq_B_isBefore_81 : decode prog_2_method_9_code 81 = .ok (.ireturn, 1) := by decide +kernel
def fB_isBefore (o : Nat) (x1 : Int32) (x2 : Int32) (N : qz_N) : Option (Int32 × qz_N) :=
  if x1 < 0 ∨ 40 ≤ x1.toNatClampNeg then none else
  if x2 < 0 ∨ 40 ≤ x2.toNatClampNeg then none else
  if (qz_gl N 19 o x1.toNatClampNeg) = (qz_gl N 19 o x2.toNatClampNeg) then
    if x2 ≤ x1 then
      some ((0 : Int32), N)
    else
    some ((1 : Int32), N)
  else
  if x2 < 0 ∨ 40 ≤ x2.toNatClampNeg then none else
  if (qz_gi N 17 o x2.toNatClampNeg) = 0 then
    if x1 < 0 ∨ 40 ≤ x1.toNatClampNeg then none else
    if x2 < 0 ∨ 40 ≤ x2.toNatClampNeg then none else
    if (qz_gl N 19 o x2.toNatClampNeg) ≤ (qz_gl N 19 o x1.toNatClampNeg) then
      some ((0 : Int32), N)
    else
    some ((1 : Int32), N)
  else
  if x1 < 0 ∨ 40 ≤ x1.toNatClampNeg then none else
  if x2 < 0 ∨ 40 ≤ x2.toNatClampNeg then none else
  if (qz_gl N 19 o x1.toNatClampNeg) ≤ (qz_gl N 19 o x2.toNatClampNeg) then
    some ((0 : Int32), N)
  else
  some ((1 : Int32), N)
set_option maxRecDepth 100000 in
set_option maxHeartbeats 4000000 in
theorem sB_isBefore {p : Program} {l : Launch} {e : Env} {s : State} {m : MethodId} {args : Array Value} {below : List Frame} {meth : Method} {c : Code} {G : qz_G} (X : qz_X p s m args meth c "ExactCurves$Batch" prog_2_method_9_code 3 (some .boolean) G) {r : (Int32 × qz_N)} (o : Nat) (x1 : Int32) (x2 : Int32) (ho : o < 1) (N : qz_N) (h : fB_isBefore o x1 x2 N = some r) : qz_W p l e (qz_R 0) s m args below meth c 0 0 (MQ below (qz_Q G r.2 (some (.int r.1))) args s 0 0 (qz_A G)) G s.heap 3 N 0 [(0, .ref (G.2.2 4 o)), (1, .int x1), (2, .int x2)] [] := by
  unfold fB_isBefore at h
  refine qz_aload_n X 0 rfl dq_B_isBefore_0 ?_
  refine qz_get X (v := .ref (G.2.2 19 o)) kq_B_23 ho rfl dq_B_isBefore_1 ?_
  refine qz_iload_n X 1 rfl dq_B_isBefore_4 ?_
  refine qz_lald X (c0 := 19) (i := o) (n := 40) rfl ho dq_B_isBefore_5 h (fun h => ?_)
  refine qz_aload_n X 0 rfl dq_B_isBefore_6 ?_
  refine qz_get X (v := .ref (G.2.2 19 o)) kq_B_23 ho rfl dq_B_isBefore_7 ?_
  refine qz_iload_n X 2 rfl dq_B_isBefore_10 ?_
  refine qz_lald X (c0 := 19) (i := o) (n := 40) rfl ho dq_B_isBefore_11 h (fun h => ?_)
  refine qz_lcmp_ne X (tgt := 27) (by decide) dq_B_isBefore_12 dq_B_isBefore_13 h (fun _ h => ?_) (fun _ h => ?_)
  · refine qz_aload_n X 0 rfl dq_B_isBefore_27 ?_
    refine qz_get X (v := .ref (G.2.2 17 o)) kq_B_15 ho rfl dq_B_isBefore_28 ?_
    refine qz_iload_n X 2 rfl dq_B_isBefore_31 ?_
    refine qz_zald X (c0 := 17) (i := o) (n := 40) rfl ho dq_B_isBefore_32 h (fun h => ?_)
    refine qz_if_eq X (tgt := 60) (by decide) dq_B_isBefore_33 h (fun _ h => ?_) (fun _ h => ?_)
    · refine qz_aload_n X 0 rfl dq_B_isBefore_60 ?_
      refine qz_get X (v := .ref (G.2.2 19 o)) kq_B_23 ho rfl dq_B_isBefore_61 ?_
      refine qz_iload_n X 1 rfl dq_B_isBefore_64 ?_
      refine qz_lald X (c0 := 19) (i := o) (n := 40) rfl ho dq_B_isBefore_65 h (fun h => ?_)
      refine qz_aload_n X 0 rfl dq_B_isBefore_66 ?_
      refine qz_get X (v := .ref (G.2.2 19 o)) kq_B_23 ho rfl dq_B_isBefore_67 ?_
      refine qz_iload_n X 2 rfl dq_B_isBefore_70 ?_
      refine qz_lald X (c0 := 19) (i := o) (n := 40) rfl ho dq_B_isBefore_71 h (fun h => ?_)
      refine qz_lcmp_ge X (tgt := 80) (by decide) dq_B_isBefore_72 dq_B_isBefore_73 h (fun _ h => ?_) (fun _ h => ?_)
      · refine qz_iconst X (v := (0 : Int32)) (by decide) dq_B_isBefore_80 ?_
        exact qz_zret X (by decide) h dq_B_isBefore_81
      · refine qz_iconst X (v := (1 : Int32)) (by decide) dq_B_isBefore_76 ?_
        refine qz_goto X (tgt := 81) (by decide) dq_B_isBefore_77 ?_
        exact qz_zret X (by decide) h dq_B_isBefore_81
    · refine qz_aload_n X 0 rfl dq_B_isBefore_36 ?_
      refine qz_get X (v := .ref (G.2.2 19 o)) kq_B_23 ho rfl dq_B_isBefore_37 ?_
      refine qz_iload_n X 1 rfl dq_B_isBefore_40 ?_
      refine qz_lald X (c0 := 19) (i := o) (n := 40) rfl ho dq_B_isBefore_41 h (fun h => ?_)
      refine qz_aload_n X 0 rfl dq_B_isBefore_42 ?_
      refine qz_get X (v := .ref (G.2.2 19 o)) kq_B_23 ho rfl dq_B_isBefore_43 ?_
      refine qz_iload_n X 2 rfl dq_B_isBefore_46 ?_
      refine qz_lald X (c0 := 19) (i := o) (n := 40) rfl ho dq_B_isBefore_47 h (fun h => ?_)
      refine qz_lcmp_le X (tgt := 56) (by decide) dq_B_isBefore_48 dq_B_isBefore_49 h (fun _ h => ?_) (fun _ h => ?_)
      · refine qz_iconst X (v := (0 : Int32)) (by decide) dq_B_isBefore_56 ?_
        refine qz_goto X (tgt := 81) (by decide) dq_B_isBefore_57 ?_
        exact qz_zret X (by decide) h dq_B_isBefore_81
      · refine qz_iconst X (v := (1 : Int32)) (by decide) dq_B_isBefore_52 ?_
        refine qz_goto X (tgt := 81) (by decide) dq_B_isBefore_53 ?_
        exact qz_zret X (by decide) h dq_B_isBefore_81
  · refine qz_iload_n X 1 rfl dq_B_isBefore_16 ?_
    refine qz_iload_n X 2 rfl dq_B_isBefore_17 ?_
    refine qz_icmp_ge X (tgt := 25) (by decide) dq_B_isBefore_18 h (fun _ h => ?_) (fun _ h => ?_)
    · refine qz_iconst X (v := (0 : Int32)) (by decide) dq_B_isBefore_25 ?_
      exact qz_zret X (by decide) h dq_B_isBefore_26
    · refine qz_iconst X (v := (1 : Int32)) (by decide) dq_B_isBefore_21 ?_
      refine qz_goto X (tgt := 26) (by decide) dq_B_isBefore_22 ?_
      exact qz_zret X (by decide) h dq_B_isBefore_26
theorem cB_isBefore (l : Launch) (G : qz_G) (hD : qz_D G) (o : Nat) (x1 : Int32) (x2 : Int32) (N : qz_N) (ho : o < 1) (r : (Int32 × qz_N)) (h : fB_isBefore o x1 x2 N = some r) : qz_M l yB_isBefore prog_2_method_9_code 3 (some .boolean) 0 G [.ref (G.2.2 4 o), .int x1, .int x2] N (some (.int r.1)) r.2 :=
  qz_enter (lv := [(0, .ref (G.2.2 4 o)), (1, .int x1), (2, .int x2)]) rfl hD (Nat.le_of_ble_eq_true rfl) rfl (fun p e s m args below meth c X => sB_isBefore X o x1 x2 ho N h)
-- ExactCurves$Batch.beforeOrder(I)J
theorem dq_B_beforeOrder_0 : decode prog_2_method_8_code 0 = .ok (.lconst 0, 1) := by decide +kernel
theorem dq_B_beforeOrder_1 : decode prog_2_method_8_code 1 = .ok (.lstore_n 2, 1) := by decide +kernel
theorem dq_B_beforeOrder_2 : decode prog_2_method_8_code 2 = .ok (.iconst 0, 1) := by decide +kernel
theorem dq_B_beforeOrder_3 : decode prog_2_method_8_code 3 = .ok (.istore 4, 2) := by decide +kernel
theorem dq_B_beforeOrder_5 : decode prog_2_method_8_code 5 = .ok (.iload 4, 2) := by decide +kernel
theorem dq_B_beforeOrder_7 : decode prog_2_method_8_code 7 = .ok (.aload_n 0, 1) := by decide +kernel
theorem dq_B_beforeOrder_8 : decode prog_2_method_8_code 8 = .ok (.getfield 38, 3) := by decide +kernel
theorem dq_B_beforeOrder_11 : decode prog_2_method_8_code 11 = .ok (.if_icmp .ge 45, 3) := by decide +kernel
theorem dq_B_beforeOrder_14 : decode prog_2_method_8_code 14 = .ok (.aload_n 0, 1) := by decide +kernel
theorem dq_B_beforeOrder_15 : decode prog_2_method_8_code 15 = .ok (.getfield 15, 3) := by decide +kernel
theorem dq_B_beforeOrder_18 : decode prog_2_method_8_code 18 = .ok (.iload 4, 2) := by decide +kernel
theorem dq_B_beforeOrder_20 : decode prog_2_method_8_code 20 = .ok (.baload, 1) := by decide +kernel
theorem dq_B_beforeOrder_21 : decode prog_2_method_8_code 21 = .ok (.aload_n 0, 1) := by decide +kernel
theorem dq_B_beforeOrder_22 : decode prog_2_method_8_code 22 = .ok (.getfield 15, 3) := by decide +kernel
theorem dq_B_beforeOrder_25 : decode prog_2_method_8_code 25 = .ok (.iload_n 1, 1) := by decide +kernel
theorem dq_B_beforeOrder_26 : decode prog_2_method_8_code 26 = .ok (.baload, 1) := by decide +kernel
theorem dq_B_beforeOrder_27 : decode prog_2_method_8_code 27 = .ok (.if_icmp .ne 23, 3) := by decide +kernel
theorem dq_B_beforeOrder_30 : decode prog_2_method_8_code 30 = .ok (.aload_n 0, 1) := by decide +kernel
theorem dq_B_beforeOrder_31 : decode prog_2_method_8_code 31 = .ok (.iload 4, 2) := by decide +kernel
theorem dq_B_beforeOrder_33 : decode prog_2_method_8_code 33 = .ok (.iload_n 1, 1) := by decide +kernel
theorem dq_B_beforeOrder_34 : decode prog_2_method_8_code 34 = .ok (.invokevirtual 68, 3) := by decide +kernel
theorem dq_B_beforeOrder_37 : decode prog_2_method_8_code 37 = .ok (.ifCond .eq 13, 3) := by decide +kernel
theorem dq_B_beforeOrder_40 : decode prog_2_method_8_code 40 = .ok (.lload_n 2, 1) := by decide +kernel
theorem dq_B_beforeOrder_41 : decode prog_2_method_8_code 41 = .ok (.aload_n 0, 1) := by decide +kernel
theorem dq_B_beforeOrder_42 : decode prog_2_method_8_code 42 = .ok (.getfield 19, 3) := by decide +kernel
theorem dq_B_beforeOrder_45 : decode prog_2_method_8_code 45 = .ok (.iload 4, 2) := by decide +kernel
theorem dq_B_beforeOrder_47 : decode prog_2_method_8_code 47 = .ok (.laload, 1) := by decide +kernel
theorem dq_B_beforeOrder_48 : decode prog_2_method_8_code 48 = .ok (.ladd, 1) := by decide +kernel
theorem dq_B_beforeOrder_49 : decode prog_2_method_8_code 49 = .ok (.lstore_n 2, 1) := by decide +kernel
theorem dq_B_beforeOrder_50 : decode prog_2_method_8_code 50 = .ok (.iinc 4 1, 3) := by decide +kernel
theorem dq_B_beforeOrder_53 : decode prog_2_method_8_code 53 = .ok (.goto (-48), 3) := by decide +kernel
theorem dq_B_beforeOrder_56 : decode prog_2_method_8_code 56 = .ok (.lload_n 2, 1) := by decide +kernel
theorem dq_B_beforeOrder_57 : decode prog_2_method_8_code 57 = .ok (.lreturn, 1) := by decide +kernel
def fB_beforeOrder_50 (y0 : Nat) (k5 : qz_N × Int32 × Int64 × Int32 → Option (Int64 × qz_N)) (N : qz_N) (x1 : Int32) (x2 : Int64) (x4 : Int32) : Option (Int64 × qz_N) :=
  qz_let (x4 + (1 : Int32)) fun v1 =>
  k5 (N, x1, x2, v1)
def fB_beforeOrder_5b (y0 : Nat) (k5 : qz_N × Int32 × Int64 × Int32 → Option (Int64 × qz_N)) (N : qz_N) (x1 : Int32) (x2 : Int64) (x4 : Int32) : Option (Int64 × qz_N) :=
  if (qz_gi N 4 y0 7) ≤ x4 then
    some (x2, N)
  else
  if x4 < 0 ∨ 40 ≤ x4.toNatClampNeg then none else
  if x1 < 0 ∨ 40 ≤ x1.toNatClampNeg then none else
  if (qz_gi N 17 y0 x4.toNatClampNeg) = (qz_gi N 17 y0 x1.toNatClampNeg) then
    (fB_isBefore y0 x4 x1 N).bind fun q2 =>
    if q2.1 = 0 then
      fB_beforeOrder_50 y0 k5 q2.2 x1 x2 x4
    else
    if x4 < 0 ∨ 40 ≤ x4.toNatClampNeg then none else
    qz_let (x2 + (qz_gl q2.2 18 y0 x4.toNatClampNeg)) fun v4 =>
    fB_beforeOrder_50 y0 k5 q2.2 x1 v4 x4
  else
  fB_beforeOrder_50 y0 k5 N x1 x2 x4
def fB_beforeOrder_5 (y0 : Nat) (n : Nat) (a : qz_N × Int32 × Int64 × Int32) : Option (Int64 × qz_N) := qz_loop (fun k a => fB_beforeOrder_5b y0 k a.1 a.2.1 a.2.2.1 a.2.2.2) n a
def fB_beforeOrder (o : Nat) (x1 : Int32) (N : qz_N) : Option (Int64 × qz_N) :=
  fB_beforeOrder_5 o 1100 (N, x1, (0 : Int64), (0 : Int32))
set_option maxRecDepth 100000 in
set_option maxHeartbeats 4000000 in
theorem sB_beforeOrder_50 {p : Program} {l : Launch} {e : Env} {s : State} {m : MethodId} {args : Array Value} {below : List Frame} {meth : Method} {c : Code} {G : qz_G} (X : qz_X p s m args meth c "ExactCurves$Batch" prog_2_method_8_code 5 (some .long) G) {r : (Int64 × qz_N)} (y0 : Nat) (hy0 : y0 < 1) (k5 : qz_N × Int32 × Int64 × Int32 → Option (Int64 × qz_N)) (hk5 : ∀ a, k5 a = some r → qz_W p l e (qz_R 1) s m args below meth c 0 0 (MQ below (qz_Q G r.2 (some (.long r.1))) args s 0 0 (qz_A G)) G s.heap 5 a.1 5 [(1, .int a.2.1), (2, .long a.2.2.1), (4, .int a.2.2.2), (0, .ref (G.2.2 4 y0))] []) (N : qz_N) (x1 : Int32) (x2 : Int64) (x4 : Int32) (h : fB_beforeOrder_50 y0 k5 N x1 x2 x4 = some r) : qz_W p l e (qz_R 1) s m args below meth c 0 0 (MQ below (qz_Q G r.2 (some (.long r.1))) args s 0 0 (qz_A G)) G s.heap 5 N 50 [(1, .int x1), (2, .long x2), (4, .int x4), (0, .ref (G.2.2 4 y0))] [] := by
  unfold fB_beforeOrder_50 at h
  refine qz_iinc_l X (u := (1 : Int32)) (lv' := fun v1 => [(4, .int v1), (1, .int x1), (2, .long x2), (0, .ref (G.2.2 4 y0))]) (k := 2) rfl (by decide) (by decide) (fun _ => rfl) dq_B_beforeOrder_50 h (fun v1 h => ?_)
  refine qz_goto X (tgt := 5) (by decide) dq_B_beforeOrder_53 ?_
  refine qz_sub [1, 2, 0, 3] rfl ?_
  exact hk5 (N, x1, x2, v1) h
set_option maxRecDepth 100000 in
set_option maxHeartbeats 4000000 in
theorem sB_beforeOrder_5b {p : Program} {l : Launch} {e : Env} {s : State} {m : MethodId} {args : Array Value} {below : List Frame} {meth : Method} {c : Code} {G : qz_G} (X : qz_X p s m args meth c "ExactCurves$Batch" prog_2_method_8_code 5 (some .long) G) {r : (Int64 × qz_N)} (y0 : Nat) (hy0 : y0 < 1) (k5 : qz_N × Int32 × Int64 × Int32 → Option (Int64 × qz_N)) (hk5 : ∀ a, k5 a = some r → qz_W p l e (qz_R 1) s m args below meth c 0 0 (MQ below (qz_Q G r.2 (some (.long r.1))) args s 0 0 (qz_A G)) G s.heap 5 a.1 5 [(1, .int a.2.1), (2, .long a.2.2.1), (4, .int a.2.2.2), (0, .ref (G.2.2 4 y0))] []) (N : qz_N) (x1 : Int32) (x2 : Int64) (x4 : Int32) (h : fB_beforeOrder_5b y0 k5 N x1 x2 x4 = some r) : qz_W p l e (qz_R 1) s m args below meth c 0 0 (MQ below (qz_Q G r.2 (some (.long r.1))) args s 0 0 (qz_A G)) G s.heap 5 N 5 [(1, .int x1), (2, .long x2), (4, .int x4), (0, .ref (G.2.2 4 y0))] [] := by
  unfold fB_beforeOrder_5b at h
  refine qz_iload X 2 rfl dq_B_beforeOrder_5 ?_
  refine qz_aload_n X 3 rfl dq_B_beforeOrder_7 ?_
  refine qz_get X (v := .int (qz_gi N 4 y0 7)) kq_B_38 hy0 rfl dq_B_beforeOrder_8 ?_
  refine qz_icmp_ge X (tgt := 56) (by decide) dq_B_beforeOrder_11 h (fun _ h => ?_) (fun _ h => ?_)
  · refine qz_lload_n X 1 rfl dq_B_beforeOrder_56 ?_
    exact qz_lret X h dq_B_beforeOrder_57
  · refine qz_aload_n X 3 rfl dq_B_beforeOrder_14 ?_
    refine qz_get X (v := .ref (G.2.2 17 y0)) kq_B_15 hy0 rfl dq_B_beforeOrder_15 ?_
    refine qz_iload X 2 rfl dq_B_beforeOrder_18 ?_
    refine qz_zald X (c0 := 17) (i := y0) (n := 40) rfl hy0 dq_B_beforeOrder_20 h (fun h => ?_)
    refine qz_aload_n X 3 rfl dq_B_beforeOrder_21 ?_
    refine qz_get X (v := .ref (G.2.2 17 y0)) kq_B_15 hy0 rfl dq_B_beforeOrder_22 ?_
    refine qz_iload_n X 0 rfl dq_B_beforeOrder_25 ?_
    refine qz_zald X (c0 := 17) (i := y0) (n := 40) rfl hy0 dq_B_beforeOrder_26 h (fun h => ?_)
    refine qz_icmp_ne X (tgt := 50) (by decide) dq_B_beforeOrder_27 h (fun _ h => ?_) (fun _ h => ?_)
    · refine qz_sub [0, 1, 2, 3] rfl ?_
      exact sB_beforeOrder_50 X y0 hy0 k5 hk5 N x1 x2 x4 h
    · refine qz_aload_n X 3 rfl dq_B_beforeOrder_30 ?_
      refine qz_iload X 2 rfl dq_B_beforeOrder_31 ?_
      refine qz_iload_n X 0 rfl dq_B_beforeOrder_33 ?_
      refine qz_bind h (fun q2 e3 h => ?_)
      refine qz_callV X (as := [.int x4, .int x1]) (st := []) (o := some (.int q2.1)) (N' := q2.2) cq_B_68 hy0 (cB_isBefore l G X.2.2.2.2.2.2.1 y0 x4 x1 N hy0 _ e3) ⟨by decide, by decide⟩ rfl rfl (Nat.le_of_ble_eq_true rfl) ⟨Nat.zero_le _, Nat.zero_le _⟩ dq_B_beforeOrder_34 ?_
      refine qz_if_eq X (tgt := 50) (by decide) dq_B_beforeOrder_37 h (fun _ h => ?_) (fun _ h => ?_)
      · refine qz_sub [0, 1, 2, 3] rfl ?_
        exact sB_beforeOrder_50 X y0 hy0 k5 hk5 q2.2 x1 x2 x4 h
      · refine qz_lload_n X 1 rfl dq_B_beforeOrder_40 ?_
        refine qz_aload_n X 3 rfl dq_B_beforeOrder_41 ?_
        refine qz_get X (v := .ref (G.2.2 18 y0)) kq_B_19 hy0 rfl dq_B_beforeOrder_42 ?_
        refine qz_iload X 2 rfl dq_B_beforeOrder_45 ?_
        refine qz_lald X (c0 := 18) (i := y0) (n := 40) rfl hy0 dq_B_beforeOrder_47 h (fun h => ?_)
        refine qz_ladd X dq_B_beforeOrder_48 ?_
        refine qz_letj h (fun v4 h => ?_)
        refine qz_lstore_n X (lv' := [(2, .long v4), (1, .int x1), (4, .int x4), (0, .ref (G.2.2 4 y0))]) rfl (by decide) rfl dq_B_beforeOrder_49 ?_
        refine qz_sub [1, 0, 2, 3] rfl ?_
        exact sB_beforeOrder_50 X y0 hy0 k5 hk5 q2.2 x1 v4 x4 h
theorem sB_beforeOrder_5 {p : Program} {l : Launch} {e : Env} {s : State} {m : MethodId} {args : Array Value} {below : List Frame} {meth : Method} {c : Code} {G : qz_G} (X : qz_X p s m args meth c "ExactCurves$Batch" prog_2_method_8_code 5 (some .long) G) {r : (Int64 × qz_N)} (y0 : Nat) (hy0 : y0 < 1) (n : Nat) (a : qz_N × Int32 × Int64 × Int32) (h : fB_beforeOrder_5 y0 n a = some r) : qz_W p l e (qz_R 1) s m args below meth c 0 0 (MQ below (qz_Q G r.2 (some (.long r.1))) args s 0 0 (qz_A G)) G s.heap 5 a.1 5 [(1, .int a.2.1), (2, .long a.2.2.1), (4, .int a.2.2.2), (0, .ref (G.2.2 4 y0))] [] :=
  qz_loop_ind (P := fun a => qz_W p l e (qz_R 1) s m args below meth c 0 0 (MQ below (qz_Q G r.2 (some (.long r.1))) args s 0 0 (qz_A G)) G s.heap 5 a.1 5 [(1, .int a.2.1), (2, .long a.2.2.1), (4, .int a.2.2.2), (0, .ref (G.2.2 4 y0))] []) (fun k hk a h => sB_beforeOrder_5b X y0 hy0 k hk a.1 a.2.1 a.2.2.1 a.2.2.2 h) n a h
set_option maxRecDepth 100000 in
set_option maxHeartbeats 4000000 in
theorem sB_beforeOrder {p : Program} {l : Launch} {e : Env} {s : State} {m : MethodId} {args : Array Value} {below : List Frame} {meth : Method} {c : Code} {G : qz_G} (X : qz_X p s m args meth c "ExactCurves$Batch" prog_2_method_8_code 5 (some .long) G) {r : (Int64 × qz_N)} (o : Nat) (x1 : Int32) (ho : o < 1) (N : qz_N) (h : fB_beforeOrder o x1 N = some r) : qz_W p l e (qz_R 1) s m args below meth c 0 0 (MQ below (qz_Q G r.2 (some (.long r.1))) args s 0 0 (qz_A G)) G s.heap 5 N 0 [(0, .ref (G.2.2 4 o)), (1, .int x1)] [] := by
  unfold fB_beforeOrder at h
  refine qz_lconst X (v := (0 : Int64)) (by decide) dq_B_beforeOrder_0 ?_
  refine qz_lstore_n X (lv' := [(2, .long (0 : Int64)), (0, .ref (G.2.2 4 o)), (1, .int x1)]) rfl (by decide) rfl dq_B_beforeOrder_1 ?_
  refine qz_iconst X (v := (0 : Int32)) (by decide) dq_B_beforeOrder_2 ?_
  refine qz_istore X (lv' := [(4, .int (0 : Int32)), (2, .long (0 : Int64)), (0, .ref (G.2.2 4 o)), (1, .int x1)]) (by decide) rfl dq_B_beforeOrder_3 ?_
  refine qz_sub [3, 1, 0, 2] rfl ?_
  exact sB_beforeOrder_5 X o ho 1100 (N, x1, (0 : Int64), (0 : Int32)) h
theorem cB_beforeOrder (l : Launch) (G : qz_G) (hD : qz_D G) (o : Nat) (x1 : Int32) (N : qz_N) (ho : o < 1) (r : (Int64 × qz_N)) (h : fB_beforeOrder o x1 N = some r) : qz_M l yB_beforeOrder prog_2_method_8_code 5 (some .long) 1 G [.ref (G.2.2 4 o), .int x1] N (some (.long r.1)) r.2 :=
  qz_enter (lv := [(0, .ref (G.2.2 4 o)), (1, .int x1)]) rfl hD (Nat.le_of_ble_eq_true rfl) rfl (fun p e s m args below meth c X => sB_beforeOrder X o x1 ho N h)
