-- ExactCurvesModel.begin(J)V
theorem dq_M_begin_0 : decode prog_10_method_2_code 0 = .ok (.iconst 0, 1) := by decide +kernel
theorem dq_M_begin_1 : decode prog_10_method_2_code 1 = .ok (.istore_n 3, 1) := by decide +kernel
theorem dq_M_begin_2 : decode prog_10_method_2_code 2 = .ok (.iload_n 3, 1) := by decide +kernel
theorem dq_M_begin_3 : decode prog_10_method_2_code 3 = .ok (.bipush 6, 2) := by decide +kernel
theorem dq_M_begin_5 : decode prog_10_method_2_code 5 = .ok (.if_icmp .ge 34, 3) := by decide +kernel
theorem dq_M_begin_8 : decode prog_10_method_2_code 8 = .ok (.aload_n 0, 1) := by decide +kernel
theorem dq_M_begin_9 : decode prog_10_method_2_code 9 = .ok (.getfield 106, 3) := by decide +kernel
theorem dq_M_begin_12 : decode prog_10_method_2_code 12 = .ok (.iload_n 3, 1) := by decide +kernel
theorem dq_M_begin_13 : decode prog_10_method_2_code 13 = .ok (.iload_n 3, 1) := by decide +kernel
theorem dq_M_begin_14 : decode prog_10_method_2_code 14 = .ok (.iconst 3, 1) := by decide +kernel
theorem dq_M_begin_15 : decode prog_10_method_2_code 15 = .ok (.if_icmp .ge 16, 3) := by decide +kernel
theorem dq_M_begin_18 : decode prog_10_method_2_code 18 = .ok (.lload_n 1, 1) := by decide +kernel
theorem dq_M_begin_19 : decode prog_10_method_2_code 19 = .ok (.bipush 30, 2) := by decide +kernel
theorem dq_M_begin_21 : decode prog_10_method_2_code 21 = .ok (.iload_n 3, 1) := by decide +kernel
theorem dq_M_begin_22 : decode prog_10_method_2_code 22 = .ok (.imul, 1) := by decide +kernel
theorem dq_M_begin_23 : decode prog_10_method_2_code 23 = .ok (.lushr, 1) := by decide +kernel
theorem dq_M_begin_24 : decode prog_10_method_2_code 24 = .ok (.ldc2_w 120, 3) := by decide +kernel
theorem dq_M_begin_27 : decode prog_10_method_2_code 27 = .ok (.land, 1) := by decide +kernel
theorem dq_M_begin_28 : decode prog_10_method_2_code 28 = .ok (.goto 4, 3) := by decide +kernel
theorem dq_M_begin_31 : decode prog_10_method_2_code 31 = .ok (.lconst 0, 1) := by decide +kernel
theorem dq_M_begin_32 : decode prog_10_method_2_code 32 = .ok (.lastore, 1) := by decide +kernel
theorem dq_M_begin_33 : decode prog_10_method_2_code 33 = .ok (.iinc 3 1, 3) := by decide +kernel
theorem dq_M_begin_36 : decode prog_10_method_2_code 36 = .ok (.goto (-34), 3) := by decide +kernel
theorem dq_M_begin_39 : decode prog_10_method_2_code 39 = .ok (.return_, 1) := by decide +kernel
def fM_begin_32 (y0 : Nat) (k2 : qz_N × Int64 × Int32 → Option (Unit × qz_N)) (N : qz_N) (x1 : Int64) (x3 : Int32) (s0 : Int64) (s1 : Int32) (s2 : Nat) : Option (Unit × qz_N) :=
  if s1 < 0 ∨ 6 ≤ s1.toNatClampNeg then none else
  qz_let (qz_sl N 52 s2 s1.toNatClampNeg s0) fun N1 =>
  qz_let (x3 + (1 : Int32)) fun v2 =>
  k2 (N1, x1, v2)
def fM_begin_2b (y0 : Nat) (k2 : qz_N × Int64 × Int32 → Option (Unit × qz_N)) (N : qz_N) (x1 : Int64) (x3 : Int32) : Option (Unit × qz_N) :=
  if (6 : Int32) ≤ x3 then
    some ((), N)
  else
  if (3 : Int32) ≤ x3 then
    fM_begin_32 y0 k2 N x1 x3 (0 : Int64) x3 y0
  else
  fM_begin_32 y0 k2 N x1 x3 (((x1.toUInt64 >>> (((30 : Int32) * x3).toInt64.toUInt64 &&& Int64.toUInt64 63)).toInt64) &&& (1073741823 : Int64)) x3 y0
def fM_begin_2 (y0 : Nat) (n : Nat) (a : qz_N × Int64 × Int32) : Option (Unit × qz_N) := qz_loop (fun k a => fM_begin_2b y0 k a.1 a.2.1 a.2.2) n a
def fM_begin (o : Nat) (x1 : Int64) (N : qz_N) : Option (Unit × qz_N) :=
  fM_begin_2 o 1100 (N, x1, (0 : Int32))
set_option maxRecDepth 100000 in
set_option maxHeartbeats 4000000 in
theorem sM_begin_32 {p : Program} {l : Launch} {e : Env} {s : State} {m : MethodId} {args : Array Value} {below : List Frame} {meth : Method} {c : Code} {G : qz_G} (X : qz_X p s m args meth c "ExactCurvesModel" prog_10_method_2_code 4 none G) {r : (Unit × qz_N)} (y0 : Nat) (hy0 : y0 < 1) (k2 : qz_N × Int64 × Int32 → Option (Unit × qz_N)) (hk2 : ∀ a, k2 a = some r → qz_W p l e (qz_R 0) s m args below meth c 0 0 (MQ below (qz_Q G r.2 none) args s 0 0 (qz_A G)) G s.heap 4 a.1 2 [(1, .long a.2.1), (3, .int a.2.2), (0, .ref (G.2.2 7 y0))] []) (N : qz_N) (x1 : Int64) (x3 : Int32) (s0 : Int64) (s1 : Int32) (s2 : Nat) (hs2 : s2 < 1) (h : fM_begin_32 y0 k2 N x1 x3 s0 s1 s2 = some r) : qz_W p l e (qz_R 0) s m args below meth c 0 0 (MQ below (qz_Q G r.2 none) args s 0 0 (qz_A G)) G s.heap 4 N 32 [(1, .long x1), (3, .int x3), (0, .ref (G.2.2 7 y0))] [.long s0, .int s1, .ref (G.2.2 52 s2)] := by
  unfold fM_begin_32 at h
  refine qz_last X (c0 := 52) (i := s2) (n := 6) rfl hs2 dq_M_begin_32 h (fun N1 h => ?_)
  refine qz_iinc_l X (u := (1 : Int32)) (lv' := fun v2 => [(3, .int v2), (1, .long x1), (0, .ref (G.2.2 7 y0))]) (k := 1) rfl (by decide) (by decide) (fun _ => rfl) dq_M_begin_33 h (fun v2 h => ?_)
  refine qz_goto X (tgt := 2) (by decide) dq_M_begin_36 ?_
  refine qz_sub [1, 0, 2] rfl ?_
  exact hk2 (N1, x1, v2) h
set_option maxRecDepth 100000 in
set_option maxHeartbeats 4000000 in
theorem sM_begin_2b {p : Program} {l : Launch} {e : Env} {s : State} {m : MethodId} {args : Array Value} {below : List Frame} {meth : Method} {c : Code} {G : qz_G} (X : qz_X p s m args meth c "ExactCurvesModel" prog_10_method_2_code 4 none G) {r : (Unit × qz_N)} (y0 : Nat) (hy0 : y0 < 1) (k2 : qz_N × Int64 × Int32 → Option (Unit × qz_N)) (hk2 : ∀ a, k2 a = some r → qz_W p l e (qz_R 0) s m args below meth c 0 0 (MQ below (qz_Q G r.2 none) args s 0 0 (qz_A G)) G s.heap 4 a.1 2 [(1, .long a.2.1), (3, .int a.2.2), (0, .ref (G.2.2 7 y0))] []) (N : qz_N) (x1 : Int64) (x3 : Int32) (h : fM_begin_2b y0 k2 N x1 x3 = some r) : qz_W p l e (qz_R 0) s m args below meth c 0 0 (MQ below (qz_Q G r.2 none) args s 0 0 (qz_A G)) G s.heap 4 N 2 [(1, .long x1), (3, .int x3), (0, .ref (G.2.2 7 y0))] [] := by
  unfold fM_begin_2b at h
  refine qz_iload_n X 1 rfl dq_M_begin_2 ?_
  refine qz_bipush X (v := (6 : Int32)) (by decide) dq_M_begin_3 ?_
  refine qz_icmp_ge X (tgt := 39) (by decide) dq_M_begin_5 h (fun _ h => ?_) (fun _ h => ?_)
  · exact qz_vret X h dq_M_begin_39
  · refine qz_aload_n X 2 rfl dq_M_begin_8 ?_
    refine qz_get X (v := .ref (G.2.2 52 y0)) kq_M_106 hy0 rfl dq_M_begin_9 ?_
    refine qz_iload_n X 1 rfl dq_M_begin_12 ?_
    refine qz_iload_n X 1 rfl dq_M_begin_13 ?_
    refine qz_iconst X (v := (3 : Int32)) (by decide) dq_M_begin_14 ?_
    refine qz_icmp_ge X (tgt := 31) (by decide) dq_M_begin_15 h (fun _ h => ?_) (fun _ h => ?_)
    · refine qz_lconst X (v := (0 : Int64)) (by decide) dq_M_begin_31 ?_
      refine qz_sub [0, 1, 2] rfl ?_
      exact sM_begin_32 X y0 hy0 k2 hk2 N x1 x3 (0 : Int64) x3 y0 hy0 h
    · refine qz_lload_n X 0 rfl dq_M_begin_18 ?_
      refine qz_bipush X (v := (30 : Int32)) (by decide) dq_M_begin_19 ?_
      refine qz_iload_n X 1 rfl dq_M_begin_21 ?_
      refine qz_imul X dq_M_begin_22 ?_
      refine qz_lushr X dq_M_begin_23 ?_
      refine qz_ldc2 X (v := (1073741823 : Int64)) wq_804 dq_M_begin_24 ?_
      refine qz_land X dq_M_begin_27 ?_
      refine qz_goto X (tgt := 32) (by decide) dq_M_begin_28 ?_
      refine qz_sub [0, 1, 2] rfl ?_
      exact sM_begin_32 X y0 hy0 k2 hk2 N x1 x3 (((x1.toUInt64 >>> (((30 : Int32) * x3).toInt64.toUInt64 &&& Int64.toUInt64 63)).toInt64) &&& (1073741823 : Int64)) x3 y0 hy0 h
theorem sM_begin_2 {p : Program} {l : Launch} {e : Env} {s : State} {m : MethodId} {args : Array Value} {below : List Frame} {meth : Method} {c : Code} {G : qz_G} (X : qz_X p s m args meth c "ExactCurvesModel" prog_10_method_2_code 4 none G) {r : (Unit × qz_N)} (y0 : Nat) (hy0 : y0 < 1) (n : Nat) (a : qz_N × Int64 × Int32) (h : fM_begin_2 y0 n a = some r) : qz_W p l e (qz_R 0) s m args below meth c 0 0 (MQ below (qz_Q G r.2 none) args s 0 0 (qz_A G)) G s.heap 4 a.1 2 [(1, .long a.2.1), (3, .int a.2.2), (0, .ref (G.2.2 7 y0))] [] :=
  qz_loop_ind (P := fun a => qz_W p l e (qz_R 0) s m args below meth c 0 0 (MQ below (qz_Q G r.2 none) args s 0 0 (qz_A G)) G s.heap 4 a.1 2 [(1, .long a.2.1), (3, .int a.2.2), (0, .ref (G.2.2 7 y0))] []) (fun k hk a h => sM_begin_2b X y0 hy0 k hk a.1 a.2.1 a.2.2 h) n a h
set_option maxRecDepth 100000 in
set_option maxHeartbeats 4000000 in
theorem sM_begin {p : Program} {l : Launch} {e : Env} {s : State} {m : MethodId} {args : Array Value} {below : List Frame} {meth : Method} {c : Code} {G : qz_G} (X : qz_X p s m args meth c "ExactCurvesModel" prog_10_method_2_code 4 none G) {r : (Unit × qz_N)} (o : Nat) (x1 : Int64) (ho : o < 1) (N : qz_N) (h : fM_begin o x1 N = some r) : qz_W p l e (qz_R 0) s m args below meth c 0 0 (MQ below (qz_Q G r.2 none) args s 0 0 (qz_A G)) G s.heap 4 N 0 [(0, .ref (G.2.2 7 o)), (1, .long x1)] [] := by
  unfold fM_begin at h
  refine qz_iconst X (v := (0 : Int32)) (by decide) dq_M_begin_0 ?_
  refine qz_istore_n X (lv' := [(3, .int (0 : Int32)), (0, .ref (G.2.2 7 o)), (1, .long x1)]) rfl (by decide) rfl dq_M_begin_1 ?_
  refine qz_sub [2, 0, 1] rfl ?_
  exact sM_begin_2 X o ho 1100 (N, x1, (0 : Int32)) h
theorem cM_begin (l : Launch) (G : qz_G) (hD : qz_D G) (o : Nat) (x1 : Int64) (N : qz_N) (ho : o < 1) (r : (Unit × qz_N)) (h : fM_begin o x1 N = some r) : qz_M l yM_begin prog_10_method_2_code 4 none 0 G [.ref (G.2.2 7 o), .long x1] N none r.2 :=
  qz_enter (lv := [(0, .ref (G.2.2 7 o)), (1, .long x1)]) rfl hD (Nat.le_of_ble_eq_true rfl) rfl (fun p e s m args below meth c X => sM_begin X o x1 ho N h)
-- ExactCurvesModel.times(J)V
theorem dq_M_times_0 : decode prog_10_method_3_code 0 = .ok (.iconst 0, 1) := by decide +kernel
theorem dq_M_times_1 : decode prog_10_method_3_code 1 = .ok (.istore_n 3, 1) := by decide +kernel
theorem dq_M_times_2 : decode prog_10_method_3_code 2 = .ok (.iload_n 3, 1) := by decide +kernel
theorem dq_M_times_3 : decode prog_10_method_3_code 3 = .ok (.bipush 9, 2) := by decide +kernel
theorem dq_M_times_5 : decode prog_10_method_3_code 5 = .ok (.if_icmp .ge 16, 3) := by decide +kernel
theorem dq_M_times_8 : decode prog_10_method_3_code 8 = .ok (.aload_n 0, 1) := by decide +kernel
theorem dq_M_times_9 : decode prog_10_method_3_code 9 = .ok (.getfield 112, 3) := by decide +kernel
theorem dq_M_times_12 : decode prog_10_method_3_code 12 = .ok (.iload_n 3, 1) := by decide +kernel
theorem dq_M_times_13 : decode prog_10_method_3_code 13 = .ok (.lconst 0, 1) := by decide +kernel
theorem dq_M_times_14 : decode prog_10_method_3_code 14 = .ok (.lastore, 1) := by decide +kernel
theorem dq_M_times_15 : decode prog_10_method_3_code 15 = .ok (.iinc 3 1, 3) := by decide +kernel
theorem dq_M_times_18 : decode prog_10_method_3_code 18 = .ok (.goto (-16), 3) := by decide +kernel
theorem dq_M_times_21 : decode prog_10_method_3_code 21 = .ok (.iconst 0, 1) := by decide +kernel
theorem dq_M_times_22 : decode prog_10_method_3_code 22 = .ok (.istore_n 3, 1) := by decide +kernel
theorem dq_M_times_23 : decode prog_10_method_3_code 23 = .ok (.iload_n 3, 1) := by decide +kernel
theorem dq_M_times_24 : decode prog_10_method_3_code 24 = .ok (.iconst 3, 1) := by decide +kernel
theorem dq_M_times_25 : decode prog_10_method_3_code 25 = .ok (.if_icmp .ge 25, 3) := by decide +kernel
theorem dq_M_times_28 : decode prog_10_method_3_code 28 = .ok (.aload_n 0, 1) := by decide +kernel
theorem dq_M_times_29 : decode prog_10_method_3_code 29 = .ok (.getfield 115, 3) := by decide +kernel
theorem dq_M_times_32 : decode prog_10_method_3_code 32 = .ok (.iload_n 3, 1) := by decide +kernel
theorem dq_M_times_33 : decode prog_10_method_3_code 33 = .ok (.lload_n 1, 1) := by decide +kernel
theorem dq_M_times_34 : decode prog_10_method_3_code 34 = .ok (.bipush 30, 2) := by decide +kernel
theorem dq_M_times_36 : decode prog_10_method_3_code 36 = .ok (.iload_n 3, 1) := by decide +kernel
theorem dq_M_times_37 : decode prog_10_method_3_code 37 = .ok (.imul, 1) := by decide +kernel
theorem dq_M_times_38 : decode prog_10_method_3_code 38 = .ok (.lushr, 1) := by decide +kernel
theorem dq_M_times_39 : decode prog_10_method_3_code 39 = .ok (.ldc2_w 120, 3) := by decide +kernel
theorem dq_M_times_42 : decode prog_10_method_3_code 42 = .ok (.land, 1) := by decide +kernel
theorem dq_M_times_43 : decode prog_10_method_3_code 43 = .ok (.lastore, 1) := by decide +kernel
theorem dq_M_times_44 : decode prog_10_method_3_code 44 = .ok (.iinc 3 1, 3) := by decide +kernel
theorem dq_M_times_47 : decode prog_10_method_3_code 47 = .ok (.goto (-24), 3) := by decide +kernel
theorem dq_M_times_50 : decode prog_10_method_3_code 50 = .ok (.iconst 0, 1) := by decide +kernel
theorem dq_M_times_51 : decode prog_10_method_3_code 51 = .ok (.istore_n 3, 1) := by decide +kernel
theorem dq_M_times_52 : decode prog_10_method_3_code 52 = .ok (.iload_n 3, 1) := by decide +kernel
theorem dq_M_times_53 : decode prog_10_method_3_code 53 = .ok (.bipush 6, 2) := by decide +kernel
theorem dq_M_times_55 : decode prog_10_method_3_code 55 = .ok (.if_icmp .ge 101, 3) := by decide +kernel
theorem dq_M_times_58 : decode prog_10_method_3_code 58 = .ok (.iconst 0, 1) := by decide +kernel
theorem dq_M_times_59 : decode prog_10_method_3_code 59 = .ok (.istore 4, 2) := by decide +kernel
theorem dq_M_times_61 : decode prog_10_method_3_code 61 = .ok (.iload 4, 2) := by decide +kernel
theorem dq_M_times_63 : decode prog_10_method_3_code 63 = .ok (.iconst 3, 1) := by decide +kernel
theorem dq_M_times_64 : decode prog_10_method_3_code 64 = .ok (.if_icmp .ge 35, 3) := by decide +kernel
theorem dq_M_times_67 : decode prog_10_method_3_code 67 = .ok (.aload_n 0, 1) := by decide +kernel
theorem dq_M_times_68 : decode prog_10_method_3_code 68 = .ok (.getfield 112, 3) := by decide +kernel
theorem dq_M_times_71 : decode prog_10_method_3_code 71 = .ok (.iload_n 3, 1) := by decide +kernel
theorem dq_M_times_72 : decode prog_10_method_3_code 72 = .ok (.iload 4, 2) := by decide +kernel
theorem dq_M_times_74 : decode prog_10_method_3_code 74 = .ok (.iadd, 1) := by decide +kernel
theorem dq_M_times_75 : decode prog_10_method_3_code 75 = .ok (.dup2, 1) := by decide +kernel
theorem dq_M_times_76 : decode prog_10_method_3_code 76 = .ok (.laload, 1) := by decide +kernel
theorem dq_M_times_77 : decode prog_10_method_3_code 77 = .ok (.aload_n 0, 1) := by decide +kernel
theorem dq_M_times_78 : decode prog_10_method_3_code 78 = .ok (.getfield 106, 3) := by decide +kernel
theorem dq_M_times_81 : decode prog_10_method_3_code 81 = .ok (.iload_n 3, 1) := by decide +kernel
theorem dq_M_times_82 : decode prog_10_method_3_code 82 = .ok (.laload, 1) := by decide +kernel
theorem dq_M_times_83 : decode prog_10_method_3_code 83 = .ok (.aload_n 0, 1) := by decide +kernel
theorem dq_M_times_84 : decode prog_10_method_3_code 84 = .ok (.getfield 115, 3) := by decide +kernel
theorem dq_M_times_87 : decode prog_10_method_3_code 87 = .ok (.iload 4, 2) := by decide +kernel
theorem dq_M_times_89 : decode prog_10_method_3_code 89 = .ok (.laload, 1) := by decide +kernel
theorem dq_M_times_90 : decode prog_10_method_3_code 90 = .ok (.lmul, 1) := by decide +kernel
theorem dq_M_times_91 : decode prog_10_method_3_code 91 = .ok (.ladd, 1) := by decide +kernel
theorem dq_M_times_92 : decode prog_10_method_3_code 92 = .ok (.lastore, 1) := by decide +kernel
theorem dq_M_times_93 : decode prog_10_method_3_code 93 = .ok (.iinc 4 1, 3) := by decide +kernel
theorem dq_M_times_96 : decode prog_10_method_3_code 96 = .ok (.goto (-35), 3) := by decide +kernel
theorem dq_M_times_99 : decode prog_10_method_3_code 99 = .ok (.lconst 0, 1) := by decide +kernel
theorem dq_M_times_100 : decode prog_10_method_3_code 100 = .ok (.lstore 4, 2) := by decide +kernel
theorem dq_M_times_102 : decode prog_10_method_3_code 102 = .ok (.iconst 0, 1) := by decide +kernel
theorem dq_M_times_103 : decode prog_10_method_3_code 103 = .ok (.istore 6, 2) := by decide +kernel
theorem dq_M_times_105 : decode prog_10_method_3_code 105 = .ok (.iload 6, 2) := by decide +kernel
theorem dq_M_times_107 : decode prog_10_method_3_code 107 = .ok (.bipush 9, 2) := by decide +kernel
theorem dq_M_times_109 : decode prog_10_method_3_code 109 = .ok (.if_icmp .ge 41, 3) := by decide +kernel
theorem dq_M_times_112 : decode prog_10_method_3_code 112 = .ok (.aload_n 0, 1) := by decide +kernel
theorem dq_M_times_113 : decode prog_10_method_3_code 113 = .ok (.getfield 112, 3) := by decide +kernel
theorem dq_M_times_116 : decode prog_10_method_3_code 116 = .ok (.iload 6, 2) := by decide +kernel
theorem dq_M_times_118 : decode prog_10_method_3_code 118 = .ok (.laload, 1) := by decide +kernel
theorem dq_M_times_119 : decode prog_10_method_3_code 119 = .ok (.lload 4, 2) := by decide +kernel
theorem dq_M_times_121 : decode prog_10_method_3_code 121 = .ok (.ladd, 1) := by decide +kernel
theorem dq_M_times_122 : decode prog_10_method_3_code 122 = .ok (.lstore 7, 2) := by decide +kernel
theorem dq_M_times_124 : decode prog_10_method_3_code 124 = .ok (.aload_n 0, 1) := by decide +kernel
theorem dq_M_times_125 : decode prog_10_method_3_code 125 = .ok (.getfield 112, 3) := by decide +kernel
theorem dq_M_times_128 : decode prog_10_method_3_code 128 = .ok (.iload 6, 2) := by decide +kernel
theorem dq_M_times_130 : decode prog_10_method_3_code 130 = .ok (.lload 7, 2) := by decide +kernel
theorem dq_M_times_132 : decode prog_10_method_3_code 132 = .ok (.ldc2_w 120, 3) := by decide +kernel
theorem dq_M_times_135 : decode prog_10_method_3_code 135 = .ok (.land, 1) := by decide +kernel
theorem dq_M_times_136 : decode prog_10_method_3_code 136 = .ok (.lastore, 1) := by decide +kernel
theorem dq_M_times_137 : decode prog_10_method_3_code 137 = .ok (.lload 7, 2) := by decide +kernel
theorem dq_M_times_139 : decode prog_10_method_3_code 139 = .ok (.bipush 30, 2) := by decide +kernel
theorem dq_M_times_141 : decode prog_10_method_3_code 141 = .ok (.lushr, 1) := by decide +kernel
theorem dq_M_times_142 : decode prog_10_method_3_code 142 = .ok (.lstore 4, 2) := by decide +kernel
theorem dq_M_times_144 : decode prog_10_method_3_code 144 = .ok (.iinc 6 1, 3) := by decide +kernel
theorem dq_M_times_147 : decode prog_10_method_3_code 147 = .ok (.goto (-42), 3) := by decide +kernel
theorem dq_M_times_150 : decode prog_10_method_3_code 150 = .ok (.iinc 3 1, 3) := by decide +kernel
theorem dq_M_times_153 : decode prog_10_method_3_code 153 = .ok (.goto (-101), 3) := by decide +kernel
theorem dq_M_times_156 : decode prog_10_method_3_code 156 = .ok (.iconst 0, 1) := by decide +kernel
theorem dq_M_times_157 : decode prog_10_method_3_code 157 = .ok (.istore_n 3, 1) := by decide +kernel
theorem dq_M_times_158 : decode prog_10_method_3_code 158 = .ok (.iload_n 3, 1) := by decide +kernel
theorem dq_M_times_159 : decode prog_10_method_3_code 159 = .ok (.bipush 6, 2) := by decide +kernel
theorem dq_M_times_161 : decode prog_10_method_3_code 161 = .ok (.if_icmp .ge 21, 3) := by decide +kernel
theorem dq_M_times_164 : decode prog_10_method_3_code 164 = .ok (.aload_n 0, 1) := by decide +kernel
theorem dq_M_times_165 : decode prog_10_method_3_code 165 = .ok (.getfield 106, 3) := by decide +kernel
theorem dq_M_times_168 : decode prog_10_method_3_code 168 = .ok (.iload_n 3, 1) := by decide +kernel
theorem dq_M_times_169 : decode prog_10_method_3_code 169 = .ok (.aload_n 0, 1) := by decide +kernel
theorem dq_M_times_170 : decode prog_10_method_3_code 170 = .ok (.getfield 112, 3) := by decide +kernel
theorem dq_M_times_173 : decode prog_10_method_3_code 173 = .ok (.iload_n 3, 1) := by decide +kernel
theorem dq_M_times_174 : decode prog_10_method_3_code 174 = .ok (.laload, 1) := by decide +kernel
theorem dq_M_times_175 : decode prog_10_method_3_code 175 = .ok (.lastore, 1) := by decide +kernel
theorem dq_M_times_176 : decode prog_10_method_3_code 176 = .ok (.iinc 3 1, 3) := by decide +kernel
theorem dq_M_times_179 : decode prog_10_method_3_code 179 = .ok (.goto (-21), 3) := by decide +kernel
theorem dq_M_times_182 : decode prog_10_method_3_code 182 = .ok (.return_, 1) := by decide +kernel
def fM_times_158b (y0 : Nat) (k158 : qz_N × Int32 → Option (Unit × qz_N)) (N : qz_N) (x3 : Int32) : Option (Unit × qz_N) :=
  if (6 : Int32) ≤ x3 then
    some ((), N)
  else
  if x3 < 0 ∨ 9 ≤ x3.toNatClampNeg then none else
  if x3 < 0 ∨ 6 ≤ x3.toNatClampNeg then none else
  qz_let (qz_sl N 52 y0 x3.toNatClampNeg (qz_gl N 54 y0 x3.toNatClampNeg)) fun N1 =>
  qz_let (x3 + (1 : Int32)) fun v2 =>
  k158 (N1, v2)
def fM_times_158 (y0 : Nat) (n : Nat) (a : qz_N × Int32) : Option (Unit × qz_N) := qz_loop (fun k a => fM_times_158b y0 k a.1 a.2) n a
def fM_times_105b (y0 : Nat) (k52 : qz_N × Int32 → Option (Unit × qz_N)) (k105 : qz_N × Int32 × Int64 × Int32 → Option (Unit × qz_N)) (N : qz_N) (x3 : Int32) (x4 : Int64) (x6 : Int32) : Option (Unit × qz_N) :=
  if (9 : Int32) ≤ x6 then
    qz_let (x3 + (1 : Int32)) fun v3 =>
    k52 (N, v3)
  else
  if x6 < 0 ∨ 9 ≤ x6.toNatClampNeg then none else
  qz_let ((qz_gl N 54 y0 x6.toNatClampNeg) + x4) fun v4 =>
  if x6 < 0 ∨ 9 ≤ x6.toNatClampNeg then none else
  qz_let (qz_sl N 54 y0 x6.toNatClampNeg (v4 &&& (1073741823 : Int64))) fun N5 =>
  qz_let ((v4.toUInt64 >>> ((30 : Int32).toInt64.toUInt64 &&& Int64.toUInt64 63)).toInt64) fun v6 =>
  qz_let (x6 + (1 : Int32)) fun v7 =>
  k105 (N5, x3, v6, v7)
def fM_times_105 (y0 : Nat) (k52 : qz_N × Int32 → Option (Unit × qz_N)) (n : Nat) (a : qz_N × Int32 × Int64 × Int32) : Option (Unit × qz_N) := qz_loop (fun k a => fM_times_105b y0 k52 k a.1 a.2.1 a.2.2.1 a.2.2.2) n a
def fM_times_61b (y0 : Nat) (k52 : qz_N × Int32 → Option (Unit × qz_N)) (k61 : qz_N × Int32 × Int32 → Option (Unit × qz_N)) (N : qz_N) (x3 : Int32) (x4 : Int32) : Option (Unit × qz_N) :=
  if (3 : Int32) ≤ x4 then
    fM_times_105 y0 k52 1100 (N, x3, (0 : Int64), (0 : Int32))
  else
  if (x3 + x4) < 0 ∨ 9 ≤ (x3 + x4).toNatClampNeg then none else
  if x3 < 0 ∨ 6 ≤ x3.toNatClampNeg then none else
  if x4 < 0 ∨ 3 ≤ x4.toNatClampNeg then none else
  if (x3 + x4) < 0 ∨ 9 ≤ (x3 + x4).toNatClampNeg then none else
  qz_let (qz_sl N 54 y0 (x3 + x4).toNatClampNeg ((qz_gl N 54 y0 (x3 + x4).toNatClampNeg) + ((qz_gl N 52 y0 x3.toNatClampNeg) * (qz_gl N 55 y0 x4.toNatClampNeg)))) fun N8 =>
  qz_let (x4 + (1 : Int32)) fun v9 =>
  k61 (N8, x3, v9)
def fM_times_61 (y0 : Nat) (k52 : qz_N × Int32 → Option (Unit × qz_N)) (n : Nat) (a : qz_N × Int32 × Int32) : Option (Unit × qz_N) := qz_loop (fun k a => fM_times_61b y0 k52 k a.1 a.2.1 a.2.2) n a
def fM_times_52b (y0 : Nat) (k52 : qz_N × Int32 → Option (Unit × qz_N)) (N : qz_N) (x3 : Int32) : Option (Unit × qz_N) :=
  if (6 : Int32) ≤ x3 then
    fM_times_158 y0 1100 (N, (0 : Int32))
  else
  fM_times_61 y0 k52 1100 (N, x3, (0 : Int32))
def fM_times_52 (y0 : Nat) (n : Nat) (a : qz_N × Int32) : Option (Unit × qz_N) := qz_loop (fun k a => fM_times_52b y0 k a.1 a.2) n a
def fM_times_23b (y0 : Nat) (k23 : qz_N × Int64 × Int32 → Option (Unit × qz_N)) (N : qz_N) (x1 : Int64) (x3 : Int32) : Option (Unit × qz_N) :=
  if (3 : Int32) ≤ x3 then
    fM_times_52 y0 1100 (N, (0 : Int32))
  else
  if x3 < 0 ∨ 3 ≤ x3.toNatClampNeg then none else
  qz_let (qz_sl N 55 y0 x3.toNatClampNeg (((x1.toUInt64 >>> (((30 : Int32) * x3).toInt64.toUInt64 &&& Int64.toUInt64 63)).toInt64) &&& (1073741823 : Int64))) fun N10 =>
  qz_let (x3 + (1 : Int32)) fun v11 =>
  k23 (N10, x1, v11)
def fM_times_23 (y0 : Nat) (n : Nat) (a : qz_N × Int64 × Int32) : Option (Unit × qz_N) := qz_loop (fun k a => fM_times_23b y0 k a.1 a.2.1 a.2.2) n a
def fM_times_2b (y0 : Nat) (k2 : qz_N × Int64 × Int32 → Option (Unit × qz_N)) (N : qz_N) (x1 : Int64) (x3 : Int32) : Option (Unit × qz_N) :=
  if (9 : Int32) ≤ x3 then
    fM_times_23 y0 1100 (N, x1, (0 : Int32))
  else
  if x3 < 0 ∨ 9 ≤ x3.toNatClampNeg then none else
  qz_let (qz_sl N 54 y0 x3.toNatClampNeg (0 : Int64)) fun N12 =>
  qz_let (x3 + (1 : Int32)) fun v13 =>
  k2 (N12, x1, v13)
def fM_times_2 (y0 : Nat) (n : Nat) (a : qz_N × Int64 × Int32) : Option (Unit × qz_N) := qz_loop (fun k a => fM_times_2b y0 k a.1 a.2.1 a.2.2) n a
def fM_times (o : Nat) (x1 : Int64) (N : qz_N) : Option (Unit × qz_N) :=
  fM_times_2 o 1100 (N, x1, (0 : Int32))
set_option maxRecDepth 100000 in
set_option maxHeartbeats 4000000 in
theorem sM_times_158b {p : Program} {l : Launch} {e : Env} {s : State} {m : MethodId} {args : Array Value} {below : List Frame} {meth : Method} {c : Code} {G : qz_G} (X : qz_X p s m args meth c "ExactCurvesModel" prog_10_method_3_code 9 none G) {r : (Unit × qz_N)} (y0 : Nat) (hy0 : y0 < 1) (k158 : qz_N × Int32 → Option (Unit × qz_N)) (hk158 : ∀ a, k158 a = some r → qz_W p l e (qz_R 0) s m args below meth c 0 0 (MQ below (qz_Q G r.2 none) args s 0 0 (qz_A G)) G s.heap 9 a.1 158 [(3, .int a.2), (0, .ref (G.2.2 7 y0))] []) (N : qz_N) (x3 : Int32) (h : fM_times_158b y0 k158 N x3 = some r) : qz_W p l e (qz_R 0) s m args below meth c 0 0 (MQ below (qz_Q G r.2 none) args s 0 0 (qz_A G)) G s.heap 9 N 158 [(3, .int x3), (0, .ref (G.2.2 7 y0))] [] := by
  unfold fM_times_158b at h
  refine qz_iload_n X 0 rfl dq_M_times_158 ?_
  refine qz_bipush X (v := (6 : Int32)) (by decide) dq_M_times_159 ?_
  refine qz_icmp_ge X (tgt := 182) (by decide) dq_M_times_161 h (fun _ h => ?_) (fun _ h => ?_)
  · exact qz_vret X h dq_M_times_182
  · refine qz_aload_n X 1 rfl dq_M_times_164 ?_
    refine qz_get X (v := .ref (G.2.2 52 y0)) kq_M_106 hy0 rfl dq_M_times_165 ?_
    refine qz_iload_n X 0 rfl dq_M_times_168 ?_
    refine qz_aload_n X 1 rfl dq_M_times_169 ?_
    refine qz_get X (v := .ref (G.2.2 54 y0)) kq_M_112 hy0 rfl dq_M_times_170 ?_
    refine qz_iload_n X 0 rfl dq_M_times_173 ?_
    refine qz_lald X (c0 := 54) (i := y0) (n := 9) rfl hy0 dq_M_times_174 h (fun h => ?_)
    refine qz_last X (c0 := 52) (i := y0) (n := 6) rfl hy0 dq_M_times_175 h (fun N1 h => ?_)
    refine qz_iinc_l X (u := (1 : Int32)) (lv' := fun v2 => [(3, .int v2), (0, .ref (G.2.2 7 y0))]) (k := 0) rfl (by decide) (by decide) (fun _ => rfl) dq_M_times_176 h (fun v2 h => ?_)
    refine qz_goto X (tgt := 158) (by decide) dq_M_times_179 ?_
    refine qz_sub [0, 1] rfl ?_
    exact hk158 (N1, v2) h
theorem sM_times_158 {p : Program} {l : Launch} {e : Env} {s : State} {m : MethodId} {args : Array Value} {below : List Frame} {meth : Method} {c : Code} {G : qz_G} (X : qz_X p s m args meth c "ExactCurvesModel" prog_10_method_3_code 9 none G) {r : (Unit × qz_N)} (y0 : Nat) (hy0 : y0 < 1) (n : Nat) (a : qz_N × Int32) (h : fM_times_158 y0 n a = some r) : qz_W p l e (qz_R 0) s m args below meth c 0 0 (MQ below (qz_Q G r.2 none) args s 0 0 (qz_A G)) G s.heap 9 a.1 158 [(3, .int a.2), (0, .ref (G.2.2 7 y0))] [] :=
  qz_loop_ind (P := fun a => qz_W p l e (qz_R 0) s m args below meth c 0 0 (MQ below (qz_Q G r.2 none) args s 0 0 (qz_A G)) G s.heap 9 a.1 158 [(3, .int a.2), (0, .ref (G.2.2 7 y0))] []) (fun k hk a h => sM_times_158b X y0 hy0 k hk a.1 a.2 h) n a h
set_option maxRecDepth 100000 in
set_option maxHeartbeats 4000000 in
theorem sM_times_105b {p : Program} {l : Launch} {e : Env} {s : State} {m : MethodId} {args : Array Value} {below : List Frame} {meth : Method} {c : Code} {G : qz_G} (X : qz_X p s m args meth c "ExactCurvesModel" prog_10_method_3_code 9 none G) {r : (Unit × qz_N)} (y0 : Nat) (hy0 : y0 < 1) (k52 : qz_N × Int32 → Option (Unit × qz_N)) (k105 : qz_N × Int32 × Int64 × Int32 → Option (Unit × qz_N)) (hk52 : ∀ a, k52 a = some r → qz_W p l e (qz_R 0) s m args below meth c 0 0 (MQ below (qz_Q G r.2 none) args s 0 0 (qz_A G)) G s.heap 9 a.1 52 [(3, .int a.2), (0, .ref (G.2.2 7 y0))] []) (hk105 : ∀ a, k105 a = some r → qz_W p l e (qz_R 0) s m args below meth c 0 0 (MQ below (qz_Q G r.2 none) args s 0 0 (qz_A G)) G s.heap 9 a.1 105 [(3, .int a.2.1), (4, .long a.2.2.1), (6, .int a.2.2.2), (0, .ref (G.2.2 7 y0))] []) (N : qz_N) (x3 : Int32) (x4 : Int64) (x6 : Int32) (h : fM_times_105b y0 k52 k105 N x3 x4 x6 = some r) : qz_W p l e (qz_R 0) s m args below meth c 0 0 (MQ below (qz_Q G r.2 none) args s 0 0 (qz_A G)) G s.heap 9 N 105 [(3, .int x3), (4, .long x4), (6, .int x6), (0, .ref (G.2.2 7 y0))] [] := by
  unfold fM_times_105b at h
  refine qz_iload X 2 rfl dq_M_times_105 ?_
  refine qz_bipush X (v := (9 : Int32)) (by decide) dq_M_times_107 ?_
  refine qz_icmp_ge X (tgt := 150) (by decide) dq_M_times_109 h (fun _ h => ?_) (fun _ h => ?_)
  · refine qz_iinc_l X (u := (1 : Int32)) (lv' := fun v3 => [(3, .int v3), (4, .long x4), (6, .int x6), (0, .ref (G.2.2 7 y0))]) (k := 0) rfl (by decide) (by decide) (fun _ => rfl) dq_M_times_150 h (fun v3 h => ?_)
    refine qz_goto X (tgt := 52) (by decide) dq_M_times_153 ?_
    refine qz_sub [0, 3] rfl ?_
    exact hk52 (N, v3) h
  · refine qz_aload_n X 3 rfl dq_M_times_112 ?_
    refine qz_get X (v := .ref (G.2.2 54 y0)) kq_M_112 hy0 rfl dq_M_times_113 ?_
    refine qz_iload X 2 rfl dq_M_times_116 ?_
    refine qz_lald X (c0 := 54) (i := y0) (n := 9) rfl hy0 dq_M_times_118 h (fun h => ?_)
    refine qz_lload X 1 rfl dq_M_times_119 ?_
    refine qz_ladd X dq_M_times_121 ?_
    refine qz_letj h (fun v4 h => ?_)
    refine qz_lstore X (lv' := [(7, .long v4), (3, .int x3), (4, .long x4), (6, .int x6), (0, .ref (G.2.2 7 y0))]) (by decide) rfl dq_M_times_122 ?_
    refine qz_aload_n X 4 rfl dq_M_times_124 ?_
    refine qz_get X (v := .ref (G.2.2 54 y0)) kq_M_112 hy0 rfl dq_M_times_125 ?_
    refine qz_iload X 3 rfl dq_M_times_128 ?_
    refine qz_lload X 0 rfl dq_M_times_130 ?_
    refine qz_ldc2 X (v := (1073741823 : Int64)) wq_804 dq_M_times_132 ?_
    refine qz_land X dq_M_times_135 ?_
    refine qz_last X (c0 := 54) (i := y0) (n := 9) rfl hy0 dq_M_times_136 h (fun N5 h => ?_)
    refine qz_lload X 0 rfl dq_M_times_137 ?_
    refine qz_bipush X (v := (30 : Int32)) (by decide) dq_M_times_139 ?_
    refine qz_lushr X dq_M_times_141 ?_
    refine qz_letj h (fun v6 h => ?_)
    refine qz_lstore X (lv' := [(4, .long v6), (7, .long v4), (3, .int x3), (6, .int x6), (0, .ref (G.2.2 7 y0))]) (by decide) rfl dq_M_times_142 ?_
    refine qz_iinc_l X (u := (1 : Int32)) (lv' := fun v7 => [(6, .int v7), (4, .long v6), (7, .long v4), (3, .int x3), (0, .ref (G.2.2 7 y0))]) (k := 3) rfl (by decide) (by decide) (fun _ => rfl) dq_M_times_144 h (fun v7 h => ?_)
    refine qz_goto X (tgt := 105) (by decide) dq_M_times_147 ?_
    refine qz_sub [3, 1, 0, 4] rfl ?_
    exact hk105 (N5, x3, v6, v7) h
theorem sM_times_105 {p : Program} {l : Launch} {e : Env} {s : State} {m : MethodId} {args : Array Value} {below : List Frame} {meth : Method} {c : Code} {G : qz_G} (X : qz_X p s m args meth c "ExactCurvesModel" prog_10_method_3_code 9 none G) {r : (Unit × qz_N)} (y0 : Nat) (hy0 : y0 < 1) (k52 : qz_N × Int32 → Option (Unit × qz_N)) (hk52 : ∀ a, k52 a = some r → qz_W p l e (qz_R 0) s m args below meth c 0 0 (MQ below (qz_Q G r.2 none) args s 0 0 (qz_A G)) G s.heap 9 a.1 52 [(3, .int a.2), (0, .ref (G.2.2 7 y0))] []) (n : Nat) (a : qz_N × Int32 × Int64 × Int32) (h : fM_times_105 y0 k52 n a = some r) : qz_W p l e (qz_R 0) s m args below meth c 0 0 (MQ below (qz_Q G r.2 none) args s 0 0 (qz_A G)) G s.heap 9 a.1 105 [(3, .int a.2.1), (4, .long a.2.2.1), (6, .int a.2.2.2), (0, .ref (G.2.2 7 y0))] [] :=
  qz_loop_ind (P := fun a => qz_W p l e (qz_R 0) s m args below meth c 0 0 (MQ below (qz_Q G r.2 none) args s 0 0 (qz_A G)) G s.heap 9 a.1 105 [(3, .int a.2.1), (4, .long a.2.2.1), (6, .int a.2.2.2), (0, .ref (G.2.2 7 y0))] []) (fun k hk a h => sM_times_105b X y0 hy0 k52 k hk52 hk a.1 a.2.1 a.2.2.1 a.2.2.2 h) n a h
set_option maxRecDepth 100000 in
set_option maxHeartbeats 4000000 in
theorem sM_times_61b {p : Program} {l : Launch} {e : Env} {s : State} {m : MethodId} {args : Array Value} {below : List Frame} {meth : Method} {c : Code} {G : qz_G} (X : qz_X p s m args meth c "ExactCurvesModel" prog_10_method_3_code 9 none G) {r : (Unit × qz_N)} (y0 : Nat) (hy0 : y0 < 1) (k52 : qz_N × Int32 → Option (Unit × qz_N)) (k61 : qz_N × Int32 × Int32 → Option (Unit × qz_N)) (hk52 : ∀ a, k52 a = some r → qz_W p l e (qz_R 0) s m args below meth c 0 0 (MQ below (qz_Q G r.2 none) args s 0 0 (qz_A G)) G s.heap 9 a.1 52 [(3, .int a.2), (0, .ref (G.2.2 7 y0))] []) (hk61 : ∀ a, k61 a = some r → qz_W p l e (qz_R 0) s m args below meth c 0 0 (MQ below (qz_Q G r.2 none) args s 0 0 (qz_A G)) G s.heap 9 a.1 61 [(3, .int a.2.1), (4, .int a.2.2), (0, .ref (G.2.2 7 y0))] []) (N : qz_N) (x3 : Int32) (x4 : Int32) (h : fM_times_61b y0 k52 k61 N x3 x4 = some r) : qz_W p l e (qz_R 0) s m args below meth c 0 0 (MQ below (qz_Q G r.2 none) args s 0 0 (qz_A G)) G s.heap 9 N 61 [(3, .int x3), (4, .int x4), (0, .ref (G.2.2 7 y0))] [] := by
  unfold fM_times_61b at h
  refine qz_iload X 1 rfl dq_M_times_61 ?_
  refine qz_iconst X (v := (3 : Int32)) (by decide) dq_M_times_63 ?_
  refine qz_icmp_ge X (tgt := 99) (by decide) dq_M_times_64 h (fun _ h => ?_) (fun _ h => ?_)
  · refine qz_lconst X (v := (0 : Int64)) (by decide) dq_M_times_99 ?_
    refine qz_lstore X (lv' := [(4, .long (0 : Int64)), (3, .int x3), (0, .ref (G.2.2 7 y0))]) (by decide) rfl dq_M_times_100 ?_
    refine qz_iconst X (v := (0 : Int32)) (by decide) dq_M_times_102 ?_
    refine qz_istore X (lv' := [(6, .int (0 : Int32)), (4, .long (0 : Int64)), (3, .int x3), (0, .ref (G.2.2 7 y0))]) (by decide) rfl dq_M_times_103 ?_
    refine qz_sub [2, 1, 0, 3] rfl ?_
    exact sM_times_105 X y0 hy0 k52 hk52 1100 (N, x3, (0 : Int64), (0 : Int32)) h
  · refine qz_aload_n X 2 rfl dq_M_times_67 ?_
    refine qz_get X (v := .ref (G.2.2 54 y0)) kq_M_112 hy0 rfl dq_M_times_68 ?_
    refine qz_iload_n X 0 rfl dq_M_times_71 ?_
    refine qz_iload X 1 rfl dq_M_times_72 ?_
    refine qz_iadd X dq_M_times_74 ?_
    refine qz_dup2_11 X rfl rfl dq_M_times_75 ?_
    refine qz_lald X (c0 := 54) (i := y0) (n := 9) rfl hy0 dq_M_times_76 h (fun h => ?_)
    refine qz_aload_n X 2 rfl dq_M_times_77 ?_
    refine qz_get X (v := .ref (G.2.2 52 y0)) kq_M_106 hy0 rfl dq_M_times_78 ?_
    refine qz_iload_n X 0 rfl dq_M_times_81 ?_
    refine qz_lald X (c0 := 52) (i := y0) (n := 6) rfl hy0 dq_M_times_82 h (fun h => ?_)
    refine qz_aload_n X 2 rfl dq_M_times_83 ?_
    refine qz_get X (v := .ref (G.2.2 55 y0)) kq_M_115 hy0 rfl dq_M_times_84 ?_
    refine qz_iload X 1 rfl dq_M_times_87 ?_
    refine qz_lald X (c0 := 55) (i := y0) (n := 3) rfl hy0 dq_M_times_89 h (fun h => ?_)
    refine qz_lmul X dq_M_times_90 ?_
    refine qz_ladd X dq_M_times_91 ?_
    refine qz_last X (c0 := 54) (i := y0) (n := 9) rfl hy0 dq_M_times_92 h (fun N8 h => ?_)
    refine qz_iinc_l X (u := (1 : Int32)) (lv' := fun v9 => [(4, .int v9), (3, .int x3), (0, .ref (G.2.2 7 y0))]) (k := 1) rfl (by decide) (by decide) (fun _ => rfl) dq_M_times_93 h (fun v9 h => ?_)
    refine qz_goto X (tgt := 61) (by decide) dq_M_times_96 ?_
    refine qz_sub [1, 0, 2] rfl ?_
    exact hk61 (N8, x3, v9) h
theorem sM_times_61 {p : Program} {l : Launch} {e : Env} {s : State} {m : MethodId} {args : Array Value} {below : List Frame} {meth : Method} {c : Code} {G : qz_G} (X : qz_X p s m args meth c "ExactCurvesModel" prog_10_method_3_code 9 none G) {r : (Unit × qz_N)} (y0 : Nat) (hy0 : y0 < 1) (k52 : qz_N × Int32 → Option (Unit × qz_N)) (hk52 : ∀ a, k52 a = some r → qz_W p l e (qz_R 0) s m args below meth c 0 0 (MQ below (qz_Q G r.2 none) args s 0 0 (qz_A G)) G s.heap 9 a.1 52 [(3, .int a.2), (0, .ref (G.2.2 7 y0))] []) (n : Nat) (a : qz_N × Int32 × Int32) (h : fM_times_61 y0 k52 n a = some r) : qz_W p l e (qz_R 0) s m args below meth c 0 0 (MQ below (qz_Q G r.2 none) args s 0 0 (qz_A G)) G s.heap 9 a.1 61 [(3, .int a.2.1), (4, .int a.2.2), (0, .ref (G.2.2 7 y0))] [] :=
  qz_loop_ind (P := fun a => qz_W p l e (qz_R 0) s m args below meth c 0 0 (MQ below (qz_Q G r.2 none) args s 0 0 (qz_A G)) G s.heap 9 a.1 61 [(3, .int a.2.1), (4, .int a.2.2), (0, .ref (G.2.2 7 y0))] []) (fun k hk a h => sM_times_61b X y0 hy0 k52 k hk52 hk a.1 a.2.1 a.2.2 h) n a h
set_option maxRecDepth 100000 in
set_option maxHeartbeats 4000000 in
theorem sM_times_52b {p : Program} {l : Launch} {e : Env} {s : State} {m : MethodId} {args : Array Value} {below : List Frame} {meth : Method} {c : Code} {G : qz_G} (X : qz_X p s m args meth c "ExactCurvesModel" prog_10_method_3_code 9 none G) {r : (Unit × qz_N)} (y0 : Nat) (hy0 : y0 < 1) (k52 : qz_N × Int32 → Option (Unit × qz_N)) (hk52 : ∀ a, k52 a = some r → qz_W p l e (qz_R 0) s m args below meth c 0 0 (MQ below (qz_Q G r.2 none) args s 0 0 (qz_A G)) G s.heap 9 a.1 52 [(3, .int a.2), (0, .ref (G.2.2 7 y0))] []) (N : qz_N) (x3 : Int32) (h : fM_times_52b y0 k52 N x3 = some r) : qz_W p l e (qz_R 0) s m args below meth c 0 0 (MQ below (qz_Q G r.2 none) args s 0 0 (qz_A G)) G s.heap 9 N 52 [(3, .int x3), (0, .ref (G.2.2 7 y0))] [] := by
  unfold fM_times_52b at h
  refine qz_iload_n X 0 rfl dq_M_times_52 ?_
  refine qz_bipush X (v := (6 : Int32)) (by decide) dq_M_times_53 ?_
  refine qz_icmp_ge X (tgt := 156) (by decide) dq_M_times_55 h (fun _ h => ?_) (fun _ h => ?_)
  · refine qz_iconst X (v := (0 : Int32)) (by decide) dq_M_times_156 ?_
    refine qz_istore_n X (lv' := [(3, .int (0 : Int32)), (0, .ref (G.2.2 7 y0))]) rfl (by decide) rfl dq_M_times_157 ?_
    refine qz_sub [0, 1] rfl ?_
    exact sM_times_158 X y0 hy0 1100 (N, (0 : Int32)) h
  · refine qz_iconst X (v := (0 : Int32)) (by decide) dq_M_times_58 ?_
    refine qz_istore X (lv' := [(4, .int (0 : Int32)), (3, .int x3), (0, .ref (G.2.2 7 y0))]) (by decide) rfl dq_M_times_59 ?_
    refine qz_sub [1, 0, 2] rfl ?_
    exact sM_times_61 X y0 hy0 k52 hk52 1100 (N, x3, (0 : Int32)) h
theorem sM_times_52 {p : Program} {l : Launch} {e : Env} {s : State} {m : MethodId} {args : Array Value} {below : List Frame} {meth : Method} {c : Code} {G : qz_G} (X : qz_X p s m args meth c "ExactCurvesModel" prog_10_method_3_code 9 none G) {r : (Unit × qz_N)} (y0 : Nat) (hy0 : y0 < 1) (n : Nat) (a : qz_N × Int32) (h : fM_times_52 y0 n a = some r) : qz_W p l e (qz_R 0) s m args below meth c 0 0 (MQ below (qz_Q G r.2 none) args s 0 0 (qz_A G)) G s.heap 9 a.1 52 [(3, .int a.2), (0, .ref (G.2.2 7 y0))] [] :=
  qz_loop_ind (P := fun a => qz_W p l e (qz_R 0) s m args below meth c 0 0 (MQ below (qz_Q G r.2 none) args s 0 0 (qz_A G)) G s.heap 9 a.1 52 [(3, .int a.2), (0, .ref (G.2.2 7 y0))] []) (fun k hk a h => sM_times_52b X y0 hy0 k hk a.1 a.2 h) n a h
set_option maxRecDepth 100000 in
set_option maxHeartbeats 4000000 in
theorem sM_times_23b {p : Program} {l : Launch} {e : Env} {s : State} {m : MethodId} {args : Array Value} {below : List Frame} {meth : Method} {c : Code} {G : qz_G} (X : qz_X p s m args meth c "ExactCurvesModel" prog_10_method_3_code 9 none G) {r : (Unit × qz_N)} (y0 : Nat) (hy0 : y0 < 1) (k23 : qz_N × Int64 × Int32 → Option (Unit × qz_N)) (hk23 : ∀ a, k23 a = some r → qz_W p l e (qz_R 0) s m args below meth c 0 0 (MQ below (qz_Q G r.2 none) args s 0 0 (qz_A G)) G s.heap 9 a.1 23 [(1, .long a.2.1), (3, .int a.2.2), (0, .ref (G.2.2 7 y0))] []) (N : qz_N) (x1 : Int64) (x3 : Int32) (h : fM_times_23b y0 k23 N x1 x3 = some r) : qz_W p l e (qz_R 0) s m args below meth c 0 0 (MQ below (qz_Q G r.2 none) args s 0 0 (qz_A G)) G s.heap 9 N 23 [(1, .long x1), (3, .int x3), (0, .ref (G.2.2 7 y0))] [] := by
  unfold fM_times_23b at h
  refine qz_iload_n X 1 rfl dq_M_times_23 ?_
  refine qz_iconst X (v := (3 : Int32)) (by decide) dq_M_times_24 ?_
  refine qz_icmp_ge X (tgt := 50) (by decide) dq_M_times_25 h (fun _ h => ?_) (fun _ h => ?_)
  · refine qz_iconst X (v := (0 : Int32)) (by decide) dq_M_times_50 ?_
    refine qz_istore_n X (lv' := [(3, .int (0 : Int32)), (1, .long x1), (0, .ref (G.2.2 7 y0))]) rfl (by decide) rfl dq_M_times_51 ?_
    refine qz_sub [0, 2] rfl ?_
    exact sM_times_52 X y0 hy0 1100 (N, (0 : Int32)) h
  · refine qz_aload_n X 2 rfl dq_M_times_28 ?_
    refine qz_get X (v := .ref (G.2.2 55 y0)) kq_M_115 hy0 rfl dq_M_times_29 ?_
    refine qz_iload_n X 1 rfl dq_M_times_32 ?_
    refine qz_lload_n X 0 rfl dq_M_times_33 ?_
    refine qz_bipush X (v := (30 : Int32)) (by decide) dq_M_times_34 ?_
    refine qz_iload_n X 1 rfl dq_M_times_36 ?_
    refine qz_imul X dq_M_times_37 ?_
    refine qz_lushr X dq_M_times_38 ?_
    refine qz_ldc2 X (v := (1073741823 : Int64)) wq_804 dq_M_times_39 ?_
    refine qz_land X dq_M_times_42 ?_
    refine qz_last X (c0 := 55) (i := y0) (n := 3) rfl hy0 dq_M_times_43 h (fun N10 h => ?_)
    refine qz_iinc_l X (u := (1 : Int32)) (lv' := fun v11 => [(3, .int v11), (1, .long x1), (0, .ref (G.2.2 7 y0))]) (k := 1) rfl (by decide) (by decide) (fun _ => rfl) dq_M_times_44 h (fun v11 h => ?_)
    refine qz_goto X (tgt := 23) (by decide) dq_M_times_47 ?_
    refine qz_sub [1, 0, 2] rfl ?_
    exact hk23 (N10, x1, v11) h
theorem sM_times_23 {p : Program} {l : Launch} {e : Env} {s : State} {m : MethodId} {args : Array Value} {below : List Frame} {meth : Method} {c : Code} {G : qz_G} (X : qz_X p s m args meth c "ExactCurvesModel" prog_10_method_3_code 9 none G) {r : (Unit × qz_N)} (y0 : Nat) (hy0 : y0 < 1) (n : Nat) (a : qz_N × Int64 × Int32) (h : fM_times_23 y0 n a = some r) : qz_W p l e (qz_R 0) s m args below meth c 0 0 (MQ below (qz_Q G r.2 none) args s 0 0 (qz_A G)) G s.heap 9 a.1 23 [(1, .long a.2.1), (3, .int a.2.2), (0, .ref (G.2.2 7 y0))] [] :=
  qz_loop_ind (P := fun a => qz_W p l e (qz_R 0) s m args below meth c 0 0 (MQ below (qz_Q G r.2 none) args s 0 0 (qz_A G)) G s.heap 9 a.1 23 [(1, .long a.2.1), (3, .int a.2.2), (0, .ref (G.2.2 7 y0))] []) (fun k hk a h => sM_times_23b X y0 hy0 k hk a.1 a.2.1 a.2.2 h) n a h
set_option maxRecDepth 100000 in
set_option maxHeartbeats 4000000 in
theorem sM_times_2b {p : Program} {l : Launch} {e : Env} {s : State} {m : MethodId} {args : Array Value} {below : List Frame} {meth : Method} {c : Code} {G : qz_G} (X : qz_X p s m args meth c "ExactCurvesModel" prog_10_method_3_code 9 none G) {r : (Unit × qz_N)} (y0 : Nat) (hy0 : y0 < 1) (k2 : qz_N × Int64 × Int32 → Option (Unit × qz_N)) (hk2 : ∀ a, k2 a = some r → qz_W p l e (qz_R 0) s m args below meth c 0 0 (MQ below (qz_Q G r.2 none) args s 0 0 (qz_A G)) G s.heap 9 a.1 2 [(1, .long a.2.1), (3, .int a.2.2), (0, .ref (G.2.2 7 y0))] []) (N : qz_N) (x1 : Int64) (x3 : Int32) (h : fM_times_2b y0 k2 N x1 x3 = some r) : qz_W p l e (qz_R 0) s m args below meth c 0 0 (MQ below (qz_Q G r.2 none) args s 0 0 (qz_A G)) G s.heap 9 N 2 [(1, .long x1), (3, .int x3), (0, .ref (G.2.2 7 y0))] [] := by
  unfold fM_times_2b at h
  refine qz_iload_n X 1 rfl dq_M_times_2 ?_
  refine qz_bipush X (v := (9 : Int32)) (by decide) dq_M_times_3 ?_
  refine qz_icmp_ge X (tgt := 21) (by decide) dq_M_times_5 h (fun _ h => ?_) (fun _ h => ?_)
  · refine qz_iconst X (v := (0 : Int32)) (by decide) dq_M_times_21 ?_
    refine qz_istore_n X (lv' := [(3, .int (0 : Int32)), (1, .long x1), (0, .ref (G.2.2 7 y0))]) rfl (by decide) rfl dq_M_times_22 ?_
    refine qz_sub [1, 0, 2] rfl ?_
    exact sM_times_23 X y0 hy0 1100 (N, x1, (0 : Int32)) h
  · refine qz_aload_n X 2 rfl dq_M_times_8 ?_
    refine qz_get X (v := .ref (G.2.2 54 y0)) kq_M_112 hy0 rfl dq_M_times_9 ?_
    refine qz_iload_n X 1 rfl dq_M_times_12 ?_
    refine qz_lconst X (v := (0 : Int64)) (by decide) dq_M_times_13 ?_
    refine qz_last X (c0 := 54) (i := y0) (n := 9) rfl hy0 dq_M_times_14 h (fun N12 h => ?_)
    refine qz_iinc_l X (u := (1 : Int32)) (lv' := fun v13 => [(3, .int v13), (1, .long x1), (0, .ref (G.2.2 7 y0))]) (k := 1) rfl (by decide) (by decide) (fun _ => rfl) dq_M_times_15 h (fun v13 h => ?_)
    refine qz_goto X (tgt := 2) (by decide) dq_M_times_18 ?_
    refine qz_sub [1, 0, 2] rfl ?_
    exact hk2 (N12, x1, v13) h
theorem sM_times_2 {p : Program} {l : Launch} {e : Env} {s : State} {m : MethodId} {args : Array Value} {below : List Frame} {meth : Method} {c : Code} {G : qz_G} (X : qz_X p s m args meth c "ExactCurvesModel" prog_10_method_3_code 9 none G) {r : (Unit × qz_N)} (y0 : Nat) (hy0 : y0 < 1) (n : Nat) (a : qz_N × Int64 × Int32) (h : fM_times_2 y0 n a = some r) : qz_W p l e (qz_R 0) s m args below meth c 0 0 (MQ below (qz_Q G r.2 none) args s 0 0 (qz_A G)) G s.heap 9 a.1 2 [(1, .long a.2.1), (3, .int a.2.2), (0, .ref (G.2.2 7 y0))] [] :=
  qz_loop_ind (P := fun a => qz_W p l e (qz_R 0) s m args below meth c 0 0 (MQ below (qz_Q G r.2 none) args s 0 0 (qz_A G)) G s.heap 9 a.1 2 [(1, .long a.2.1), (3, .int a.2.2), (0, .ref (G.2.2 7 y0))] []) (fun k hk a h => sM_times_2b X y0 hy0 k hk a.1 a.2.1 a.2.2 h) n a h
set_option maxRecDepth 100000 in
set_option maxHeartbeats 4000000 in
theorem sM_times {p : Program} {l : Launch} {e : Env} {s : State} {m : MethodId} {args : Array Value} {below : List Frame} {meth : Method} {c : Code} {G : qz_G} (X : qz_X p s m args meth c "ExactCurvesModel" prog_10_method_3_code 9 none G) {r : (Unit × qz_N)} (o : Nat) (x1 : Int64) (ho : o < 1) (N : qz_N) (h : fM_times o x1 N = some r) : qz_W p l e (qz_R 0) s m args below meth c 0 0 (MQ below (qz_Q G r.2 none) args s 0 0 (qz_A G)) G s.heap 9 N 0 [(0, .ref (G.2.2 7 o)), (1, .long x1)] [] := by
  unfold fM_times at h
  refine qz_iconst X (v := (0 : Int32)) (by decide) dq_M_times_0 ?_
  refine qz_istore_n X (lv' := [(3, .int (0 : Int32)), (0, .ref (G.2.2 7 o)), (1, .long x1)]) rfl (by decide) rfl dq_M_times_1 ?_
  refine qz_sub [2, 0, 1] rfl ?_
  exact sM_times_2 X o ho 1100 (N, x1, (0 : Int32)) h
theorem cM_times (l : Launch) (G : qz_G) (hD : qz_D G) (o : Nat) (x1 : Int64) (N : qz_N) (ho : o < 1) (r : (Unit × qz_N)) (h : fM_times o x1 N = some r) : qz_M l yM_times prog_10_method_3_code 9 none 0 G [.ref (G.2.2 7 o), .long x1] N none r.2 :=
  qz_enter (lv := [(0, .ref (G.2.2 7 o)), (1, .long x1)]) rfl hD (Nat.le_of_ble_eq_true rfl) rfl (fun p e s m args below meth c X => sM_times X o x1 ho N h)
-- ExactCurvesModel.over(J)J
theorem dq_M_over_0 : decode prog_10_method_4_code 0 = .ok (.lconst 0, 1) := by decide +kernel
theorem dq_M_over_1 : decode prog_10_method_4_code 1 = .ok (.lstore_n 3, 1) := by decide +kernel
theorem dq_M_over_2 : decode prog_10_method_4_code 2 = .ok (.aload_n 0, 1) := by decide +kernel
theorem dq_M_over_3 : decode prog_10_method_4_code 3 = .ok (.lconst 0, 1) := by decide +kernel
theorem dq_M_over_4 : decode prog_10_method_4_code 4 = .ok (.putfield 122, 3) := by decide +kernel
theorem dq_M_over_7 : decode prog_10_method_4_code 7 = .ok (.sipush 179, 3) := by decide +kernel
theorem dq_M_over_10 : decode prog_10_method_4_code 10 = .ok (.istore 5, 2) := by decide +kernel
theorem dq_M_over_12 : decode prog_10_method_4_code 12 = .ok (.iload 5, 2) := by decide +kernel
theorem dq_M_over_14 : decode prog_10_method_4_code 14 = .ok (.ifCond .lt 109, 3) := by decide +kernel
theorem dq_M_over_17 : decode prog_10_method_4_code 17 = .ok (.aload_n 0, 1) := by decide +kernel
theorem dq_M_over_18 : decode prog_10_method_4_code 18 = .ok (.ldc2_w 126, 3) := by decide +kernel
theorem dq_M_over_21 : decode prog_10_method_4_code 21 = .ok (.aload_n 0, 1) := by decide +kernel
theorem dq_M_over_22 : decode prog_10_method_4_code 22 = .ok (.getfield 122, 3) := by decide +kernel
theorem dq_M_over_25 : decode prog_10_method_4_code 25 = .ok (.lmul, 1) := by decide +kernel
theorem dq_M_over_26 : decode prog_10_method_4_code 26 = .ok (.aload_n 0, 1) := by decide +kernel
theorem dq_M_over_27 : decode prog_10_method_4_code 27 = .ok (.getfield 106, 3) := by decide +kernel
theorem dq_M_over_30 : decode prog_10_method_4_code 30 = .ok (.iload 5, 2) := by decide +kernel
theorem dq_M_over_32 : decode prog_10_method_4_code 32 = .ok (.bipush 30, 2) := by decide +kernel
theorem dq_M_over_34 : decode prog_10_method_4_code 34 = .ok (.idiv, 1) := by decide +kernel
theorem dq_M_over_35 : decode prog_10_method_4_code 35 = .ok (.laload, 1) := by decide +kernel
theorem dq_M_over_36 : decode prog_10_method_4_code 36 = .ok (.iload 5, 2) := by decide +kernel
theorem dq_M_over_38 : decode prog_10_method_4_code 38 = .ok (.bipush 30, 2) := by decide +kernel
theorem dq_M_over_40 : decode prog_10_method_4_code 40 = .ok (.irem, 1) := by decide +kernel
theorem dq_M_over_41 : decode prog_10_method_4_code 41 = .ok (.lushr, 1) := by decide +kernel
theorem dq_M_over_42 : decode prog_10_method_4_code 42 = .ok (.lconst 1, 1) := by decide +kernel
theorem dq_M_over_43 : decode prog_10_method_4_code 43 = .ok (.land, 1) := by decide +kernel
theorem dq_M_over_44 : decode prog_10_method_4_code 44 = .ok (.ladd, 1) := by decide +kernel
theorem dq_M_over_45 : decode prog_10_method_4_code 45 = .ok (.putfield 122, 3) := by decide +kernel
theorem dq_M_over_48 : decode prog_10_method_4_code 48 = .ok (.aload_n 0, 1) := by decide +kernel
theorem dq_M_over_49 : decode prog_10_method_4_code 49 = .ok (.getfield 122, 3) := by decide +kernel
theorem dq_M_over_52 : decode prog_10_method_4_code 52 = .ok (.lload_n 1, 1) := by decide +kernel
theorem dq_M_over_53 : decode prog_10_method_4_code 53 = .ok (.lcmp, 1) := by decide +kernel
theorem dq_M_over_54 : decode prog_10_method_4_code 54 = .ok (.ifCond .lt 7, 3) := by decide +kernel
theorem dq_M_over_57 : decode prog_10_method_4_code 57 = .ok (.iconst 1, 1) := by decide +kernel
theorem dq_M_over_58 : decode prog_10_method_4_code 58 = .ok (.goto 4, 3) := by decide +kernel
theorem dq_M_over_61 : decode prog_10_method_4_code 61 = .ok (.iconst 0, 1) := by decide +kernel
theorem dq_M_over_62 : decode prog_10_method_4_code 62 = .ok (.istore 6, 2) := by decide +kernel
theorem dq_M_over_64 : decode prog_10_method_4_code 64 = .ok (.aload_n 0, 1) := by decide +kernel
theorem dq_M_over_65 : decode prog_10_method_4_code 65 = .ok (.iload 6, 2) := by decide +kernel
theorem dq_M_over_67 : decode prog_10_method_4_code 67 = .ok (.ifCond .eq 12, 3) := by decide +kernel
theorem dq_M_over_70 : decode prog_10_method_4_code 70 = .ok (.aload_n 0, 1) := by decide +kernel
theorem dq_M_over_71 : decode prog_10_method_4_code 71 = .ok (.getfield 122, 3) := by decide +kernel
theorem dq_M_over_74 : decode prog_10_method_4_code 74 = .ok (.lload_n 1, 1) := by decide +kernel
theorem dq_M_over_75 : decode prog_10_method_4_code 75 = .ok (.lsub, 1) := by decide +kernel
theorem dq_M_over_76 : decode prog_10_method_4_code 76 = .ok (.goto 7, 3) := by decide +kernel
theorem dq_M_over_79 : decode prog_10_method_4_code 79 = .ok (.aload_n 0, 1) := by decide +kernel
theorem dq_M_over_80 : decode prog_10_method_4_code 80 = .ok (.getfield 122, 3) := by decide +kernel
theorem dq_M_over_83 : decode prog_10_method_4_code 83 = .ok (.putfield 122, 3) := by decide +kernel
theorem dq_M_over_86 : decode prog_10_method_4_code 86 = .ok (.lload_n 3, 1) := by decide +kernel
theorem dq_M_over_87 : decode prog_10_method_4_code 87 = .ok (.ldc2_w 128, 3) := by decide +kernel
theorem dq_M_over_90 : decode prog_10_method_4_code 90 = .ok (.lcmp, 1) := by decide +kernel
theorem dq_M_over_91 : decode prog_10_method_4_code 91 = .ok (.ifCond .lt 9, 3) := by decide +kernel
theorem dq_M_over_94 : decode prog_10_method_4_code 94 = .ok (.ldc2_w 128, 3) := by decide +kernel
theorem dq_M_over_97 : decode prog_10_method_4_code 97 = .ok (.goto 19, 3) := by decide +kernel
theorem dq_M_over_100 : decode prog_10_method_4_code 100 = .ok (.ldc2_w 126, 3) := by decide +kernel
theorem dq_M_over_103 : decode prog_10_method_4_code 103 = .ok (.lload_n 3, 1) := by decide +kernel
theorem dq_M_over_104 : decode prog_10_method_4_code 104 = .ok (.lmul, 1) := by decide +kernel
theorem dq_M_over_105 : decode prog_10_method_4_code 105 = .ok (.iload 6, 2) := by decide +kernel
theorem dq_M_over_107 : decode prog_10_method_4_code 107 = .ok (.ifCond .eq 7, 3) := by decide +kernel
theorem dq_M_over_110 : decode prog_10_method_4_code 110 = .ok (.lconst 1, 1) := by decide +kernel
theorem dq_M_over_111 : decode prog_10_method_4_code 111 = .ok (.goto 4, 3) := by decide +kernel
theorem dq_M_over_114 : decode prog_10_method_4_code 114 = .ok (.lconst 0, 1) := by decide +kernel
theorem dq_M_over_115 : decode prog_10_method_4_code 115 = .ok (.ladd, 1) := by decide +kernel
theorem dq_M_over_116 : decode prog_10_method_4_code 116 = .ok (.lstore_n 3, 1) := by decide +kernel
theorem dq_M_over_117 : decode prog_10_method_4_code 117 = .ok (.iinc 5 (-1), 3) := by decide +kernel
theorem dq_M_over_120 : decode prog_10_method_4_code 120 = .ok (.goto (-108), 3) := by decide +kernel
theorem dq_M_over_123 : decode prog_10_method_4_code 123 = .ok (.lload_n 3, 1) := by decide +kernel
theorem dq_M_over_124 : decode prog_10_method_4_code 124 = .ok (.lreturn, 1) := by decide +kernel
def fM_over_116 (y0 : Nat) (k12 : qz_N × Int64 × Int64 × Int32 → Option (Int64 × qz_N)) (N : qz_N) (x1 : Int64) (x5 : Int32) (s0 : Int64) : Option (Int64 × qz_N) :=
  qz_let (x5 + (-1 : Int32)) fun v4 =>
  k12 (N, x1, s0, v4)
def fM_over_115 (y0 : Nat) (k12 : qz_N × Int64 × Int64 × Int32 → Option (Int64 × qz_N)) (N : qz_N) (x1 : Int64) (x5 : Int32) (s0 : Int64) (s1 : Int64) : Option (Int64 × qz_N) :=
  fM_over_116 y0 k12 N x1 x5 (s1 + s0)
def fM_over_83 (y0 : Nat) (k12 : qz_N × Int64 × Int64 × Int32 → Option (Int64 × qz_N)) (N : qz_N) (x1 : Int64) (x3 : Int64) (x5 : Int32) (x6 : Int32) (s0 : Int64) (s1 : Nat) : Option (Int64 × qz_N) :=
  qz_let (qz_sl N 7 s1 41 s0) fun N3 =>
  if x3 < (4611686018427387904 : Int64) then
    if x6 = 0 then
      fM_over_115 y0 k12 N3 x1 x5 (0 : Int64) ((2 : Int64) * x3)
    else
    fM_over_115 y0 k12 N3 x1 x5 (1 : Int64) ((2 : Int64) * x3)
  else
  fM_over_116 y0 k12 N3 x1 x5 (4611686018427387904 : Int64)
def fM_over_62 (y0 : Nat) (k12 : qz_N × Int64 × Int64 × Int32 → Option (Int64 × qz_N)) (N : qz_N) (x1 : Int64) (x3 : Int64) (x5 : Int32) (s0 : Int32) : Option (Int64 × qz_N) :=
  if s0 = 0 then
    fM_over_83 y0 k12 N x1 x3 x5 s0 (qz_gl N 7 y0 41) y0
  else
  fM_over_83 y0 k12 N x1 x3 x5 s0 ((qz_gl N 7 y0 41) - x1) y0
def fM_over_12b (y0 : Nat) (k12 : qz_N × Int64 × Int64 × Int32 → Option (Int64 × qz_N)) (N : qz_N) (x1 : Int64) (x3 : Int64) (x5 : Int32) : Option (Int64 × qz_N) :=
  if x5 < 0 then
    some (x3, N)
  else
  if (x5 / (30 : Int32)) < 0 ∨ 6 ≤ (x5 / (30 : Int32)).toNatClampNeg then none else
  qz_let (qz_sl N 7 y0 41 (((2 : Int64) * (qz_gl N 7 y0 41)) + ((((qz_gl N 52 y0 (x5 / (30 : Int32)).toNatClampNeg).toUInt64 >>> ((x5 - x5 / (30 : Int32) * (30 : Int32)).toInt64.toUInt64 &&& Int64.toUInt64 63)).toInt64) &&& (1 : Int64)))) fun N2 =>
  if (qz_gl N2 7 y0 41) < x1 then
    fM_over_62 y0 k12 N2 x1 x3 x5 (0 : Int32)
  else
  fM_over_62 y0 k12 N2 x1 x3 x5 (1 : Int32)
def fM_over_12 (y0 : Nat) (n : Nat) (a : qz_N × Int64 × Int64 × Int32) : Option (Int64 × qz_N) := qz_loop (fun k a => fM_over_12b y0 k a.1 a.2.1 a.2.2.1 a.2.2.2) n a
def fM_over (o : Nat) (x1 : Int64) (N : qz_N) : Option (Int64 × qz_N) :=
  qz_let (qz_sl N 7 o 41 (0 : Int64)) fun N1 =>
  fM_over_12 o 1100 (N1, x1, (0 : Int64), (179 : Int32))
set_option maxRecDepth 100000 in
set_option maxHeartbeats 4000000 in
theorem sM_over_116 {p : Program} {l : Launch} {e : Env} {s : State} {m : MethodId} {args : Array Value} {below : List Frame} {meth : Method} {c : Code} {G : qz_G} (X : qz_X p s m args meth c "ExactCurvesModel" prog_10_method_4_code 7 (some .long) G) {r : (Int64 × qz_N)} (y0 : Nat) (hy0 : y0 < 1) (k12 : qz_N × Int64 × Int64 × Int32 → Option (Int64 × qz_N)) (hk12 : ∀ a, k12 a = some r → qz_W p l e (qz_R 0) s m args below meth c 0 0 (MQ below (qz_Q G r.2 (some (.long r.1))) args s 0 0 (qz_A G)) G s.heap 7 a.1 12 [(1, .long a.2.1), (3, .long a.2.2.1), (5, .int a.2.2.2), (0, .ref (G.2.2 7 y0))] []) (N : qz_N) (x1 : Int64) (x5 : Int32) (s0 : Int64) (h : fM_over_116 y0 k12 N x1 x5 s0 = some r) : qz_W p l e (qz_R 0) s m args below meth c 0 0 (MQ below (qz_Q G r.2 (some (.long r.1))) args s 0 0 (qz_A G)) G s.heap 7 N 116 [(1, .long x1), (5, .int x5), (0, .ref (G.2.2 7 y0))] [.long s0] := by
  unfold fM_over_116 at h
  refine qz_lstore_n X (lv' := [(3, .long s0), (1, .long x1), (5, .int x5), (0, .ref (G.2.2 7 y0))]) rfl (by decide) rfl dq_M_over_116 ?_
  refine qz_iinc_l X (u := (-1 : Int32)) (lv' := fun v4 => [(5, .int v4), (3, .long s0), (1, .long x1), (0, .ref (G.2.2 7 y0))]) (k := 2) rfl (by decide) (by decide) (fun _ => rfl) dq_M_over_117 h (fun v4 h => ?_)
  refine qz_goto X (tgt := 12) (by decide) dq_M_over_120 ?_
  refine qz_sub [2, 1, 0, 3] rfl ?_
  exact hk12 (N, x1, s0, v4) h
set_option maxRecDepth 100000 in
set_option maxHeartbeats 4000000 in
theorem sM_over_115 {p : Program} {l : Launch} {e : Env} {s : State} {m : MethodId} {args : Array Value} {below : List Frame} {meth : Method} {c : Code} {G : qz_G} (X : qz_X p s m args meth c "ExactCurvesModel" prog_10_method_4_code 7 (some .long) G) {r : (Int64 × qz_N)} (y0 : Nat) (hy0 : y0 < 1) (k12 : qz_N × Int64 × Int64 × Int32 → Option (Int64 × qz_N)) (hk12 : ∀ a, k12 a = some r → qz_W p l e (qz_R 0) s m args below meth c 0 0 (MQ below (qz_Q G r.2 (some (.long r.1))) args s 0 0 (qz_A G)) G s.heap 7 a.1 12 [(1, .long a.2.1), (3, .long a.2.2.1), (5, .int a.2.2.2), (0, .ref (G.2.2 7 y0))] []) (N : qz_N) (x1 : Int64) (x5 : Int32) (s0 : Int64) (s1 : Int64) (h : fM_over_115 y0 k12 N x1 x5 s0 s1 = some r) : qz_W p l e (qz_R 0) s m args below meth c 0 0 (MQ below (qz_Q G r.2 (some (.long r.1))) args s 0 0 (qz_A G)) G s.heap 7 N 115 [(1, .long x1), (5, .int x5), (0, .ref (G.2.2 7 y0))] [.long s0, .long s1] := by
  unfold fM_over_115 at h
  refine qz_ladd X dq_M_over_115 ?_
  refine qz_sub [0, 1, 2] rfl ?_
  exact sM_over_116 X y0 hy0 k12 hk12 N x1 x5 (s1 + s0) h
set_option maxRecDepth 100000 in
set_option maxHeartbeats 4000000 in
theorem sM_over_83 {p : Program} {l : Launch} {e : Env} {s : State} {m : MethodId} {args : Array Value} {below : List Frame} {meth : Method} {c : Code} {G : qz_G} (X : qz_X p s m args meth c "ExactCurvesModel" prog_10_method_4_code 7 (some .long) G) {r : (Int64 × qz_N)} (y0 : Nat) (hy0 : y0 < 1) (k12 : qz_N × Int64 × Int64 × Int32 → Option (Int64 × qz_N)) (hk12 : ∀ a, k12 a = some r → qz_W p l e (qz_R 0) s m args below meth c 0 0 (MQ below (qz_Q G r.2 (some (.long r.1))) args s 0 0 (qz_A G)) G s.heap 7 a.1 12 [(1, .long a.2.1), (3, .long a.2.2.1), (5, .int a.2.2.2), (0, .ref (G.2.2 7 y0))] []) (N : qz_N) (x1 : Int64) (x3 : Int64) (x5 : Int32) (x6 : Int32) (s0 : Int64) (s1 : Nat) (hs1 : s1 < 1) (h : fM_over_83 y0 k12 N x1 x3 x5 x6 s0 s1 = some r) : qz_W p l e (qz_R 0) s m args below meth c 0 0 (MQ below (qz_Q G r.2 (some (.long r.1))) args s 0 0 (qz_A G)) G s.heap 7 N 83 [(1, .long x1), (3, .long x3), (5, .int x5), (6, .int x6), (0, .ref (G.2.2 7 y0))] [.long s0, .ref (G.2.2 7 s1)] := by
  unfold fM_over_83 at h
  refine qz_putJ X kq_M_122 hs1 dq_M_over_83 h (fun N3 h => ?_)
  refine qz_lload_n X 1 rfl dq_M_over_86 ?_
  refine qz_ldc2 X (v := (4611686018427387904 : Int64)) wq_826 dq_M_over_87 ?_
  refine qz_lcmp_lt X (tgt := 100) (by decide) dq_M_over_90 dq_M_over_91 h (fun _ h => ?_) (fun _ h => ?_)
  · refine qz_ldc2 X (v := (2 : Int64)) wq_825 dq_M_over_100 ?_
    refine qz_lload_n X 1 rfl dq_M_over_103 ?_
    refine qz_lmul X dq_M_over_104 ?_
    refine qz_iload X 3 rfl dq_M_over_105 ?_
    refine qz_if_eq X (tgt := 114) (by decide) dq_M_over_107 h (fun _ h => ?_) (fun _ h => ?_)
    · refine qz_lconst X (v := (0 : Int64)) (by decide) dq_M_over_114 ?_
      refine qz_sub [0, 2, 4] rfl ?_
      exact sM_over_115 X y0 hy0 k12 hk12 N3 x1 x5 (0 : Int64) ((2 : Int64) * x3) h
    · refine qz_lconst X (v := (1 : Int64)) (by decide) dq_M_over_110 ?_
      refine qz_goto X (tgt := 115) (by decide) dq_M_over_111 ?_
      refine qz_sub [0, 2, 4] rfl ?_
      exact sM_over_115 X y0 hy0 k12 hk12 N3 x1 x5 (1 : Int64) ((2 : Int64) * x3) h
  · refine qz_ldc2 X (v := (4611686018427387904 : Int64)) wq_826 dq_M_over_94 ?_
    refine qz_goto X (tgt := 116) (by decide) dq_M_over_97 ?_
    refine qz_sub [0, 2, 4] rfl ?_
    exact sM_over_116 X y0 hy0 k12 hk12 N3 x1 x5 (4611686018427387904 : Int64) h
set_option maxRecDepth 100000 in
set_option maxHeartbeats 4000000 in
theorem sM_over_62 {p : Program} {l : Launch} {e : Env} {s : State} {m : MethodId} {args : Array Value} {below : List Frame} {meth : Method} {c : Code} {G : qz_G} (X : qz_X p s m args meth c "ExactCurvesModel" prog_10_method_4_code 7 (some .long) G) {r : (Int64 × qz_N)} (y0 : Nat) (hy0 : y0 < 1) (k12 : qz_N × Int64 × Int64 × Int32 → Option (Int64 × qz_N)) (hk12 : ∀ a, k12 a = some r → qz_W p l e (qz_R 0) s m args below meth c 0 0 (MQ below (qz_Q G r.2 (some (.long r.1))) args s 0 0 (qz_A G)) G s.heap 7 a.1 12 [(1, .long a.2.1), (3, .long a.2.2.1), (5, .int a.2.2.2), (0, .ref (G.2.2 7 y0))] []) (N : qz_N) (x1 : Int64) (x3 : Int64) (x5 : Int32) (s0 : Int32) (h : fM_over_62 y0 k12 N x1 x3 x5 s0 = some r) : qz_W p l e (qz_R 0) s m args below meth c 0 0 (MQ below (qz_Q G r.2 (some (.long r.1))) args s 0 0 (qz_A G)) G s.heap 7 N 62 [(1, .long x1), (3, .long x3), (5, .int x5), (0, .ref (G.2.2 7 y0))] [.int s0] := by
  unfold fM_over_62 at h
  refine qz_istore X (lv' := [(6, .int s0), (1, .long x1), (3, .long x3), (5, .int x5), (0, .ref (G.2.2 7 y0))]) (by decide) rfl dq_M_over_62 ?_
  refine qz_aload_n X 4 rfl dq_M_over_64 ?_
  refine qz_iload X 0 rfl dq_M_over_65 ?_
  refine qz_if_eq X (tgt := 79) (by decide) dq_M_over_67 h (fun _ h => ?_) (fun _ h => ?_)
  · refine qz_aload_n X 4 rfl dq_M_over_79 ?_
    refine qz_get X (v := .long (qz_gl N 7 y0 41)) kq_M_122 hy0 rfl dq_M_over_80 ?_
    refine qz_sub [1, 2, 3, 0, 4] rfl ?_
    exact sM_over_83 X y0 hy0 k12 hk12 N x1 x3 x5 s0 (qz_gl N 7 y0 41) y0 hy0 h
  · refine qz_aload_n X 4 rfl dq_M_over_70 ?_
    refine qz_get X (v := .long (qz_gl N 7 y0 41)) kq_M_122 hy0 rfl dq_M_over_71 ?_
    refine qz_lload_n X 1 rfl dq_M_over_74 ?_
    refine qz_lsub X dq_M_over_75 ?_
    refine qz_goto X (tgt := 83) (by decide) dq_M_over_76 ?_
    refine qz_sub [1, 2, 3, 0, 4] rfl ?_
    exact sM_over_83 X y0 hy0 k12 hk12 N x1 x3 x5 s0 ((qz_gl N 7 y0 41) - x1) y0 hy0 h
set_option maxRecDepth 100000 in
set_option maxHeartbeats 4000000 in
theorem sM_over_12b {p : Program} {l : Launch} {e : Env} {s : State} {m : MethodId} {args : Array Value} {below : List Frame} {meth : Method} {c : Code} {G : qz_G} (X : qz_X p s m args meth c "ExactCurvesModel" prog_10_method_4_code 7 (some .long) G) {r : (Int64 × qz_N)} (y0 : Nat) (hy0 : y0 < 1) (k12 : qz_N × Int64 × Int64 × Int32 → Option (Int64 × qz_N)) (hk12 : ∀ a, k12 a = some r → qz_W p l e (qz_R 0) s m args below meth c 0 0 (MQ below (qz_Q G r.2 (some (.long r.1))) args s 0 0 (qz_A G)) G s.heap 7 a.1 12 [(1, .long a.2.1), (3, .long a.2.2.1), (5, .int a.2.2.2), (0, .ref (G.2.2 7 y0))] []) (N : qz_N) (x1 : Int64) (x3 : Int64) (x5 : Int32) (h : fM_over_12b y0 k12 N x1 x3 x5 = some r) : qz_W p l e (qz_R 0) s m args below meth c 0 0 (MQ below (qz_Q G r.2 (some (.long r.1))) args s 0 0 (qz_A G)) G s.heap 7 N 12 [(1, .long x1), (3, .long x3), (5, .int x5), (0, .ref (G.2.2 7 y0))] [] := by
  unfold fM_over_12b at h
  refine qz_iload X 2 rfl dq_M_over_12 ?_
  refine qz_if_lt X (tgt := 123) (by decide) dq_M_over_14 h (fun _ h => ?_) (fun _ h => ?_)
  · refine qz_lload_n X 1 rfl dq_M_over_123 ?_
    exact qz_lret X h dq_M_over_124
  · refine qz_aload_n X 3 rfl dq_M_over_17 ?_
    refine qz_ldc2 X (v := (2 : Int64)) wq_825 dq_M_over_18 ?_
    refine qz_aload_n X 3 rfl dq_M_over_21 ?_
    refine qz_get X (v := .long (qz_gl N 7 y0 41)) kq_M_122 hy0 rfl dq_M_over_22 ?_
    refine qz_lmul X dq_M_over_25 ?_
    refine qz_aload_n X 3 rfl dq_M_over_26 ?_
    refine qz_get X (v := .ref (G.2.2 52 y0)) kq_M_106 hy0 rfl dq_M_over_27 ?_
    refine qz_iload X 2 rfl dq_M_over_30 ?_
    refine qz_bipush X (v := (30 : Int32)) (by decide) dq_M_over_32 ?_
    refine qz_idiv X (by decide) dq_M_over_34 ?_
    refine qz_lald X (c0 := 52) (i := y0) (n := 6) rfl hy0 dq_M_over_35 h (fun h => ?_)
    refine qz_iload X 2 rfl dq_M_over_36 ?_
    refine qz_bipush X (v := (30 : Int32)) (by decide) dq_M_over_38 ?_
    refine qz_irem X (by decide) dq_M_over_40 ?_
    refine qz_lushr X dq_M_over_41 ?_
    refine qz_lconst X (v := (1 : Int64)) (by decide) dq_M_over_42 ?_
    refine qz_land X dq_M_over_43 ?_
    refine qz_ladd X dq_M_over_44 ?_
    refine qz_putJ X kq_M_122 hy0 dq_M_over_45 h (fun N2 h => ?_)
    refine qz_aload_n X 3 rfl dq_M_over_48 ?_
    refine qz_get X (v := .long (qz_gl N2 7 y0 41)) kq_M_122 hy0 rfl dq_M_over_49 ?_
    refine qz_lload_n X 0 rfl dq_M_over_52 ?_
    refine qz_lcmp_lt X (tgt := 61) (by decide) dq_M_over_53 dq_M_over_54 h (fun _ h => ?_) (fun _ h => ?_)
    · refine qz_iconst X (v := (0 : Int32)) (by decide) dq_M_over_61 ?_
      refine qz_sub [0, 1, 2, 3] rfl ?_
      exact sM_over_62 X y0 hy0 k12 hk12 N2 x1 x3 x5 (0 : Int32) h
    · refine qz_iconst X (v := (1 : Int32)) (by decide) dq_M_over_57 ?_
      refine qz_goto X (tgt := 62) (by decide) dq_M_over_58 ?_
      refine qz_sub [0, 1, 2, 3] rfl ?_
      exact sM_over_62 X y0 hy0 k12 hk12 N2 x1 x3 x5 (1 : Int32) h
theorem sM_over_12 {p : Program} {l : Launch} {e : Env} {s : State} {m : MethodId} {args : Array Value} {below : List Frame} {meth : Method} {c : Code} {G : qz_G} (X : qz_X p s m args meth c "ExactCurvesModel" prog_10_method_4_code 7 (some .long) G) {r : (Int64 × qz_N)} (y0 : Nat) (hy0 : y0 < 1) (n : Nat) (a : qz_N × Int64 × Int64 × Int32) (h : fM_over_12 y0 n a = some r) : qz_W p l e (qz_R 0) s m args below meth c 0 0 (MQ below (qz_Q G r.2 (some (.long r.1))) args s 0 0 (qz_A G)) G s.heap 7 a.1 12 [(1, .long a.2.1), (3, .long a.2.2.1), (5, .int a.2.2.2), (0, .ref (G.2.2 7 y0))] [] :=
  qz_loop_ind (P := fun a => qz_W p l e (qz_R 0) s m args below meth c 0 0 (MQ below (qz_Q G r.2 (some (.long r.1))) args s 0 0 (qz_A G)) G s.heap 7 a.1 12 [(1, .long a.2.1), (3, .long a.2.2.1), (5, .int a.2.2.2), (0, .ref (G.2.2 7 y0))] []) (fun k hk a h => sM_over_12b X y0 hy0 k hk a.1 a.2.1 a.2.2.1 a.2.2.2 h) n a h
set_option maxRecDepth 100000 in
set_option maxHeartbeats 4000000 in
theorem sM_over {p : Program} {l : Launch} {e : Env} {s : State} {m : MethodId} {args : Array Value} {below : List Frame} {meth : Method} {c : Code} {G : qz_G} (X : qz_X p s m args meth c "ExactCurvesModel" prog_10_method_4_code 7 (some .long) G) {r : (Int64 × qz_N)} (o : Nat) (x1 : Int64) (ho : o < 1) (N : qz_N) (h : fM_over o x1 N = some r) : qz_W p l e (qz_R 0) s m args below meth c 0 0 (MQ below (qz_Q G r.2 (some (.long r.1))) args s 0 0 (qz_A G)) G s.heap 7 N 0 [(0, .ref (G.2.2 7 o)), (1, .long x1)] [] := by
  unfold fM_over at h
  refine qz_lconst X (v := (0 : Int64)) (by decide) dq_M_over_0 ?_
  refine qz_lstore_n X (lv' := [(3, .long (0 : Int64)), (0, .ref (G.2.2 7 o)), (1, .long x1)]) rfl (by decide) rfl dq_M_over_1 ?_
  refine qz_aload_n X 1 rfl dq_M_over_2 ?_
  refine qz_lconst X (v := (0 : Int64)) (by decide) dq_M_over_3 ?_
  refine qz_putJ X kq_M_122 ho dq_M_over_4 h (fun N1 h => ?_)
  refine qz_sipush X (v := (179 : Int32)) (by decide) dq_M_over_7 ?_
  refine qz_istore X (lv' := [(5, .int (179 : Int32)), (3, .long (0 : Int64)), (0, .ref (G.2.2 7 o)), (1, .long x1)]) (by decide) rfl dq_M_over_10 ?_
  refine qz_sub [3, 1, 0, 2] rfl ?_
  exact sM_over_12 X o ho 1100 (N1, x1, (0 : Int64), (179 : Int32)) h
theorem cM_over (l : Launch) (G : qz_G) (hD : qz_D G) (o : Nat) (x1 : Int64) (N : qz_N) (ho : o < 1) (r : (Int64 × qz_N)) (h : fM_over o x1 N = some r) : qz_M l yM_over prog_10_method_4_code 7 (some .long) 0 G [.ref (G.2.2 7 o), .long x1] N (some (.long r.1)) r.2 :=
  qz_enter (lv := [(0, .ref (G.2.2 7 o)), (1, .long x1)]) rfl hD (Nat.le_of_ble_eq_true rfl) rfl (fun p e s m args below meth c X => sM_over X o x1 ho N h)
