-- ExactCurves.of(II)J
theorem dq_E_of_0 : decode prog_1_method_7_code 0 = .ok (.aload_n 0, 1) := by decide +kernel
theorem dq_E_of_1 : decode prog_1_method_7_code 1 = .ok (.iload_n 1, 1) := by decide +kernel
theorem dq_E_of_2 : decode prog_1_method_7_code 2 = .ok (.invokevirtual 95, 3) := by decide +kernel
theorem dq_E_of_5 : decode prog_1_method_7_code 5 = .ok (.astore_n 3, 1) := by decide +kernel
theorem dq_E_of_6 : decode prog_1_method_7_code 6 = .ok (.aload_n 3, 1) := by decide +kernel
theorem dq_E_of_7 : decode prog_1_method_7_code 7 = .ok (.ifnonnull 9, 3) := by decide +kernel
theorem dq_E_of_10 : decode prog_1_method_7_code 10 = .ok (.ldc2_w 60, 3) := by decide +kernel
theorem dq_E_of_13 : decode prog_1_method_7_code 13 = .ok (.goto 8, 3) := by decide +kernel
theorem dq_E_of_16 : decode prog_1_method_7_code 16 = .ok (.aload_n 3, 1) := by decide +kernel
theorem dq_E_of_17 : decode prog_1_method_7_code 17 = .ok (.iload_n 2, 1) := by decide +kernel
theorem dq_E_of_18 : decode prog_1_method_7_code 18 = .ok (.invokevirtual 99, 3) := by decide +kernel
theorem dq_E_of_21 : decode prog_1_method_7_code 21 = .ok (.lreturn, 1) := by decide +kernel
def fE_of (o : Nat) (x1 : Int32) (x2 : Int32) (N : qz_N) : Option (Int64 × qz_N) :=
  (fE_poolAt o x1 N).bind fun q1 => qz_oc q1
    (fun N3 =>
    some ((-2 : Int64), N3))
    fun N3 j4 =>
    (fP_told j4 x2 N3).bind fun q5 =>
    some (q5.1, q5.2)
set_option maxRecDepth 100000 in
set_option maxHeartbeats 4000000 in
theorem sE_of {p : Program} {l : Launch} {e : Env} {s : State} {m : MethodId} {args : Array Value} {below : List Frame} {meth : Method} {c : Code} {G : qz_G} (X : qz_X p s m args meth c "ExactCurves" prog_1_method_7_code 4 (some .long) G) {r : (Int64 × qz_N)} (o : Nat) (x1 : Int32) (x2 : Int32) (ho : o < 1) (N : qz_N) (h : fE_of o x1 x2 N = some r) : qz_W p l e (qz_R 1) s m args below meth c 0 0 (MQ below (qz_Q G r.2 (some (.long r.1))) args s 0 0 (qz_A G)) G s.heap 4 N 0 [(0, .ref (G.2.2 0 o)), (1, .int x1), (2, .int x2)] [] := by
  unfold fE_of at h
  refine qz_aload_n X 0 rfl dq_E_of_0 ?_
  refine qz_iload_n X 1 rfl dq_E_of_1 ?_
  refine qz_bind h (fun q1 e2 h => ?_)
  obtain ⟨rq1, N3⟩ := q1
  cases rq1 with
  | none =>
    replace h := qz_ocN h
    refine qz_callV X (as := [.int x1]) (st := []) (o := some .null) (N' := N3) cq_E_95 ho (cE_poolAt l G X.2.2.2.2.2.2.1 o x1 N ho _ e2) ⟨by decide, by decide⟩ rfl rfl (Nat.le_of_ble_eq_true rfl) ⟨Nat.zero_le _, Nat.zero_le _⟩ dq_E_of_2 ?_
    refine qz_astore_nN X (lv' := [(3, .null), (0, .ref (G.2.2 0 o)), (1, .int x1), (2, .int x2)]) rfl (by decide) rfl dq_E_of_5 ?_
    refine qz_aload_nN X 0 rfl dq_E_of_6 ?_
    refine qz_ifnonnullN X dq_E_of_7 ?_
    refine qz_ldc2 X (v := (-2 : Int64)) wq_252 dq_E_of_10 ?_
    refine qz_goto X (tgt := 21) (by decide) dq_E_of_13 ?_
    exact qz_lret X h dq_E_of_21
  | some j4 =>
    replace h := qz_ocS h
    refine qz_callV X (as := [.int x1]) (st := []) (o := some (.ref (G.2.2 2 j4))) (N' := N3) cq_E_95 ho (cE_poolAt l G X.2.2.2.2.2.2.1 o x1 N ho _ e2) ⟨by decide, by decide⟩ rfl rfl (Nat.le_of_ble_eq_true rfl) ⟨Nat.zero_le _, Nat.zero_le _⟩ dq_E_of_2 ?_
    refine qz_astore_n X (lv' := [(3, .ref (G.2.2 2 j4)), (0, .ref (G.2.2 0 o)), (1, .int x1), (2, .int x2)]) rfl (by decide) rfl dq_E_of_5 ?_
    refine qz_aload_n X 0 rfl dq_E_of_6 ?_
    refine qz_ifnonnull X (tgt := 16) (by decide) dq_E_of_7 ?_
    refine qz_aload_n X 0 rfl dq_E_of_16 ?_
    refine qz_iload_n X 3 rfl dq_E_of_17 ?_
    refine qz_bind h (fun q5 e6 h => ?_)
    refine qz_callV X (as := [.int x2]) (st := []) (o := some (.long q5.1)) (N' := q5.2) cq_E_99 (vE_poolAt e2 j4 rfl) (cP_told l G X.2.2.2.2.2.2.1 j4 x2 N3 (vE_poolAt e2 j4 rfl) _ e6) ⟨by decide, by decide⟩ rfl rfl (Nat.le_of_ble_eq_true rfl) ⟨Nat.zero_le _, Nat.zero_le _⟩ dq_E_of_18 ?_
    exact qz_lret X h dq_E_of_21
theorem cE_of (l : Launch) (G : qz_G) (hD : qz_D G) (o : Nat) (x1 : Int32) (x2 : Int32) (N : qz_N) (ho : o < 1) (r : (Int64 × qz_N)) (h : fE_of o x1 x2 N = some r) : qz_M l yE_of prog_1_method_7_code 4 (some .long) 1 G [.ref (G.2.2 0 o), .int x1, .int x2] N (some (.long r.1)) r.2 :=
  qz_enter (lv := [(0, .ref (G.2.2 0 o)), (1, .int x1), (2, .int x2)]) rfl hD (Nat.le_of_ble_eq_true rfl) rfl (fun p e s m args below meth c X => sE_of X o x1 x2 ho N h)
-- ExactCurves$Exact.highOf(JJ)J
theorem dq_A_highOf_0 : decode prog_3_method_2_code 0 = .ok (.lload_n 0, 1) := by decide +kernel
theorem dq_A_highOf_1 : decode prog_3_method_2_code 1 = .ok (.bipush 32, 2) := by decide +kernel
theorem dq_A_highOf_3 : decode prog_3_method_2_code 3 = .ok (.lushr, 1) := by decide +kernel
theorem dq_A_highOf_4 : decode prog_3_method_2_code 4 = .ok (.lstore 4, 2) := by decide +kernel
theorem dq_A_highOf_6 : decode prog_3_method_2_code 6 = .ok (.lload_n 0, 1) := by decide +kernel
theorem dq_A_highOf_7 : decode prog_3_method_2_code 7 = .ok (.ldc2_w 9, 3) := by decide +kernel
theorem dq_A_highOf_10 : decode prog_3_method_2_code 10 = .ok (.land, 1) := by decide +kernel
theorem dq_A_highOf_11 : decode prog_3_method_2_code 11 = .ok (.lstore 6, 2) := by decide +kernel
theorem dq_A_highOf_13 : decode prog_3_method_2_code 13 = .ok (.lload_n 2, 1) := by decide +kernel
theorem dq_A_highOf_14 : decode prog_3_method_2_code 14 = .ok (.bipush 32, 2) := by decide +kernel
theorem dq_A_highOf_16 : decode prog_3_method_2_code 16 = .ok (.lushr, 1) := by decide +kernel
theorem dq_A_highOf_17 : decode prog_3_method_2_code 17 = .ok (.lstore 8, 2) := by decide +kernel
theorem dq_A_highOf_19 : decode prog_3_method_2_code 19 = .ok (.lload_n 2, 1) := by decide +kernel
theorem dq_A_highOf_20 : decode prog_3_method_2_code 20 = .ok (.ldc2_w 9, 3) := by decide +kernel
theorem dq_A_highOf_23 : decode prog_3_method_2_code 23 = .ok (.land, 1) := by decide +kernel
theorem dq_A_highOf_24 : decode prog_3_method_2_code 24 = .ok (.lstore 10, 2) := by decide +kernel
theorem dq_A_highOf_26 : decode prog_3_method_2_code 26 = .ok (.lload 4, 2) := by decide +kernel
theorem dq_A_highOf_28 : decode prog_3_method_2_code 28 = .ok (.lload 10, 2) := by decide +kernel
theorem dq_A_highOf_30 : decode prog_3_method_2_code 30 = .ok (.lmul, 1) := by decide +kernel
theorem dq_A_highOf_31 : decode prog_3_method_2_code 31 = .ok (.lload 6, 2) := by decide +kernel
theorem dq_A_highOf_33 : decode prog_3_method_2_code 33 = .ok (.lload 10, 2) := by decide +kernel
theorem dq_A_highOf_35 : decode prog_3_method_2_code 35 = .ok (.lmul, 1) := by decide +kernel
theorem dq_A_highOf_36 : decode prog_3_method_2_code 36 = .ok (.bipush 32, 2) := by decide +kernel
theorem dq_A_highOf_38 : decode prog_3_method_2_code 38 = .ok (.lushr, 1) := by decide +kernel
theorem dq_A_highOf_39 : decode prog_3_method_2_code 39 = .ok (.ladd, 1) := by decide +kernel
theorem dq_A_highOf_40 : decode prog_3_method_2_code 40 = .ok (.lstore 12, 2) := by decide +kernel
theorem dq_A_highOf_42 : decode prog_3_method_2_code 42 = .ok (.lload 6, 2) := by decide +kernel
theorem dq_A_highOf_44 : decode prog_3_method_2_code 44 = .ok (.lload 8, 2) := by decide +kernel
theorem dq_A_highOf_46 : decode prog_3_method_2_code 46 = .ok (.lmul, 1) := by decide +kernel
theorem dq_A_highOf_47 : decode prog_3_method_2_code 47 = .ok (.lload 12, 2) := by decide +kernel
theorem dq_A_highOf_49 : decode prog_3_method_2_code 49 = .ok (.ldc2_w 9, 3) := by decide +kernel
theorem dq_A_highOf_52 : decode prog_3_method_2_code 52 = .ok (.land, 1) := by decide +kernel
theorem dq_A_highOf_53 : decode prog_3_method_2_code 53 = .ok (.ladd, 1) := by decide +kernel
theorem dq_A_highOf_54 : decode prog_3_method_2_code 54 = .ok (.lstore 14, 2) := by decide +kernel
theorem dq_A_highOf_56 : decode prog_3_method_2_code 56 = .ok (.lload 4, 2) := by decide +kernel
theorem dq_A_highOf_58 : decode prog_3_method_2_code 58 = .ok (.lload 8, 2) := by decide +kernel
theorem dq_A_highOf_60 : decode prog_3_method_2_code 60 = .ok (.lmul, 1) := by decide +kernel
theorem dq_A_highOf_61 : decode prog_3_method_2_code 61 = .ok (.lload 12, 2) := by decide +kernel
theorem dq_A_highOf_63 : decode prog_3_method_2_code 63 = .ok (.bipush 32, 2) := by decide +kernel
theorem dq_A_highOf_65 : decode prog_3_method_2_code 65 = .ok (.lushr, 1) := by decide +kernel
theorem dq_A_highOf_66 : decode prog_3_method_2_code 66 = .ok (.ladd, 1) := by decide +kernel
theorem dq_A_highOf_67 : decode prog_3_method_2_code 67 = .ok (.lload 14, 2) := by decide +kernel
theorem dq_A_highOf_69 : decode prog_3_method_2_code 69 = .ok (.bipush 32, 2) := by decide +kernel
theorem dq_A_highOf_71 : decode prog_3_method_2_code 71 = .ok (.lushr, 1) := by decide +kernel
theorem dq_A_highOf_72 : decode prog_3_method_2_code 72 = .ok (.ladd, 1) := by decide +kernel
theorem dq_A_highOf_73 : decode prog_3_method_2_code 73 = .ok (.lreturn, 1) := by decide +kernel
def fA_highOf (x0 : Int64) (x2 : Int64) (N : qz_N) : Option (Int64 × qz_N) :=
  qz_let ((x0.toUInt64 >>> ((32 : Int32).toInt64.toUInt64 &&& Int64.toUInt64 63)).toInt64) fun v1 =>
  qz_let (x0 &&& (4294967295 : Int64)) fun v2 =>
  qz_let ((x2.toUInt64 >>> ((32 : Int32).toInt64.toUInt64 &&& Int64.toUInt64 63)).toInt64) fun v3 =>
  qz_let (x2 &&& (4294967295 : Int64)) fun v4 =>
  qz_let ((v1 * v4) + (((v2 * v4).toUInt64 >>> ((32 : Int32).toInt64.toUInt64 &&& Int64.toUInt64 63)).toInt64)) fun v5 =>
  qz_let ((v2 * v3) + (v5 &&& (4294967295 : Int64))) fun v6 =>
  some (((v1 * v3) + ((v5.toUInt64 >>> ((32 : Int32).toInt64.toUInt64 &&& Int64.toUInt64 63)).toInt64)) + ((v6.toUInt64 >>> ((32 : Int32).toInt64.toUInt64 &&& Int64.toUInt64 63)).toInt64), N)
set_option maxRecDepth 100000 in
set_option maxHeartbeats 4000000 in
theorem sA_highOf {p : Program} {l : Launch} {e : Env} {s : State} {m : MethodId} {args : Array Value} {below : List Frame} {meth : Method} {c : Code} {G : qz_G} (X : qz_X p s m args meth c "ExactCurves$Exact" prog_3_method_2_code 16 (some .long) G) {r : (Int64 × qz_N)} (x0 : Int64) (x2 : Int64) (N : qz_N) (h : fA_highOf x0 x2 N = some r) : qz_W p l e (qz_R 0) s m args below meth c 0 0 (MQ below (qz_Q G r.2 (some (.long r.1))) args s 0 0 (qz_A G)) G s.heap 16 N 0 [(0, .long x0), (2, .long x2)] [] := by
  unfold fA_highOf at h
  refine qz_lload_n X 0 rfl dq_A_highOf_0 ?_
  refine qz_bipush X (v := (32 : Int32)) (by decide) dq_A_highOf_1 ?_
  refine qz_lushr X dq_A_highOf_3 ?_
  refine qz_letj h (fun v1 h => ?_)
  refine qz_lstore X (lv' := [(4, .long v1), (0, .long x0), (2, .long x2)]) (by decide) rfl dq_A_highOf_4 ?_
  refine qz_lload_n X 1 rfl dq_A_highOf_6 ?_
  refine qz_ldc2 X (v := (4294967295 : Int64)) wq_309 dq_A_highOf_7 ?_
  refine qz_land X dq_A_highOf_10 ?_
  refine qz_letj h (fun v2 h => ?_)
  refine qz_lstore X (lv' := [(6, .long v2), (4, .long v1), (0, .long x0), (2, .long x2)]) (by decide) rfl dq_A_highOf_11 ?_
  refine qz_lload_n X 3 rfl dq_A_highOf_13 ?_
  refine qz_bipush X (v := (32 : Int32)) (by decide) dq_A_highOf_14 ?_
  refine qz_lushr X dq_A_highOf_16 ?_
  refine qz_letj h (fun v3 h => ?_)
  refine qz_lstore X (lv' := [(8, .long v3), (6, .long v2), (4, .long v1), (0, .long x0), (2, .long x2)]) (by decide) rfl dq_A_highOf_17 ?_
  refine qz_lload_n X 4 rfl dq_A_highOf_19 ?_
  refine qz_ldc2 X (v := (4294967295 : Int64)) wq_309 dq_A_highOf_20 ?_
  refine qz_land X dq_A_highOf_23 ?_
  refine qz_letj h (fun v4 h => ?_)
  refine qz_lstore X (lv' := [(10, .long v4), (8, .long v3), (6, .long v2), (4, .long v1), (0, .long x0), (2, .long x2)]) (by decide) rfl dq_A_highOf_24 ?_
  refine qz_lload X 3 rfl dq_A_highOf_26 ?_
  refine qz_lload X 0 rfl dq_A_highOf_28 ?_
  refine qz_lmul X dq_A_highOf_30 ?_
  refine qz_lload X 2 rfl dq_A_highOf_31 ?_
  refine qz_lload X 0 rfl dq_A_highOf_33 ?_
  refine qz_lmul X dq_A_highOf_35 ?_
  refine qz_bipush X (v := (32 : Int32)) (by decide) dq_A_highOf_36 ?_
  refine qz_lushr X dq_A_highOf_38 ?_
  refine qz_ladd X dq_A_highOf_39 ?_
  refine qz_letj h (fun v5 h => ?_)
  refine qz_lstore X (lv' := [(12, .long v5), (10, .long v4), (8, .long v3), (6, .long v2), (4, .long v1), (0, .long x0), (2, .long x2)]) (by decide) rfl dq_A_highOf_40 ?_
  refine qz_lload X 3 rfl dq_A_highOf_42 ?_
  refine qz_lload X 2 rfl dq_A_highOf_44 ?_
  refine qz_lmul X dq_A_highOf_46 ?_
  refine qz_lload X 0 rfl dq_A_highOf_47 ?_
  refine qz_ldc2 X (v := (4294967295 : Int64)) wq_309 dq_A_highOf_49 ?_
  refine qz_land X dq_A_highOf_52 ?_
  refine qz_ladd X dq_A_highOf_53 ?_
  refine qz_letj h (fun v6 h => ?_)
  refine qz_lstore X (lv' := [(14, .long v6), (12, .long v5), (10, .long v4), (8, .long v3), (6, .long v2), (4, .long v1), (0, .long x0), (2, .long x2)]) (by decide) rfl dq_A_highOf_54 ?_
  refine qz_lload X 5 rfl dq_A_highOf_56 ?_
  refine qz_lload X 3 rfl dq_A_highOf_58 ?_
  refine qz_lmul X dq_A_highOf_60 ?_
  refine qz_lload X 1 rfl dq_A_highOf_61 ?_
  refine qz_bipush X (v := (32 : Int32)) (by decide) dq_A_highOf_63 ?_
  refine qz_lushr X dq_A_highOf_65 ?_
  refine qz_ladd X dq_A_highOf_66 ?_
  refine qz_lload X 0 rfl dq_A_highOf_67 ?_
  refine qz_bipush X (v := (32 : Int32)) (by decide) dq_A_highOf_69 ?_
  refine qz_lushr X dq_A_highOf_71 ?_
  refine qz_ladd X dq_A_highOf_72 ?_
  exact qz_lret X h dq_A_highOf_73
theorem cA_highOf (l : Launch) (G : qz_G) (hD : qz_D G) (x0 : Int64) (x2 : Int64) (N : qz_N) (r : (Int64 × qz_N)) (h : fA_highOf x0 x2 N = some r) : qz_M l yA_highOf prog_3_method_2_code 16 (some .long) 0 G [.long x0, .long x2] N (some (.long r.1)) r.2 :=
  qz_enter (lv := [(0, .long x0), (2, .long x2)]) rfl hD (Nat.le_of_ble_eq_true rfl) rfl (fun p e s m args below meth c X => sA_highOf X x0 x2 N h)
-- java/lang/Long.compare(JJ)I
theorem dq_Jl_compare_0 : decode prog_11_method_42_code 0 = .ok (.lload_n 0, 1) := by decide +kernel
theorem dq_Jl_compare_1 : decode prog_11_method_42_code 1 = .ok (.lload_n 2, 1) := by decide +kernel
theorem dq_Jl_compare_2 : decode prog_11_method_42_code 2 = .ok (.lcmp, 1) := by decide +kernel
theorem dq_Jl_compare_3 : decode prog_11_method_42_code 3 = .ok (.ifCond .ge 7, 3) := by decide +kernel
theorem dq_Jl_compare_6 : decode prog_11_method_42_code 6 = .ok (.iconst (-1), 1) := by decide +kernel
theorem dq_Jl_compare_7 : decode prog_11_method_42_code 7 = .ok (.goto 14, 3) := by decide +kernel
theorem dq_Jl_compare_10 : decode prog_11_method_42_code 10 = .ok (.lload_n 0, 1) := by decide +kernel
theorem dq_Jl_compare_11 : decode prog_11_method_42_code 11 = .ok (.lload_n 2, 1) := by decide +kernel
theorem dq_Jl_compare_12 : decode prog_11_method_42_code 12 = .ok (.lcmp, 1) := by decide +kernel
theorem dq_Jl_compare_13 : decode prog_11_method_42_code 13 = .ok (.ifCond .ne 7, 3) := by decide +kernel
theorem dq_Jl_compare_16 : decode prog_11_method_42_code 16 = .ok (.iconst 0, 1) := by decide +kernel
theorem dq_Jl_compare_17 : decode prog_11_method_42_code 17 = .ok (.goto 4, 3) := by decide +kernel
theorem dq_Jl_compare_20 : decode prog_11_method_42_code 20 = .ok (.iconst 1, 1) := by decide +kernel
theorem dq_Jl_compare_21 : decode prog_11_method_42_code 21 = .ok (.ireturn, 1) := by decide +kernel
def fJl_compare (x0 : Int64) (x2 : Int64) (N : qz_N) : Option (Int32 × qz_N) :=
  if x2 ≤ x0 then
    if x0 = x2 then
      some ((0 : Int32), N)
    else
    some ((1 : Int32), N)
  else
  some ((-1 : Int32), N)
set_option maxRecDepth 100000 in
set_option maxHeartbeats 4000000 in
theorem sJl_compare {p : Program} {l : Launch} {e : Env} {s : State} {m : MethodId} {args : Array Value} {below : List Frame} {meth : Method} {c : Code} {G : qz_G} (X : qz_X p s m args meth c "java/lang/Long" prog_11_method_42_code 4 (some .int) G) {r : (Int32 × qz_N)} (x0 : Int64) (x2 : Int64) (N : qz_N) (h : fJl_compare x0 x2 N = some r) : qz_W p l e (qz_R 0) s m args below meth c 0 0 (MQ below (qz_Q G r.2 (some (.int r.1))) args s 0 0 (qz_A G)) G s.heap 4 N 0 [(0, .long x0), (2, .long x2)] [] := by
  unfold fJl_compare at h
  refine qz_lload_n X 0 rfl dq_Jl_compare_0 ?_
  refine qz_lload_n X 1 rfl dq_Jl_compare_1 ?_
  refine qz_lcmp_ge X (tgt := 10) (by decide) dq_Jl_compare_2 dq_Jl_compare_3 h (fun _ h => ?_) (fun _ h => ?_)
  · refine qz_lload_n X 0 rfl dq_Jl_compare_10 ?_
    refine qz_lload_n X 1 rfl dq_Jl_compare_11 ?_
    refine qz_lcmp_ne X (tgt := 20) (by decide) dq_Jl_compare_12 dq_Jl_compare_13 h (fun _ h => ?_) (fun _ h => ?_)
    · refine qz_iconst X (v := (1 : Int32)) (by decide) dq_Jl_compare_20 ?_
      exact qz_iret X h dq_Jl_compare_21
    · refine qz_iconst X (v := (0 : Int32)) (by decide) dq_Jl_compare_16 ?_
      refine qz_goto X (tgt := 21) (by decide) dq_Jl_compare_17 ?_
      exact qz_iret X h dq_Jl_compare_21
  · refine qz_iconst X (v := (-1 : Int32)) (by decide) dq_Jl_compare_6 ?_
    refine qz_goto X (tgt := 21) (by decide) dq_Jl_compare_7 ?_
    exact qz_iret X h dq_Jl_compare_21
theorem cJl_compare (l : Launch) (G : qz_G) (hD : qz_D G) (x0 : Int64) (x2 : Int64) (N : qz_N) (r : (Int32 × qz_N)) (h : fJl_compare x0 x2 N = some r) : qz_M l yJl_compare prog_11_method_42_code 4 (some .int) 0 G [.long x0, .long x2] N (some (.int r.1)) r.2 :=
  qz_enter (lv := [(0, .long x0), (2, .long x2)]) rfl hD (Nat.le_of_ble_eq_true rfl) rfl (fun p e s m args below meth c X => sJl_compare X x0 x2 N h)
-- ExactCurves$Exact.compareProducts(JJJJ)I
theorem dq_A_compareProducts_0 : decode prog_3_method_6_code 0 = .ok (.lload_n 0, 1) := by decide +kernel
theorem dq_A_compareProducts_1 : decode prog_3_method_6_code 1 = .ok (.lload_n 2, 1) := by decide +kernel
theorem dq_A_compareProducts_2 : decode prog_3_method_6_code 2 = .ok (.invokestatic 15, 3) := by decide +kernel
theorem dq_A_compareProducts_5 : decode prog_3_method_6_code 5 = .ok (.lload 4, 2) := by decide +kernel
theorem dq_A_compareProducts_7 : decode prog_3_method_6_code 7 = .ok (.lload 6, 2) := by decide +kernel
theorem dq_A_compareProducts_9 : decode prog_3_method_6_code 9 = .ok (.invokestatic 15, 3) := by decide +kernel
theorem dq_A_compareProducts_12 : decode prog_3_method_6_code 12 = .ok (.invokestatic 26, 3) := by decide +kernel
theorem dq_A_compareProducts_15 : decode prog_3_method_6_code 15 = .ok (.istore 8, 2) := by decide +kernel
theorem dq_A_compareProducts_17 : decode prog_3_method_6_code 17 = .ok (.iload 8, 2) := by decide +kernel
theorem dq_A_compareProducts_19 : decode prog_3_method_6_code 19 = .ok (.ifCond .eq 8, 3) := by decide +kernel
theorem dq_A_compareProducts_22 : decode prog_3_method_6_code 22 = .ok (.iload 8, 2) := by decide +kernel
theorem dq_A_compareProducts_24 : decode prog_3_method_6_code 24 = .ok (.goto 22, 3) := by decide +kernel
theorem dq_A_compareProducts_27 : decode prog_3_method_6_code 27 = .ok (.lload_n 0, 1) := by decide +kernel
theorem dq_A_compareProducts_28 : decode prog_3_method_6_code 28 = .ok (.lload_n 2, 1) := by decide +kernel
theorem dq_A_compareProducts_29 : decode prog_3_method_6_code 29 = .ok (.lmul, 1) := by decide +kernel
theorem dq_A_compareProducts_30 : decode prog_3_method_6_code 30 = .ok (.ldc2_w 30, 3) := by decide +kernel
theorem dq_A_compareProducts_33 : decode prog_3_method_6_code 33 = .ok (.lxor, 1) := by decide +kernel
theorem dq_A_compareProducts_34 : decode prog_3_method_6_code 34 = .ok (.lload 4, 2) := by decide +kernel
theorem dq_A_compareProducts_36 : decode prog_3_method_6_code 36 = .ok (.lload 6, 2) := by decide +kernel
theorem dq_A_compareProducts_38 : decode prog_3_method_6_code 38 = .ok (.lmul, 1) := by decide +kernel
theorem dq_A_compareProducts_39 : decode prog_3_method_6_code 39 = .ok (.ldc2_w 30, 3) := by decide +kernel
theorem dq_A_compareProducts_42 : decode prog_3_method_6_code 42 = .ok (.lxor, 1) := by decide +kernel
theorem dq_A_compareProducts_43 : decode prog_3_method_6_code 43 = .ok (.invokestatic 26, 3) := by decide +kernel
theorem dq_A_compareProducts_46 : decode prog_3_method_6_code 46 = .ok (.ireturn, 1) := by decide +kernel
def fA_compareProducts (x0 : Int64) (x2 : Int64) (x4 : Int64) (x6 : Int64) (N : qz_N) : Option (Int32 × qz_N) :=
  (fA_highOf x0 x2 N).bind fun q1 =>
  (fA_highOf x4 x6 q1.2).bind fun q3 =>
  (fJl_compare q1.1 q3.1 q3.2).bind fun q5 =>
  if q5.1 = 0 then
    (fJl_compare ((x0 * x2) ^^^ (-9223372036854775808 : Int64)) ((x4 * x6) ^^^ (-9223372036854775808 : Int64)) q5.2).bind fun q7 =>
    some (q7.1, q7.2)
  else
  some (q5.1, q5.2)
set_option maxRecDepth 100000 in
set_option maxHeartbeats 4000000 in
theorem sA_compareProducts {p : Program} {l : Launch} {e : Env} {s : State} {m : MethodId} {args : Array Value} {below : List Frame} {meth : Method} {c : Code} {G : qz_G} (X : qz_X p s m args meth c "ExactCurves$Exact" prog_3_method_6_code 9 (some .int) G) {r : (Int32 × qz_N)} (x0 : Int64) (x2 : Int64) (x4 : Int64) (x6 : Int64) (N : qz_N) (h : fA_compareProducts x0 x2 x4 x6 N = some r) : qz_W p l e (qz_R 1) s m args below meth c 0 0 (MQ below (qz_Q G r.2 (some (.int r.1))) args s 0 0 (qz_A G)) G s.heap 9 N 0 [(0, .long x0), (2, .long x2), (4, .long x4), (6, .long x6)] [] := by
  unfold fA_compareProducts at h
  refine qz_lload_n X 0 rfl dq_A_compareProducts_0 ?_
  refine qz_lload_n X 1 rfl dq_A_compareProducts_1 ?_
  refine qz_bind h (fun q1 e2 h => ?_)
  refine qz_callS X (as := [.long x0, .long x2]) (st := []) (o := some (.long q1.1)) (N' := q1.2) cq_A_15 (cA_highOf l G X.2.2.2.2.2.2.1 x0 x2 N _ e2) ⟨by decide, by decide⟩ rfl rfl (Nat.le_of_ble_eq_true rfl) ⟨Nat.zero_le _, Nat.zero_le _⟩ dq_A_compareProducts_2 ?_
  refine qz_lload X 2 rfl dq_A_compareProducts_5 ?_
  refine qz_lload X 3 rfl dq_A_compareProducts_7 ?_
  refine qz_bind h (fun q3 e4 h => ?_)
  refine qz_callS X (as := [.long x4, .long x6]) (st := [.long q1.1]) (o := some (.long q3.1)) (N' := q3.2) cq_A_15 (cA_highOf l G X.2.2.2.2.2.2.1 x4 x6 q1.2 _ e4) ⟨by decide, by decide⟩ rfl rfl (Nat.le_of_ble_eq_true rfl) ⟨Nat.zero_le _, Nat.zero_le _⟩ dq_A_compareProducts_9 ?_
  refine qz_bind h (fun q5 e6 h => ?_)
  refine qz_callS X (as := [.long q1.1, .long q3.1]) (st := []) (o := some (.int q5.1)) (N' := q5.2) cq_A_26 (cJl_compare l G X.2.2.2.2.2.2.1 q1.1 q3.1 q3.2 _ e6) ⟨by decide, by decide⟩ rfl rfl (Nat.le_of_ble_eq_true rfl) ⟨Nat.zero_le _, Nat.zero_le _⟩ dq_A_compareProducts_12 ?_
  refine qz_istore X (lv' := [(8, .int q5.1), (0, .long x0), (2, .long x2), (4, .long x4), (6, .long x6)]) (by decide) rfl dq_A_compareProducts_15 ?_
  refine qz_iload X 0 rfl dq_A_compareProducts_17 ?_
  refine qz_if_eq X (tgt := 27) (by decide) dq_A_compareProducts_19 h (fun _ h => ?_) (fun _ h => ?_)
  · refine qz_lload_n X 1 rfl dq_A_compareProducts_27 ?_
    refine qz_lload_n X 2 rfl dq_A_compareProducts_28 ?_
    refine qz_lmul X dq_A_compareProducts_29 ?_
    refine qz_ldc2 X (v := (-9223372036854775808 : Int64)) wq_313 dq_A_compareProducts_30 ?_
    refine qz_lxor X dq_A_compareProducts_33 ?_
    refine qz_lload X 3 rfl dq_A_compareProducts_34 ?_
    refine qz_lload X 4 rfl dq_A_compareProducts_36 ?_
    refine qz_lmul X dq_A_compareProducts_38 ?_
    refine qz_ldc2 X (v := (-9223372036854775808 : Int64)) wq_313 dq_A_compareProducts_39 ?_
    refine qz_lxor X dq_A_compareProducts_42 ?_
    refine qz_bind h (fun q7 e8 h => ?_)
    refine qz_callS X (as := [.long ((x0 * x2) ^^^ (-9223372036854775808 : Int64)), .long ((x4 * x6) ^^^ (-9223372036854775808 : Int64))]) (st := []) (o := some (.int q7.1)) (N' := q7.2) cq_A_26 (cJl_compare l G X.2.2.2.2.2.2.1 ((x0 * x2) ^^^ (-9223372036854775808 : Int64)) ((x4 * x6) ^^^ (-9223372036854775808 : Int64)) q5.2 _ e8) ⟨by decide, by decide⟩ rfl rfl (Nat.le_of_ble_eq_true rfl) ⟨Nat.zero_le _, Nat.zero_le _⟩ dq_A_compareProducts_43 ?_
    exact qz_iret X h dq_A_compareProducts_46
  · refine qz_iload X 0 rfl dq_A_compareProducts_22 ?_
    refine qz_goto X (tgt := 46) (by decide) dq_A_compareProducts_24 ?_
    exact qz_iret X h dq_A_compareProducts_46
theorem cA_compareProducts (l : Launch) (G : qz_G) (hD : qz_D G) (x0 : Int64) (x2 : Int64) (x4 : Int64) (x6 : Int64) (N : qz_N) (r : (Int32 × qz_N)) (h : fA_compareProducts x0 x2 x4 x6 N = some r) : qz_M l yA_compareProducts prog_3_method_6_code 9 (some .int) 1 G [.long x0, .long x2, .long x4, .long x6] N (some (.int r.1)) r.2 :=
  qz_enter (lv := [(0, .long x0), (2, .long x2), (4, .long x4), (6, .long x6)]) rfl hD (Nat.le_of_ble_eq_true rfl) rfl (fun p e s m args below meth c X => sA_compareProducts X x0 x2 x4 x6 N h)
-- ExactCurves$Exact.rootOfProduct(JJ)J
theorem dq_A_rootOfProduct_0 : decode prog_3_method_7_code 0 = .ok (.lconst 0, 1) := by decide +kernel
theorem dq_A_rootOfProduct_1 : decode prog_3_method_7_code 1 = .ok (.lstore 4, 2) := by decide +kernel
theorem dq_A_rootOfProduct_3 : decode prog_3_method_7_code 3 = .ok (.ldc2_w 32, 3) := by decide +kernel
theorem dq_A_rootOfProduct_6 : decode prog_3_method_7_code 6 = .ok (.lstore 6, 2) := by decide +kernel
theorem dq_A_rootOfProduct_8 : decode prog_3_method_7_code 8 = .ok (.lload 6, 2) := by decide +kernel
theorem dq_A_rootOfProduct_10 : decode prog_3_method_7_code 10 = .ok (.lconst 0, 1) := by decide +kernel
theorem dq_A_rootOfProduct_11 : decode prog_3_method_7_code 11 = .ok (.lcmp, 1) := by decide +kernel
theorem dq_A_rootOfProduct_12 : decode prog_3_method_7_code 12 = .ok (.ifCond .le 37, 3) := by decide +kernel
theorem dq_A_rootOfProduct_15 : decode prog_3_method_7_code 15 = .ok (.lload 4, 2) := by decide +kernel
theorem dq_A_rootOfProduct_17 : decode prog_3_method_7_code 17 = .ok (.lload 6, 2) := by decide +kernel
theorem dq_A_rootOfProduct_19 : decode prog_3_method_7_code 19 = .ok (.ladd, 1) := by decide +kernel
theorem dq_A_rootOfProduct_20 : decode prog_3_method_7_code 20 = .ok (.lload 4, 2) := by decide +kernel
theorem dq_A_rootOfProduct_22 : decode prog_3_method_7_code 22 = .ok (.lload 6, 2) := by decide +kernel
theorem dq_A_rootOfProduct_24 : decode prog_3_method_7_code 24 = .ok (.ladd, 1) := by decide +kernel
theorem dq_A_rootOfProduct_25 : decode prog_3_method_7_code 25 = .ok (.lload_n 0, 1) := by decide +kernel
theorem dq_A_rootOfProduct_26 : decode prog_3_method_7_code 26 = .ok (.lload_n 2, 1) := by decide +kernel
theorem dq_A_rootOfProduct_27 : decode prog_3_method_7_code 27 = .ok (.invokestatic 34, 3) := by decide +kernel
theorem dq_A_rootOfProduct_30 : decode prog_3_method_7_code 30 = .ok (.ifCond .gt 10, 3) := by decide +kernel
theorem dq_A_rootOfProduct_33 : decode prog_3_method_7_code 33 = .ok (.lload 4, 2) := by decide +kernel
theorem dq_A_rootOfProduct_35 : decode prog_3_method_7_code 35 = .ok (.lload 6, 2) := by decide +kernel
theorem dq_A_rootOfProduct_37 : decode prog_3_method_7_code 37 = .ok (.ladd, 1) := by decide +kernel
theorem dq_A_rootOfProduct_38 : decode prog_3_method_7_code 38 = .ok (.lstore 4, 2) := by decide +kernel
theorem dq_A_rootOfProduct_40 : decode prog_3_method_7_code 40 = .ok (.lload 6, 2) := by decide +kernel
theorem dq_A_rootOfProduct_42 : decode prog_3_method_7_code 42 = .ok (.iconst 1, 1) := by decide +kernel
theorem dq_A_rootOfProduct_43 : decode prog_3_method_7_code 43 = .ok (.lshr, 1) := by decide +kernel
theorem dq_A_rootOfProduct_44 : decode prog_3_method_7_code 44 = .ok (.lstore 6, 2) := by decide +kernel
theorem dq_A_rootOfProduct_46 : decode prog_3_method_7_code 46 = .ok (.goto (-38), 3) := by decide +kernel
theorem dq_A_rootOfProduct_49 : decode prog_3_method_7_code 49 = .ok (.lload 4, 2) := by decide +kernel
theorem dq_A_rootOfProduct_51 : decode prog_3_method_7_code 51 = .ok (.lreturn, 1) := by decide +kernel
def fA_rootOfProduct_40 (k8 : qz_N × Int64 × Int64 × Int64 × Int64 → Option (Int64 × qz_N)) (N : qz_N) (x0 : Int64) (x2 : Int64) (x4 : Int64) (x6 : Int64) : Option (Int64 × qz_N) :=
  qz_let (x6 >>> ((1 : Int32).toInt64 &&& 63)) fun v3 =>
  k8 (N, x0, x2, x4, v3)
def fA_rootOfProduct_8b (k8 : qz_N × Int64 × Int64 × Int64 × Int64 → Option (Int64 × qz_N)) (N : qz_N) (x0 : Int64) (x2 : Int64) (x4 : Int64) (x6 : Int64) : Option (Int64 × qz_N) :=
  if x6 ≤ (0 : Int64) then
    some (x4, N)
  else
  (fA_compareProducts (x4 + x6) (x4 + x6) x0 x2 N).bind fun q1 =>
  if 0 < q1.1 then
    fA_rootOfProduct_40 k8 q1.2 x0 x2 x4 x6
  else
  qz_let (x4 + x6) fun v4 =>
  fA_rootOfProduct_40 k8 q1.2 x0 x2 v4 x6
def fA_rootOfProduct_8 (n : Nat) (a : qz_N × Int64 × Int64 × Int64 × Int64) : Option (Int64 × qz_N) := qz_loop (fun k a => fA_rootOfProduct_8b k a.1 a.2.1 a.2.2.1 a.2.2.2.1 a.2.2.2.2) n a
def fA_rootOfProduct (x0 : Int64) (x2 : Int64) (N : qz_N) : Option (Int64 × qz_N) :=
  fA_rootOfProduct_8 1100 (N, x0, x2, (0 : Int64), (70368744177664 : Int64))
set_option maxRecDepth 100000 in
set_option maxHeartbeats 4000000 in
theorem sA_rootOfProduct_40 {p : Program} {l : Launch} {e : Env} {s : State} {m : MethodId} {args : Array Value} {below : List Frame} {meth : Method} {c : Code} {G : qz_G} (X : qz_X p s m args meth c "ExactCurves$Exact" prog_3_method_7_code 8 (some .long) G) {r : (Int64 × qz_N)} (k8 : qz_N × Int64 × Int64 × Int64 × Int64 → Option (Int64 × qz_N)) (hk8 : ∀ a, k8 a = some r → qz_W p l e (qz_R 2) s m args below meth c 0 0 (MQ below (qz_Q G r.2 (some (.long r.1))) args s 0 0 (qz_A G)) G s.heap 8 a.1 8 [(0, .long a.2.1), (2, .long a.2.2.1), (4, .long a.2.2.2.1), (6, .long a.2.2.2.2)] []) (N : qz_N) (x0 : Int64) (x2 : Int64) (x4 : Int64) (x6 : Int64) (h : fA_rootOfProduct_40 k8 N x0 x2 x4 x6 = some r) : qz_W p l e (qz_R 2) s m args below meth c 0 0 (MQ below (qz_Q G r.2 (some (.long r.1))) args s 0 0 (qz_A G)) G s.heap 8 N 40 [(0, .long x0), (2, .long x2), (4, .long x4), (6, .long x6)] [] := by
  unfold fA_rootOfProduct_40 at h
  refine qz_lload X 3 rfl dq_A_rootOfProduct_40 ?_
  refine qz_iconst X (v := (1 : Int32)) (by decide) dq_A_rootOfProduct_42 ?_
  refine qz_lshr X dq_A_rootOfProduct_43 ?_
  refine qz_letj h (fun v3 h => ?_)
  refine qz_lstore X (lv' := [(6, .long v3), (0, .long x0), (2, .long x2), (4, .long x4)]) (by decide) rfl dq_A_rootOfProduct_44 ?_
  refine qz_goto X (tgt := 8) (by decide) dq_A_rootOfProduct_46 ?_
  refine qz_sub [1, 2, 3, 0] rfl ?_
  exact hk8 (N, x0, x2, x4, v3) h
set_option maxRecDepth 100000 in
set_option maxHeartbeats 4000000 in
theorem sA_rootOfProduct_8b {p : Program} {l : Launch} {e : Env} {s : State} {m : MethodId} {args : Array Value} {below : List Frame} {meth : Method} {c : Code} {G : qz_G} (X : qz_X p s m args meth c "ExactCurves$Exact" prog_3_method_7_code 8 (some .long) G) {r : (Int64 × qz_N)} (k8 : qz_N × Int64 × Int64 × Int64 × Int64 → Option (Int64 × qz_N)) (hk8 : ∀ a, k8 a = some r → qz_W p l e (qz_R 2) s m args below meth c 0 0 (MQ below (qz_Q G r.2 (some (.long r.1))) args s 0 0 (qz_A G)) G s.heap 8 a.1 8 [(0, .long a.2.1), (2, .long a.2.2.1), (4, .long a.2.2.2.1), (6, .long a.2.2.2.2)] []) (N : qz_N) (x0 : Int64) (x2 : Int64) (x4 : Int64) (x6 : Int64) (h : fA_rootOfProduct_8b k8 N x0 x2 x4 x6 = some r) : qz_W p l e (qz_R 2) s m args below meth c 0 0 (MQ below (qz_Q G r.2 (some (.long r.1))) args s 0 0 (qz_A G)) G s.heap 8 N 8 [(0, .long x0), (2, .long x2), (4, .long x4), (6, .long x6)] [] := by
  unfold fA_rootOfProduct_8b at h
  refine qz_lload X 3 rfl dq_A_rootOfProduct_8 ?_
  refine qz_lconst X (v := (0 : Int64)) (by decide) dq_A_rootOfProduct_10 ?_
  refine qz_lcmp_le X (tgt := 49) (by decide) dq_A_rootOfProduct_11 dq_A_rootOfProduct_12 h (fun _ h => ?_) (fun _ h => ?_)
  · refine qz_lload X 2 rfl dq_A_rootOfProduct_49 ?_
    exact qz_lret X h dq_A_rootOfProduct_51
  · refine qz_lload X 2 rfl dq_A_rootOfProduct_15 ?_
    refine qz_lload X 3 rfl dq_A_rootOfProduct_17 ?_
    refine qz_ladd X dq_A_rootOfProduct_19 ?_
    refine qz_lload X 2 rfl dq_A_rootOfProduct_20 ?_
    refine qz_lload X 3 rfl dq_A_rootOfProduct_22 ?_
    refine qz_ladd X dq_A_rootOfProduct_24 ?_
    refine qz_lload_n X 0 rfl dq_A_rootOfProduct_25 ?_
    refine qz_lload_n X 1 rfl dq_A_rootOfProduct_26 ?_
    refine qz_bind h (fun q1 e2 h => ?_)
    refine qz_callS X (as := [.long (x4 + x6), .long (x4 + x6), .long x0, .long x2]) (st := []) (o := some (.int q1.1)) (N' := q1.2) cq_A_34 (cA_compareProducts l G X.2.2.2.2.2.2.1 (x4 + x6) (x4 + x6) x0 x2 N _ e2) ⟨by decide, by decide⟩ rfl rfl (Nat.le_of_ble_eq_true rfl) ⟨Nat.zero_le _, Nat.zero_le _⟩ dq_A_rootOfProduct_27 ?_
    refine qz_if_gt X (tgt := 40) (by decide) dq_A_rootOfProduct_30 h (fun _ h => ?_) (fun _ h => ?_)
    · refine qz_sub [0, 1, 2, 3] rfl ?_
      exact sA_rootOfProduct_40 X k8 hk8 q1.2 x0 x2 x4 x6 h
    · refine qz_lload X 2 rfl dq_A_rootOfProduct_33 ?_
      refine qz_lload X 3 rfl dq_A_rootOfProduct_35 ?_
      refine qz_ladd X dq_A_rootOfProduct_37 ?_
      refine qz_letj h (fun v4 h => ?_)
      refine qz_lstore X (lv' := [(4, .long v4), (0, .long x0), (2, .long x2), (6, .long x6)]) (by decide) rfl dq_A_rootOfProduct_38 ?_
      refine qz_sub [1, 2, 0, 3] rfl ?_
      exact sA_rootOfProduct_40 X k8 hk8 q1.2 x0 x2 v4 x6 h
theorem sA_rootOfProduct_8 {p : Program} {l : Launch} {e : Env} {s : State} {m : MethodId} {args : Array Value} {below : List Frame} {meth : Method} {c : Code} {G : qz_G} (X : qz_X p s m args meth c "ExactCurves$Exact" prog_3_method_7_code 8 (some .long) G) {r : (Int64 × qz_N)} (n : Nat) (a : qz_N × Int64 × Int64 × Int64 × Int64) (h : fA_rootOfProduct_8 n a = some r) : qz_W p l e (qz_R 2) s m args below meth c 0 0 (MQ below (qz_Q G r.2 (some (.long r.1))) args s 0 0 (qz_A G)) G s.heap 8 a.1 8 [(0, .long a.2.1), (2, .long a.2.2.1), (4, .long a.2.2.2.1), (6, .long a.2.2.2.2)] [] :=
  qz_loop_ind (P := fun a => qz_W p l e (qz_R 2) s m args below meth c 0 0 (MQ below (qz_Q G r.2 (some (.long r.1))) args s 0 0 (qz_A G)) G s.heap 8 a.1 8 [(0, .long a.2.1), (2, .long a.2.2.1), (4, .long a.2.2.2.1), (6, .long a.2.2.2.2)] []) (fun k hk a h => sA_rootOfProduct_8b X k hk a.1 a.2.1 a.2.2.1 a.2.2.2.1 a.2.2.2.2 h) n a h
set_option maxRecDepth 100000 in
set_option maxHeartbeats 4000000 in
theorem sA_rootOfProduct {p : Program} {l : Launch} {e : Env} {s : State} {m : MethodId} {args : Array Value} {below : List Frame} {meth : Method} {c : Code} {G : qz_G} (X : qz_X p s m args meth c "ExactCurves$Exact" prog_3_method_7_code 8 (some .long) G) {r : (Int64 × qz_N)} (x0 : Int64) (x2 : Int64) (N : qz_N) (h : fA_rootOfProduct x0 x2 N = some r) : qz_W p l e (qz_R 2) s m args below meth c 0 0 (MQ below (qz_Q G r.2 (some (.long r.1))) args s 0 0 (qz_A G)) G s.heap 8 N 0 [(0, .long x0), (2, .long x2)] [] := by
  unfold fA_rootOfProduct at h
  refine qz_lconst X (v := (0 : Int64)) (by decide) dq_A_rootOfProduct_0 ?_
  refine qz_lstore X (lv' := [(4, .long (0 : Int64)), (0, .long x0), (2, .long x2)]) (by decide) rfl dq_A_rootOfProduct_1 ?_
  refine qz_ldc2 X (v := (70368744177664 : Int64)) wq_302 dq_A_rootOfProduct_3 ?_
  refine qz_lstore X (lv' := [(6, .long (70368744177664 : Int64)), (4, .long (0 : Int64)), (0, .long x0), (2, .long x2)]) (by decide) rfl dq_A_rootOfProduct_6 ?_
  refine qz_sub [2, 3, 1, 0] rfl ?_
  exact sA_rootOfProduct_8 X 1100 (N, x0, x2, (0 : Int64), (70368744177664 : Int64)) h
theorem cA_rootOfProduct (l : Launch) (G : qz_G) (hD : qz_D G) (x0 : Int64) (x2 : Int64) (N : qz_N) (r : (Int64 × qz_N)) (h : fA_rootOfProduct x0 x2 N = some r) : qz_M l yA_rootOfProduct prog_3_method_7_code 8 (some .long) 2 G [.long x0, .long x2] N (some (.long r.1)) r.2 :=
  qz_enter (lv := [(0, .long x0), (2, .long x2)]) rfl hD (Nat.le_of_ble_eq_true rfl) rfl (fun p e s m args below meth c X => sA_rootOfProduct X x0 x2 N h)
-- ExactCurves$Exact.over(JJJ)J
theorem dq_A_over_0 : decode prog_3_method_3_code 0 = .ok (.lload 4, 2) := by decide +kernel
theorem dq_A_over_2 : decode prog_3_method_3_code 2 = .ok (.lconst 0, 1) := by decide +kernel
theorem dq_A_over_3 : decode prog_3_method_3_code 3 = .ok (.lcmp, 1) := by decide +kernel
theorem dq_A_over_4 : decode prog_3_method_3_code 4 = .ok (.ifCond .gt 5, 3) := by decide +kernel
theorem dq_A_over_7 : decode prog_3_method_3_code 7 = .ok (.lconst 0, 1) := by decide +kernel
theorem dq_A_over_8 : decode prog_3_method_3_code 8 = .ok (.lreturn, 1) := by decide +kernel
theorem dq_A_over_9 : decode prog_3_method_3_code 9 = .ok (.lload_n 0, 1) := by decide +kernel
theorem dq_A_over_10 : decode prog_3_method_3_code 10 = .ok (.lconst 0, 1) := by decide +kernel
theorem dq_A_over_11 : decode prog_3_method_3_code 11 = .ok (.lcmp, 1) := by decide +kernel
theorem dq_A_over_12 : decode prog_3_method_3_code 12 = .ok (.ifCond .ne 14, 3) := by decide +kernel
theorem dq_A_over_15 : decode prog_3_method_3_code 15 = .ok (.lload_n 2, 1) := by decide +kernel
theorem dq_A_over_16 : decode prog_3_method_3_code 16 = .ok (.lconst 0, 1) := by decide +kernel
theorem dq_A_over_17 : decode prog_3_method_3_code 17 = .ok (.lcmp, 1) := by decide +kernel
theorem dq_A_over_18 : decode prog_3_method_3_code 18 = .ok (.ifCond .lt 8, 3) := by decide +kernel
theorem dq_A_over_21 : decode prog_3_method_3_code 21 = .ok (.lload_n 2, 1) := by decide +kernel
theorem dq_A_over_22 : decode prog_3_method_3_code 22 = .ok (.lload 4, 2) := by decide +kernel
theorem dq_A_over_24 : decode prog_3_method_3_code 24 = .ok (.ldiv, 1) := by decide +kernel
theorem dq_A_over_25 : decode prog_3_method_3_code 25 = .ok (.lreturn, 1) := by decide +kernel
theorem dq_A_over_26 : decode prog_3_method_3_code 26 = .ok (.lload_n 0, 1) := by decide +kernel
theorem dq_A_over_27 : decode prog_3_method_3_code 27 = .ok (.lload 4, 2) := by decide +kernel
theorem dq_A_over_29 : decode prog_3_method_3_code 29 = .ok (.lcmp, 1) := by decide +kernel
theorem dq_A_over_30 : decode prog_3_method_3_code 30 = .ok (.ifCond .lt 7, 3) := by decide +kernel
theorem dq_A_over_33 : decode prog_3_method_3_code 33 = .ok (.ldc2_w 13, 3) := by decide +kernel
theorem dq_A_over_36 : decode prog_3_method_3_code 36 = .ok (.lreturn, 1) := by decide +kernel
theorem dq_A_over_37 : decode prog_3_method_3_code 37 = .ok (.lconst 0, 1) := by decide +kernel
theorem dq_A_over_38 : decode prog_3_method_3_code 38 = .ok (.lstore 6, 2) := by decide +kernel
theorem dq_A_over_40 : decode prog_3_method_3_code 40 = .ok (.lload_n 0, 1) := by decide +kernel
theorem dq_A_over_41 : decode prog_3_method_3_code 41 = .ok (.lstore 8, 2) := by decide +kernel
theorem dq_A_over_43 : decode prog_3_method_3_code 43 = .ok (.bipush 63, 2) := by decide +kernel
theorem dq_A_over_45 : decode prog_3_method_3_code 45 = .ok (.istore 10, 2) := by decide +kernel
theorem dq_A_over_47 : decode prog_3_method_3_code 47 = .ok (.iload 10, 2) := by decide +kernel
theorem dq_A_over_49 : decode prog_3_method_3_code 49 = .ok (.ifCond .lt 56, 3) := by decide +kernel
theorem dq_A_over_52 : decode prog_3_method_3_code 52 = .ok (.lload 8, 2) := by decide +kernel
theorem dq_A_over_54 : decode prog_3_method_3_code 54 = .ok (.iconst 1, 1) := by decide +kernel
theorem dq_A_over_55 : decode prog_3_method_3_code 55 = .ok (.lshl, 1) := by decide +kernel
theorem dq_A_over_56 : decode prog_3_method_3_code 56 = .ok (.lload_n 2, 1) := by decide +kernel
theorem dq_A_over_57 : decode prog_3_method_3_code 57 = .ok (.iload 10, 2) := by decide +kernel
theorem dq_A_over_59 : decode prog_3_method_3_code 59 = .ok (.lushr, 1) := by decide +kernel
theorem dq_A_over_60 : decode prog_3_method_3_code 60 = .ok (.lconst 1, 1) := by decide +kernel
theorem dq_A_over_61 : decode prog_3_method_3_code 61 = .ok (.land, 1) := by decide +kernel
theorem dq_A_over_62 : decode prog_3_method_3_code 62 = .ok (.lor, 1) := by decide +kernel
theorem dq_A_over_63 : decode prog_3_method_3_code 63 = .ok (.lstore 8, 2) := by decide +kernel
theorem dq_A_over_65 : decode prog_3_method_3_code 65 = .ok (.lload 6, 2) := by decide +kernel
theorem dq_A_over_67 : decode prog_3_method_3_code 67 = .ok (.iconst 1, 1) := by decide +kernel
theorem dq_A_over_68 : decode prog_3_method_3_code 68 = .ok (.lshl, 1) := by decide +kernel
theorem dq_A_over_69 : decode prog_3_method_3_code 69 = .ok (.lstore 6, 2) := by decide +kernel
theorem dq_A_over_71 : decode prog_3_method_3_code 71 = .ok (.lload 8, 2) := by decide +kernel
theorem dq_A_over_73 : decode prog_3_method_3_code 73 = .ok (.lconst 0, 1) := by decide +kernel
theorem dq_A_over_74 : decode prog_3_method_3_code 74 = .ok (.lcmp, 1) := by decide +kernel
theorem dq_A_over_75 : decode prog_3_method_3_code 75 = .ok (.ifCond .lt 11, 3) := by decide +kernel
theorem dq_A_over_78 : decode prog_3_method_3_code 78 = .ok (.lload 8, 2) := by decide +kernel
theorem dq_A_over_80 : decode prog_3_method_3_code 80 = .ok (.lload 4, 2) := by decide +kernel
theorem dq_A_over_82 : decode prog_3_method_3_code 82 = .ok (.lcmp, 1) := by decide +kernel
theorem dq_A_over_83 : decode prog_3_method_3_code 83 = .ok (.ifCond .lt 16, 3) := by decide +kernel
theorem dq_A_over_86 : decode prog_3_method_3_code 86 = .ok (.lload 8, 2) := by decide +kernel
theorem dq_A_over_88 : decode prog_3_method_3_code 88 = .ok (.lload 4, 2) := by decide +kernel
theorem dq_A_over_90 : decode prog_3_method_3_code 90 = .ok (.lsub, 1) := by decide +kernel
theorem dq_A_over_91 : decode prog_3_method_3_code 91 = .ok (.lstore 8, 2) := by decide +kernel
theorem dq_A_over_93 : decode prog_3_method_3_code 93 = .ok (.lload 6, 2) := by decide +kernel
theorem dq_A_over_95 : decode prog_3_method_3_code 95 = .ok (.lconst 1, 1) := by decide +kernel
theorem dq_A_over_96 : decode prog_3_method_3_code 96 = .ok (.lor, 1) := by decide +kernel
theorem dq_A_over_97 : decode prog_3_method_3_code 97 = .ok (.lstore 6, 2) := by decide +kernel
theorem dq_A_over_99 : decode prog_3_method_3_code 99 = .ok (.iinc 10 (-1), 3) := by decide +kernel
theorem dq_A_over_102 : decode prog_3_method_3_code 102 = .ok (.goto (-55), 3) := by decide +kernel
theorem dq_A_over_105 : decode prog_3_method_3_code 105 = .ok (.lload 6, 2) := by decide +kernel
theorem dq_A_over_107 : decode prog_3_method_3_code 107 = .ok (.lconst 0, 1) := by decide +kernel
theorem dq_A_over_108 : decode prog_3_method_3_code 108 = .ok (.lcmp, 1) := by decide +kernel
theorem dq_A_over_109 : decode prog_3_method_3_code 109 = .ok (.ifCond .ge 9, 3) := by decide +kernel
theorem dq_A_over_112 : decode prog_3_method_3_code 112 = .ok (.ldc2_w 13, 3) := by decide +kernel
theorem dq_A_over_115 : decode prog_3_method_3_code 115 = .ok (.goto 5, 3) := by decide +kernel
theorem dq_A_over_118 : decode prog_3_method_3_code 118 = .ok (.lload 6, 2) := by decide +kernel
theorem dq_A_over_120 : decode prog_3_method_3_code 120 = .ok (.lreturn, 1) := by decide +kernel
def fA_over_99 (k47 : qz_N × Int64 × Int64 × Int64 × Int64 × Int32 → Option (Int64 × qz_N)) (N : qz_N) (x2 : Int64) (x4 : Int64) (x6 : Int64) (x8 : Int64) (x10 : Int32) : Option (Int64 × qz_N) :=
  qz_let (x10 + (-1 : Int32)) fun v5 =>
  k47 (N, x2, x4, x6, x8, v5)
def fA_over_86 (k47 : qz_N × Int64 × Int64 × Int64 × Int64 × Int32 → Option (Int64 × qz_N)) (N : qz_N) (x2 : Int64) (x4 : Int64) (x6 : Int64) (x8 : Int64) (x10 : Int32) : Option (Int64 × qz_N) :=
  qz_let (x8 - x4) fun v3 =>
  qz_let (x6 ||| (1 : Int64)) fun v4 =>
  fA_over_99 k47 N x2 x4 v4 v3 x10
def fA_over_47b (k47 : qz_N × Int64 × Int64 × Int64 × Int64 × Int32 → Option (Int64 × qz_N)) (N : qz_N) (x2 : Int64) (x4 : Int64) (x6 : Int64) (x8 : Int64) (x10 : Int32) : Option (Int64 × qz_N) :=
  if x10 < 0 then
    if (0 : Int64) ≤ x6 then
      some (x6, N)
    else
    some ((9223372036854775807 : Int64), N)
  else
  qz_let ((x8 <<< ((1 : Int32).toInt64 &&& 63)) ||| (((x2.toUInt64 >>> (x10.toInt64.toUInt64 &&& Int64.toUInt64 63)).toInt64) &&& (1 : Int64))) fun v1 =>
  qz_let (x6 <<< ((1 : Int32).toInt64 &&& 63)) fun v2 =>
  if v1 < (0 : Int64) then
    fA_over_86 k47 N x2 x4 v2 v1 x10
  else
  if v1 < x4 then
    fA_over_99 k47 N x2 x4 v2 v1 x10
  else
  fA_over_86 k47 N x2 x4 v2 v1 x10
def fA_over_47 (n : Nat) (a : qz_N × Int64 × Int64 × Int64 × Int64 × Int32) : Option (Int64 × qz_N) := qz_loop (fun k a => fA_over_47b k a.1 a.2.1 a.2.2.1 a.2.2.2.1 a.2.2.2.2.1 a.2.2.2.2.2) n a
def fA_over_26 (N : qz_N) (x0 : Int64) (x2 : Int64) (x4 : Int64) : Option (Int64 × qz_N) :=
  if x0 < x4 then
    fA_over_47 1100 (N, x2, x4, (0 : Int64), x0, (63 : Int32))
  else
  some ((9223372036854775807 : Int64), N)
def fA_over (x0 : Int64) (x2 : Int64) (x4 : Int64) (N : qz_N) : Option (Int64 × qz_N) :=
  if (0 : Int64) < x4 then
    if x0 = (0 : Int64) then
      if x2 < (0 : Int64) then
        fA_over_26 N x0 x2 x4
      else
      if x4 = 0 then none else
      some (x2 / x4, N)
    else
    fA_over_26 N x0 x2 x4
  else
  some ((0 : Int64), N)
set_option maxRecDepth 100000 in
set_option maxHeartbeats 4000000 in
theorem sA_over_99 {p : Program} {l : Launch} {e : Env} {s : State} {m : MethodId} {args : Array Value} {below : List Frame} {meth : Method} {c : Code} {G : qz_G} (X : qz_X p s m args meth c "ExactCurves$Exact" prog_3_method_3_code 11 (some .long) G) {r : (Int64 × qz_N)} (k47 : qz_N × Int64 × Int64 × Int64 × Int64 × Int32 → Option (Int64 × qz_N)) (hk47 : ∀ a, k47 a = some r → qz_W p l e (qz_R 0) s m args below meth c 0 0 (MQ below (qz_Q G r.2 (some (.long r.1))) args s 0 0 (qz_A G)) G s.heap 11 a.1 47 [(2, .long a.2.1), (4, .long a.2.2.1), (6, .long a.2.2.2.1), (8, .long a.2.2.2.2.1), (10, .int a.2.2.2.2.2)] []) (N : qz_N) (x2 : Int64) (x4 : Int64) (x6 : Int64) (x8 : Int64) (x10 : Int32) (h : fA_over_99 k47 N x2 x4 x6 x8 x10 = some r) : qz_W p l e (qz_R 0) s m args below meth c 0 0 (MQ below (qz_Q G r.2 (some (.long r.1))) args s 0 0 (qz_A G)) G s.heap 11 N 99 [(2, .long x2), (4, .long x4), (6, .long x6), (8, .long x8), (10, .int x10)] [] := by
  unfold fA_over_99 at h
  refine qz_iinc_l X (u := (-1 : Int32)) (lv' := fun v5 => [(10, .int v5), (2, .long x2), (4, .long x4), (6, .long x6), (8, .long x8)]) (k := 4) rfl (by decide) (by decide) (fun _ => rfl) dq_A_over_99 h (fun v5 h => ?_)
  refine qz_goto X (tgt := 47) (by decide) dq_A_over_102 ?_
  refine qz_sub [1, 2, 3, 4, 0] rfl ?_
  exact hk47 (N, x2, x4, x6, x8, v5) h
set_option maxRecDepth 100000 in
set_option maxHeartbeats 4000000 in
theorem sA_over_86 {p : Program} {l : Launch} {e : Env} {s : State} {m : MethodId} {args : Array Value} {below : List Frame} {meth : Method} {c : Code} {G : qz_G} (X : qz_X p s m args meth c "ExactCurves$Exact" prog_3_method_3_code 11 (some .long) G) {r : (Int64 × qz_N)} (k47 : qz_N × Int64 × Int64 × Int64 × Int64 × Int32 → Option (Int64 × qz_N)) (hk47 : ∀ a, k47 a = some r → qz_W p l e (qz_R 0) s m args below meth c 0 0 (MQ below (qz_Q G r.2 (some (.long r.1))) args s 0 0 (qz_A G)) G s.heap 11 a.1 47 [(2, .long a.2.1), (4, .long a.2.2.1), (6, .long a.2.2.2.1), (8, .long a.2.2.2.2.1), (10, .int a.2.2.2.2.2)] []) (N : qz_N) (x2 : Int64) (x4 : Int64) (x6 : Int64) (x8 : Int64) (x10 : Int32) (h : fA_over_86 k47 N x2 x4 x6 x8 x10 = some r) : qz_W p l e (qz_R 0) s m args below meth c 0 0 (MQ below (qz_Q G r.2 (some (.long r.1))) args s 0 0 (qz_A G)) G s.heap 11 N 86 [(2, .long x2), (4, .long x4), (6, .long x6), (8, .long x8), (10, .int x10)] [] := by
  unfold fA_over_86 at h
  refine qz_lload X 3 rfl dq_A_over_86 ?_
  refine qz_lload X 1 rfl dq_A_over_88 ?_
  refine qz_lsub X dq_A_over_90 ?_
  refine qz_letj h (fun v3 h => ?_)
  refine qz_lstore X (lv' := [(8, .long v3), (2, .long x2), (4, .long x4), (6, .long x6), (10, .int x10)]) (by decide) rfl dq_A_over_91 ?_
  refine qz_lload X 3 rfl dq_A_over_93 ?_
  refine qz_lconst X (v := (1 : Int64)) (by decide) dq_A_over_95 ?_
  refine qz_lor X dq_A_over_96 ?_
  refine qz_letj h (fun v4 h => ?_)
  refine qz_lstore X (lv' := [(6, .long v4), (8, .long v3), (2, .long x2), (4, .long x4), (10, .int x10)]) (by decide) rfl dq_A_over_97 ?_
  refine qz_sub [2, 3, 0, 1, 4] rfl ?_
  exact sA_over_99 X k47 hk47 N x2 x4 v4 v3 x10 h
set_option maxRecDepth 100000 in
set_option maxHeartbeats 4000000 in
theorem sA_over_47b {p : Program} {l : Launch} {e : Env} {s : State} {m : MethodId} {args : Array Value} {below : List Frame} {meth : Method} {c : Code} {G : qz_G} (X : qz_X p s m args meth c "ExactCurves$Exact" prog_3_method_3_code 11 (some .long) G) {r : (Int64 × qz_N)} (k47 : qz_N × Int64 × Int64 × Int64 × Int64 × Int32 → Option (Int64 × qz_N)) (hk47 : ∀ a, k47 a = some r → qz_W p l e (qz_R 0) s m args below meth c 0 0 (MQ below (qz_Q G r.2 (some (.long r.1))) args s 0 0 (qz_A G)) G s.heap 11 a.1 47 [(2, .long a.2.1), (4, .long a.2.2.1), (6, .long a.2.2.2.1), (8, .long a.2.2.2.2.1), (10, .int a.2.2.2.2.2)] []) (N : qz_N) (x2 : Int64) (x4 : Int64) (x6 : Int64) (x8 : Int64) (x10 : Int32) (h : fA_over_47b k47 N x2 x4 x6 x8 x10 = some r) : qz_W p l e (qz_R 0) s m args below meth c 0 0 (MQ below (qz_Q G r.2 (some (.long r.1))) args s 0 0 (qz_A G)) G s.heap 11 N 47 [(2, .long x2), (4, .long x4), (6, .long x6), (8, .long x8), (10, .int x10)] [] := by
  unfold fA_over_47b at h
  refine qz_iload X 4 rfl dq_A_over_47 ?_
  refine qz_if_lt X (tgt := 105) (by decide) dq_A_over_49 h (fun _ h => ?_) (fun _ h => ?_)
  · refine qz_lload X 2 rfl dq_A_over_105 ?_
    refine qz_lconst X (v := (0 : Int64)) (by decide) dq_A_over_107 ?_
    refine qz_lcmp_ge X (tgt := 118) (by decide) dq_A_over_108 dq_A_over_109 h (fun _ h => ?_) (fun _ h => ?_)
    · refine qz_lload X 2 rfl dq_A_over_118 ?_
      exact qz_lret X h dq_A_over_120
    · refine qz_ldc2 X (v := (9223372036854775807 : Int64)) wq_325 dq_A_over_112 ?_
      refine qz_goto X (tgt := 120) (by decide) dq_A_over_115 ?_
      exact qz_lret X h dq_A_over_120
  · refine qz_lload X 3 rfl dq_A_over_52 ?_
    refine qz_iconst X (v := (1 : Int32)) (by decide) dq_A_over_54 ?_
    refine qz_lshl X dq_A_over_55 ?_
    refine qz_lload_n X 0 rfl dq_A_over_56 ?_
    refine qz_iload X 4 rfl dq_A_over_57 ?_
    refine qz_lushr X dq_A_over_59 ?_
    refine qz_lconst X (v := (1 : Int64)) (by decide) dq_A_over_60 ?_
    refine qz_land X dq_A_over_61 ?_
    refine qz_lor X dq_A_over_62 ?_
    refine qz_letj h (fun v1 h => ?_)
    refine qz_lstore X (lv' := [(8, .long v1), (2, .long x2), (4, .long x4), (6, .long x6), (10, .int x10)]) (by decide) rfl dq_A_over_63 ?_
    refine qz_lload X 3 rfl dq_A_over_65 ?_
    refine qz_iconst X (v := (1 : Int32)) (by decide) dq_A_over_67 ?_
    refine qz_lshl X dq_A_over_68 ?_
    refine qz_letj h (fun v2 h => ?_)
    refine qz_lstore X (lv' := [(6, .long v2), (8, .long v1), (2, .long x2), (4, .long x4), (10, .int x10)]) (by decide) rfl dq_A_over_69 ?_
    refine qz_lload X 1 rfl dq_A_over_71 ?_
    refine qz_lconst X (v := (0 : Int64)) (by decide) dq_A_over_73 ?_
    refine qz_lcmp_lt X (tgt := 86) (by decide) dq_A_over_74 dq_A_over_75 h (fun _ h => ?_) (fun _ h => ?_)
    · refine qz_sub [2, 3, 0, 1, 4] rfl ?_
      exact sA_over_86 X k47 hk47 N x2 x4 v2 v1 x10 h
    · refine qz_lload X 1 rfl dq_A_over_78 ?_
      refine qz_lload X 3 rfl dq_A_over_80 ?_
      refine qz_lcmp_lt X (tgt := 99) (by decide) dq_A_over_82 dq_A_over_83 h (fun _ h => ?_) (fun _ h => ?_)
      · refine qz_sub [2, 3, 0, 1, 4] rfl ?_
        exact sA_over_99 X k47 hk47 N x2 x4 v2 v1 x10 h
      · refine qz_sub [2, 3, 0, 1, 4] rfl ?_
        exact sA_over_86 X k47 hk47 N x2 x4 v2 v1 x10 h
theorem sA_over_47 {p : Program} {l : Launch} {e : Env} {s : State} {m : MethodId} {args : Array Value} {below : List Frame} {meth : Method} {c : Code} {G : qz_G} (X : qz_X p s m args meth c "ExactCurves$Exact" prog_3_method_3_code 11 (some .long) G) {r : (Int64 × qz_N)} (n : Nat) (a : qz_N × Int64 × Int64 × Int64 × Int64 × Int32) (h : fA_over_47 n a = some r) : qz_W p l e (qz_R 0) s m args below meth c 0 0 (MQ below (qz_Q G r.2 (some (.long r.1))) args s 0 0 (qz_A G)) G s.heap 11 a.1 47 [(2, .long a.2.1), (4, .long a.2.2.1), (6, .long a.2.2.2.1), (8, .long a.2.2.2.2.1), (10, .int a.2.2.2.2.2)] [] :=
  qz_loop_ind (P := fun a => qz_W p l e (qz_R 0) s m args below meth c 0 0 (MQ below (qz_Q G r.2 (some (.long r.1))) args s 0 0 (qz_A G)) G s.heap 11 a.1 47 [(2, .long a.2.1), (4, .long a.2.2.1), (6, .long a.2.2.2.1), (8, .long a.2.2.2.2.1), (10, .int a.2.2.2.2.2)] []) (fun k hk a h => sA_over_47b X k hk a.1 a.2.1 a.2.2.1 a.2.2.2.1 a.2.2.2.2.1 a.2.2.2.2.2 h) n a h
set_option maxRecDepth 100000 in
set_option maxHeartbeats 4000000 in
theorem sA_over_26 {p : Program} {l : Launch} {e : Env} {s : State} {m : MethodId} {args : Array Value} {below : List Frame} {meth : Method} {c : Code} {G : qz_G} (X : qz_X p s m args meth c "ExactCurves$Exact" prog_3_method_3_code 11 (some .long) G) {r : (Int64 × qz_N)} (N : qz_N) (x0 : Int64) (x2 : Int64) (x4 : Int64) (h : fA_over_26 N x0 x2 x4 = some r) : qz_W p l e (qz_R 0) s m args below meth c 0 0 (MQ below (qz_Q G r.2 (some (.long r.1))) args s 0 0 (qz_A G)) G s.heap 11 N 26 [(0, .long x0), (2, .long x2), (4, .long x4)] [] := by
  unfold fA_over_26 at h
  refine qz_lload_n X 0 rfl dq_A_over_26 ?_
  refine qz_lload X 2 rfl dq_A_over_27 ?_
  refine qz_lcmp_lt X (tgt := 37) (by decide) dq_A_over_29 dq_A_over_30 h (fun _ h => ?_) (fun _ h => ?_)
  · refine qz_lconst X (v := (0 : Int64)) (by decide) dq_A_over_37 ?_
    refine qz_lstore X (lv' := [(6, .long (0 : Int64)), (0, .long x0), (2, .long x2), (4, .long x4)]) (by decide) rfl dq_A_over_38 ?_
    refine qz_lload_n X 1 rfl dq_A_over_40 ?_
    refine qz_lstore X (lv' := [(8, .long x0), (6, .long (0 : Int64)), (0, .long x0), (2, .long x2), (4, .long x4)]) (by decide) rfl dq_A_over_41 ?_
    refine qz_bipush X (v := (63 : Int32)) (by decide) dq_A_over_43 ?_
    refine qz_istore X (lv' := [(10, .int (63 : Int32)), (8, .long x0), (6, .long (0 : Int64)), (0, .long x0), (2, .long x2), (4, .long x4)]) (by decide) rfl dq_A_over_45 ?_
    refine qz_sub [4, 5, 2, 1, 0] rfl ?_
    exact sA_over_47 X 1100 (N, x2, x4, (0 : Int64), x0, (63 : Int32)) h
  · refine qz_ldc2 X (v := (9223372036854775807 : Int64)) wq_325 dq_A_over_33 ?_
    exact qz_lret X h dq_A_over_36
set_option maxRecDepth 100000 in
set_option maxHeartbeats 4000000 in
theorem sA_over {p : Program} {l : Launch} {e : Env} {s : State} {m : MethodId} {args : Array Value} {below : List Frame} {meth : Method} {c : Code} {G : qz_G} (X : qz_X p s m args meth c "ExactCurves$Exact" prog_3_method_3_code 11 (some .long) G) {r : (Int64 × qz_N)} (x0 : Int64) (x2 : Int64) (x4 : Int64) (N : qz_N) (h : fA_over x0 x2 x4 N = some r) : qz_W p l e (qz_R 0) s m args below meth c 0 0 (MQ below (qz_Q G r.2 (some (.long r.1))) args s 0 0 (qz_A G)) G s.heap 11 N 0 [(0, .long x0), (2, .long x2), (4, .long x4)] [] := by
  unfold fA_over at h
  refine qz_lload X 2 rfl dq_A_over_0 ?_
  refine qz_lconst X (v := (0 : Int64)) (by decide) dq_A_over_2 ?_
  refine qz_lcmp_gt X (tgt := 9) (by decide) dq_A_over_3 dq_A_over_4 h (fun _ h => ?_) (fun _ h => ?_)
  · refine qz_lload_n X 0 rfl dq_A_over_9 ?_
    refine qz_lconst X (v := (0 : Int64)) (by decide) dq_A_over_10 ?_
    refine qz_lcmp_ne X (tgt := 26) (by decide) dq_A_over_11 dq_A_over_12 h (fun _ h => ?_) (fun _ h => ?_)
    · refine qz_sub [0, 1, 2] rfl ?_
      exact sA_over_26 X N x0 x2 x4 h
    · refine qz_lload_n X 1 rfl dq_A_over_15 ?_
      refine qz_lconst X (v := (0 : Int64)) (by decide) dq_A_over_16 ?_
      refine qz_lcmp_lt X (tgt := 26) (by decide) dq_A_over_17 dq_A_over_18 h (fun _ h => ?_) (fun _ h => ?_)
      · refine qz_sub [0, 1, 2] rfl ?_
        exact sA_over_26 X N x0 x2 x4 h
      · refine qz_lload_n X 1 rfl dq_A_over_21 ?_
        refine qz_lload X 2 rfl dq_A_over_22 ?_
        refine qz_ldivc X dq_A_over_24 h (fun h => ?_)
        exact qz_lret X h dq_A_over_25
  · refine qz_lconst X (v := (0 : Int64)) (by decide) dq_A_over_7 ?_
    exact qz_lret X h dq_A_over_8
theorem cA_over (l : Launch) (G : qz_G) (hD : qz_D G) (x0 : Int64) (x2 : Int64) (x4 : Int64) (N : qz_N) (r : (Int64 × qz_N)) (h : fA_over x0 x2 x4 N = some r) : qz_M l yA_over prog_3_method_3_code 11 (some .long) 0 G [.long x0, .long x2, .long x4] N (some (.long r.1)) r.2 :=
  qz_enter (lv := [(0, .long x0), (2, .long x2), (4, .long x4)]) rfl hD (Nat.le_of_ble_eq_true rfl) rfl (fun p e s m args below meth c X => sA_over X x0 x2 x4 N h)
-- ExactCurves$Exact.timesOver(JJJ)J
theorem dq_A_timesOver_0 : decode prog_3_method_4_code 0 = .ok (.lload_n 0, 1) := by decide +kernel
theorem dq_A_timesOver_1 : decode prog_3_method_4_code 1 = .ok (.lload_n 2, 1) := by decide +kernel
theorem dq_A_timesOver_2 : decode prog_3_method_4_code 2 = .ok (.invokestatic 15, 3) := by decide +kernel
theorem dq_A_timesOver_5 : decode prog_3_method_4_code 5 = .ok (.lload_n 0, 1) := by decide +kernel
theorem dq_A_timesOver_6 : decode prog_3_method_4_code 6 = .ok (.lload_n 2, 1) := by decide +kernel
theorem dq_A_timesOver_7 : decode prog_3_method_4_code 7 = .ok (.lmul, 1) := by decide +kernel
theorem dq_A_timesOver_8 : decode prog_3_method_4_code 8 = .ok (.lload 4, 2) := by decide +kernel
theorem dq_A_timesOver_10 : decode prog_3_method_4_code 10 = .ok (.invokestatic 19, 3) := by decide +kernel
theorem dq_A_timesOver_13 : decode prog_3_method_4_code 13 = .ok (.lreturn, 1) := by decide +kernel
def fA_timesOver (x0 : Int64) (x2 : Int64) (x4 : Int64) (N : qz_N) : Option (Int64 × qz_N) :=
  (fA_highOf x0 x2 N).bind fun q1 =>
  (fA_over q1.1 (x0 * x2) x4 q1.2).bind fun q3 =>
  some (q3.1, q3.2)
set_option maxRecDepth 100000 in
set_option maxHeartbeats 4000000 in
theorem sA_timesOver {p : Program} {l : Launch} {e : Env} {s : State} {m : MethodId} {args : Array Value} {below : List Frame} {meth : Method} {c : Code} {G : qz_G} (X : qz_X p s m args meth c "ExactCurves$Exact" prog_3_method_4_code 6 (some .long) G) {r : (Int64 × qz_N)} (x0 : Int64) (x2 : Int64) (x4 : Int64) (N : qz_N) (h : fA_timesOver x0 x2 x4 N = some r) : qz_W p l e (qz_R 1) s m args below meth c 0 0 (MQ below (qz_Q G r.2 (some (.long r.1))) args s 0 0 (qz_A G)) G s.heap 6 N 0 [(0, .long x0), (2, .long x2), (4, .long x4)] [] := by
  unfold fA_timesOver at h
  refine qz_lload_n X 0 rfl dq_A_timesOver_0 ?_
  refine qz_lload_n X 1 rfl dq_A_timesOver_1 ?_
  refine qz_bind h (fun q1 e2 h => ?_)
  refine qz_callS X (as := [.long x0, .long x2]) (st := []) (o := some (.long q1.1)) (N' := q1.2) cq_A_15 (cA_highOf l G X.2.2.2.2.2.2.1 x0 x2 N _ e2) ⟨by decide, by decide⟩ rfl rfl (Nat.le_of_ble_eq_true rfl) ⟨Nat.zero_le _, Nat.zero_le _⟩ dq_A_timesOver_2 ?_
  refine qz_lload_n X 0 rfl dq_A_timesOver_5 ?_
  refine qz_lload_n X 1 rfl dq_A_timesOver_6 ?_
  refine qz_lmul X dq_A_timesOver_7 ?_
  refine qz_lload X 2 rfl dq_A_timesOver_8 ?_
  refine qz_bind h (fun q3 e4 h => ?_)
  refine qz_callS X (as := [.long q1.1, .long (x0 * x2), .long x4]) (st := []) (o := some (.long q3.1)) (N' := q3.2) cq_A_19 (cA_over l G X.2.2.2.2.2.2.1 q1.1 (x0 * x2) x4 q1.2 _ e4) ⟨by decide, by decide⟩ rfl rfl (Nat.le_of_ble_eq_true rfl) ⟨Nat.zero_le _, Nat.zero_le _⟩ dq_A_timesOver_10 ?_
  exact qz_lret X h dq_A_timesOver_13
theorem cA_timesOver (l : Launch) (G : qz_G) (hD : qz_D G) (x0 : Int64) (x2 : Int64) (x4 : Int64) (N : qz_N) (r : (Int64 × qz_N)) (h : fA_timesOver x0 x2 x4 N = some r) : qz_M l yA_timesOver prog_3_method_4_code 6 (some .long) 1 G [.long x0, .long x2, .long x4] N (some (.long r.1)) r.2 :=
  qz_enter (lv := [(0, .long x0), (2, .long x2), (4, .long x4)]) rfl hD (Nat.le_of_ble_eq_true rfl) rfl (fun p e s m args below meth c X => sA_timesOver X x0 x2 x4 N h)
-- ExactCurves$Pool.sharesBy(JJ)J
theorem dq_P_sharesBy_0 : decode prog_6_method_8_code 0 = .ok (.lload_n 3, 1) := by decide +kernel
theorem dq_P_sharesBy_1 : decode prog_6_method_8_code 1 = .ok (.lconst 0, 1) := by decide +kernel
theorem dq_P_sharesBy_2 : decode prog_6_method_8_code 2 = .ok (.lcmp, 1) := by decide +kernel
theorem dq_P_sharesBy_3 : decode prog_6_method_8_code 3 = .ok (.ifCond .ne 9, 3) := by decide +kernel
theorem dq_P_sharesBy_6 : decode prog_6_method_8_code 6 = .ok (.ldc2_w 62, 3) := by decide +kernel
theorem dq_P_sharesBy_9 : decode prog_6_method_8_code 9 = .ok (.goto 12, 3) := by decide +kernel
theorem dq_P_sharesBy_12 : decode prog_6_method_8_code 12 = .ok (.lload_n 1, 1) := by decide +kernel
theorem dq_P_sharesBy_13 : decode prog_6_method_8_code 13 = .ok (.aload_n 0, 1) := by decide +kernel
theorem dq_P_sharesBy_14 : decode prog_6_method_8_code 14 = .ok (.getfield 29, 3) := by decide +kernel
theorem dq_P_sharesBy_17 : decode prog_6_method_8_code 17 = .ok (.lload_n 3, 1) := by decide +kernel
theorem dq_P_sharesBy_18 : decode prog_6_method_8_code 18 = .ok (.invokestatic 64, 3) := by decide +kernel
theorem dq_P_sharesBy_21 : decode prog_6_method_8_code 21 = .ok (.lreturn, 1) := by decide +kernel
def fP_sharesBy (o : Nat) (x1 : Int64) (x3 : Int64) (N : qz_N) : Option (Int64 × qz_N) :=
  if x3 = (0 : Int64) then
    some ((9223372036854775807 : Int64), N)
  else
  (fA_timesOver x1 (qz_gl N 2 o 7) x3 N).bind fun q1 =>
  some (q1.1, q1.2)
set_option maxRecDepth 100000 in
set_option maxHeartbeats 4000000 in
theorem sP_sharesBy {p : Program} {l : Launch} {e : Env} {s : State} {m : MethodId} {args : Array Value} {below : List Frame} {meth : Method} {c : Code} {G : qz_G} (X : qz_X p s m args meth c "ExactCurves$Pool" prog_6_method_8_code 5 (some .long) G) {r : (Int64 × qz_N)} (o : Nat) (x1 : Int64) (x3 : Int64) (ho : o < 6) (N : qz_N) (h : fP_sharesBy o x1 x3 N = some r) : qz_W p l e (qz_R 2) s m args below meth c 0 0 (MQ below (qz_Q G r.2 (some (.long r.1))) args s 0 0 (qz_A G)) G s.heap 5 N 0 [(0, .ref (G.2.2 2 o)), (1, .long x1), (3, .long x3)] [] := by
  unfold fP_sharesBy at h
  refine qz_lload_n X 2 rfl dq_P_sharesBy_0 ?_
  refine qz_lconst X (v := (0 : Int64)) (by decide) dq_P_sharesBy_1 ?_
  refine qz_lcmp_ne X (tgt := 12) (by decide) dq_P_sharesBy_2 dq_P_sharesBy_3 h (fun _ h => ?_) (fun _ h => ?_)
  · refine qz_lload_n X 1 rfl dq_P_sharesBy_12 ?_
    refine qz_aload_n X 0 rfl dq_P_sharesBy_13 ?_
    refine qz_get X (v := .long (qz_gl N 2 o 7)) kq_P_29 ho rfl dq_P_sharesBy_14 ?_
    refine qz_lload_n X 2 rfl dq_P_sharesBy_17 ?_
    refine qz_bind h (fun q1 e2 h => ?_)
    refine qz_callS X (as := [.long x1, .long (qz_gl N 2 o 7), .long x3]) (st := []) (o := some (.long q1.1)) (N' := q1.2) cq_P_64 (cA_timesOver l G X.2.2.2.2.2.2.1 x1 (qz_gl N 2 o 7) x3 N _ e2) ⟨by decide, by decide⟩ rfl rfl (Nat.le_of_ble_eq_true rfl) ⟨Nat.zero_le _, Nat.zero_le _⟩ dq_P_sharesBy_18 ?_
    exact qz_lret X h dq_P_sharesBy_21
  · refine qz_ldc2 X (v := (9223372036854775807 : Int64)) wq_318 dq_P_sharesBy_6 ?_
    refine qz_goto X (tgt := 21) (by decide) dq_P_sharesBy_9 ?_
    exact qz_lret X h dq_P_sharesBy_21
theorem cP_sharesBy (l : Launch) (G : qz_G) (hD : qz_D G) (o : Nat) (x1 : Int64) (x3 : Int64) (N : qz_N) (ho : o < 6) (r : (Int64 × qz_N)) (h : fP_sharesBy o x1 x3 N = some r) : qz_M l yP_sharesBy prog_6_method_8_code 5 (some .long) 2 G [.ref (G.2.2 2 o), .long x1, .long x3] N (some (.long r.1)) r.2 :=
  qz_enter (lv := [(0, .ref (G.2.2 2 o)), (1, .long x1), (3, .long x3)]) rfl hD (Nat.le_of_ble_eq_true rfl) rfl (fun p e s m args below meth c X => sP_sharesBy X o x1 x3 ho N h)
