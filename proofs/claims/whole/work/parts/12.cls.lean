-- ExactCurves$Pool.sharesFor(JJ)J
theorem dq_P_sharesFor_0 : decode prog_6_method_7_code 0 = .ok (.aload_n 0, 1) := by decide +kernel
theorem dq_P_sharesFor_1 : decode prog_6_method_7_code 1 = .ok (.getfield 29, 3) := by decide +kernel
theorem dq_P_sharesFor_4 : decode prog_6_method_7_code 4 = .ok (.lconst 0, 1) := by decide +kernel
theorem dq_P_sharesFor_5 : decode prog_6_method_7_code 5 = .ok (.lcmp, 1) := by decide +kernel
theorem dq_P_sharesFor_6 : decode prog_6_method_7_code 6 = .ok (.ifCond .ne 23, 3) := by decide +kernel
theorem dq_P_sharesFor_9 : decode prog_6_method_7_code 9 = .ok (.aload_n 0, 1) := by decide +kernel
theorem dq_P_sharesFor_10 : decode prog_6_method_7_code 10 = .ok (.getfield 38, 3) := by decide +kernel
theorem dq_P_sharesFor_13 : decode prog_6_method_7_code 13 = .ok (.iconst 1, 1) := by decide +kernel
theorem dq_P_sharesFor_14 : decode prog_6_method_7_code 14 = .ok (.if_icmp .ne 9, 3) := by decide +kernel
theorem dq_P_sharesFor_17 : decode prog_6_method_7_code 17 = .ok (.lload_n 1, 1) := by decide +kernel
theorem dq_P_sharesFor_18 : decode prog_6_method_7_code 18 = .ok (.lload_n 3, 1) := by decide +kernel
theorem dq_P_sharesFor_19 : decode prog_6_method_7_code 19 = .ok (.ladd, 1) := by decide +kernel
theorem dq_P_sharesFor_20 : decode prog_6_method_7_code 20 = .ok (.goto 8, 3) := by decide +kernel
theorem dq_P_sharesFor_23 : decode prog_6_method_7_code 23 = .ok (.lload_n 1, 1) := by decide +kernel
theorem dq_P_sharesFor_24 : decode prog_6_method_7_code 24 = .ok (.lload_n 3, 1) := by decide +kernel
theorem dq_P_sharesFor_25 : decode prog_6_method_7_code 25 = .ok (.invokestatic 46, 3) := by decide +kernel
theorem dq_P_sharesFor_28 : decode prog_6_method_7_code 28 = .ok (.lreturn, 1) := by decide +kernel
theorem dq_P_sharesFor_29 : decode prog_6_method_7_code 29 = .ok (.aload_n 0, 1) := by decide +kernel
theorem dq_P_sharesFor_30 : decode prog_6_method_7_code 30 = .ok (.lload_n 1, 1) := by decide +kernel
theorem dq_P_sharesFor_31 : decode prog_6_method_7_code 31 = .ok (.aload_n 0, 1) := by decide +kernel
theorem dq_P_sharesFor_32 : decode prog_6_method_7_code 32 = .ok (.getfield 22, 3) := by decide +kernel
theorem dq_P_sharesFor_35 : decode prog_6_method_7_code 35 = .ok (.invokevirtual 52, 3) := by decide +kernel
theorem dq_P_sharesFor_38 : decode prog_6_method_7_code 38 = .ok (.aload_n 0, 1) := by decide +kernel
theorem dq_P_sharesFor_39 : decode prog_6_method_7_code 39 = .ok (.lload_n 3, 1) := by decide +kernel
theorem dq_P_sharesFor_40 : decode prog_6_method_7_code 40 = .ok (.aload_n 0, 1) := by decide +kernel
theorem dq_P_sharesFor_41 : decode prog_6_method_7_code 41 = .ok (.getfield 26, 3) := by decide +kernel
theorem dq_P_sharesFor_44 : decode prog_6_method_7_code 44 = .ok (.invokevirtual 52, 3) := by decide +kernel
theorem dq_P_sharesFor_47 : decode prog_6_method_7_code 47 = .ok (.invokestatic 55, 3) := by decide +kernel
theorem dq_P_sharesFor_50 : decode prog_6_method_7_code 50 = .ok (.lreturn, 1) := by decide +kernel
def fP_sharesFor (o : Nat) (x1 : Int64) (x3 : Int64) (N : qz_N) : Option (Int64 × qz_N) :=
  if (qz_gl N 2 o 7) = (0 : Int64) then
    if (qz_gi N 2 o 3) = (1 : Int32) then
      some (x1 + x3, N)
    else
    (fA_rootOfProduct x1 x3 N).bind fun q5 =>
    some (q5.1, q5.2)
  else
  (fP_sharesBy o x1 (qz_gl N 2 o 5) N).bind fun q1 =>
  (fP_sharesBy o x3 (qz_gl q1.2 2 o 6) q1.2).bind fun q3 =>
  some (if q3.1 < q1.1 then q3.1 else q1.1, q3.2)
set_option maxRecDepth 100000 in
set_option maxHeartbeats 4000000 in
theorem sP_sharesFor {p : Program} {l : Launch} {e : Env} {s : State} {m : MethodId} {args : Array Value} {below : List Frame} {meth : Method} {c : Code} {G : qz_G} (X : qz_X p s m args meth c "ExactCurves$Pool" prog_6_method_7_code 5 (some .long) G) {r : (Int64 × qz_N)} (o : Nat) (x1 : Int64) (x3 : Int64) (ho : o < 6) (N : qz_N) (h : fP_sharesFor o x1 x3 N = some r) : qz_W p l e (qz_R 3) s m args below meth c 0 0 (MQ below (qz_Q G r.2 (some (.long r.1))) args s 0 0 (qz_A G)) G s.heap 5 N 0 [(0, .ref (G.2.2 2 o)), (1, .long x1), (3, .long x3)] [] := by
  unfold fP_sharesFor at h
  refine qz_aload_n X 0 rfl dq_P_sharesFor_0 ?_
  refine qz_get X (v := .long (qz_gl N 2 o 7)) kq_P_29 ho rfl dq_P_sharesFor_1 ?_
  refine qz_lconst X (v := (0 : Int64)) (by decide) dq_P_sharesFor_4 ?_
  refine qz_lcmp_ne X (tgt := 29) (by decide) dq_P_sharesFor_5 dq_P_sharesFor_6 h (fun _ h => ?_) (fun _ h => ?_)
  · refine qz_aload_n X 0 rfl dq_P_sharesFor_29 ?_
    refine qz_lload_n X 1 rfl dq_P_sharesFor_30 ?_
    refine qz_aload_n X 0 rfl dq_P_sharesFor_31 ?_
    refine qz_get X (v := .long (qz_gl N 2 o 5)) kq_P_22 ho rfl dq_P_sharesFor_32 ?_
    refine qz_bind h (fun q1 e2 h => ?_)
    refine qz_callV X (as := [.long x1, .long (qz_gl N 2 o 5)]) (st := []) (o := some (.long q1.1)) (N' := q1.2) cq_P_52 ho (cP_sharesBy l G X.2.2.2.2.2.2.1 o x1 (qz_gl N 2 o 5) N ho _ e2) ⟨by decide, by decide⟩ rfl rfl (Nat.le_of_ble_eq_true rfl) ⟨Nat.zero_le _, Nat.zero_le _⟩ dq_P_sharesFor_35 ?_
    refine qz_aload_n X 0 rfl dq_P_sharesFor_38 ?_
    refine qz_lload_n X 2 rfl dq_P_sharesFor_39 ?_
    refine qz_aload_n X 0 rfl dq_P_sharesFor_40 ?_
    refine qz_get X (v := .long (qz_gl q1.2 2 o 6)) kq_P_26 ho rfl dq_P_sharesFor_41 ?_
    refine qz_bind h (fun q3 e4 h => ?_)
    refine qz_callV X (as := [.long x3, .long (qz_gl q1.2 2 o 6)]) (st := [.long q1.1]) (o := some (.long q3.1)) (N' := q3.2) cq_P_52 ho (cP_sharesBy l G X.2.2.2.2.2.2.1 o x3 (qz_gl q1.2 2 o 6) q1.2 ho _ e4) ⟨by decide, by decide⟩ rfl rfl (Nat.le_of_ble_eq_true rfl) ⟨Nat.zero_le _, Nat.zero_le _⟩ dq_P_sharesFor_44 ?_
    refine qz_mmin X (st := []) wq_326 ⟨mq_min, wq_327, wq_11⟩ ⟨by decide, by decide⟩ (Nat.le_of_ble_eq_true rfl) ⟨Nat.zero_le _, Nat.zero_le _⟩ dq_P_sharesFor_47 ?_
    exact qz_lret X h dq_P_sharesFor_50
  · refine qz_aload_n X 0 rfl dq_P_sharesFor_9 ?_
    refine qz_get X (v := .int (qz_gi N 2 o 3)) kq_P_38 ho rfl dq_P_sharesFor_10 ?_
    refine qz_iconst X (v := (1 : Int32)) (by decide) dq_P_sharesFor_13 ?_
    refine qz_icmp_ne X (tgt := 23) (by decide) dq_P_sharesFor_14 h (fun _ h => ?_) (fun _ h => ?_)
    · refine qz_lload_n X 1 rfl dq_P_sharesFor_23 ?_
      refine qz_lload_n X 2 rfl dq_P_sharesFor_24 ?_
      refine qz_bind h (fun q5 e6 h => ?_)
      refine qz_callS X (as := [.long x1, .long x3]) (st := []) (o := some (.long q5.1)) (N' := q5.2) cq_P_46 (cA_rootOfProduct l G X.2.2.2.2.2.2.1 x1 x3 N _ e6) ⟨by decide, by decide⟩ rfl rfl (Nat.le_of_ble_eq_true rfl) ⟨Nat.zero_le _, Nat.zero_le _⟩ dq_P_sharesFor_25 ?_
      exact qz_lret X h dq_P_sharesFor_28
    · refine qz_lload_n X 1 rfl dq_P_sharesFor_17 ?_
      refine qz_lload_n X 2 rfl dq_P_sharesFor_18 ?_
      refine qz_ladd X dq_P_sharesFor_19 ?_
      refine qz_goto X (tgt := 28) (by decide) dq_P_sharesFor_20 ?_
      exact qz_lret X h dq_P_sharesFor_28
theorem cP_sharesFor (l : Launch) (G : qz_G) (hD : qz_D G) (o : Nat) (x1 : Int64) (x3 : Int64) (N : qz_N) (ho : o < 6) (r : (Int64 × qz_N)) (h : fP_sharesFor o x1 x3 N = some r) : qz_M l yP_sharesFor prog_6_method_7_code 5 (some .long) 3 G [.ref (G.2.2 2 o), .long x1, .long x3] N (some (.long r.1)) r.2 :=
  qz_enter (lv := [(0, .ref (G.2.2 2 o)), (1, .long x1), (3, .long x3)]) rfl hD (Nat.le_of_ble_eq_true rfl) rfl (fun p e s m args below meth c X => sP_sharesFor X o x1 x3 ho N h)
-- ExactCurves$Pool.reserveAt(I)J
theorem dq_P_reserveAt_0 : decode prog_6_method_3_code 0 = .ok (.iload_n 1, 1) := by decide +kernel
theorem dq_P_reserveAt_1 : decode prog_6_method_3_code 1 = .ok (.ifCond .ne 10, 3) := by decide +kernel
theorem dq_P_reserveAt_4 : decode prog_6_method_3_code 4 = .ok (.aload_n 0, 1) := by decide +kernel
theorem dq_P_reserveAt_5 : decode prog_6_method_3_code 5 = .ok (.getfield 22, 3) := by decide +kernel
theorem dq_P_reserveAt_8 : decode prog_6_method_3_code 8 = .ok (.goto 7, 3) := by decide +kernel
theorem dq_P_reserveAt_11 : decode prog_6_method_3_code 11 = .ok (.aload_n 0, 1) := by decide +kernel
theorem dq_P_reserveAt_12 : decode prog_6_method_3_code 12 = .ok (.getfield 26, 3) := by decide +kernel
theorem dq_P_reserveAt_15 : decode prog_6_method_3_code 15 = .ok (.lreturn, 1) := by decide +kernel
def fP_reserveAt (o : Nat) (x1 : Int32) (N : qz_N) : Option (Int64 × qz_N) :=
  if x1 = 0 then
    some (qz_gl N 2 o 5, N)
  else
  some (qz_gl N 2 o 6, N)
set_option maxRecDepth 100000 in
set_option maxHeartbeats 4000000 in
theorem sP_reserveAt {p : Program} {l : Launch} {e : Env} {s : State} {m : MethodId} {args : Array Value} {below : List Frame} {meth : Method} {c : Code} {G : qz_G} (X : qz_X p s m args meth c "ExactCurves$Pool" prog_6_method_3_code 2 (some .long) G) {r : (Int64 × qz_N)} (o : Nat) (x1 : Int32) (ho : o < 6) (N : qz_N) (h : fP_reserveAt o x1 N = some r) : qz_W p l e (qz_R 0) s m args below meth c 0 0 (MQ below (qz_Q G r.2 (some (.long r.1))) args s 0 0 (qz_A G)) G s.heap 2 N 0 [(0, .ref (G.2.2 2 o)), (1, .int x1)] [] := by
  unfold fP_reserveAt at h
  refine qz_iload_n X 1 rfl dq_P_reserveAt_0 ?_
  refine qz_if_ne X (tgt := 11) (by decide) dq_P_reserveAt_1 h (fun _ h => ?_) (fun _ h => ?_)
  · refine qz_aload_n X 0 rfl dq_P_reserveAt_11 ?_
    refine qz_get X (v := .long (qz_gl N 2 o 6)) kq_P_26 ho rfl dq_P_reserveAt_12 ?_
    exact qz_lret X h dq_P_reserveAt_15
  · refine qz_aload_n X 0 rfl dq_P_reserveAt_4 ?_
    refine qz_get X (v := .long (qz_gl N 2 o 5)) kq_P_22 ho rfl dq_P_reserveAt_5 ?_
    refine qz_goto X (tgt := 15) (by decide) dq_P_reserveAt_8 ?_
    exact qz_lret X h dq_P_reserveAt_15
theorem cP_reserveAt (l : Launch) (G : qz_G) (hD : qz_D G) (o : Nat) (x1 : Int32) (N : qz_N) (ho : o < 6) (r : (Int64 × qz_N)) (h : fP_reserveAt o x1 N = some r) : qz_M l yP_reserveAt prog_6_method_3_code 2 (some .long) 0 G [.ref (G.2.2 2 o), .int x1] N (some (.long r.1)) r.2 :=
  qz_enter (lv := [(0, .ref (G.2.2 2 o)), (1, .int x1)]) rfl hD (Nat.le_of_ble_eq_true rfl) rfl (fun p e s m args below meth c X => sP_reserveAt X o x1 ho N h)
-- ExactCurves$Exact.timesOverUp(JJJ)J
theorem dq_A_timesOverUp_0 : decode prog_3_method_5_code 0 = .ok (.lload_n 0, 1) := by decide +kernel
theorem dq_A_timesOverUp_1 : decode prog_3_method_5_code 1 = .ok (.lload_n 2, 1) := by decide +kernel
theorem dq_A_timesOverUp_2 : decode prog_3_method_5_code 2 = .ok (.lload 4, 2) := by decide +kernel
theorem dq_A_timesOverUp_4 : decode prog_3_method_5_code 4 = .ok (.invokestatic 23, 3) := by decide +kernel
theorem dq_A_timesOverUp_7 : decode prog_3_method_5_code 7 = .ok (.lstore 6, 2) := by decide +kernel
theorem dq_A_timesOverUp_9 : decode prog_3_method_5_code 9 = .ok (.lload 6, 2) := by decide +kernel
theorem dq_A_timesOverUp_11 : decode prog_3_method_5_code 11 = .ok (.ldc2_w 13, 3) := by decide +kernel
theorem dq_A_timesOverUp_14 : decode prog_3_method_5_code 14 = .ok (.lcmp, 1) := by decide +kernel
theorem dq_A_timesOverUp_15 : decode prog_3_method_5_code 15 = .ok (.ifCond .ge 19, 3) := by decide +kernel
theorem dq_A_timesOverUp_18 : decode prog_3_method_5_code 18 = .ok (.lload 6, 2) := by decide +kernel
theorem dq_A_timesOverUp_20 : decode prog_3_method_5_code 20 = .ok (.lload 4, 2) := by decide +kernel
theorem dq_A_timesOverUp_22 : decode prog_3_method_5_code 22 = .ok (.lmul, 1) := by decide +kernel
theorem dq_A_timesOverUp_23 : decode prog_3_method_5_code 23 = .ok (.lload_n 0, 1) := by decide +kernel
theorem dq_A_timesOverUp_24 : decode prog_3_method_5_code 24 = .ok (.lload_n 2, 1) := by decide +kernel
theorem dq_A_timesOverUp_25 : decode prog_3_method_5_code 25 = .ok (.lmul, 1) := by decide +kernel
theorem dq_A_timesOverUp_26 : decode prog_3_method_5_code 26 = .ok (.lcmp, 1) := by decide +kernel
theorem dq_A_timesOverUp_27 : decode prog_3_method_5_code 27 = .ok (.ifCond .eq 7, 3) := by decide +kernel
theorem dq_A_timesOverUp_30 : decode prog_3_method_5_code 30 = .ok (.iconst 1, 1) := by decide +kernel
theorem dq_A_timesOverUp_31 : decode prog_3_method_5_code 31 = .ok (.goto 4, 3) := by decide +kernel
theorem dq_A_timesOverUp_34 : decode prog_3_method_5_code 34 = .ok (.iconst 0, 1) := by decide +kernel
theorem dq_A_timesOverUp_35 : decode prog_3_method_5_code 35 = .ok (.istore 8, 2) := by decide +kernel
theorem dq_A_timesOverUp_37 : decode prog_3_method_5_code 37 = .ok (.iload 8, 2) := by decide +kernel
theorem dq_A_timesOverUp_39 : decode prog_3_method_5_code 39 = .ok (.ifCond .eq 10, 3) := by decide +kernel
theorem dq_A_timesOverUp_42 : decode prog_3_method_5_code 42 = .ok (.lload 6, 2) := by decide +kernel
theorem dq_A_timesOverUp_44 : decode prog_3_method_5_code 44 = .ok (.lconst 1, 1) := by decide +kernel
theorem dq_A_timesOverUp_45 : decode prog_3_method_5_code 45 = .ok (.ladd, 1) := by decide +kernel
theorem dq_A_timesOverUp_46 : decode prog_3_method_5_code 46 = .ok (.goto 5, 3) := by decide +kernel
theorem dq_A_timesOverUp_49 : decode prog_3_method_5_code 49 = .ok (.lload 6, 2) := by decide +kernel
theorem dq_A_timesOverUp_51 : decode prog_3_method_5_code 51 = .ok (.lreturn, 1) := by decide +kernel
def fA_timesOverUp_35 (N : qz_N) (x6 : Int64) (s0 : Int32) : Option (Int64 × qz_N) :=
  if s0 = 0 then
    some (x6, N)
  else
  some (x6 + (1 : Int64), N)
def fA_timesOverUp_34 (N : qz_N) (x6 : Int64) : Option (Int64 × qz_N) :=
  fA_timesOverUp_35 N x6 (0 : Int32)
def fA_timesOverUp (x0 : Int64) (x2 : Int64) (x4 : Int64) (N : qz_N) : Option (Int64 × qz_N) :=
  (fA_timesOver x0 x2 x4 N).bind fun q1 =>
  if (9223372036854775807 : Int64) ≤ q1.1 then
    fA_timesOverUp_34 q1.2 q1.1
  else
  if (q1.1 * x4) = (x0 * x2) then
    fA_timesOverUp_34 q1.2 q1.1
  else
  fA_timesOverUp_35 q1.2 q1.1 (1 : Int32)
set_option maxRecDepth 100000 in
set_option maxHeartbeats 4000000 in
theorem sA_timesOverUp_35 {p : Program} {l : Launch} {e : Env} {s : State} {m : MethodId} {args : Array Value} {below : List Frame} {meth : Method} {c : Code} {G : qz_G} (X : qz_X p s m args meth c "ExactCurves$Exact" prog_3_method_5_code 9 (some .long) G) {r : (Int64 × qz_N)} (N : qz_N) (x6 : Int64) (s0 : Int32) (h : fA_timesOverUp_35 N x6 s0 = some r) : qz_W p l e (qz_R 2) s m args below meth c 0 0 (MQ below (qz_Q G r.2 (some (.long r.1))) args s 0 0 (qz_A G)) G s.heap 9 N 35 [(6, .long x6)] [.int s0] := by
  unfold fA_timesOverUp_35 at h
  refine qz_istore X (lv' := [(8, .int s0), (6, .long x6)]) (by decide) rfl dq_A_timesOverUp_35 ?_
  refine qz_iload X 0 rfl dq_A_timesOverUp_37 ?_
  refine qz_if_eq X (tgt := 49) (by decide) dq_A_timesOverUp_39 h (fun _ h => ?_) (fun _ h => ?_)
  · refine qz_lload X 1 rfl dq_A_timesOverUp_49 ?_
    exact qz_lret X h dq_A_timesOverUp_51
  · refine qz_lload X 1 rfl dq_A_timesOverUp_42 ?_
    refine qz_lconst X (v := (1 : Int64)) (by decide) dq_A_timesOverUp_44 ?_
    refine qz_ladd X dq_A_timesOverUp_45 ?_
    refine qz_goto X (tgt := 51) (by decide) dq_A_timesOverUp_46 ?_
    exact qz_lret X h dq_A_timesOverUp_51
set_option maxRecDepth 100000 in
set_option maxHeartbeats 4000000 in
theorem sA_timesOverUp_34 {p : Program} {l : Launch} {e : Env} {s : State} {m : MethodId} {args : Array Value} {below : List Frame} {meth : Method} {c : Code} {G : qz_G} (X : qz_X p s m args meth c "ExactCurves$Exact" prog_3_method_5_code 9 (some .long) G) {r : (Int64 × qz_N)} (N : qz_N) (x6 : Int64) (h : fA_timesOverUp_34 N x6 = some r) : qz_W p l e (qz_R 2) s m args below meth c 0 0 (MQ below (qz_Q G r.2 (some (.long r.1))) args s 0 0 (qz_A G)) G s.heap 9 N 34 [(6, .long x6)] [] := by
  unfold fA_timesOverUp_34 at h
  refine qz_iconst X (v := (0 : Int32)) (by decide) dq_A_timesOverUp_34 ?_
  refine qz_sub [0] rfl ?_
  exact sA_timesOverUp_35 X N x6 (0 : Int32) h
set_option maxRecDepth 100000 in
set_option maxHeartbeats 4000000 in
theorem sA_timesOverUp {p : Program} {l : Launch} {e : Env} {s : State} {m : MethodId} {args : Array Value} {below : List Frame} {meth : Method} {c : Code} {G : qz_G} (X : qz_X p s m args meth c "ExactCurves$Exact" prog_3_method_5_code 9 (some .long) G) {r : (Int64 × qz_N)} (x0 : Int64) (x2 : Int64) (x4 : Int64) (N : qz_N) (h : fA_timesOverUp x0 x2 x4 N = some r) : qz_W p l e (qz_R 2) s m args below meth c 0 0 (MQ below (qz_Q G r.2 (some (.long r.1))) args s 0 0 (qz_A G)) G s.heap 9 N 0 [(0, .long x0), (2, .long x2), (4, .long x4)] [] := by
  unfold fA_timesOverUp at h
  refine qz_lload_n X 0 rfl dq_A_timesOverUp_0 ?_
  refine qz_lload_n X 1 rfl dq_A_timesOverUp_1 ?_
  refine qz_lload X 2 rfl dq_A_timesOverUp_2 ?_
  refine qz_bind h (fun q1 e2 h => ?_)
  refine qz_callS X (as := [.long x0, .long x2, .long x4]) (st := []) (o := some (.long q1.1)) (N' := q1.2) cq_A_23 (cA_timesOver l G X.2.2.2.2.2.2.1 x0 x2 x4 N _ e2) ⟨by decide, by decide⟩ rfl rfl (Nat.le_of_ble_eq_true rfl) ⟨Nat.zero_le _, Nat.zero_le _⟩ dq_A_timesOverUp_4 ?_
  refine qz_lstore X (lv' := [(6, .long q1.1), (0, .long x0), (2, .long x2), (4, .long x4)]) (by decide) rfl dq_A_timesOverUp_7 ?_
  refine qz_lload X 0 rfl dq_A_timesOverUp_9 ?_
  refine qz_ldc2 X (v := (9223372036854775807 : Int64)) wq_325 dq_A_timesOverUp_11 ?_
  refine qz_lcmp_ge X (tgt := 34) (by decide) dq_A_timesOverUp_14 dq_A_timesOverUp_15 h (fun _ h => ?_) (fun _ h => ?_)
  · refine qz_sub [0] rfl ?_
    exact sA_timesOverUp_34 X q1.2 q1.1 h
  · refine qz_lload X 0 rfl dq_A_timesOverUp_18 ?_
    refine qz_lload X 3 rfl dq_A_timesOverUp_20 ?_
    refine qz_lmul X dq_A_timesOverUp_22 ?_
    refine qz_lload_n X 1 rfl dq_A_timesOverUp_23 ?_
    refine qz_lload_n X 2 rfl dq_A_timesOverUp_24 ?_
    refine qz_lmul X dq_A_timesOverUp_25 ?_
    refine qz_lcmp_eq X (tgt := 34) (by decide) dq_A_timesOverUp_26 dq_A_timesOverUp_27 h (fun _ h => ?_) (fun _ h => ?_)
    · refine qz_sub [0] rfl ?_
      exact sA_timesOverUp_34 X q1.2 q1.1 h
    · refine qz_iconst X (v := (1 : Int32)) (by decide) dq_A_timesOverUp_30 ?_
      refine qz_goto X (tgt := 35) (by decide) dq_A_timesOverUp_31 ?_
      refine qz_sub [0] rfl ?_
      exact sA_timesOverUp_35 X q1.2 q1.1 (1 : Int32) h
theorem cA_timesOverUp (l : Launch) (G : qz_G) (hD : qz_D G) (x0 : Int64) (x2 : Int64) (x4 : Int64) (N : qz_N) (r : (Int64 × qz_N)) (h : fA_timesOverUp x0 x2 x4 N = some r) : qz_M l yA_timesOverUp prog_3_method_5_code 9 (some .long) 2 G [.long x0, .long x2, .long x4] N (some (.long r.1)) r.2 :=
  qz_enter (lv := [(0, .long x0), (2, .long x2), (4, .long x4)]) rfl hD (Nat.le_of_ble_eq_true rfl) rfl (fun p e s m args below meth c X => sA_timesOverUp X x0 x2 x4 N h)
-- ExactCurves$Pool.costOf(JI)J
theorem dq_P_costOf_0 : decode prog_6_method_9_code 0 = .ok (.lload_n 1, 1) := by decide +kernel
theorem dq_P_costOf_1 : decode prog_6_method_9_code 1 = .ok (.aload_n 0, 1) := by decide +kernel
theorem dq_P_costOf_2 : decode prog_6_method_9_code 2 = .ok (.iload_n 3, 1) := by decide +kernel
theorem dq_P_costOf_3 : decode prog_6_method_9_code 3 = .ok (.invokevirtual 68, 3) := by decide +kernel
theorem dq_P_costOf_6 : decode prog_6_method_9_code 6 = .ok (.aload_n 0, 1) := by decide +kernel
theorem dq_P_costOf_7 : decode prog_6_method_9_code 7 = .ok (.getfield 29, 3) := by decide +kernel
theorem dq_P_costOf_10 : decode prog_6_method_9_code 10 = .ok (.invokestatic 72, 3) := by decide +kernel
theorem dq_P_costOf_13 : decode prog_6_method_9_code 13 = .ok (.lreturn, 1) := by decide +kernel
def fP_costOf (o : Nat) (x1 : Int64) (x3 : Int32) (N : qz_N) : Option (Int64 × qz_N) :=
  (fP_reserveAt o x3 N).bind fun q1 =>
  (fA_timesOverUp x1 q1.1 (qz_gl q1.2 2 o 7) q1.2).bind fun q3 =>
  some (q3.1, q3.2)
set_option maxRecDepth 100000 in
set_option maxHeartbeats 4000000 in
theorem sP_costOf {p : Program} {l : Launch} {e : Env} {s : State} {m : MethodId} {args : Array Value} {below : List Frame} {meth : Method} {c : Code} {G : qz_G} (X : qz_X p s m args meth c "ExactCurves$Pool" prog_6_method_9_code 4 (some .long) G) {r : (Int64 × qz_N)} (o : Nat) (x1 : Int64) (x3 : Int32) (ho : o < 6) (N : qz_N) (h : fP_costOf o x1 x3 N = some r) : qz_W p l e (qz_R 3) s m args below meth c 0 0 (MQ below (qz_Q G r.2 (some (.long r.1))) args s 0 0 (qz_A G)) G s.heap 4 N 0 [(0, .ref (G.2.2 2 o)), (1, .long x1), (3, .int x3)] [] := by
  unfold fP_costOf at h
  refine qz_lload_n X 1 rfl dq_P_costOf_0 ?_
  refine qz_aload_n X 0 rfl dq_P_costOf_1 ?_
  refine qz_iload_n X 2 rfl dq_P_costOf_2 ?_
  refine qz_bind h (fun q1 e2 h => ?_)
  refine qz_callV X (as := [.int x3]) (st := [.long x1]) (o := some (.long q1.1)) (N' := q1.2) cq_P_68 ho (cP_reserveAt l G X.2.2.2.2.2.2.1 o x3 N ho _ e2) ⟨by decide, by decide⟩ rfl rfl (Nat.le_of_ble_eq_true rfl) ⟨Nat.zero_le _, Nat.zero_le _⟩ dq_P_costOf_3 ?_
  refine qz_aload_n X 0 rfl dq_P_costOf_6 ?_
  refine qz_get X (v := .long (qz_gl q1.2 2 o 7)) kq_P_29 ho rfl dq_P_costOf_7 ?_
  refine qz_bind h (fun q3 e4 h => ?_)
  refine qz_callS X (as := [.long x1, .long q1.1, .long (qz_gl q1.2 2 o 7)]) (st := []) (o := some (.long q3.1)) (N' := q3.2) cq_P_72 (cA_timesOverUp l G X.2.2.2.2.2.2.1 x1 q1.1 (qz_gl q1.2 2 o 7) q1.2 _ e4) ⟨by decide, by decide⟩ rfl rfl (Nat.le_of_ble_eq_true rfl) ⟨Nat.zero_le _, Nat.zero_le _⟩ dq_P_costOf_10 ?_
  exact qz_lret X h dq_P_costOf_13
theorem cP_costOf (l : Launch) (G : qz_G) (hD : qz_D G) (o : Nat) (x1 : Int64) (x3 : Int32) (N : qz_N) (ho : o < 6) (r : (Int64 × qz_N)) (h : fP_costOf o x1 x3 N = some r) : qz_M l yP_costOf prog_6_method_9_code 4 (some .long) 3 G [.ref (G.2.2 2 o), .long x1, .int x3] N (some (.long r.1)) r.2 :=
  qz_enter (lv := [(0, .ref (G.2.2 2 o)), (1, .long x1), (3, .int x3)]) rfl hD (Nat.le_of_ble_eq_true rfl) rfl (fun p e s m args below meth c X => sP_costOf X o x1 x3 ho N h)
-- ExactCurves$Pool.tokenAt(I)I
theorem dq_P_tokenAt_0 : decode prog_6_method_2_code 0 = .ok (.iload_n 1, 1) := by decide +kernel
theorem dq_P_tokenAt_1 : decode prog_6_method_2_code 1 = .ok (.ifCond .ne 10, 3) := by decide +kernel
theorem dq_P_tokenAt_4 : decode prog_6_method_2_code 4 = .ok (.aload_n 0, 1) := by decide +kernel
theorem dq_P_tokenAt_5 : decode prog_6_method_2_code 5 = .ok (.getfield 15, 3) := by decide +kernel
theorem dq_P_tokenAt_8 : decode prog_6_method_2_code 8 = .ok (.goto 7, 3) := by decide +kernel
theorem dq_P_tokenAt_11 : decode prog_6_method_2_code 11 = .ok (.aload_n 0, 1) := by decide +kernel
theorem dq_P_tokenAt_12 : decode prog_6_method_2_code 12 = .ok (.getfield 19, 3) := by decide +kernel
theorem dq_P_tokenAt_15 : decode prog_6_method_2_code 15 = .ok (.ireturn, 1) := by decide +kernel
def fP_tokenAt (o : Nat) (x1 : Int32) (N : qz_N) : Option (Int32 × qz_N) :=
  if x1 = 0 then
    some (qz_gi N 2 o 1, N)
  else
  some (qz_gi N 2 o 2, N)
set_option maxRecDepth 100000 in
set_option maxHeartbeats 4000000 in
theorem sP_tokenAt {p : Program} {l : Launch} {e : Env} {s : State} {m : MethodId} {args : Array Value} {below : List Frame} {meth : Method} {c : Code} {G : qz_G} (X : qz_X p s m args meth c "ExactCurves$Pool" prog_6_method_2_code 2 (some .int) G) {r : (Int32 × qz_N)} (o : Nat) (x1 : Int32) (ho : o < 6) (N : qz_N) (h : fP_tokenAt o x1 N = some r) : qz_W p l e (qz_R 0) s m args below meth c 0 0 (MQ below (qz_Q G r.2 (some (.int r.1))) args s 0 0 (qz_A G)) G s.heap 2 N 0 [(0, .ref (G.2.2 2 o)), (1, .int x1)] [] := by
  unfold fP_tokenAt at h
  refine qz_iload_n X 1 rfl dq_P_tokenAt_0 ?_
  refine qz_if_ne X (tgt := 11) (by decide) dq_P_tokenAt_1 h (fun _ h => ?_) (fun _ h => ?_)
  · refine qz_aload_n X 0 rfl dq_P_tokenAt_11 ?_
    refine qz_get X (v := .int (qz_gi N 2 o 2)) kq_P_19 ho rfl dq_P_tokenAt_12 ?_
    exact qz_iret X h dq_P_tokenAt_15
  · refine qz_aload_n X 0 rfl dq_P_tokenAt_4 ?_
    refine qz_get X (v := .int (qz_gi N 2 o 1)) kq_P_15 ho rfl dq_P_tokenAt_5 ?_
    refine qz_goto X (tgt := 15) (by decide) dq_P_tokenAt_8 ?_
    exact qz_iret X h dq_P_tokenAt_15
theorem cP_tokenAt (l : Launch) (G : qz_G) (hD : qz_D G) (o : Nat) (x1 : Int32) (N : qz_N) (ho : o < 6) (r : (Int32 × qz_N)) (h : fP_tokenAt o x1 N = some r) : qz_M l yP_tokenAt prog_6_method_2_code 2 (some .int) 0 G [.ref (G.2.2 2 o), .int x1] N (some (.int r.1)) r.2 :=
  qz_enter (lv := [(0, .ref (G.2.2 2 o)), (1, .int x1)]) rfl hD (Nat.le_of_ble_eq_true rfl) rfl (fun p e s m args below meth c X => sP_tokenAt X o x1 ho N h)
-- ExactCurves$Purses.take(IIJ)V
theorem dq_U_take_0 : decode prog_7_method_4_code 0 = .ok (.aload_n 0, 1) := by decide +kernel
theorem dq_U_take_1 : decode prog_7_method_4_code 1 = .ok (.getfield 9, 3) := by decide +kernel
theorem dq_U_take_4 : decode prog_7_method_4_code 4 = .ok (.iload_n 1, 1) := by decide +kernel
theorem dq_U_take_5 : decode prog_7_method_4_code 5 = .ok (.iconst 4, 1) := by decide +kernel
theorem dq_U_take_6 : decode prog_7_method_4_code 6 = .ok (.imul, 1) := by decide +kernel
theorem dq_U_take_7 : decode prog_7_method_4_code 7 = .ok (.iload_n 2, 1) := by decide +kernel
theorem dq_U_take_8 : decode prog_7_method_4_code 8 = .ok (.iadd, 1) := by decide +kernel
theorem dq_U_take_9 : decode prog_7_method_4_code 9 = .ok (.dup2, 1) := by decide +kernel
theorem dq_U_take_10 : decode prog_7_method_4_code 10 = .ok (.laload, 1) := by decide +kernel
theorem dq_U_take_11 : decode prog_7_method_4_code 11 = .ok (.lload_n 3, 1) := by decide +kernel
theorem dq_U_take_12 : decode prog_7_method_4_code 12 = .ok (.lsub, 1) := by decide +kernel
theorem dq_U_take_13 : decode prog_7_method_4_code 13 = .ok (.lastore, 1) := by decide +kernel
theorem dq_U_take_14 : decode prog_7_method_4_code 14 = .ok (.return_, 1) := by decide +kernel
def fU_take (o : Nat) (x1 : Int32) (x2 : Int32) (x3 : Int64) (N : qz_N) : Option (Unit × qz_N) :=
  if ((x1 * (4 : Int32)) + x2) < 0 ∨ 24 ≤ ((x1 * (4 : Int32)) + x2).toNatClampNeg then none else
  if ((x1 * (4 : Int32)) + x2) < 0 ∨ 24 ≤ ((x1 * (4 : Int32)) + x2).toNatClampNeg then none else
  qz_let (qz_sl N 12 o ((x1 * (4 : Int32)) + x2).toNatClampNeg ((qz_gl N 12 o ((x1 * (4 : Int32)) + x2).toNatClampNeg) - x3)) fun N1 =>
  some ((), N1)
set_option maxRecDepth 100000 in
set_option maxHeartbeats 4000000 in
theorem sU_take {p : Program} {l : Launch} {e : Env} {s : State} {m : MethodId} {args : Array Value} {below : List Frame} {meth : Method} {c : Code} {G : qz_G} (X : qz_X p s m args meth c "ExactCurves$Purses" prog_7_method_4_code 5 none G) {r : (Unit × qz_N)} (o : Nat) (x1 : Int32) (x2 : Int32) (x3 : Int64) (ho : o < 1) (N : qz_N) (h : fU_take o x1 x2 x3 N = some r) : qz_W p l e (qz_R 0) s m args below meth c 0 0 (MQ below (qz_Q G r.2 none) args s 0 0 (qz_A G)) G s.heap 5 N 0 [(0, .ref (G.2.2 1 o)), (1, .int x1), (2, .int x2), (3, .long x3)] [] := by
  unfold fU_take at h
  refine qz_aload_n X 0 rfl dq_U_take_0 ?_
  refine qz_get X (v := .ref (G.2.2 12 o)) kq_U_9 ho rfl dq_U_take_1 ?_
  refine qz_iload_n X 1 rfl dq_U_take_4 ?_
  refine qz_iconst X (v := (4 : Int32)) (by decide) dq_U_take_5 ?_
  refine qz_imul X dq_U_take_6 ?_
  refine qz_iload_n X 2 rfl dq_U_take_7 ?_
  refine qz_iadd X dq_U_take_8 ?_
  refine qz_dup2_11 X rfl rfl dq_U_take_9 ?_
  refine qz_lald X (c0 := 12) (i := o) (n := 24) rfl ho dq_U_take_10 h (fun h => ?_)
  refine qz_lload_n X 3 rfl dq_U_take_11 ?_
  refine qz_lsub X dq_U_take_12 ?_
  refine qz_last X (c0 := 12) (i := o) (n := 24) rfl ho dq_U_take_13 h (fun N1 h => ?_)
  exact qz_vret X h dq_U_take_14
theorem cU_take (l : Launch) (G : qz_G) (hD : qz_D G) (o : Nat) (x1 : Int32) (x2 : Int32) (x3 : Int64) (N : qz_N) (ho : o < 1) (r : (Unit × qz_N)) (h : fU_take o x1 x2 x3 N = some r) : qz_M l yU_take prog_7_method_4_code 5 none 0 G [.ref (G.2.2 1 o), .int x1, .int x2, .long x3] N none r.2 :=
  qz_enter (lv := [(0, .ref (G.2.2 1 o)), (1, .int x1), (2, .int x2), (3, .long x3)]) rfl hD (Nat.le_of_ble_eq_true rfl) rfl (fun p e s m args below meth c X => sU_take X o x1 x2 x3 ho N h)
-- ExactCurves$Pool.addReserve(IJ)V
theorem dq_P_addReserve_0 : decode prog_6_method_4_code 0 = .ok (.iload_n 1, 1) := by decide +kernel
theorem dq_P_addReserve_1 : decode prog_6_method_4_code 1 = .ok (.ifCond .ne 16, 3) := by decide +kernel
theorem dq_P_addReserve_4 : decode prog_6_method_4_code 4 = .ok (.aload_n 0, 1) := by decide +kernel
theorem dq_P_addReserve_5 : decode prog_6_method_4_code 5 = .ok (.dup, 1) := by decide +kernel
theorem dq_P_addReserve_6 : decode prog_6_method_4_code 6 = .ok (.getfield 22, 3) := by decide +kernel
theorem dq_P_addReserve_9 : decode prog_6_method_4_code 9 = .ok (.lload_n 2, 1) := by decide +kernel
theorem dq_P_addReserve_10 : decode prog_6_method_4_code 10 = .ok (.ladd, 1) := by decide +kernel
theorem dq_P_addReserve_11 : decode prog_6_method_4_code 11 = .ok (.putfield 22, 3) := by decide +kernel
theorem dq_P_addReserve_14 : decode prog_6_method_4_code 14 = .ok (.goto 13, 3) := by decide +kernel
theorem dq_P_addReserve_17 : decode prog_6_method_4_code 17 = .ok (.aload_n 0, 1) := by decide +kernel
theorem dq_P_addReserve_18 : decode prog_6_method_4_code 18 = .ok (.dup, 1) := by decide +kernel
theorem dq_P_addReserve_19 : decode prog_6_method_4_code 19 = .ok (.getfield 26, 3) := by decide +kernel
theorem dq_P_addReserve_22 : decode prog_6_method_4_code 22 = .ok (.lload_n 2, 1) := by decide +kernel
theorem dq_P_addReserve_23 : decode prog_6_method_4_code 23 = .ok (.ladd, 1) := by decide +kernel
theorem dq_P_addReserve_24 : decode prog_6_method_4_code 24 = .ok (.putfield 26, 3) := by decide +kernel
theorem dq_P_addReserve_27 : decode prog_6_method_4_code 27 = .ok (.return_, 1) := by decide +kernel
def fP_addReserve (o : Nat) (x1 : Int32) (x2 : Int64) (N : qz_N) : Option (Unit × qz_N) :=
  if x1 = 0 then
    qz_let (qz_sl N 2 o 5 ((qz_gl N 2 o 5) + x2)) fun N2 =>
    some ((), N2)
  else
  qz_let (qz_sl N 2 o 6 ((qz_gl N 2 o 6) + x2)) fun N1 =>
  some ((), N1)
set_option maxRecDepth 100000 in
set_option maxHeartbeats 4000000 in
theorem sP_addReserve {p : Program} {l : Launch} {e : Env} {s : State} {m : MethodId} {args : Array Value} {below : List Frame} {meth : Method} {c : Code} {G : qz_G} (X : qz_X p s m args meth c "ExactCurves$Pool" prog_6_method_4_code 4 none G) {r : (Unit × qz_N)} (o : Nat) (x1 : Int32) (x2 : Int64) (ho : o < 6) (N : qz_N) (h : fP_addReserve o x1 x2 N = some r) : qz_W p l e (qz_R 0) s m args below meth c 0 0 (MQ below (qz_Q G r.2 none) args s 0 0 (qz_A G)) G s.heap 4 N 0 [(0, .ref (G.2.2 2 o)), (1, .int x1), (2, .long x2)] [] := by
  unfold fP_addReserve at h
  refine qz_iload_n X 1 rfl dq_P_addReserve_0 ?_
  refine qz_if_ne X (tgt := 17) (by decide) dq_P_addReserve_1 h (fun _ h => ?_) (fun _ h => ?_)
  · refine qz_aload_n X 0 rfl dq_P_addReserve_17 ?_
    refine qz_dup X rfl dq_P_addReserve_18 ?_
    refine qz_get X (v := .long (qz_gl N 2 o 6)) kq_P_26 ho rfl dq_P_addReserve_19 ?_
    refine qz_lload_n X 2 rfl dq_P_addReserve_22 ?_
    refine qz_ladd X dq_P_addReserve_23 ?_
    refine qz_putJ X kq_P_26 ho dq_P_addReserve_24 h (fun N1 h => ?_)
    exact qz_vret X h dq_P_addReserve_27
  · refine qz_aload_n X 0 rfl dq_P_addReserve_4 ?_
    refine qz_dup X rfl dq_P_addReserve_5 ?_
    refine qz_get X (v := .long (qz_gl N 2 o 5)) kq_P_22 ho rfl dq_P_addReserve_6 ?_
    refine qz_lload_n X 2 rfl dq_P_addReserve_9 ?_
    refine qz_ladd X dq_P_addReserve_10 ?_
    refine qz_putJ X kq_P_22 ho dq_P_addReserve_11 h (fun N2 h => ?_)
    refine qz_goto X (tgt := 27) (by decide) dq_P_addReserve_14 ?_
    exact qz_vret X h dq_P_addReserve_27
theorem cP_addReserve (l : Launch) (G : qz_G) (hD : qz_D G) (o : Nat) (x1 : Int32) (x2 : Int64) (N : qz_N) (ho : o < 6) (r : (Unit × qz_N)) (h : fP_addReserve o x1 x2 N = some r) : qz_M l yP_addReserve prog_6_method_4_code 4 none 0 G [.ref (G.2.2 2 o), .int x1, .long x2] N none r.2 :=
  qz_enter (lv := [(0, .ref (G.2.2 2 o)), (1, .int x1), (2, .long x2)]) rfl hD (Nat.le_of_ble_eq_true rfl) rfl (fun p e s m args below meth c X => sP_addReserve X o x1 x2 ho N h)
-- ExactCurves.bringIn(ILExactCurves$Pool;IJ)V
theorem dq_E_bringIn_0 : decode prog_1_method_33_code 0 = .ok (.aload_n 0, 1) := by decide +kernel
theorem dq_E_bringIn_1 : decode prog_1_method_33_code 1 = .ok (.getfield 10, 3) := by decide +kernel
theorem dq_E_bringIn_4 : decode prog_1_method_33_code 4 = .ok (.iload_n 1, 1) := by decide +kernel
theorem dq_E_bringIn_5 : decode prog_1_method_33_code 5 = .ok (.aload_n 2, 1) := by decide +kernel
theorem dq_E_bringIn_6 : decode prog_1_method_33_code 6 = .ok (.iload_n 3, 1) := by decide +kernel
theorem dq_E_bringIn_7 : decode prog_1_method_33_code 7 = .ok (.invokevirtual 135, 3) := by decide +kernel
theorem dq_E_bringIn_10 : decode prog_1_method_33_code 10 = .ok (.lload 4, 2) := by decide +kernel
theorem dq_E_bringIn_12 : decode prog_1_method_33_code 12 = .ok (.invokevirtual 200, 3) := by decide +kernel
theorem dq_E_bringIn_15 : decode prog_1_method_33_code 15 = .ok (.aload_n 2, 1) := by decide +kernel
theorem dq_E_bringIn_16 : decode prog_1_method_33_code 16 = .ok (.iload_n 3, 1) := by decide +kernel
theorem dq_E_bringIn_17 : decode prog_1_method_33_code 17 = .ok (.lload 4, 2) := by decide +kernel
theorem dq_E_bringIn_19 : decode prog_1_method_33_code 19 = .ok (.invokevirtual 330, 3) := by decide +kernel
theorem dq_E_bringIn_22 : decode prog_1_method_33_code 22 = .ok (.return_, 1) := by decide +kernel
def fE_bringIn (o : Nat) (x1 : Int32) (x2 : Nat) (x3 : Int32) (x4 : Int64) (N : qz_N) : Option (Unit × qz_N) :=
  (fP_tokenAt x2 x3 N).bind fun q1 =>
  (fU_take o x1 q1.1 x4 q1.2).bind fun q3 =>
  (fP_addReserve x2 x3 x4 q3.2).bind fun q5 =>
  some ((), q5.2)
set_option maxRecDepth 100000 in
set_option maxHeartbeats 4000000 in
theorem sE_bringIn {p : Program} {l : Launch} {e : Env} {s : State} {m : MethodId} {args : Array Value} {below : List Frame} {meth : Method} {c : Code} {G : qz_G} (X : qz_X p s m args meth c "ExactCurves" prog_1_method_33_code 6 none G) {r : (Unit × qz_N)} (o : Nat) (x1 : Int32) (x2 : Nat) (x3 : Int32) (x4 : Int64) (ho : o < 1) (hx2 : x2 < 6) (N : qz_N) (h : fE_bringIn o x1 x2 x3 x4 N = some r) : qz_W p l e (qz_R 1) s m args below meth c 0 0 (MQ below (qz_Q G r.2 none) args s 0 0 (qz_A G)) G s.heap 6 N 0 [(0, .ref (G.2.2 0 o)), (1, .int x1), (2, .ref (G.2.2 2 x2)), (3, .int x3), (4, .long x4)] [] := by
  unfold fE_bringIn at h
  refine qz_aload_n X 0 rfl dq_E_bringIn_0 ?_
  refine qz_get X (v := .ref (G.2.2 1 o)) kq_E_10 ho rfl dq_E_bringIn_1 ?_
  refine qz_iload_n X 1 rfl dq_E_bringIn_4 ?_
  refine qz_aload_n X 2 rfl dq_E_bringIn_5 ?_
  refine qz_iload_n X 3 rfl dq_E_bringIn_6 ?_
  refine qz_bind h (fun q1 e2 h => ?_)
  refine qz_callV X (as := [.int x3]) (st := [.int x1, .ref (G.2.2 1 o)]) (o := some (.int q1.1)) (N' := q1.2) cq_E_135 hx2 (cP_tokenAt l G X.2.2.2.2.2.2.1 x2 x3 N hx2 _ e2) ⟨by decide, by decide⟩ rfl rfl (Nat.le_of_ble_eq_true rfl) ⟨Nat.zero_le _, Nat.zero_le _⟩ dq_E_bringIn_7 ?_
  refine qz_lload X 4 rfl dq_E_bringIn_10 ?_
  refine qz_bind h (fun q3 e4 h => ?_)
  refine qz_callV X (as := [.int x1, .int q1.1, .long x4]) (st := []) (o := none) (N' := q3.2) cq_E_200 ho (cU_take l G X.2.2.2.2.2.2.1 o x1 q1.1 x4 q1.2 ho _ e4) ⟨by decide, by decide⟩ rfl rfl (Nat.le_of_ble_eq_true rfl) ⟨Nat.zero_le _, Nat.zero_le _⟩ dq_E_bringIn_12 ?_
  refine qz_aload_n X 2 rfl dq_E_bringIn_15 ?_
  refine qz_iload_n X 3 rfl dq_E_bringIn_16 ?_
  refine qz_lload X 4 rfl dq_E_bringIn_17 ?_
  refine qz_bind h (fun q5 e6 h => ?_)
  refine qz_callV X (as := [.int x3, .long x4]) (st := []) (o := none) (N' := q5.2) cq_E_330 hx2 (cP_addReserve l G X.2.2.2.2.2.2.1 x2 x3 x4 q3.2 hx2 _ e6) ⟨by decide, by decide⟩ rfl rfl (Nat.le_of_ble_eq_true rfl) ⟨Nat.zero_le _, Nat.zero_le _⟩ dq_E_bringIn_19 ?_
  exact qz_vret X h dq_E_bringIn_22
theorem cE_bringIn (l : Launch) (G : qz_G) (hD : qz_D G) (o : Nat) (x1 : Int32) (x2 : Nat) (x3 : Int32) (x4 : Int64) (N : qz_N) (ho : o < 1) (hx2 : x2 < 6) (r : (Unit × qz_N)) (h : fE_bringIn o x1 x2 x3 x4 N = some r) : qz_M l yE_bringIn prog_1_method_33_code 6 none 1 G [.ref (G.2.2 0 o), .int x1, .ref (G.2.2 2 x2), .int x3, .long x4] N none r.2 :=
  qz_enter (lv := [(0, .ref (G.2.2 0 o)), (1, .int x1), (2, .ref (G.2.2 2 x2)), (3, .int x3), (4, .long x4)]) rfl hD (Nat.le_of_ble_eq_true rfl) rfl (fun p e s m args below meth c X => sE_bringIn X o x1 x2 x3 x4 ho hx2 N h)
-- ExactCurves$Pool.addShares(IJ)V
theorem dq_P_addShares_0 : decode prog_6_method_5_code 0 = .ok (.aload_n 0, 1) := by decide +kernel
theorem dq_P_addShares_1 : decode prog_6_method_5_code 1 = .ok (.getfield 9, 3) := by decide +kernel
theorem dq_P_addShares_4 : decode prog_6_method_5_code 4 = .ok (.iload_n 1, 1) := by decide +kernel
theorem dq_P_addShares_5 : decode prog_6_method_5_code 5 = .ok (.dup2, 1) := by decide +kernel
theorem dq_P_addShares_6 : decode prog_6_method_5_code 6 = .ok (.laload, 1) := by decide +kernel
theorem dq_P_addShares_7 : decode prog_6_method_5_code 7 = .ok (.lload_n 2, 1) := by decide +kernel
theorem dq_P_addShares_8 : decode prog_6_method_5_code 8 = .ok (.ladd, 1) := by decide +kernel
theorem dq_P_addShares_9 : decode prog_6_method_5_code 9 = .ok (.lastore, 1) := by decide +kernel
theorem dq_P_addShares_10 : decode prog_6_method_5_code 10 = .ok (.aload_n 0, 1) := by decide +kernel
theorem dq_P_addShares_11 : decode prog_6_method_5_code 11 = .ok (.dup, 1) := by decide +kernel
theorem dq_P_addShares_12 : decode prog_6_method_5_code 12 = .ok (.getfield 29, 3) := by decide +kernel
theorem dq_P_addShares_15 : decode prog_6_method_5_code 15 = .ok (.lload_n 2, 1) := by decide +kernel
theorem dq_P_addShares_16 : decode prog_6_method_5_code 16 = .ok (.ladd, 1) := by decide +kernel
theorem dq_P_addShares_17 : decode prog_6_method_5_code 17 = .ok (.putfield 29, 3) := by decide +kernel
theorem dq_P_addShares_20 : decode prog_6_method_5_code 20 = .ok (.return_, 1) := by decide +kernel
def fP_addShares (o : Nat) (x1 : Int32) (x2 : Int64) (N : qz_N) : Option (Unit × qz_N) :=
  if x1 < 0 ∨ 6 ≤ x1.toNatClampNeg then none else
  if x1 < 0 ∨ 6 ≤ x1.toNatClampNeg then none else
  qz_let (qz_sl N 15 o x1.toNatClampNeg ((qz_gl N 15 o x1.toNatClampNeg) + x2)) fun N1 =>
  qz_let (qz_sl N1 2 o 7 ((qz_gl N1 2 o 7) + x2)) fun N2 =>
  some ((), N2)
set_option maxRecDepth 100000 in
set_option maxHeartbeats 4000000 in
theorem sP_addShares {p : Program} {l : Launch} {e : Env} {s : State} {m : MethodId} {args : Array Value} {below : List Frame} {meth : Method} {c : Code} {G : qz_G} (X : qz_X p s m args meth c "ExactCurves$Pool" prog_6_method_5_code 4 none G) {r : (Unit × qz_N)} (o : Nat) (x1 : Int32) (x2 : Int64) (ho : o < 6) (N : qz_N) (h : fP_addShares o x1 x2 N = some r) : qz_W p l e (qz_R 0) s m args below meth c 0 0 (MQ below (qz_Q G r.2 none) args s 0 0 (qz_A G)) G s.heap 4 N 0 [(0, .ref (G.2.2 2 o)), (1, .int x1), (2, .long x2)] [] := by
  unfold fP_addShares at h
  refine qz_aload_n X 0 rfl dq_P_addShares_0 ?_
  refine qz_get X (v := .ref (G.2.2 15 o)) kq_P_9 ho rfl dq_P_addShares_1 ?_
  refine qz_iload_n X 1 rfl dq_P_addShares_4 ?_
  refine qz_dup2_11 X rfl rfl dq_P_addShares_5 ?_
  refine qz_lald X (c0 := 15) (i := o) (n := 6) rfl ho dq_P_addShares_6 h (fun h => ?_)
  refine qz_lload_n X 2 rfl dq_P_addShares_7 ?_
  refine qz_ladd X dq_P_addShares_8 ?_
  refine qz_last X (c0 := 15) (i := o) (n := 6) rfl ho dq_P_addShares_9 h (fun N1 h => ?_)
  refine qz_aload_n X 0 rfl dq_P_addShares_10 ?_
  refine qz_dup X rfl dq_P_addShares_11 ?_
  refine qz_get X (v := .long (qz_gl N1 2 o 7)) kq_P_29 ho rfl dq_P_addShares_12 ?_
  refine qz_lload_n X 2 rfl dq_P_addShares_15 ?_
  refine qz_ladd X dq_P_addShares_16 ?_
  refine qz_putJ X kq_P_29 ho dq_P_addShares_17 h (fun N2 h => ?_)
  exact qz_vret X h dq_P_addShares_20
theorem cP_addShares (l : Launch) (G : qz_G) (hD : qz_D G) (o : Nat) (x1 : Int32) (x2 : Int64) (N : qz_N) (ho : o < 6) (r : (Unit × qz_N)) (h : fP_addShares o x1 x2 N = some r) : qz_M l yP_addShares prog_6_method_5_code 4 none 0 G [.ref (G.2.2 2 o), .int x1, .long x2] N none r.2 :=
  qz_enter (lv := [(0, .ref (G.2.2 2 o)), (1, .int x1), (2, .long x2)]) rfl hD (Nat.le_of_ble_eq_true rfl) rfl (fun p e s m args below meth c X => sP_addShares X o x1 x2 ho N h)
-- ExactCurves.join(IIJJ)J
theorem dq_E_join_0 : decode prog_1_method_8_code 0 = .ok (.aload_n 0, 1) := by decide +kernel
theorem dq_E_join_1 : decode prog_1_method_8_code 1 = .ok (.iload_n 2, 1) := by decide +kernel
theorem dq_E_join_2 : decode prog_1_method_8_code 2 = .ok (.invokevirtual 95, 3) := by decide +kernel
theorem dq_E_join_5 : decode prog_1_method_8_code 5 = .ok (.astore 7, 2) := by decide +kernel
theorem dq_E_join_7 : decode prog_1_method_8_code 7 = .ok (.iload_n 1, 1) := by decide +kernel
theorem dq_E_join_8 : decode prog_1_method_8_code 8 = .ok (.invokestatic 51, 3) := by decide +kernel
theorem dq_E_join_11 : decode prog_1_method_8_code 11 = .ok (.ifCond .eq 21, 3) := by decide +kernel
theorem dq_E_join_14 : decode prog_1_method_8_code 14 = .ok (.aload 7, 2) := by decide +kernel
theorem dq_E_join_16 : decode prog_1_method_8_code 16 = .ok (.ifnull 16, 3) := by decide +kernel
theorem dq_E_join_19 : decode prog_1_method_8_code 19 = .ok (.lload_n 3, 1) := by decide +kernel
theorem dq_E_join_20 : decode prog_1_method_8_code 20 = .ok (.lconst 1, 1) := by decide +kernel
theorem dq_E_join_21 : decode prog_1_method_8_code 21 = .ok (.lcmp, 1) := by decide +kernel
theorem dq_E_join_22 : decode prog_1_method_8_code 22 = .ok (.ifCond .lt 10, 3) := by decide +kernel
theorem dq_E_join_25 : decode prog_1_method_8_code 25 = .ok (.lload 5, 2) := by decide +kernel
theorem dq_E_join_27 : decode prog_1_method_8_code 27 = .ok (.lconst 1, 1) := by decide +kernel
theorem dq_E_join_28 : decode prog_1_method_8_code 28 = .ok (.lcmp, 1) := by decide +kernel
theorem dq_E_join_29 : decode prog_1_method_8_code 29 = .ok (.ifCond .ge 7, 3) := by decide +kernel
theorem dq_E_join_32 : decode prog_1_method_8_code 32 = .ok (.ldc2_w 60, 3) := by decide +kernel
theorem dq_E_join_35 : decode prog_1_method_8_code 35 = .ok (.lreturn, 1) := by decide +kernel
theorem dq_E_join_36 : decode prog_1_method_8_code 36 = .ok (.aload_n 0, 1) := by decide +kernel
theorem dq_E_join_37 : decode prog_1_method_8_code 37 = .ok (.getfield 10, 3) := by decide +kernel
theorem dq_E_join_40 : decode prog_1_method_8_code 40 = .ok (.iload_n 1, 1) := by decide +kernel
theorem dq_E_join_41 : decode prog_1_method_8_code 41 = .ok (.aload 7, 2) := by decide +kernel
theorem dq_E_join_43 : decode prog_1_method_8_code 43 = .ok (.getfield 83, 3) := by decide +kernel
theorem dq_E_join_46 : decode prog_1_method_8_code 46 = .ok (.invokevirtual 72, 3) := by decide +kernel
theorem dq_E_join_49 : decode prog_1_method_8_code 49 = .ok (.lload_n 3, 1) := by decide +kernel
theorem dq_E_join_50 : decode prog_1_method_8_code 50 = .ok (.lcmp, 1) := by decide +kernel
theorem dq_E_join_51 : decode prog_1_method_8_code 51 = .ok (.ifCond .lt 22, 3) := by decide +kernel
theorem dq_E_join_54 : decode prog_1_method_8_code 54 = .ok (.aload_n 0, 1) := by decide +kernel
theorem dq_E_join_55 : decode prog_1_method_8_code 55 = .ok (.getfield 10, 3) := by decide +kernel
theorem dq_E_join_58 : decode prog_1_method_8_code 58 = .ok (.iload_n 1, 1) := by decide +kernel
theorem dq_E_join_59 : decode prog_1_method_8_code 59 = .ok (.aload 7, 2) := by decide +kernel
theorem dq_E_join_61 : decode prog_1_method_8_code 61 = .ok (.getfield 86, 3) := by decide +kernel
theorem dq_E_join_64 : decode prog_1_method_8_code 64 = .ok (.invokevirtual 72, 3) := by decide +kernel
theorem dq_E_join_67 : decode prog_1_method_8_code 67 = .ok (.lload 5, 2) := by decide +kernel
theorem dq_E_join_69 : decode prog_1_method_8_code 69 = .ok (.lcmp, 1) := by decide +kernel
theorem dq_E_join_70 : decode prog_1_method_8_code 70 = .ok (.ifCond .ge 7, 3) := by decide +kernel
theorem dq_E_join_73 : decode prog_1_method_8_code 73 = .ok (.ldc2_w 66, 3) := by decide +kernel
theorem dq_E_join_76 : decode prog_1_method_8_code 76 = .ok (.lreturn, 1) := by decide +kernel
theorem dq_E_join_77 : decode prog_1_method_8_code 77 = .ok (.aload 7, 2) := by decide +kernel
theorem dq_E_join_79 : decode prog_1_method_8_code 79 = .ok (.lload_n 3, 1) := by decide +kernel
theorem dq_E_join_80 : decode prog_1_method_8_code 80 = .ok (.lload 5, 2) := by decide +kernel
theorem dq_E_join_82 : decode prog_1_method_8_code 82 = .ok (.invokevirtual 103, 3) := by decide +kernel
theorem dq_E_join_85 : decode prog_1_method_8_code 85 = .ok (.lstore 8, 2) := by decide +kernel
theorem dq_E_join_87 : decode prog_1_method_8_code 87 = .ok (.lload 8, 2) := by decide +kernel
theorem dq_E_join_89 : decode prog_1_method_8_code 89 = .ok (.lconst 0, 1) := by decide +kernel
theorem dq_E_join_90 : decode prog_1_method_8_code 90 = .ok (.lcmp, 1) := by decide +kernel
theorem dq_E_join_91 : decode prog_1_method_8_code 91 = .ok (.ifCond .ne 7, 3) := by decide +kernel
theorem dq_E_join_94 : decode prog_1_method_8_code 94 = .ok (.ldc2_w 66, 3) := by decide +kernel
theorem dq_E_join_97 : decode prog_1_method_8_code 97 = .ok (.lreturn, 1) := by decide +kernel
theorem dq_E_join_98 : decode prog_1_method_8_code 98 = .ok (.aload 7, 2) := by decide +kernel
theorem dq_E_join_100 : decode prog_1_method_8_code 100 = .ok (.getfield 107, 3) := by decide +kernel
theorem dq_E_join_103 : decode prog_1_method_8_code 103 = .ok (.lconst 0, 1) := by decide +kernel
theorem dq_E_join_104 : decode prog_1_method_8_code 104 = .ok (.lcmp, 1) := by decide +kernel
theorem dq_E_join_105 : decode prog_1_method_8_code 105 = .ok (.ifCond .ne 7, 3) := by decide +kernel
theorem dq_E_join_108 : decode prog_1_method_8_code 108 = .ok (.iconst 1, 1) := by decide +kernel
theorem dq_E_join_109 : decode prog_1_method_8_code 109 = .ok (.goto 4, 3) := by decide +kernel
theorem dq_E_join_112 : decode prog_1_method_8_code 112 = .ok (.iconst 0, 1) := by decide +kernel
theorem dq_E_join_113 : decode prog_1_method_8_code 113 = .ok (.istore 10, 2) := by decide +kernel
theorem dq_E_join_115 : decode prog_1_method_8_code 115 = .ok (.iload 10, 2) := by decide +kernel
theorem dq_E_join_117 : decode prog_1_method_8_code 117 = .ok (.ifCond .eq 7, 3) := by decide +kernel
theorem dq_E_join_120 : decode prog_1_method_8_code 120 = .ok (.lload_n 3, 1) := by decide +kernel
theorem dq_E_join_121 : decode prog_1_method_8_code 121 = .ok (.goto 11, 3) := by decide +kernel
theorem dq_E_join_124 : decode prog_1_method_8_code 124 = .ok (.aload 7, 2) := by decide +kernel
theorem dq_E_join_126 : decode prog_1_method_8_code 126 = .ok (.lload 8, 2) := by decide +kernel
theorem dq_E_join_128 : decode prog_1_method_8_code 128 = .ok (.iconst 0, 1) := by decide +kernel
theorem dq_E_join_129 : decode prog_1_method_8_code 129 = .ok (.invokevirtual 111, 3) := by decide +kernel
theorem dq_E_join_132 : decode prog_1_method_8_code 132 = .ok (.lstore 11, 2) := by decide +kernel
theorem dq_E_join_134 : decode prog_1_method_8_code 134 = .ok (.iload 10, 2) := by decide +kernel
theorem dq_E_join_136 : decode prog_1_method_8_code 136 = .ok (.ifCond .eq 8, 3) := by decide +kernel
theorem dq_E_join_139 : decode prog_1_method_8_code 139 = .ok (.lload 5, 2) := by decide +kernel
theorem dq_E_join_141 : decode prog_1_method_8_code 141 = .ok (.goto 11, 3) := by decide +kernel
theorem dq_E_join_144 : decode prog_1_method_8_code 144 = .ok (.aload 7, 2) := by decide +kernel
theorem dq_E_join_146 : decode prog_1_method_8_code 146 = .ok (.lload 8, 2) := by decide +kernel
theorem dq_E_join_148 : decode prog_1_method_8_code 148 = .ok (.iconst 1, 1) := by decide +kernel
theorem dq_E_join_149 : decode prog_1_method_8_code 149 = .ok (.invokevirtual 111, 3) := by decide +kernel
theorem dq_E_join_152 : decode prog_1_method_8_code 152 = .ok (.lstore 13, 2) := by decide +kernel
theorem dq_E_join_154 : decode prog_1_method_8_code 154 = .ok (.aload_n 0, 1) := by decide +kernel
theorem dq_E_join_155 : decode prog_1_method_8_code 155 = .ok (.iload_n 1, 1) := by decide +kernel
theorem dq_E_join_156 : decode prog_1_method_8_code 156 = .ok (.aload 7, 2) := by decide +kernel
theorem dq_E_join_158 : decode prog_1_method_8_code 158 = .ok (.iconst 0, 1) := by decide +kernel
theorem dq_E_join_159 : decode prog_1_method_8_code 159 = .ok (.lload 11, 2) := by decide +kernel
theorem dq_E_join_161 : decode prog_1_method_8_code 161 = .ok (.invokevirtual 115, 3) := by decide +kernel
theorem dq_E_join_164 : decode prog_1_method_8_code 164 = .ok (.aload_n 0, 1) := by decide +kernel
theorem dq_E_join_165 : decode prog_1_method_8_code 165 = .ok (.iload_n 1, 1) := by decide +kernel
theorem dq_E_join_166 : decode prog_1_method_8_code 166 = .ok (.aload 7, 2) := by decide +kernel
theorem dq_E_join_168 : decode prog_1_method_8_code 168 = .ok (.iconst 1, 1) := by decide +kernel
theorem dq_E_join_169 : decode prog_1_method_8_code 169 = .ok (.lload 13, 2) := by decide +kernel
theorem dq_E_join_171 : decode prog_1_method_8_code 171 = .ok (.invokevirtual 115, 3) := by decide +kernel
theorem dq_E_join_174 : decode prog_1_method_8_code 174 = .ok (.aload 7, 2) := by decide +kernel
theorem dq_E_join_176 : decode prog_1_method_8_code 176 = .ok (.iload_n 1, 1) := by decide +kernel
theorem dq_E_join_177 : decode prog_1_method_8_code 177 = .ok (.lload 8, 2) := by decide +kernel
theorem dq_E_join_179 : decode prog_1_method_8_code 179 = .ok (.invokevirtual 119, 3) := by decide +kernel
theorem dq_E_join_182 : decode prog_1_method_8_code 182 = .ok (.lload 8, 2) := by decide +kernel
theorem dq_E_join_184 : decode prog_1_method_8_code 184 = .ok (.lreturn, 1) := by decide +kernel
def fE_join_152 (y0 : Nat) (y7 : Nat) (N : qz_N) (x1 : Int32) (x8 : Int64) (x11 : Int64) (s0 : Int64) : Option (Int64 × qz_N) :=
  (fE_bringIn y0 x1 y7 (0 : Int32) x11 N).bind fun q19 =>
  (fE_bringIn y0 x1 y7 (1 : Int32) s0 q19.2).bind fun q21 =>
  (fP_addShares y7 x1 x8 q21.2).bind fun q23 =>
  some (x8, q23.2)
def fE_join_132 (y0 : Nat) (y7 : Nat) (N : qz_N) (x1 : Int32) (x5 : Int64) (x8 : Int64) (x10 : Int32) (s0 : Int64) : Option (Int64 × qz_N) :=
  if x10 = 0 then
    (fP_costOf y7 x8 (1 : Int32) N).bind fun q17 =>
    fE_join_152 y0 y7 q17.2 x1 x8 s0 q17.1
  else
  fE_join_152 y0 y7 N x1 x8 s0 x5
def fE_join_113 (y0 : Nat) (y7 : Nat) (N : qz_N) (x1 : Int32) (x3 : Int64) (x5 : Int64) (x8 : Int64) (s0 : Int32) : Option (Int64 × qz_N) :=
  if s0 = 0 then
    (fP_costOf y7 x8 (0 : Int32) N).bind fun q15 =>
    fE_join_132 y0 y7 q15.2 x1 x5 x8 s0 q15.1
  else
  fE_join_132 y0 y7 N x1 x5 x8 s0 x3
def fE_join (o : Nat) (x1 : Int32) (x2 : Int32) (x3 : Int64) (x5 : Int64) (N : qz_N) : Option (Int64 × qz_N) :=
  (fE_poolAt o x2 N).bind fun q1 => qz_oc q1
    (fun N3 =>
    (fE_isPlayer x1 N3).bind fun q5 =>
    if q5.1 = 0 then
      some ((-2 : Int64), q5.2)
    else
    some ((-2 : Int64), q5.2))
    fun N3 j4 =>
    (fE_isPlayer x1 N3).bind fun q7 =>
    if q7.1 = 0 then
      some ((-2 : Int64), q7.2)
    else
    if x3 < (1 : Int64) then
      some ((-2 : Int64), q7.2)
    else
    if (1 : Int64) ≤ x5 then
      (fU_held o x1 (qz_gi q7.2 2 j4 1) q7.2).bind fun q9 =>
      if q9.1 < x3 then
        some ((-3 : Int64), q9.2)
      else
      (fU_held o x1 (qz_gi q9.2 2 j4 2) q9.2).bind fun q11 =>
      if x5 ≤ q11.1 then
        (fP_sharesFor j4 x3 x5 q11.2).bind fun q13 =>
        if q13.1 = (0 : Int64) then
          some ((-3 : Int64), q13.2)
        else
        if (qz_gl q13.2 2 j4 7) = (0 : Int64) then
          fE_join_113 o j4 q13.2 x1 x3 x5 q13.1 (1 : Int32)
        else
        fE_join_113 o j4 q13.2 x1 x3 x5 q13.1 (0 : Int32)
      else
      some ((-3 : Int64), q11.2)
    else
    some ((-2 : Int64), q7.2)
set_option maxRecDepth 100000 in
set_option maxHeartbeats 4000000 in
theorem sE_join_152 {p : Program} {l : Launch} {e : Env} {s : State} {m : MethodId} {args : Array Value} {below : List Frame} {meth : Method} {c : Code} {G : qz_G} (X : qz_X p s m args meth c "ExactCurves" prog_1_method_8_code 15 (some .long) G) {r : (Int64 × qz_N)} (y0 : Nat) (y7 : Nat) (hy0 : y0 < 1) (hy7 : y7 < 6) (N : qz_N) (x1 : Int32) (x8 : Int64) (x11 : Int64) (s0 : Int64) (h : fE_join_152 y0 y7 N x1 x8 x11 s0 = some r) : qz_W p l e (qz_R 4) s m args below meth c 0 0 (MQ below (qz_Q G r.2 (some (.long r.1))) args s 0 0 (qz_A G)) G s.heap 15 N 152 [(1, .int x1), (8, .long x8), (11, .long x11), (0, .ref (G.2.2 0 y0)), (7, .ref (G.2.2 2 y7))] [.long s0] := by
  unfold fE_join_152 at h
  refine qz_lstore X (lv' := [(13, .long s0), (1, .int x1), (8, .long x8), (11, .long x11), (0, .ref (G.2.2 0 y0)), (7, .ref (G.2.2 2 y7))]) (by decide) rfl dq_E_join_152 ?_
  refine qz_aload_n X 4 rfl dq_E_join_154 ?_
  refine qz_iload_n X 1 rfl dq_E_join_155 ?_
  refine qz_aload X 5 rfl dq_E_join_156 ?_
  refine qz_iconst X (v := (0 : Int32)) (by decide) dq_E_join_158 ?_
  refine qz_lload X 3 rfl dq_E_join_159 ?_
  refine qz_bind h (fun q19 e20 h => ?_)
  refine qz_callV X (as := [.int x1, .ref (G.2.2 2 y7), .int (0 : Int32), .long x11]) (st := []) (o := none) (N' := q19.2) cq_E_115 hy0 (cE_bringIn l G X.2.2.2.2.2.2.1 y0 x1 y7 (0 : Int32) x11 N hy0 hy7 _ e20) ⟨by decide, by decide⟩ rfl rfl (Nat.le_of_ble_eq_true rfl) ⟨Nat.zero_le _, Nat.zero_le _⟩ dq_E_join_161 ?_
  refine qz_aload_n X 4 rfl dq_E_join_164 ?_
  refine qz_iload_n X 1 rfl dq_E_join_165 ?_
  refine qz_aload X 5 rfl dq_E_join_166 ?_
  refine qz_iconst X (v := (1 : Int32)) (by decide) dq_E_join_168 ?_
  refine qz_lload X 0 rfl dq_E_join_169 ?_
  refine qz_bind h (fun q21 e22 h => ?_)
  refine qz_callV X (as := [.int x1, .ref (G.2.2 2 y7), .int (1 : Int32), .long s0]) (st := []) (o := none) (N' := q21.2) cq_E_115 hy0 (cE_bringIn l G X.2.2.2.2.2.2.1 y0 x1 y7 (1 : Int32) s0 q19.2 hy0 hy7 _ e22) ⟨by decide, by decide⟩ rfl rfl (Nat.le_of_ble_eq_true rfl) ⟨Nat.zero_le _, Nat.zero_le _⟩ dq_E_join_171 ?_
  refine qz_aload X 5 rfl dq_E_join_174 ?_
  refine qz_iload_n X 1 rfl dq_E_join_176 ?_
  refine qz_lload X 2 rfl dq_E_join_177 ?_
  refine qz_bind h (fun q23 e24 h => ?_)
  refine qz_callV X (as := [.int x1, .long x8]) (st := []) (o := none) (N' := q23.2) cq_E_119 hy7 (cP_addShares l G X.2.2.2.2.2.2.1 y7 x1 x8 q21.2 hy7 _ e24) ⟨by decide, by decide⟩ rfl rfl (Nat.le_of_ble_eq_true rfl) ⟨Nat.zero_le _, Nat.zero_le _⟩ dq_E_join_179 ?_
  refine qz_lload X 2 rfl dq_E_join_182 ?_
  exact qz_lret X h dq_E_join_184
set_option maxRecDepth 100000 in
set_option maxHeartbeats 4000000 in
theorem sE_join_132 {p : Program} {l : Launch} {e : Env} {s : State} {m : MethodId} {args : Array Value} {below : List Frame} {meth : Method} {c : Code} {G : qz_G} (X : qz_X p s m args meth c "ExactCurves" prog_1_method_8_code 15 (some .long) G) {r : (Int64 × qz_N)} (y0 : Nat) (y7 : Nat) (hy0 : y0 < 1) (hy7 : y7 < 6) (N : qz_N) (x1 : Int32) (x5 : Int64) (x8 : Int64) (x10 : Int32) (s0 : Int64) (h : fE_join_132 y0 y7 N x1 x5 x8 x10 s0 = some r) : qz_W p l e (qz_R 4) s m args below meth c 0 0 (MQ below (qz_Q G r.2 (some (.long r.1))) args s 0 0 (qz_A G)) G s.heap 15 N 132 [(1, .int x1), (5, .long x5), (8, .long x8), (10, .int x10), (0, .ref (G.2.2 0 y0)), (7, .ref (G.2.2 2 y7))] [.long s0] := by
  unfold fE_join_132 at h
  refine qz_lstore X (lv' := [(11, .long s0), (1, .int x1), (5, .long x5), (8, .long x8), (10, .int x10), (0, .ref (G.2.2 0 y0)), (7, .ref (G.2.2 2 y7))]) (by decide) rfl dq_E_join_132 ?_
  refine qz_iload X 4 rfl dq_E_join_134 ?_
  refine qz_if_eq X (tgt := 144) (by decide) dq_E_join_136 h (fun _ h => ?_) (fun _ h => ?_)
  · refine qz_aload X 6 rfl dq_E_join_144 ?_
    refine qz_lload X 3 rfl dq_E_join_146 ?_
    refine qz_iconst X (v := (1 : Int32)) (by decide) dq_E_join_148 ?_
    refine qz_bind h (fun q17 e18 h => ?_)
    refine qz_callV X (as := [.long x8, .int (1 : Int32)]) (st := []) (o := some (.long q17.1)) (N' := q17.2) cq_E_111 hy7 (cP_costOf l G X.2.2.2.2.2.2.1 y7 x8 (1 : Int32) N hy7 _ e18) ⟨by decide, by decide⟩ rfl rfl (Nat.le_of_ble_eq_true rfl) ⟨Nat.zero_le _, Nat.zero_le _⟩ dq_E_join_149 ?_
    refine qz_sub [1, 3, 0, 5, 6] rfl ?_
    exact sE_join_152 X y0 y7 hy0 hy7 q17.2 x1 x8 s0 q17.1 h
  · refine qz_lload X 2 rfl dq_E_join_139 ?_
    refine qz_goto X (tgt := 152) (by decide) dq_E_join_141 ?_
    refine qz_sub [1, 3, 0, 5, 6] rfl ?_
    exact sE_join_152 X y0 y7 hy0 hy7 N x1 x8 s0 x5 h
set_option maxRecDepth 100000 in
set_option maxHeartbeats 4000000 in
theorem sE_join_113 {p : Program} {l : Launch} {e : Env} {s : State} {m : MethodId} {args : Array Value} {below : List Frame} {meth : Method} {c : Code} {G : qz_G} (X : qz_X p s m args meth c "ExactCurves" prog_1_method_8_code 15 (some .long) G) {r : (Int64 × qz_N)} (y0 : Nat) (y7 : Nat) (hy0 : y0 < 1) (hy7 : y7 < 6) (N : qz_N) (x1 : Int32) (x3 : Int64) (x5 : Int64) (x8 : Int64) (s0 : Int32) (h : fE_join_113 y0 y7 N x1 x3 x5 x8 s0 = some r) : qz_W p l e (qz_R 4) s m args below meth c 0 0 (MQ below (qz_Q G r.2 (some (.long r.1))) args s 0 0 (qz_A G)) G s.heap 15 N 113 [(1, .int x1), (3, .long x3), (5, .long x5), (8, .long x8), (0, .ref (G.2.2 0 y0)), (7, .ref (G.2.2 2 y7))] [.int s0] := by
  unfold fE_join_113 at h
  refine qz_istore X (lv' := [(10, .int s0), (1, .int x1), (3, .long x3), (5, .long x5), (8, .long x8), (0, .ref (G.2.2 0 y0)), (7, .ref (G.2.2 2 y7))]) (by decide) rfl dq_E_join_113 ?_
  refine qz_iload X 0 rfl dq_E_join_115 ?_
  refine qz_if_eq X (tgt := 124) (by decide) dq_E_join_117 h (fun _ h => ?_) (fun _ h => ?_)
  · refine qz_aload X 6 rfl dq_E_join_124 ?_
    refine qz_lload X 4 rfl dq_E_join_126 ?_
    refine qz_iconst X (v := (0 : Int32)) (by decide) dq_E_join_128 ?_
    refine qz_bind h (fun q15 e16 h => ?_)
    refine qz_callV X (as := [.long x8, .int (0 : Int32)]) (st := []) (o := some (.long q15.1)) (N' := q15.2) cq_E_111 hy7 (cP_costOf l G X.2.2.2.2.2.2.1 y7 x8 (0 : Int32) N hy7 _ e16) ⟨by decide, by decide⟩ rfl rfl (Nat.le_of_ble_eq_true rfl) ⟨Nat.zero_le _, Nat.zero_le _⟩ dq_E_join_129 ?_
    refine qz_sub [1, 3, 4, 0, 5, 6] rfl ?_
    exact sE_join_132 X y0 y7 hy0 hy7 q15.2 x1 x5 x8 s0 q15.1 h
  · refine qz_lload_n X 2 rfl dq_E_join_120 ?_
    refine qz_goto X (tgt := 132) (by decide) dq_E_join_121 ?_
    refine qz_sub [1, 3, 4, 0, 5, 6] rfl ?_
    exact sE_join_132 X y0 y7 hy0 hy7 N x1 x5 x8 s0 x3 h
set_option maxRecDepth 100000 in
set_option maxHeartbeats 4000000 in
theorem sE_join {p : Program} {l : Launch} {e : Env} {s : State} {m : MethodId} {args : Array Value} {below : List Frame} {meth : Method} {c : Code} {G : qz_G} (X : qz_X p s m args meth c "ExactCurves" prog_1_method_8_code 15 (some .long) G) {r : (Int64 × qz_N)} (o : Nat) (x1 : Int32) (x2 : Int32) (x3 : Int64) (x5 : Int64) (ho : o < 1) (N : qz_N) (h : fE_join o x1 x2 x3 x5 N = some r) : qz_W p l e (qz_R 4) s m args below meth c 0 0 (MQ below (qz_Q G r.2 (some (.long r.1))) args s 0 0 (qz_A G)) G s.heap 15 N 0 [(0, .ref (G.2.2 0 o)), (1, .int x1), (2, .int x2), (3, .long x3), (5, .long x5)] [] := by
  unfold fE_join at h
  refine qz_aload_n X 0 rfl dq_E_join_0 ?_
  refine qz_iload_n X 2 rfl dq_E_join_1 ?_
  refine qz_bind h (fun q1 e2 h => ?_)
  obtain ⟨rq1, N3⟩ := q1
  cases rq1 with
  | none =>
    replace h := qz_ocN h
    refine qz_callV X (as := [.int x2]) (st := []) (o := some .null) (N' := N3) cq_E_95 ho (cE_poolAt l G X.2.2.2.2.2.2.1 o x2 N ho _ e2) ⟨by decide, by decide⟩ rfl rfl (Nat.le_of_ble_eq_true rfl) ⟨Nat.zero_le _, Nat.zero_le _⟩ dq_E_join_2 ?_
    refine qz_astoreN X (lv' := [(7, .null), (0, .ref (G.2.2 0 o)), (1, .int x1), (2, .int x2), (3, .long x3), (5, .long x5)]) (by decide) rfl dq_E_join_5 ?_
    refine qz_iload_n X 2 rfl dq_E_join_7 ?_
    refine qz_bind h (fun q5 e6 h => ?_)
    refine qz_callS X (as := [.int x1]) (st := []) (o := some (.int q5.1)) (N' := q5.2) cq_E_51 (cE_isPlayer l G X.2.2.2.2.2.2.1 x1 N3 _ e6) ⟨by decide, by decide⟩ rfl rfl (Nat.le_of_ble_eq_true rfl) ⟨Nat.zero_le _, Nat.zero_le _⟩ dq_E_join_8 ?_
    refine qz_if_eq X (tgt := 32) (by decide) dq_E_join_11 h (fun _ h => ?_) (fun _ h => ?_)
    · refine qz_ldc2 X (v := (-2 : Int64)) wq_252 dq_E_join_32 ?_
      exact qz_lret X h dq_E_join_35
    · refine qz_aloadN X 0 rfl dq_E_join_14 ?_
      refine qz_ifnullN X (tgt := 32) (by decide) dq_E_join_16 ?_
      refine qz_ldc2 X (v := (-2 : Int64)) wq_252 dq_E_join_32 ?_
      exact qz_lret X h dq_E_join_35
  | some j4 =>
    replace h := qz_ocS h
    refine qz_callV X (as := [.int x2]) (st := []) (o := some (.ref (G.2.2 2 j4))) (N' := N3) cq_E_95 ho (cE_poolAt l G X.2.2.2.2.2.2.1 o x2 N ho _ e2) ⟨by decide, by decide⟩ rfl rfl (Nat.le_of_ble_eq_true rfl) ⟨Nat.zero_le _, Nat.zero_le _⟩ dq_E_join_2 ?_
    refine qz_astore X (lv' := [(7, .ref (G.2.2 2 j4)), (0, .ref (G.2.2 0 o)), (1, .int x1), (2, .int x2), (3, .long x3), (5, .long x5)]) (by decide) rfl dq_E_join_5 ?_
    refine qz_iload_n X 2 rfl dq_E_join_7 ?_
    refine qz_bind h (fun q7 e8 h => ?_)
    refine qz_callS X (as := [.int x1]) (st := []) (o := some (.int q7.1)) (N' := q7.2) cq_E_51 (cE_isPlayer l G X.2.2.2.2.2.2.1 x1 N3 _ e8) ⟨by decide, by decide⟩ rfl rfl (Nat.le_of_ble_eq_true rfl) ⟨Nat.zero_le _, Nat.zero_le _⟩ dq_E_join_8 ?_
    refine qz_if_eq X (tgt := 32) (by decide) dq_E_join_11 h (fun _ h => ?_) (fun _ h => ?_)
    · refine qz_ldc2 X (v := (-2 : Int64)) wq_252 dq_E_join_32 ?_
      exact qz_lret X h dq_E_join_35
    · refine qz_aload X 0 rfl dq_E_join_14 ?_
      refine qz_ifnull X dq_E_join_16 ?_
      refine qz_lload_n X 4 rfl dq_E_join_19 ?_
      refine qz_lconst X (v := (1 : Int64)) (by decide) dq_E_join_20 ?_
      refine qz_lcmp_lt X (tgt := 32) (by decide) dq_E_join_21 dq_E_join_22 h (fun _ h => ?_) (fun _ h => ?_)
      · refine qz_ldc2 X (v := (-2 : Int64)) wq_252 dq_E_join_32 ?_
        exact qz_lret X h dq_E_join_35
      · refine qz_lload X 5 rfl dq_E_join_25 ?_
        refine qz_lconst X (v := (1 : Int64)) (by decide) dq_E_join_27 ?_
        refine qz_lcmp_ge X (tgt := 36) (by decide) dq_E_join_28 dq_E_join_29 h (fun _ h => ?_) (fun _ h => ?_)
        · refine qz_aload_n X 1 rfl dq_E_join_36 ?_
          refine qz_get X (v := .ref (G.2.2 1 o)) kq_E_10 ho rfl dq_E_join_37 ?_
          refine qz_iload_n X 2 rfl dq_E_join_40 ?_
          refine qz_aload X 0 rfl dq_E_join_41 ?_
          refine qz_get X (v := .int (qz_gi q7.2 2 j4 1)) kq_E_83 (vE_poolAt e2 j4 rfl) rfl dq_E_join_43 ?_
          refine qz_bind h (fun q9 e10 h => ?_)
          refine qz_callV X (as := [.int x1, .int (qz_gi q7.2 2 j4 1)]) (st := []) (o := some (.long q9.1)) (N' := q9.2) cq_E_72 ho (cU_held l G X.2.2.2.2.2.2.1 o x1 (qz_gi q7.2 2 j4 1) q7.2 ho _ e10) ⟨by decide, by decide⟩ rfl rfl (Nat.le_of_ble_eq_true rfl) ⟨Nat.zero_le _, Nat.zero_le _⟩ dq_E_join_46 ?_
          refine qz_lload_n X 4 rfl dq_E_join_49 ?_
          refine qz_lcmp_lt X (tgt := 73) (by decide) dq_E_join_50 dq_E_join_51 h (fun _ h => ?_) (fun _ h => ?_)
          · refine qz_ldc2 X (v := (-3 : Int64)) wq_253 dq_E_join_73 ?_
            exact qz_lret X h dq_E_join_76
          · refine qz_aload_n X 1 rfl dq_E_join_54 ?_
            refine qz_get X (v := .ref (G.2.2 1 o)) kq_E_10 ho rfl dq_E_join_55 ?_
            refine qz_iload_n X 2 rfl dq_E_join_58 ?_
            refine qz_aload X 0 rfl dq_E_join_59 ?_
            refine qz_get X (v := .int (qz_gi q9.2 2 j4 2)) kq_E_86 (vE_poolAt e2 j4 rfl) rfl dq_E_join_61 ?_
            refine qz_bind h (fun q11 e12 h => ?_)
            refine qz_callV X (as := [.int x1, .int (qz_gi q9.2 2 j4 2)]) (st := []) (o := some (.long q11.1)) (N' := q11.2) cq_E_72 ho (cU_held l G X.2.2.2.2.2.2.1 o x1 (qz_gi q9.2 2 j4 2) q9.2 ho _ e12) ⟨by decide, by decide⟩ rfl rfl (Nat.le_of_ble_eq_true rfl) ⟨Nat.zero_le _, Nat.zero_le _⟩ dq_E_join_64 ?_
            refine qz_lload X 5 rfl dq_E_join_67 ?_
            refine qz_lcmp_ge X (tgt := 77) (by decide) dq_E_join_69 dq_E_join_70 h (fun _ h => ?_) (fun _ h => ?_)
            · refine qz_aload X 0 rfl dq_E_join_77 ?_
              refine qz_lload_n X 4 rfl dq_E_join_79 ?_
              refine qz_lload X 5 rfl dq_E_join_80 ?_
              refine qz_bind h (fun q13 e14 h => ?_)
              refine qz_callV X (as := [.long x3, .long x5]) (st := []) (o := some (.long q13.1)) (N' := q13.2) cq_E_103 (vE_poolAt e2 j4 rfl) (cP_sharesFor l G X.2.2.2.2.2.2.1 j4 x3 x5 q11.2 (vE_poolAt e2 j4 rfl) _ e14) ⟨by decide, by decide⟩ rfl rfl (Nat.le_of_ble_eq_true rfl) ⟨Nat.zero_le _, Nat.zero_le _⟩ dq_E_join_82 ?_
              refine qz_lstore X (lv' := [(8, .long q13.1), (7, .ref (G.2.2 2 j4)), (0, .ref (G.2.2 0 o)), (1, .int x1), (2, .int x2), (3, .long x3), (5, .long x5)]) (by decide) rfl dq_E_join_85 ?_
              refine qz_lload X 0 rfl dq_E_join_87 ?_
              refine qz_lconst X (v := (0 : Int64)) (by decide) dq_E_join_89 ?_
              refine qz_lcmp_ne X (tgt := 98) (by decide) dq_E_join_90 dq_E_join_91 h (fun _ h => ?_) (fun _ h => ?_)
              · refine qz_aload X 1 rfl dq_E_join_98 ?_
                refine qz_get X (v := .long (qz_gl q13.2 2 j4 7)) kq_E_107 (vE_poolAt e2 j4 rfl) rfl dq_E_join_100 ?_
                refine qz_lconst X (v := (0 : Int64)) (by decide) dq_E_join_103 ?_
                refine qz_lcmp_ne X (tgt := 112) (by decide) dq_E_join_104 dq_E_join_105 h (fun _ h => ?_) (fun _ h => ?_)
                · refine qz_iconst X (v := (0 : Int32)) (by decide) dq_E_join_112 ?_
                  refine qz_sub [3, 5, 6, 0, 2, 1] rfl ?_
                  exact sE_join_113 X o j4 ho (vE_poolAt e2 j4 rfl) q13.2 x1 x3 x5 q13.1 (0 : Int32) h
                · refine qz_iconst X (v := (1 : Int32)) (by decide) dq_E_join_108 ?_
                  refine qz_goto X (tgt := 113) (by decide) dq_E_join_109 ?_
                  refine qz_sub [3, 5, 6, 0, 2, 1] rfl ?_
                  exact sE_join_113 X o j4 ho (vE_poolAt e2 j4 rfl) q13.2 x1 x3 x5 q13.1 (1 : Int32) h
              · refine qz_ldc2 X (v := (-3 : Int64)) wq_253 dq_E_join_94 ?_
                exact qz_lret X h dq_E_join_97
            · refine qz_ldc2 X (v := (-3 : Int64)) wq_253 dq_E_join_73 ?_
              exact qz_lret X h dq_E_join_76
        · refine qz_ldc2 X (v := (-2 : Int64)) wq_252 dq_E_join_32 ?_
          exact qz_lret X h dq_E_join_35
theorem cE_join (l : Launch) (G : qz_G) (hD : qz_D G) (o : Nat) (x1 : Int32) (x2 : Int32) (x3 : Int64) (x5 : Int64) (N : qz_N) (ho : o < 1) (r : (Int64 × qz_N)) (h : fE_join o x1 x2 x3 x5 N = some r) : qz_M l yE_join prog_1_method_8_code 15 (some .long) 4 G [.ref (G.2.2 0 o), .int x1, .int x2, .long x3, .long x5] N (some (.long r.1)) r.2 :=
  qz_enter (lv := [(0, .ref (G.2.2 0 o)), (1, .int x1), (2, .int x2), (3, .long x3), (5, .long x5)]) rfl hD (Nat.le_of_ble_eq_true rfl) rfl (fun p e s m args below meth c X => sE_join X o x1 x2 x3 x5 ho N h)
