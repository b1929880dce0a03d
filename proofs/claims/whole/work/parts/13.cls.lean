-- ExactCurves$Pool.payOf(JI)J
theorem dq_P_payOf_0 : decode prog_6_method_10_code 0 = .ok (.lload_n 1, 1) := by decide +kernel
theorem dq_P_payOf_1 : decode prog_6_method_10_code 1 = .ok (.aload_n 0, 1) := by decide +kernel
theorem dq_P_payOf_2 : decode prog_6_method_10_code 2 = .ok (.iload_n 3, 1) := by decide +kernel
theorem dq_P_payOf_3 : decode prog_6_method_10_code 3 = .ok (.invokevirtual 68, 3) := by decide +kernel
theorem dq_P_payOf_6 : decode prog_6_method_10_code 6 = .ok (.aload_n 0, 1) := by decide +kernel
theorem dq_P_payOf_7 : decode prog_6_method_10_code 7 = .ok (.getfield 29, 3) := by decide +kernel
theorem dq_P_payOf_10 : decode prog_6_method_10_code 10 = .ok (.invokestatic 64, 3) := by decide +kernel
theorem dq_P_payOf_13 : decode prog_6_method_10_code 13 = .ok (.lreturn, 1) := by decide +kernel
def fP_payOf (o : Nat) (x1 : Int64) (x3 : Int32) (N : qz_N) : Option (Int64 × qz_N) :=
  (fP_reserveAt o x3 N).bind fun q1 =>
  (fA_timesOver x1 q1.1 (qz_gl q1.2 2 o 7) q1.2).bind fun q3 =>
  some (q3.1, q3.2)
set_option maxRecDepth 100000 in
set_option maxHeartbeats 4000000 in
theorem sP_payOf {p : Program} {l : Launch} {e : Env} {s : State} {m : MethodId} {args : Array Value} {below : List Frame} {meth : Method} {c : Code} {G : qz_G} (X : qz_X p s m args meth c "ExactCurves$Pool" prog_6_method_10_code 4 (some .long) G) {r : (Int64 × qz_N)} (o : Nat) (x1 : Int64) (x3 : Int32) (ho : o < 6) (N : qz_N) (h : fP_payOf o x1 x3 N = some r) : qz_W p l e (qz_R 2) s m args below meth c 0 0 (MQ below (qz_Q G r.2 (some (.long r.1))) args s 0 0 (qz_A G)) G s.heap 4 N 0 [(0, .ref (G.2.2 2 o)), (1, .long x1), (3, .int x3)] [] := by
  unfold fP_payOf at h
  refine qz_lload_n X 1 rfl dq_P_payOf_0 ?_
  refine qz_aload_n X 0 rfl dq_P_payOf_1 ?_
  refine qz_iload_n X 2 rfl dq_P_payOf_2 ?_
  refine qz_bind h (fun q1 e2 h => ?_)
  refine qz_callV X (as := [.int x3]) (st := [.long x1]) (o := some (.long q1.1)) (N' := q1.2) cq_P_68 ho (cP_reserveAt l G X.2.2.2.2.2.2.1 o x3 N ho _ e2) ⟨by decide, by decide⟩ rfl rfl (Nat.le_of_ble_eq_true rfl) ⟨Nat.zero_le _, Nat.zero_le _⟩ dq_P_payOf_3 ?_
  refine qz_aload_n X 0 rfl dq_P_payOf_6 ?_
  refine qz_get X (v := .long (qz_gl q1.2 2 o 7)) kq_P_29 ho rfl dq_P_payOf_7 ?_
  refine qz_bind h (fun q3 e4 h => ?_)
  refine qz_callS X (as := [.long x1, .long q1.1, .long (qz_gl q1.2 2 o 7)]) (st := []) (o := some (.long q3.1)) (N' := q3.2) cq_P_64 (cA_timesOver l G X.2.2.2.2.2.2.1 x1 q1.1 (qz_gl q1.2 2 o 7) q1.2 _ e4) ⟨by decide, by decide⟩ rfl rfl (Nat.le_of_ble_eq_true rfl) ⟨Nat.zero_le _, Nat.zero_le _⟩ dq_P_payOf_10 ?_
  exact qz_lret X h dq_P_payOf_13
theorem cP_payOf (l : Launch) (G : qz_G) (hD : qz_D G) (o : Nat) (x1 : Int64) (x3 : Int32) (N : qz_N) (ho : o < 6) (r : (Int64 × qz_N)) (h : fP_payOf o x1 x3 N = some r) : qz_M l yP_payOf prog_6_method_10_code 4 (some .long) 2 G [.ref (G.2.2 2 o), .long x1, .int x3] N (some (.long r.1)) r.2 :=
  qz_enter (lv := [(0, .ref (G.2.2 2 o)), (1, .long x1), (3, .int x3)]) rfl hD (Nat.le_of_ble_eq_true rfl) rfl (fun p e s m args below meth c X => sP_payOf X o x1 x3 ho N h)
-- ExactCurves.takeOut(ILExactCurves$Pool;IJ)V
theorem dq_E_takeOut_0 : decode prog_1_method_34_code 0 = .ok (.aload_n 2, 1) := by decide +kernel
theorem dq_E_takeOut_1 : decode prog_1_method_34_code 1 = .ok (.iload_n 3, 1) := by decide +kernel
theorem dq_E_takeOut_2 : decode prog_1_method_34_code 2 = .ok (.lload 4, 2) := by decide +kernel
theorem dq_E_takeOut_4 : decode prog_1_method_34_code 4 = .ok (.lneg, 1) := by decide +kernel
theorem dq_E_takeOut_5 : decode prog_1_method_34_code 5 = .ok (.invokevirtual 330, 3) := by decide +kernel
theorem dq_E_takeOut_8 : decode prog_1_method_34_code 8 = .ok (.aload_n 0, 1) := by decide +kernel
theorem dq_E_takeOut_9 : decode prog_1_method_34_code 9 = .ok (.getfield 10, 3) := by decide +kernel
theorem dq_E_takeOut_12 : decode prog_1_method_34_code 12 = .ok (.iload_n 1, 1) := by decide +kernel
theorem dq_E_takeOut_13 : decode prog_1_method_34_code 13 = .ok (.aload_n 2, 1) := by decide +kernel
theorem dq_E_takeOut_14 : decode prog_1_method_34_code 14 = .ok (.iload_n 3, 1) := by decide +kernel
theorem dq_E_takeOut_15 : decode prog_1_method_34_code 15 = .ok (.invokevirtual 135, 3) := by decide +kernel
theorem dq_E_takeOut_18 : decode prog_1_method_34_code 18 = .ok (.lload 4, 2) := by decide +kernel
theorem dq_E_takeOut_20 : decode prog_1_method_34_code 20 = .ok (.invokevirtual 68, 3) := by decide +kernel
theorem dq_E_takeOut_23 : decode prog_1_method_34_code 23 = .ok (.return_, 1) := by decide +kernel
def fE_takeOut (o : Nat) (x1 : Int32) (x2 : Nat) (x3 : Int32) (x4 : Int64) (N : qz_N) : Option (Unit × qz_N) :=
  (fP_addReserve x2 x3 (-x4) N).bind fun q1 =>
  (fP_tokenAt x2 x3 q1.2).bind fun q3 =>
  (fU_give o x1 q3.1 x4 q3.2).bind fun q5 =>
  some ((), q5.2)
set_option maxRecDepth 100000 in
set_option maxHeartbeats 4000000 in
theorem sE_takeOut {p : Program} {l : Launch} {e : Env} {s : State} {m : MethodId} {args : Array Value} {below : List Frame} {meth : Method} {c : Code} {G : qz_G} (X : qz_X p s m args meth c "ExactCurves" prog_1_method_34_code 6 none G) {r : (Unit × qz_N)} (o : Nat) (x1 : Int32) (x2 : Nat) (x3 : Int32) (x4 : Int64) (ho : o < 1) (hx2 : x2 < 6) (N : qz_N) (h : fE_takeOut o x1 x2 x3 x4 N = some r) : qz_W p l e (qz_R 1) s m args below meth c 0 0 (MQ below (qz_Q G r.2 none) args s 0 0 (qz_A G)) G s.heap 6 N 0 [(0, .ref (G.2.2 0 o)), (1, .int x1), (2, .ref (G.2.2 2 x2)), (3, .int x3), (4, .long x4)] [] := by
  unfold fE_takeOut at h
  refine qz_aload_n X 2 rfl dq_E_takeOut_0 ?_
  refine qz_iload_n X 3 rfl dq_E_takeOut_1 ?_
  refine qz_lload X 4 rfl dq_E_takeOut_2 ?_
  refine qz_lneg X dq_E_takeOut_4 ?_
  refine qz_bind h (fun q1 e2 h => ?_)
  refine qz_callV X (as := [.int x3, .long (-x4)]) (st := []) (o := none) (N' := q1.2) cq_E_330 hx2 (cP_addReserve l G X.2.2.2.2.2.2.1 x2 x3 (-x4) N hx2 _ e2) ⟨by decide, by decide⟩ rfl rfl (Nat.le_of_ble_eq_true rfl) ⟨Nat.zero_le _, Nat.zero_le _⟩ dq_E_takeOut_5 ?_
  refine qz_aload_n X 0 rfl dq_E_takeOut_8 ?_
  refine qz_get X (v := .ref (G.2.2 1 o)) kq_E_10 ho rfl dq_E_takeOut_9 ?_
  refine qz_iload_n X 1 rfl dq_E_takeOut_12 ?_
  refine qz_aload_n X 2 rfl dq_E_takeOut_13 ?_
  refine qz_iload_n X 3 rfl dq_E_takeOut_14 ?_
  refine qz_bind h (fun q3 e4 h => ?_)
  refine qz_callV X (as := [.int x3]) (st := [.int x1, .ref (G.2.2 1 o)]) (o := some (.int q3.1)) (N' := q3.2) cq_E_135 hx2 (cP_tokenAt l G X.2.2.2.2.2.2.1 x2 x3 q1.2 hx2 _ e4) ⟨by decide, by decide⟩ rfl rfl (Nat.le_of_ble_eq_true rfl) ⟨Nat.zero_le _, Nat.zero_le _⟩ dq_E_takeOut_15 ?_
  refine qz_lload X 4 rfl dq_E_takeOut_18 ?_
  refine qz_bind h (fun q5 e6 h => ?_)
  refine qz_callV X (as := [.int x1, .int q3.1, .long x4]) (st := []) (o := none) (N' := q5.2) cq_E_68 ho (cU_give l G X.2.2.2.2.2.2.1 o x1 q3.1 x4 q3.2 ho _ e6) ⟨by decide, by decide⟩ rfl rfl (Nat.le_of_ble_eq_true rfl) ⟨Nat.zero_le _, Nat.zero_le _⟩ dq_E_takeOut_20 ?_
  exact qz_vret X h dq_E_takeOut_23
theorem cE_takeOut (l : Launch) (G : qz_G) (hD : qz_D G) (o : Nat) (x1 : Int32) (x2 : Nat) (x3 : Int32) (x4 : Int64) (N : qz_N) (ho : o < 1) (hx2 : x2 < 6) (r : (Unit × qz_N)) (h : fE_takeOut o x1 x2 x3 x4 N = some r) : qz_M l yE_takeOut prog_1_method_34_code 6 none 1 G [.ref (G.2.2 0 o), .int x1, .ref (G.2.2 2 x2), .int x3, .long x4] N none r.2 :=
  qz_enter (lv := [(0, .ref (G.2.2 0 o)), (1, .int x1), (2, .ref (G.2.2 2 x2)), (3, .int x3), (4, .long x4)]) rfl hD (Nat.le_of_ble_eq_true rfl) rfl (fun p e s m args below meth c X => sE_takeOut X o x1 x2 x3 x4 ho hx2 N h)
-- ExactCurves.leave(IIJ)J
theorem dq_E_leave_0 : decode prog_1_method_9_code 0 = .ok (.aload_n 0, 1) := by decide +kernel
theorem dq_E_leave_1 : decode prog_1_method_9_code 1 = .ok (.iload_n 2, 1) := by decide +kernel
theorem dq_E_leave_2 : decode prog_1_method_9_code 2 = .ok (.invokevirtual 95, 3) := by decide +kernel
theorem dq_E_leave_5 : decode prog_1_method_9_code 5 = .ok (.astore 5, 2) := by decide +kernel
theorem dq_E_leave_7 : decode prog_1_method_9_code 7 = .ok (.iload_n 1, 1) := by decide +kernel
theorem dq_E_leave_8 : decode prog_1_method_9_code 8 = .ok (.invokestatic 51, 3) := by decide +kernel
theorem dq_E_leave_11 : decode prog_1_method_9_code 11 = .ok (.ifCond .eq 14, 3) := by decide +kernel
theorem dq_E_leave_14 : decode prog_1_method_9_code 14 = .ok (.aload 5, 2) := by decide +kernel
theorem dq_E_leave_16 : decode prog_1_method_9_code 16 = .ok (.ifnull 9, 3) := by decide +kernel
theorem dq_E_leave_19 : decode prog_1_method_9_code 19 = .ok (.lload_n 3, 1) := by decide +kernel
theorem dq_E_leave_20 : decode prog_1_method_9_code 20 = .ok (.lconst 1, 1) := by decide +kernel
theorem dq_E_leave_21 : decode prog_1_method_9_code 21 = .ok (.lcmp, 1) := by decide +kernel
theorem dq_E_leave_22 : decode prog_1_method_9_code 22 = .ok (.ifCond .ge 7, 3) := by decide +kernel
theorem dq_E_leave_25 : decode prog_1_method_9_code 25 = .ok (.ldc2_w 60, 3) := by decide +kernel
theorem dq_E_leave_28 : decode prog_1_method_9_code 28 = .ok (.lreturn, 1) := by decide +kernel
theorem dq_E_leave_29 : decode prog_1_method_9_code 29 = .ok (.aload 5, 2) := by decide +kernel
theorem dq_E_leave_31 : decode prog_1_method_9_code 31 = .ok (.getfield 123, 3) := by decide +kernel
theorem dq_E_leave_34 : decode prog_1_method_9_code 34 = .ok (.iload_n 1, 1) := by decide +kernel
theorem dq_E_leave_35 : decode prog_1_method_9_code 35 = .ok (.laload, 1) := by decide +kernel
theorem dq_E_leave_36 : decode prog_1_method_9_code 36 = .ok (.lload_n 3, 1) := by decide +kernel
theorem dq_E_leave_37 : decode prog_1_method_9_code 37 = .ok (.lcmp, 1) := by decide +kernel
theorem dq_E_leave_38 : decode prog_1_method_9_code 38 = .ok (.ifCond .ge 7, 3) := by decide +kernel
theorem dq_E_leave_41 : decode prog_1_method_9_code 41 = .ok (.ldc2_w 66, 3) := by decide +kernel
theorem dq_E_leave_44 : decode prog_1_method_9_code 44 = .ok (.lreturn, 1) := by decide +kernel
theorem dq_E_leave_45 : decode prog_1_method_9_code 45 = .ok (.aload 5, 2) := by decide +kernel
theorem dq_E_leave_47 : decode prog_1_method_9_code 47 = .ok (.lload_n 3, 1) := by decide +kernel
theorem dq_E_leave_48 : decode prog_1_method_9_code 48 = .ok (.iconst 0, 1) := by decide +kernel
theorem dq_E_leave_49 : decode prog_1_method_9_code 49 = .ok (.invokevirtual 126, 3) := by decide +kernel
theorem dq_E_leave_52 : decode prog_1_method_9_code 52 = .ok (.lstore 6, 2) := by decide +kernel
theorem dq_E_leave_54 : decode prog_1_method_9_code 54 = .ok (.aload 5, 2) := by decide +kernel
theorem dq_E_leave_56 : decode prog_1_method_9_code 56 = .ok (.lload_n 3, 1) := by decide +kernel
theorem dq_E_leave_57 : decode prog_1_method_9_code 57 = .ok (.iconst 1, 1) := by decide +kernel
theorem dq_E_leave_58 : decode prog_1_method_9_code 58 = .ok (.invokevirtual 126, 3) := by decide +kernel
theorem dq_E_leave_61 : decode prog_1_method_9_code 61 = .ok (.lstore 8, 2) := by decide +kernel
theorem dq_E_leave_63 : decode prog_1_method_9_code 63 = .ok (.aload_n 0, 1) := by decide +kernel
theorem dq_E_leave_64 : decode prog_1_method_9_code 64 = .ok (.iload_n 1, 1) := by decide +kernel
theorem dq_E_leave_65 : decode prog_1_method_9_code 65 = .ok (.aload 5, 2) := by decide +kernel
theorem dq_E_leave_67 : decode prog_1_method_9_code 67 = .ok (.iconst 0, 1) := by decide +kernel
theorem dq_E_leave_68 : decode prog_1_method_9_code 68 = .ok (.lload 6, 2) := by decide +kernel
theorem dq_E_leave_70 : decode prog_1_method_9_code 70 = .ok (.invokevirtual 129, 3) := by decide +kernel
theorem dq_E_leave_73 : decode prog_1_method_9_code 73 = .ok (.aload_n 0, 1) := by decide +kernel
theorem dq_E_leave_74 : decode prog_1_method_9_code 74 = .ok (.iload_n 1, 1) := by decide +kernel
theorem dq_E_leave_75 : decode prog_1_method_9_code 75 = .ok (.aload 5, 2) := by decide +kernel
theorem dq_E_leave_77 : decode prog_1_method_9_code 77 = .ok (.iconst 1, 1) := by decide +kernel
theorem dq_E_leave_78 : decode prog_1_method_9_code 78 = .ok (.lload 8, 2) := by decide +kernel
theorem dq_E_leave_80 : decode prog_1_method_9_code 80 = .ok (.invokevirtual 129, 3) := by decide +kernel
theorem dq_E_leave_83 : decode prog_1_method_9_code 83 = .ok (.aload 5, 2) := by decide +kernel
theorem dq_E_leave_85 : decode prog_1_method_9_code 85 = .ok (.iload_n 1, 1) := by decide +kernel
theorem dq_E_leave_86 : decode prog_1_method_9_code 86 = .ok (.lload_n 3, 1) := by decide +kernel
theorem dq_E_leave_87 : decode prog_1_method_9_code 87 = .ok (.lneg, 1) := by decide +kernel
theorem dq_E_leave_88 : decode prog_1_method_9_code 88 = .ok (.invokevirtual 119, 3) := by decide +kernel
theorem dq_E_leave_91 : decode prog_1_method_9_code 91 = .ok (.lload 6, 2) := by decide +kernel
theorem dq_E_leave_93 : decode prog_1_method_9_code 93 = .ok (.lreturn, 1) := by decide +kernel
def fE_leave (o : Nat) (x1 : Int32) (x2 : Int32) (x3 : Int64) (N : qz_N) : Option (Int64 × qz_N) :=
  (fE_poolAt o x2 N).bind fun q1 => qz_oc q1
    (fun N3 =>
    (fE_isPlayer x1 N3).bind fun q5 =>
    if q5.1 = 0 then
      some ((-2 : Int64), q5.2)
    else
    some ((-2 : Int64), q5.2))
    fun N3 j4 =>
    (fE_isPlayer x1 N3).bind fun q7 =>
    if q7.1 = 0 then
      some ((-2 : Int64), q7.2)
    else
    if (1 : Int64) ≤ x3 then
      if x1 < 0 ∨ 6 ≤ x1.toNatClampNeg then none else
      if x3 ≤ (qz_gl q7.2 15 j4 x1.toNatClampNeg) then
        (fP_payOf j4 x3 (0 : Int32) q7.2).bind fun q9 =>
        (fP_payOf j4 x3 (1 : Int32) q9.2).bind fun q11 =>
        (fE_takeOut o x1 j4 (0 : Int32) q9.1 q11.2).bind fun q13 =>
        (fE_takeOut o x1 j4 (1 : Int32) q11.1 q13.2).bind fun q15 =>
        (fP_addShares j4 x1 (-x3) q15.2).bind fun q17 =>
        some (q9.1, q17.2)
      else
      some ((-3 : Int64), q7.2)
    else
    some ((-2 : Int64), q7.2)
set_option maxRecDepth 100000 in
set_option maxHeartbeats 4000000 in
theorem sE_leave {p : Program} {l : Launch} {e : Env} {s : State} {m : MethodId} {args : Array Value} {below : List Frame} {meth : Method} {c : Code} {G : qz_G} (X : qz_X p s m args meth c "ExactCurves" prog_1_method_9_code 10 (some .long) G) {r : (Int64 × qz_N)} (o : Nat) (x1 : Int32) (x2 : Int32) (x3 : Int64) (ho : o < 1) (N : qz_N) (h : fE_leave o x1 x2 x3 N = some r) : qz_W p l e (qz_R 3) s m args below meth c 0 0 (MQ below (qz_Q G r.2 (some (.long r.1))) args s 0 0 (qz_A G)) G s.heap 10 N 0 [(0, .ref (G.2.2 0 o)), (1, .int x1), (2, .int x2), (3, .long x3)] [] := by
  unfold fE_leave at h
  refine qz_aload_n X 0 rfl dq_E_leave_0 ?_
  refine qz_iload_n X 2 rfl dq_E_leave_1 ?_
  refine qz_bind h (fun q1 e2 h => ?_)
  obtain ⟨rq1, N3⟩ := q1
  cases rq1 with
  | none =>
    replace h := qz_ocN h
    refine qz_callV X (as := [.int x2]) (st := []) (o := some .null) (N' := N3) cq_E_95 ho (cE_poolAt l G X.2.2.2.2.2.2.1 o x2 N ho _ e2) ⟨by decide, by decide⟩ rfl rfl (Nat.le_of_ble_eq_true rfl) ⟨Nat.zero_le _, Nat.zero_le _⟩ dq_E_leave_2 ?_
    refine qz_astoreN X (lv' := [(5, .null), (0, .ref (G.2.2 0 o)), (1, .int x1), (2, .int x2), (3, .long x3)]) (by decide) rfl dq_E_leave_5 ?_
    refine qz_iload_n X 2 rfl dq_E_leave_7 ?_
    refine qz_bind h (fun q5 e6 h => ?_)
    refine qz_callS X (as := [.int x1]) (st := []) (o := some (.int q5.1)) (N' := q5.2) cq_E_51 (cE_isPlayer l G X.2.2.2.2.2.2.1 x1 N3 _ e6) ⟨by decide, by decide⟩ rfl rfl (Nat.le_of_ble_eq_true rfl) ⟨Nat.zero_le _, Nat.zero_le _⟩ dq_E_leave_8 ?_
    refine qz_if_eq X (tgt := 25) (by decide) dq_E_leave_11 h (fun _ h => ?_) (fun _ h => ?_)
    · refine qz_ldc2 X (v := (-2 : Int64)) wq_252 dq_E_leave_25 ?_
      exact qz_lret X h dq_E_leave_28
    · refine qz_aloadN X 0 rfl dq_E_leave_14 ?_
      refine qz_ifnullN X (tgt := 25) (by decide) dq_E_leave_16 ?_
      refine qz_ldc2 X (v := (-2 : Int64)) wq_252 dq_E_leave_25 ?_
      exact qz_lret X h dq_E_leave_28
  | some j4 =>
    replace h := qz_ocS h
    refine qz_callV X (as := [.int x2]) (st := []) (o := some (.ref (G.2.2 2 j4))) (N' := N3) cq_E_95 ho (cE_poolAt l G X.2.2.2.2.2.2.1 o x2 N ho _ e2) ⟨by decide, by decide⟩ rfl rfl (Nat.le_of_ble_eq_true rfl) ⟨Nat.zero_le _, Nat.zero_le _⟩ dq_E_leave_2 ?_
    refine qz_astore X (lv' := [(5, .ref (G.2.2 2 j4)), (0, .ref (G.2.2 0 o)), (1, .int x1), (2, .int x2), (3, .long x3)]) (by decide) rfl dq_E_leave_5 ?_
    refine qz_iload_n X 2 rfl dq_E_leave_7 ?_
    refine qz_bind h (fun q7 e8 h => ?_)
    refine qz_callS X (as := [.int x1]) (st := []) (o := some (.int q7.1)) (N' := q7.2) cq_E_51 (cE_isPlayer l G X.2.2.2.2.2.2.1 x1 N3 _ e8) ⟨by decide, by decide⟩ rfl rfl (Nat.le_of_ble_eq_true rfl) ⟨Nat.zero_le _, Nat.zero_le _⟩ dq_E_leave_8 ?_
    refine qz_if_eq X (tgt := 25) (by decide) dq_E_leave_11 h (fun _ h => ?_) (fun _ h => ?_)
    · refine qz_ldc2 X (v := (-2 : Int64)) wq_252 dq_E_leave_25 ?_
      exact qz_lret X h dq_E_leave_28
    · refine qz_aload X 0 rfl dq_E_leave_14 ?_
      refine qz_ifnull X dq_E_leave_16 ?_
      refine qz_lload_n X 4 rfl dq_E_leave_19 ?_
      refine qz_lconst X (v := (1 : Int64)) (by decide) dq_E_leave_20 ?_
      refine qz_lcmp_ge X (tgt := 29) (by decide) dq_E_leave_21 dq_E_leave_22 h (fun _ h => ?_) (fun _ h => ?_)
      · refine qz_aload X 0 rfl dq_E_leave_29 ?_
        refine qz_get X (v := .ref (G.2.2 15 j4)) kq_E_123 (vE_poolAt e2 j4 rfl) rfl dq_E_leave_31 ?_
        refine qz_iload_n X 2 rfl dq_E_leave_34 ?_
        refine qz_lald X (c0 := 15) (i := j4) (n := 6) rfl (vE_poolAt e2 j4 rfl) dq_E_leave_35 h (fun h => ?_)
        refine qz_lload_n X 4 rfl dq_E_leave_36 ?_
        refine qz_lcmp_ge X (tgt := 45) (by decide) dq_E_leave_37 dq_E_leave_38 h (fun _ h => ?_) (fun _ h => ?_)
        · refine qz_aload X 0 rfl dq_E_leave_45 ?_
          refine qz_lload_n X 4 rfl dq_E_leave_47 ?_
          refine qz_iconst X (v := (0 : Int32)) (by decide) dq_E_leave_48 ?_
          refine qz_bind h (fun q9 e10 h => ?_)
          refine qz_callV X (as := [.long x3, .int (0 : Int32)]) (st := []) (o := some (.long q9.1)) (N' := q9.2) cq_E_126 (vE_poolAt e2 j4 rfl) (cP_payOf l G X.2.2.2.2.2.2.1 j4 x3 (0 : Int32) q7.2 (vE_poolAt e2 j4 rfl) _ e10) ⟨by decide, by decide⟩ rfl rfl (Nat.le_of_ble_eq_true rfl) ⟨Nat.zero_le _, Nat.zero_le _⟩ dq_E_leave_49 ?_
          refine qz_lstore X (lv' := [(6, .long q9.1), (5, .ref (G.2.2 2 j4)), (0, .ref (G.2.2 0 o)), (1, .int x1), (2, .int x2), (3, .long x3)]) (by decide) rfl dq_E_leave_52 ?_
          refine qz_aload X 1 rfl dq_E_leave_54 ?_
          refine qz_lload_n X 5 rfl dq_E_leave_56 ?_
          refine qz_iconst X (v := (1 : Int32)) (by decide) dq_E_leave_57 ?_
          refine qz_bind h (fun q11 e12 h => ?_)
          refine qz_callV X (as := [.long x3, .int (1 : Int32)]) (st := []) (o := some (.long q11.1)) (N' := q11.2) cq_E_126 (vE_poolAt e2 j4 rfl) (cP_payOf l G X.2.2.2.2.2.2.1 j4 x3 (1 : Int32) q9.2 (vE_poolAt e2 j4 rfl) _ e12) ⟨by decide, by decide⟩ rfl rfl (Nat.le_of_ble_eq_true rfl) ⟨Nat.zero_le _, Nat.zero_le _⟩ dq_E_leave_58 ?_
          refine qz_lstore X (lv' := [(8, .long q11.1), (6, .long q9.1), (5, .ref (G.2.2 2 j4)), (0, .ref (G.2.2 0 o)), (1, .int x1), (2, .int x2), (3, .long x3)]) (by decide) rfl dq_E_leave_61 ?_
          refine qz_aload_n X 3 rfl dq_E_leave_63 ?_
          refine qz_iload_n X 4 rfl dq_E_leave_64 ?_
          refine qz_aload X 2 rfl dq_E_leave_65 ?_
          refine qz_iconst X (v := (0 : Int32)) (by decide) dq_E_leave_67 ?_
          refine qz_lload X 1 rfl dq_E_leave_68 ?_
          refine qz_bind h (fun q13 e14 h => ?_)
          refine qz_callV X (as := [.int x1, .ref (G.2.2 2 j4), .int (0 : Int32), .long q9.1]) (st := []) (o := none) (N' := q13.2) cq_E_129 ho (cE_takeOut l G X.2.2.2.2.2.2.1 o x1 j4 (0 : Int32) q9.1 q11.2 ho (vE_poolAt e2 j4 rfl) _ e14) ⟨by decide, by decide⟩ rfl rfl (Nat.le_of_ble_eq_true rfl) ⟨Nat.zero_le _, Nat.zero_le _⟩ dq_E_leave_70 ?_
          refine qz_aload_n X 3 rfl dq_E_leave_73 ?_
          refine qz_iload_n X 4 rfl dq_E_leave_74 ?_
          refine qz_aload X 2 rfl dq_E_leave_75 ?_
          refine qz_iconst X (v := (1 : Int32)) (by decide) dq_E_leave_77 ?_
          refine qz_lload X 0 rfl dq_E_leave_78 ?_
          refine qz_bind h (fun q15 e16 h => ?_)
          refine qz_callV X (as := [.int x1, .ref (G.2.2 2 j4), .int (1 : Int32), .long q11.1]) (st := []) (o := none) (N' := q15.2) cq_E_129 ho (cE_takeOut l G X.2.2.2.2.2.2.1 o x1 j4 (1 : Int32) q11.1 q13.2 ho (vE_poolAt e2 j4 rfl) _ e16) ⟨by decide, by decide⟩ rfl rfl (Nat.le_of_ble_eq_true rfl) ⟨Nat.zero_le _, Nat.zero_le _⟩ dq_E_leave_80 ?_
          refine qz_aload X 2 rfl dq_E_leave_83 ?_
          refine qz_iload_n X 4 rfl dq_E_leave_85 ?_
          refine qz_lload_n X 6 rfl dq_E_leave_86 ?_
          refine qz_lneg X dq_E_leave_87 ?_
          refine qz_bind h (fun q17 e18 h => ?_)
          refine qz_callV X (as := [.int x1, .long (-x3)]) (st := []) (o := none) (N' := q17.2) cq_E_119 (vE_poolAt e2 j4 rfl) (cP_addShares l G X.2.2.2.2.2.2.1 j4 x1 (-x3) q15.2 (vE_poolAt e2 j4 rfl) _ e18) ⟨by decide, by decide⟩ rfl rfl (Nat.le_of_ble_eq_true rfl) ⟨Nat.zero_le _, Nat.zero_le _⟩ dq_E_leave_88 ?_
          refine qz_lload X 1 rfl dq_E_leave_91 ?_
          exact qz_lret X h dq_E_leave_93
        · refine qz_ldc2 X (v := (-3 : Int64)) wq_253 dq_E_leave_41 ?_
          exact qz_lret X h dq_E_leave_44
      · refine qz_ldc2 X (v := (-2 : Int64)) wq_252 dq_E_leave_25 ?_
        exact qz_lret X h dq_E_leave_28
theorem cE_leave (l : Launch) (G : qz_G) (hD : qz_D G) (o : Nat) (x1 : Int32) (x2 : Int32) (x3 : Int64) (N : qz_N) (ho : o < 1) (r : (Int64 × qz_N)) (h : fE_leave o x1 x2 x3 N = some r) : qz_M l yE_leave prog_1_method_9_code 10 (some .long) 3 G [.ref (G.2.2 0 o), .int x1, .int x2, .long x3] N (some (.long r.1)) r.2 :=
  qz_enter (lv := [(0, .ref (G.2.2 0 o)), (1, .int x1), (2, .int x2), (3, .long x3)]) rfl hD (Nat.le_of_ble_eq_true rfl) rfl (fun p e s m args below meth c X => sE_leave X o x1 x2 x3 ho N h)
-- ExactCurves.isSide(I)Z
theorem dq_E_isSide_0 : decode prog_1_method_31_code 0 = .ok (.iload_n 0, 1) := by decide +kernel
theorem dq_E_isSide_1 : decode prog_1_method_31_code 1 = .ok (.ifCond .eq 8, 3) := by decide +kernel
theorem dq_E_isSide_4 : decode prog_1_method_31_code 4 = .ok (.iload_n 0, 1) := by decide +kernel
theorem dq_E_isSide_5 : decode prog_1_method_31_code 5 = .ok (.iconst 1, 1) := by decide +kernel
theorem dq_E_isSide_6 : decode prog_1_method_31_code 6 = .ok (.if_icmp .ne 7, 3) := by decide +kernel
theorem dq_E_isSide_9 : decode prog_1_method_31_code 9 = .ok (.iconst 1, 1) := by decide +kernel
theorem dq_E_isSide_10 : decode prog_1_method_31_code 10 = .ok (.goto 4, 3) := by decide +kernel
theorem dq_E_isSide_13 : decode prog_1_method_31_code 13 = .ok (.iconst 0, 1) := by decide +kernel
theorem dq_E_isSide_14 : decode prog_1_method_31_code 14 = .ok (.ireturn, 1) := by decide +kernel
def fE_isSide_9 (N : qz_N) : Option (Int32 × qz_N) :=
  some ((1 : Int32), N)
def fE_isSide (x0 : Int32) (N : qz_N) : Option (Int32 × qz_N) :=
  if x0 = 0 then
    fE_isSide_9 N
  else
  if x0 = (1 : Int32) then
    fE_isSide_9 N
  else
  some ((0 : Int32), N)
set_option maxRecDepth 100000 in
set_option maxHeartbeats 4000000 in
theorem sE_isSide_9 {p : Program} {l : Launch} {e : Env} {s : State} {m : MethodId} {args : Array Value} {below : List Frame} {meth : Method} {c : Code} {G : qz_G} (X : qz_X p s m args meth c "ExactCurves" prog_1_method_31_code 1 (some .boolean) G) {r : (Int32 × qz_N)} (N : qz_N) (h : fE_isSide_9 N = some r) : qz_W p l e (qz_R 0) s m args below meth c 0 0 (MQ below (qz_Q G r.2 (some (.int r.1))) args s 0 0 (qz_A G)) G s.heap 1 N 9 [] [] := by
  unfold fE_isSide_9 at h
  refine qz_iconst X (v := (1 : Int32)) (by decide) dq_E_isSide_9 ?_
  refine qz_goto X (tgt := 14) (by decide) dq_E_isSide_10 ?_
  exact qz_zret X (by decide) h dq_E_isSide_14
set_option maxRecDepth 100000 in
set_option maxHeartbeats 4000000 in
theorem sE_isSide {p : Program} {l : Launch} {e : Env} {s : State} {m : MethodId} {args : Array Value} {below : List Frame} {meth : Method} {c : Code} {G : qz_G} (X : qz_X p s m args meth c "ExactCurves" prog_1_method_31_code 1 (some .boolean) G) {r : (Int32 × qz_N)} (x0 : Int32) (N : qz_N) (h : fE_isSide x0 N = some r) : qz_W p l e (qz_R 0) s m args below meth c 0 0 (MQ below (qz_Q G r.2 (some (.int r.1))) args s 0 0 (qz_A G)) G s.heap 1 N 0 [(0, .int x0)] [] := by
  unfold fE_isSide at h
  refine qz_iload_n X 0 rfl dq_E_isSide_0 ?_
  refine qz_if_eq X (tgt := 9) (by decide) dq_E_isSide_1 h (fun _ h => ?_) (fun _ h => ?_)
  · refine qz_sub [] rfl ?_
    exact sE_isSide_9 X N h
  · refine qz_iload_n X 0 rfl dq_E_isSide_4 ?_
    refine qz_iconst X (v := (1 : Int32)) (by decide) dq_E_isSide_5 ?_
    refine qz_icmp_ne X (tgt := 13) (by decide) dq_E_isSide_6 h (fun _ h => ?_) (fun _ h => ?_)
    · refine qz_iconst X (v := (0 : Int32)) (by decide) dq_E_isSide_13 ?_
      exact qz_zret X (by decide) h dq_E_isSide_14
    · refine qz_sub [] rfl ?_
      exact sE_isSide_9 X N h
theorem cE_isSide (l : Launch) (G : qz_G) (hD : qz_D G) (x0 : Int32) (N : qz_N) (r : (Int32 × qz_N)) (h : fE_isSide x0 N = some r) : qz_M l yE_isSide prog_1_method_31_code 1 (some .boolean) 0 G [.int x0] N (some (.int r.1)) r.2 :=
  qz_enter (lv := [(0, .int x0)]) rfl hD (Nat.le_of_ble_eq_true rfl) rfl (fun p e s m args below meth c X => sE_isSide X x0 N h)
-- ExactCurves$Pool.outputOf(IJ)J
theorem dq_P_outputOf_0 : decode prog_6_method_11_code 0 = .ok (.aload_n 0, 1) := by decide +kernel
theorem dq_P_outputOf_1 : decode prog_6_method_11_code 1 = .ok (.iload_n 1, 1) := by decide +kernel
theorem dq_P_outputOf_2 : decode prog_6_method_11_code 2 = .ok (.invokevirtual 68, 3) := by decide +kernel
theorem dq_P_outputOf_5 : decode prog_6_method_11_code 5 = .ok (.lstore 4, 2) := by decide +kernel
theorem dq_P_outputOf_7 : decode prog_6_method_11_code 7 = .ok (.aload_n 0, 1) := by decide +kernel
theorem dq_P_outputOf_8 : decode prog_6_method_11_code 8 = .ok (.iconst 1, 1) := by decide +kernel
theorem dq_P_outputOf_9 : decode prog_6_method_11_code 9 = .ok (.iload_n 1, 1) := by decide +kernel
theorem dq_P_outputOf_10 : decode prog_6_method_11_code 10 = .ok (.isub, 1) := by decide +kernel
theorem dq_P_outputOf_11 : decode prog_6_method_11_code 11 = .ok (.invokevirtual 68, 3) := by decide +kernel
theorem dq_P_outputOf_14 : decode prog_6_method_11_code 14 = .ok (.lstore 6, 2) := by decide +kernel
theorem dq_P_outputOf_16 : decode prog_6_method_11_code 16 = .ok (.lload_n 2, 1) := by decide +kernel
theorem dq_P_outputOf_17 : decode prog_6_method_11_code 17 = .ok (.ldc2_w 75, 3) := by decide +kernel
theorem dq_P_outputOf_20 : decode prog_6_method_11_code 20 = .ok (.aload_n 0, 1) := by decide +kernel
theorem dq_P_outputOf_21 : decode prog_6_method_11_code 21 = .ok (.getfield 41, 3) := by decide +kernel
theorem dq_P_outputOf_24 : decode prog_6_method_11_code 24 = .ok (.i2l, 1) := by decide +kernel
theorem dq_P_outputOf_25 : decode prog_6_method_11_code 25 = .ok (.lsub, 1) := by decide +kernel
theorem dq_P_outputOf_26 : decode prog_6_method_11_code 26 = .ok (.lmul, 1) := by decide +kernel
theorem dq_P_outputOf_27 : decode prog_6_method_11_code 27 = .ok (.lstore 8, 2) := by decide +kernel
theorem dq_P_outputOf_29 : decode prog_6_method_11_code 29 = .ok (.aload_n 0, 1) := by decide +kernel
theorem dq_P_outputOf_30 : decode prog_6_method_11_code 30 = .ok (.getfield 38, 3) := by decide +kernel
theorem dq_P_outputOf_33 : decode prog_6_method_11_code 33 = .ok (.iconst 1, 1) := by decide +kernel
theorem dq_P_outputOf_34 : decode prog_6_method_11_code 34 = .ok (.if_icmp .ne 26, 3) := by decide +kernel
theorem dq_P_outputOf_37 : decode prog_6_method_11_code 37 = .ok (.lload 8, 2) := by decide +kernel
theorem dq_P_outputOf_39 : decode prog_6_method_11_code 39 = .ok (.ldc2_w 75, 3) := by decide +kernel
theorem dq_P_outputOf_42 : decode prog_6_method_11_code 42 = .ok (.ldiv, 1) := by decide +kernel
theorem dq_P_outputOf_43 : decode prog_6_method_11_code 43 = .ok (.lstore 10, 2) := by decide +kernel
theorem dq_P_outputOf_45 : decode prog_6_method_11_code 45 = .ok (.lload 10, 2) := by decide +kernel
theorem dq_P_outputOf_47 : decode prog_6_method_11_code 47 = .ok (.lload 6, 2) := by decide +kernel
theorem dq_P_outputOf_49 : decode prog_6_method_11_code 49 = .ok (.lcmp, 1) := by decide +kernel
theorem dq_P_outputOf_50 : decode prog_6_method_11_code 50 = .ok (.ifCond .le 7, 3) := by decide +kernel
theorem dq_P_outputOf_53 : decode prog_6_method_11_code 53 = .ok (.lconst 0, 1) := by decide +kernel
theorem dq_P_outputOf_54 : decode prog_6_method_11_code 54 = .ok (.goto 5, 3) := by decide +kernel
theorem dq_P_outputOf_57 : decode prog_6_method_11_code 57 = .ok (.lload 10, 2) := by decide +kernel
theorem dq_P_outputOf_59 : decode prog_6_method_11_code 59 = .ok (.lreturn, 1) := by decide +kernel
theorem dq_P_outputOf_60 : decode prog_6_method_11_code 60 = .ok (.lload 6, 2) := by decide +kernel
theorem dq_P_outputOf_62 : decode prog_6_method_11_code 62 = .ok (.lload 8, 2) := by decide +kernel
theorem dq_P_outputOf_64 : decode prog_6_method_11_code 64 = .ok (.ldc2_w 75, 3) := by decide +kernel
theorem dq_P_outputOf_67 : decode prog_6_method_11_code 67 = .ok (.lload 4, 2) := by decide +kernel
theorem dq_P_outputOf_69 : decode prog_6_method_11_code 69 = .ok (.lmul, 1) := by decide +kernel
theorem dq_P_outputOf_70 : decode prog_6_method_11_code 70 = .ok (.lload 8, 2) := by decide +kernel
theorem dq_P_outputOf_72 : decode prog_6_method_11_code 72 = .ok (.ladd, 1) := by decide +kernel
theorem dq_P_outputOf_73 : decode prog_6_method_11_code 73 = .ok (.invokestatic 64, 3) := by decide +kernel
theorem dq_P_outputOf_76 : decode prog_6_method_11_code 76 = .ok (.lreturn, 1) := by decide +kernel
def fP_outputOf (o : Nat) (x1 : Int32) (x2 : Int64) (N : qz_N) : Option (Int64 × qz_N) :=
  (fP_reserveAt o x1 N).bind fun q1 =>
  (fP_reserveAt o ((1 : Int32) - x1) q1.2).bind fun q3 =>
  qz_let (x2 * ((10000 : Int64) - ((qz_gi q3.2 2 o 4).toInt64))) fun v5 =>
  if (qz_gi q3.2 2 o 3) = (1 : Int32) then
    qz_let (v5 / (10000 : Int64)) fun v8 =>
    if v8 ≤ q3.1 then
      some (v8, q3.2)
    else
    some ((0 : Int64), q3.2)
  else
  (fA_timesOver q3.1 v5 (((10000 : Int64) * q1.1) + v5) q3.2).bind fun q6 =>
  some (q6.1, q6.2)
set_option maxRecDepth 100000 in
set_option maxHeartbeats 4000000 in
theorem sP_outputOf {p : Program} {l : Launch} {e : Env} {s : State} {m : MethodId} {args : Array Value} {below : List Frame} {meth : Method} {c : Code} {G : qz_G} (X : qz_X p s m args meth c "ExactCurves$Pool" prog_6_method_11_code 12 (some .long) G) {r : (Int64 × qz_N)} (o : Nat) (x1 : Int32) (x2 : Int64) (ho : o < 6) (N : qz_N) (h : fP_outputOf o x1 x2 N = some r) : qz_W p l e (qz_R 2) s m args below meth c 0 0 (MQ below (qz_Q G r.2 (some (.long r.1))) args s 0 0 (qz_A G)) G s.heap 12 N 0 [(0, .ref (G.2.2 2 o)), (1, .int x1), (2, .long x2)] [] := by
  unfold fP_outputOf at h
  refine qz_aload_n X 0 rfl dq_P_outputOf_0 ?_
  refine qz_iload_n X 1 rfl dq_P_outputOf_1 ?_
  refine qz_bind h (fun q1 e2 h => ?_)
  refine qz_callV X (as := [.int x1]) (st := []) (o := some (.long q1.1)) (N' := q1.2) cq_P_68 ho (cP_reserveAt l G X.2.2.2.2.2.2.1 o x1 N ho _ e2) ⟨by decide, by decide⟩ rfl rfl (Nat.le_of_ble_eq_true rfl) ⟨Nat.zero_le _, Nat.zero_le _⟩ dq_P_outputOf_2 ?_
  refine qz_lstore X (lv' := [(4, .long q1.1), (0, .ref (G.2.2 2 o)), (1, .int x1), (2, .long x2)]) (by decide) rfl dq_P_outputOf_5 ?_
  refine qz_aload_n X 1 rfl dq_P_outputOf_7 ?_
  refine qz_iconst X (v := (1 : Int32)) (by decide) dq_P_outputOf_8 ?_
  refine qz_iload_n X 2 rfl dq_P_outputOf_9 ?_
  refine qz_isub X dq_P_outputOf_10 ?_
  refine qz_bind h (fun q3 e4 h => ?_)
  refine qz_callV X (as := [.int ((1 : Int32) - x1)]) (st := []) (o := some (.long q3.1)) (N' := q3.2) cq_P_68 ho (cP_reserveAt l G X.2.2.2.2.2.2.1 o ((1 : Int32) - x1) q1.2 ho _ e4) ⟨by decide, by decide⟩ rfl rfl (Nat.le_of_ble_eq_true rfl) ⟨Nat.zero_le _, Nat.zero_le _⟩ dq_P_outputOf_11 ?_
  refine qz_lstore X (lv' := [(6, .long q3.1), (4, .long q1.1), (0, .ref (G.2.2 2 o)), (1, .int x1), (2, .long x2)]) (by decide) rfl dq_P_outputOf_14 ?_
  refine qz_lload_n X 4 rfl dq_P_outputOf_16 ?_
  refine qz_ldc2 X (v := (10000 : Int64)) wq_384 dq_P_outputOf_17 ?_
  refine qz_aload_n X 2 rfl dq_P_outputOf_20 ?_
  refine qz_get X (v := .int (qz_gi q3.2 2 o 4)) kq_P_41 ho rfl dq_P_outputOf_21 ?_
  refine qz_i2l X dq_P_outputOf_24 ?_
  refine qz_lsub X dq_P_outputOf_25 ?_
  refine qz_lmul X dq_P_outputOf_26 ?_
  refine qz_letj h (fun v5 h => ?_)
  refine qz_lstore X (lv' := [(8, .long v5), (6, .long q3.1), (4, .long q1.1), (0, .ref (G.2.2 2 o)), (1, .int x1), (2, .long x2)]) (by decide) rfl dq_P_outputOf_27 ?_
  refine qz_aload_n X 3 rfl dq_P_outputOf_29 ?_
  refine qz_get X (v := .int (qz_gi q3.2 2 o 3)) kq_P_38 ho rfl dq_P_outputOf_30 ?_
  refine qz_iconst X (v := (1 : Int32)) (by decide) dq_P_outputOf_33 ?_
  refine qz_icmp_ne X (tgt := 60) (by decide) dq_P_outputOf_34 h (fun _ h => ?_) (fun _ h => ?_)
  · refine qz_lload X 1 rfl dq_P_outputOf_60 ?_
    refine qz_lload X 0 rfl dq_P_outputOf_62 ?_
    refine qz_ldc2 X (v := (10000 : Int64)) wq_384 dq_P_outputOf_64 ?_
    refine qz_lload X 2 rfl dq_P_outputOf_67 ?_
    refine qz_lmul X dq_P_outputOf_69 ?_
    refine qz_lload X 0 rfl dq_P_outputOf_70 ?_
    refine qz_ladd X dq_P_outputOf_72 ?_
    refine qz_bind h (fun q6 e7 h => ?_)
    refine qz_callS X (as := [.long q3.1, .long v5, .long (((10000 : Int64) * q1.1) + v5)]) (st := []) (o := some (.long q6.1)) (N' := q6.2) cq_P_64 (cA_timesOver l G X.2.2.2.2.2.2.1 q3.1 v5 (((10000 : Int64) * q1.1) + v5) q3.2 _ e7) ⟨by decide, by decide⟩ rfl rfl (Nat.le_of_ble_eq_true rfl) ⟨Nat.zero_le _, Nat.zero_le _⟩ dq_P_outputOf_73 ?_
    exact qz_lret X h dq_P_outputOf_76
  · refine qz_lload X 0 rfl dq_P_outputOf_37 ?_
    refine qz_ldc2 X (v := (10000 : Int64)) wq_384 dq_P_outputOf_39 ?_
    refine qz_ldiv X (by decide) dq_P_outputOf_42 ?_
    refine qz_letj h (fun v8 h => ?_)
    refine qz_lstore X (lv' := [(10, .long v8), (8, .long v5), (6, .long q3.1), (4, .long q1.1), (0, .ref (G.2.2 2 o)), (1, .int x1), (2, .long x2)]) (by decide) rfl dq_P_outputOf_43 ?_
    refine qz_lload X 0 rfl dq_P_outputOf_45 ?_
    refine qz_lload X 2 rfl dq_P_outputOf_47 ?_
    refine qz_lcmp_le X (tgt := 57) (by decide) dq_P_outputOf_49 dq_P_outputOf_50 h (fun _ h => ?_) (fun _ h => ?_)
    · refine qz_lload X 0 rfl dq_P_outputOf_57 ?_
      exact qz_lret X h dq_P_outputOf_59
    · refine qz_lconst X (v := (0 : Int64)) (by decide) dq_P_outputOf_53 ?_
      refine qz_goto X (tgt := 59) (by decide) dq_P_outputOf_54 ?_
      exact qz_lret X h dq_P_outputOf_59
theorem cP_outputOf (l : Launch) (G : qz_G) (hD : qz_D G) (o : Nat) (x1 : Int32) (x2 : Int64) (N : qz_N) (ho : o < 6) (r : (Int64 × qz_N)) (h : fP_outputOf o x1 x2 N = some r) : qz_M l yP_outputOf prog_6_method_11_code 12 (some .long) 2 G [.ref (G.2.2 2 o), .int x1, .long x2] N (some (.long r.1)) r.2 :=
  qz_enter (lv := [(0, .ref (G.2.2 2 o)), (1, .int x1), (2, .long x2)]) rfl hD (Nat.le_of_ble_eq_true rfl) rfl (fun p e s m args below meth c X => sP_outputOf X o x1 x2 ho N h)
-- ExactCurves.swap(IIIJ)J
theorem dq_E_swap_0 : decode prog_1_method_10_code 0 = .ok (.aload_n 0, 1) := by decide +kernel
theorem dq_E_swap_1 : decode prog_1_method_10_code 1 = .ok (.iload_n 2, 1) := by decide +kernel
theorem dq_E_swap_2 : decode prog_1_method_10_code 2 = .ok (.invokevirtual 95, 3) := by decide +kernel
theorem dq_E_swap_5 : decode prog_1_method_10_code 5 = .ok (.astore 6, 2) := by decide +kernel
theorem dq_E_swap_7 : decode prog_1_method_10_code 7 = .ok (.iload_n 1, 1) := by decide +kernel
theorem dq_E_swap_8 : decode prog_1_method_10_code 8 = .ok (.invokestatic 51, 3) := by decide +kernel
theorem dq_E_swap_11 : decode prog_1_method_10_code 11 = .ok (.ifCond .eq 22, 3) := by decide +kernel
theorem dq_E_swap_14 : decode prog_1_method_10_code 14 = .ok (.aload 6, 2) := by decide +kernel
theorem dq_E_swap_16 : decode prog_1_method_10_code 16 = .ok (.ifnull 17, 3) := by decide +kernel
theorem dq_E_swap_19 : decode prog_1_method_10_code 19 = .ok (.iload_n 3, 1) := by decide +kernel
theorem dq_E_swap_20 : decode prog_1_method_10_code 20 = .ok (.invokestatic 132, 3) := by decide +kernel
theorem dq_E_swap_23 : decode prog_1_method_10_code 23 = .ok (.ifCond .eq 10, 3) := by decide +kernel
theorem dq_E_swap_26 : decode prog_1_method_10_code 26 = .ok (.lload 4, 2) := by decide +kernel
theorem dq_E_swap_28 : decode prog_1_method_10_code 28 = .ok (.lconst 1, 1) := by decide +kernel
theorem dq_E_swap_29 : decode prog_1_method_10_code 29 = .ok (.lcmp, 1) := by decide +kernel
theorem dq_E_swap_30 : decode prog_1_method_10_code 30 = .ok (.ifCond .ge 7, 3) := by decide +kernel
theorem dq_E_swap_33 : decode prog_1_method_10_code 33 = .ok (.ldc2_w 60, 3) := by decide +kernel
theorem dq_E_swap_36 : decode prog_1_method_10_code 36 = .ok (.lreturn, 1) := by decide +kernel
theorem dq_E_swap_37 : decode prog_1_method_10_code 37 = .ok (.aload_n 0, 1) := by decide +kernel
theorem dq_E_swap_38 : decode prog_1_method_10_code 38 = .ok (.getfield 10, 3) := by decide +kernel
theorem dq_E_swap_41 : decode prog_1_method_10_code 41 = .ok (.iload_n 1, 1) := by decide +kernel
theorem dq_E_swap_42 : decode prog_1_method_10_code 42 = .ok (.aload 6, 2) := by decide +kernel
theorem dq_E_swap_44 : decode prog_1_method_10_code 44 = .ok (.iload_n 3, 1) := by decide +kernel
theorem dq_E_swap_45 : decode prog_1_method_10_code 45 = .ok (.invokevirtual 135, 3) := by decide +kernel
theorem dq_E_swap_48 : decode prog_1_method_10_code 48 = .ok (.invokevirtual 72, 3) := by decide +kernel
theorem dq_E_swap_51 : decode prog_1_method_10_code 51 = .ok (.lload 4, 2) := by decide +kernel
theorem dq_E_swap_53 : decode prog_1_method_10_code 53 = .ok (.lcmp, 1) := by decide +kernel
theorem dq_E_swap_54 : decode prog_1_method_10_code 54 = .ok (.ifCond .ge 7, 3) := by decide +kernel
theorem dq_E_swap_57 : decode prog_1_method_10_code 57 = .ok (.ldc2_w 66, 3) := by decide +kernel
theorem dq_E_swap_60 : decode prog_1_method_10_code 60 = .ok (.lreturn, 1) := by decide +kernel
theorem dq_E_swap_61 : decode prog_1_method_10_code 61 = .ok (.aload 6, 2) := by decide +kernel
theorem dq_E_swap_63 : decode prog_1_method_10_code 63 = .ok (.iload_n 3, 1) := by decide +kernel
theorem dq_E_swap_64 : decode prog_1_method_10_code 64 = .ok (.lload 4, 2) := by decide +kernel
theorem dq_E_swap_66 : decode prog_1_method_10_code 66 = .ok (.invokevirtual 139, 3) := by decide +kernel
theorem dq_E_swap_69 : decode prog_1_method_10_code 69 = .ok (.lstore 7, 2) := by decide +kernel
theorem dq_E_swap_71 : decode prog_1_method_10_code 71 = .ok (.lload 7, 2) := by decide +kernel
theorem dq_E_swap_73 : decode prog_1_method_10_code 73 = .ok (.lconst 0, 1) := by decide +kernel
theorem dq_E_swap_74 : decode prog_1_method_10_code 74 = .ok (.lcmp, 1) := by decide +kernel
theorem dq_E_swap_75 : decode prog_1_method_10_code 75 = .ok (.ifCond .ne 7, 3) := by decide +kernel
theorem dq_E_swap_78 : decode prog_1_method_10_code 78 = .ok (.ldc2_w 66, 3) := by decide +kernel
theorem dq_E_swap_81 : decode prog_1_method_10_code 81 = .ok (.lreturn, 1) := by decide +kernel
theorem dq_E_swap_82 : decode prog_1_method_10_code 82 = .ok (.aload_n 0, 1) := by decide +kernel
theorem dq_E_swap_83 : decode prog_1_method_10_code 83 = .ok (.iload_n 1, 1) := by decide +kernel
theorem dq_E_swap_84 : decode prog_1_method_10_code 84 = .ok (.aload 6, 2) := by decide +kernel
theorem dq_E_swap_86 : decode prog_1_method_10_code 86 = .ok (.iload_n 3, 1) := by decide +kernel
theorem dq_E_swap_87 : decode prog_1_method_10_code 87 = .ok (.lload 4, 2) := by decide +kernel
theorem dq_E_swap_89 : decode prog_1_method_10_code 89 = .ok (.invokevirtual 115, 3) := by decide +kernel
theorem dq_E_swap_92 : decode prog_1_method_10_code 92 = .ok (.aload_n 0, 1) := by decide +kernel
theorem dq_E_swap_93 : decode prog_1_method_10_code 93 = .ok (.iload_n 1, 1) := by decide +kernel
theorem dq_E_swap_94 : decode prog_1_method_10_code 94 = .ok (.aload 6, 2) := by decide +kernel
theorem dq_E_swap_96 : decode prog_1_method_10_code 96 = .ok (.iconst 1, 1) := by decide +kernel
theorem dq_E_swap_97 : decode prog_1_method_10_code 97 = .ok (.iload_n 3, 1) := by decide +kernel
theorem dq_E_swap_98 : decode prog_1_method_10_code 98 = .ok (.isub, 1) := by decide +kernel
theorem dq_E_swap_99 : decode prog_1_method_10_code 99 = .ok (.lload 7, 2) := by decide +kernel
theorem dq_E_swap_101 : decode prog_1_method_10_code 101 = .ok (.invokevirtual 129, 3) := by decide +kernel
theorem dq_E_swap_104 : decode prog_1_method_10_code 104 = .ok (.lload 7, 2) := by decide +kernel
theorem dq_E_swap_106 : decode prog_1_method_10_code 106 = .ok (.lreturn, 1) := by decide +kernel
def fE_swap (o : Nat) (x1 : Int32) (x2 : Int32) (x3 : Int32) (x4 : Int64) (N : qz_N) : Option (Int64 × qz_N) :=
  (fE_poolAt o x2 N).bind fun q1 => qz_oc q1
    (fun N3 =>
    (fE_isPlayer x1 N3).bind fun q5 =>
    if q5.1 = 0 then
      some ((-2 : Int64), q5.2)
    else
    some ((-2 : Int64), q5.2))
    fun N3 j4 =>
    (fE_isPlayer x1 N3).bind fun q7 =>
    if q7.1 = 0 then
      some ((-2 : Int64), q7.2)
    else
    (fE_isSide x3 q7.2).bind fun q9 =>
    if q9.1 = 0 then
      some ((-2 : Int64), q9.2)
    else
    if (1 : Int64) ≤ x4 then
      (fP_tokenAt j4 x3 q9.2).bind fun q11 =>
      (fU_held o x1 q11.1 q11.2).bind fun q13 =>
      if x4 ≤ q13.1 then
        (fP_outputOf j4 x3 x4 q13.2).bind fun q15 =>
        if q15.1 = (0 : Int64) then
          some ((-3 : Int64), q15.2)
        else
        (fE_bringIn o x1 j4 x3 x4 q15.2).bind fun q17 =>
        (fE_takeOut o x1 j4 ((1 : Int32) - x3) q15.1 q17.2).bind fun q19 =>
        some (q15.1, q19.2)
      else
      some ((-3 : Int64), q13.2)
    else
    some ((-2 : Int64), q9.2)
set_option maxRecDepth 100000 in
set_option maxHeartbeats 4000000 in
theorem sE_swap {p : Program} {l : Launch} {e : Env} {s : State} {m : MethodId} {args : Array Value} {below : List Frame} {meth : Method} {c : Code} {G : qz_G} (X : qz_X p s m args meth c "ExactCurves" prog_1_method_10_code 9 (some .long) G) {r : (Int64 × qz_N)} (o : Nat) (x1 : Int32) (x2 : Int32) (x3 : Int32) (x4 : Int64) (ho : o < 1) (N : qz_N) (h : fE_swap o x1 x2 x3 x4 N = some r) : qz_W p l e (qz_R 3) s m args below meth c 0 0 (MQ below (qz_Q G r.2 (some (.long r.1))) args s 0 0 (qz_A G)) G s.heap 9 N 0 [(0, .ref (G.2.2 0 o)), (1, .int x1), (2, .int x2), (3, .int x3), (4, .long x4)] [] := by
  unfold fE_swap at h
  refine qz_aload_n X 0 rfl dq_E_swap_0 ?_
  refine qz_iload_n X 2 rfl dq_E_swap_1 ?_
  refine qz_bind h (fun q1 e2 h => ?_)
  obtain ⟨rq1, N3⟩ := q1
  cases rq1 with
  | none =>
    replace h := qz_ocN h
    refine qz_callV X (as := [.int x2]) (st := []) (o := some .null) (N' := N3) cq_E_95 ho (cE_poolAt l G X.2.2.2.2.2.2.1 o x2 N ho _ e2) ⟨by decide, by decide⟩ rfl rfl (Nat.le_of_ble_eq_true rfl) ⟨Nat.zero_le _, Nat.zero_le _⟩ dq_E_swap_2 ?_
    refine qz_astoreN X (lv' := [(6, .null), (0, .ref (G.2.2 0 o)), (1, .int x1), (2, .int x2), (3, .int x3), (4, .long x4)]) (by decide) rfl dq_E_swap_5 ?_
    refine qz_iload_n X 2 rfl dq_E_swap_7 ?_
    refine qz_bind h (fun q5 e6 h => ?_)
    refine qz_callS X (as := [.int x1]) (st := []) (o := some (.int q5.1)) (N' := q5.2) cq_E_51 (cE_isPlayer l G X.2.2.2.2.2.2.1 x1 N3 _ e6) ⟨by decide, by decide⟩ rfl rfl (Nat.le_of_ble_eq_true rfl) ⟨Nat.zero_le _, Nat.zero_le _⟩ dq_E_swap_8 ?_
    refine qz_if_eq X (tgt := 33) (by decide) dq_E_swap_11 h (fun _ h => ?_) (fun _ h => ?_)
    · refine qz_ldc2 X (v := (-2 : Int64)) wq_252 dq_E_swap_33 ?_
      exact qz_lret X h dq_E_swap_36
    · refine qz_aloadN X 0 rfl dq_E_swap_14 ?_
      refine qz_ifnullN X (tgt := 33) (by decide) dq_E_swap_16 ?_
      refine qz_ldc2 X (v := (-2 : Int64)) wq_252 dq_E_swap_33 ?_
      exact qz_lret X h dq_E_swap_36
  | some j4 =>
    replace h := qz_ocS h
    refine qz_callV X (as := [.int x2]) (st := []) (o := some (.ref (G.2.2 2 j4))) (N' := N3) cq_E_95 ho (cE_poolAt l G X.2.2.2.2.2.2.1 o x2 N ho _ e2) ⟨by decide, by decide⟩ rfl rfl (Nat.le_of_ble_eq_true rfl) ⟨Nat.zero_le _, Nat.zero_le _⟩ dq_E_swap_2 ?_
    refine qz_astore X (lv' := [(6, .ref (G.2.2 2 j4)), (0, .ref (G.2.2 0 o)), (1, .int x1), (2, .int x2), (3, .int x3), (4, .long x4)]) (by decide) rfl dq_E_swap_5 ?_
    refine qz_iload_n X 2 rfl dq_E_swap_7 ?_
    refine qz_bind h (fun q7 e8 h => ?_)
    refine qz_callS X (as := [.int x1]) (st := []) (o := some (.int q7.1)) (N' := q7.2) cq_E_51 (cE_isPlayer l G X.2.2.2.2.2.2.1 x1 N3 _ e8) ⟨by decide, by decide⟩ rfl rfl (Nat.le_of_ble_eq_true rfl) ⟨Nat.zero_le _, Nat.zero_le _⟩ dq_E_swap_8 ?_
    refine qz_if_eq X (tgt := 33) (by decide) dq_E_swap_11 h (fun _ h => ?_) (fun _ h => ?_)
    · refine qz_ldc2 X (v := (-2 : Int64)) wq_252 dq_E_swap_33 ?_
      exact qz_lret X h dq_E_swap_36
    · refine qz_aload X 0 rfl dq_E_swap_14 ?_
      refine qz_ifnull X dq_E_swap_16 ?_
      refine qz_iload_n X 4 rfl dq_E_swap_19 ?_
      refine qz_bind h (fun q9 e10 h => ?_)
      refine qz_callS X (as := [.int x3]) (st := []) (o := some (.int q9.1)) (N' := q9.2) cq_E_132 (cE_isSide l G X.2.2.2.2.2.2.1 x3 q7.2 _ e10) ⟨by decide, by decide⟩ rfl rfl (Nat.le_of_ble_eq_true rfl) ⟨Nat.zero_le _, Nat.zero_le _⟩ dq_E_swap_20 ?_
      refine qz_if_eq X (tgt := 33) (by decide) dq_E_swap_23 h (fun _ h => ?_) (fun _ h => ?_)
      · refine qz_ldc2 X (v := (-2 : Int64)) wq_252 dq_E_swap_33 ?_
        exact qz_lret X h dq_E_swap_36
      · refine qz_lload X 5 rfl dq_E_swap_26 ?_
        refine qz_lconst X (v := (1 : Int64)) (by decide) dq_E_swap_28 ?_
        refine qz_lcmp_ge X (tgt := 37) (by decide) dq_E_swap_29 dq_E_swap_30 h (fun _ h => ?_) (fun _ h => ?_)
        · refine qz_aload_n X 1 rfl dq_E_swap_37 ?_
          refine qz_get X (v := .ref (G.2.2 1 o)) kq_E_10 ho rfl dq_E_swap_38 ?_
          refine qz_iload_n X 2 rfl dq_E_swap_41 ?_
          refine qz_aload X 0 rfl dq_E_swap_42 ?_
          refine qz_iload_n X 4 rfl dq_E_swap_44 ?_
          refine qz_bind h (fun q11 e12 h => ?_)
          refine qz_callV X (as := [.int x3]) (st := [.int x1, .ref (G.2.2 1 o)]) (o := some (.int q11.1)) (N' := q11.2) cq_E_135 (vE_poolAt e2 j4 rfl) (cP_tokenAt l G X.2.2.2.2.2.2.1 j4 x3 q9.2 (vE_poolAt e2 j4 rfl) _ e12) ⟨by decide, by decide⟩ rfl rfl (Nat.le_of_ble_eq_true rfl) ⟨Nat.zero_le _, Nat.zero_le _⟩ dq_E_swap_45 ?_
          refine qz_bind h (fun q13 e14 h => ?_)
          refine qz_callV X (as := [.int x1, .int q11.1]) (st := []) (o := some (.long q13.1)) (N' := q13.2) cq_E_72 ho (cU_held l G X.2.2.2.2.2.2.1 o x1 q11.1 q11.2 ho _ e14) ⟨by decide, by decide⟩ rfl rfl (Nat.le_of_ble_eq_true rfl) ⟨Nat.zero_le _, Nat.zero_le _⟩ dq_E_swap_48 ?_
          refine qz_lload X 5 rfl dq_E_swap_51 ?_
          refine qz_lcmp_ge X (tgt := 61) (by decide) dq_E_swap_53 dq_E_swap_54 h (fun _ h => ?_) (fun _ h => ?_)
          · refine qz_aload X 0 rfl dq_E_swap_61 ?_
            refine qz_iload_n X 4 rfl dq_E_swap_63 ?_
            refine qz_lload X 5 rfl dq_E_swap_64 ?_
            refine qz_bind h (fun q15 e16 h => ?_)
            refine qz_callV X (as := [.int x3, .long x4]) (st := []) (o := some (.long q15.1)) (N' := q15.2) cq_E_139 (vE_poolAt e2 j4 rfl) (cP_outputOf l G X.2.2.2.2.2.2.1 j4 x3 x4 q13.2 (vE_poolAt e2 j4 rfl) _ e16) ⟨by decide, by decide⟩ rfl rfl (Nat.le_of_ble_eq_true rfl) ⟨Nat.zero_le _, Nat.zero_le _⟩ dq_E_swap_66 ?_
            refine qz_lstore X (lv' := [(7, .long q15.1), (6, .ref (G.2.2 2 j4)), (0, .ref (G.2.2 0 o)), (1, .int x1), (2, .int x2), (3, .int x3), (4, .long x4)]) (by decide) rfl dq_E_swap_69 ?_
            refine qz_lload X 0 rfl dq_E_swap_71 ?_
            refine qz_lconst X (v := (0 : Int64)) (by decide) dq_E_swap_73 ?_
            refine qz_lcmp_ne X (tgt := 82) (by decide) dq_E_swap_74 dq_E_swap_75 h (fun _ h => ?_) (fun _ h => ?_)
            · refine qz_aload_n X 2 rfl dq_E_swap_82 ?_
              refine qz_iload_n X 3 rfl dq_E_swap_83 ?_
              refine qz_aload X 1 rfl dq_E_swap_84 ?_
              refine qz_iload_n X 5 rfl dq_E_swap_86 ?_
              refine qz_lload X 6 rfl dq_E_swap_87 ?_
              refine qz_bind h (fun q17 e18 h => ?_)
              refine qz_callV X (as := [.int x1, .ref (G.2.2 2 j4), .int x3, .long x4]) (st := []) (o := none) (N' := q17.2) cq_E_115 ho (cE_bringIn l G X.2.2.2.2.2.2.1 o x1 j4 x3 x4 q15.2 ho (vE_poolAt e2 j4 rfl) _ e18) ⟨by decide, by decide⟩ rfl rfl (Nat.le_of_ble_eq_true rfl) ⟨Nat.zero_le _, Nat.zero_le _⟩ dq_E_swap_89 ?_
              refine qz_aload_n X 2 rfl dq_E_swap_92 ?_
              refine qz_iload_n X 3 rfl dq_E_swap_93 ?_
              refine qz_aload X 1 rfl dq_E_swap_94 ?_
              refine qz_iconst X (v := (1 : Int32)) (by decide) dq_E_swap_96 ?_
              refine qz_iload_n X 5 rfl dq_E_swap_97 ?_
              refine qz_isub X dq_E_swap_98 ?_
              refine qz_lload X 0 rfl dq_E_swap_99 ?_
              refine qz_bind h (fun q19 e20 h => ?_)
              refine qz_callV X (as := [.int x1, .ref (G.2.2 2 j4), .int ((1 : Int32) - x3), .long q15.1]) (st := []) (o := none) (N' := q19.2) cq_E_129 ho (cE_takeOut l G X.2.2.2.2.2.2.1 o x1 j4 ((1 : Int32) - x3) q15.1 q17.2 ho (vE_poolAt e2 j4 rfl) _ e20) ⟨by decide, by decide⟩ rfl rfl (Nat.le_of_ble_eq_true rfl) ⟨Nat.zero_le _, Nat.zero_le _⟩ dq_E_swap_101 ?_
              refine qz_lload X 0 rfl dq_E_swap_104 ?_
              exact qz_lret X h dq_E_swap_106
            · refine qz_ldc2 X (v := (-3 : Int64)) wq_253 dq_E_swap_78 ?_
              exact qz_lret X h dq_E_swap_81
          · refine qz_ldc2 X (v := (-3 : Int64)) wq_253 dq_E_swap_57 ?_
            exact qz_lret X h dq_E_swap_60
        · refine qz_ldc2 X (v := (-2 : Int64)) wq_252 dq_E_swap_33 ?_
          exact qz_lret X h dq_E_swap_36
theorem cE_swap (l : Launch) (G : qz_G) (hD : qz_D G) (o : Nat) (x1 : Int32) (x2 : Int32) (x3 : Int32) (x4 : Int64) (N : qz_N) (ho : o < 1) (r : (Int64 × qz_N)) (h : fE_swap o x1 x2 x3 x4 N = some r) : qz_M l yE_swap prog_1_method_10_code 9 (some .long) 3 G [.ref (G.2.2 0 o), .int x1, .int x2, .int x3, .long x4] N (some (.long r.1)) r.2 :=
  qz_enter (lv := [(0, .ref (G.2.2 0 o)), (1, .int x1), (2, .int x2), (3, .int x3), (4, .long x4)]) rfl hD (Nat.le_of_ble_eq_true rfl) rfl (fun p e s m args below meth c X => sE_swap X o x1 x2 x3 x4 ho N h)
-- ExactCurves.quote(IIJ)J
theorem dq_E_quote_0 : decode prog_1_method_11_code 0 = .ok (.aload_n 0, 1) := by decide +kernel
theorem dq_E_quote_1 : decode prog_1_method_11_code 1 = .ok (.iload_n 1, 1) := by decide +kernel
theorem dq_E_quote_2 : decode prog_1_method_11_code 2 = .ok (.invokevirtual 95, 3) := by decide +kernel
theorem dq_E_quote_5 : decode prog_1_method_11_code 5 = .ok (.astore 5, 2) := by decide +kernel
theorem dq_E_quote_7 : decode prog_1_method_11_code 7 = .ok (.aload 5, 2) := by decide +kernel
theorem dq_E_quote_9 : decode prog_1_method_11_code 9 = .ok (.ifnull 24, 3) := by decide +kernel
theorem dq_E_quote_12 : decode prog_1_method_11_code 12 = .ok (.iload_n 2, 1) := by decide +kernel
theorem dq_E_quote_13 : decode prog_1_method_11_code 13 = .ok (.invokestatic 132, 3) := by decide +kernel
theorem dq_E_quote_16 : decode prog_1_method_11_code 16 = .ok (.ifCond .eq 17, 3) := by decide +kernel
theorem dq_E_quote_19 : decode prog_1_method_11_code 19 = .ok (.lload_n 3, 1) := by decide +kernel
theorem dq_E_quote_20 : decode prog_1_method_11_code 20 = .ok (.lconst 1, 1) := by decide +kernel
theorem dq_E_quote_21 : decode prog_1_method_11_code 21 = .ok (.lcmp, 1) := by decide +kernel
theorem dq_E_quote_22 : decode prog_1_method_11_code 22 = .ok (.ifCond .lt 11, 3) := by decide +kernel
theorem dq_E_quote_25 : decode prog_1_method_11_code 25 = .ok (.lload_n 3, 1) := by decide +kernel
theorem dq_E_quote_26 : decode prog_1_method_11_code 26 = .ok (.ldc2_w 58, 3) := by decide +kernel
theorem dq_E_quote_29 : decode prog_1_method_11_code 29 = .ok (.lcmp, 1) := by decide +kernel
theorem dq_E_quote_30 : decode prog_1_method_11_code 30 = .ok (.ifCond .le 7, 3) := by decide +kernel
theorem dq_E_quote_33 : decode prog_1_method_11_code 33 = .ok (.ldc2_w 60, 3) := by decide +kernel
theorem dq_E_quote_36 : decode prog_1_method_11_code 36 = .ok (.lreturn, 1) := by decide +kernel
theorem dq_E_quote_37 : decode prog_1_method_11_code 37 = .ok (.aload 5, 2) := by decide +kernel
theorem dq_E_quote_39 : decode prog_1_method_11_code 39 = .ok (.iload_n 2, 1) := by decide +kernel
theorem dq_E_quote_40 : decode prog_1_method_11_code 40 = .ok (.lload_n 3, 1) := by decide +kernel
theorem dq_E_quote_41 : decode prog_1_method_11_code 41 = .ok (.invokevirtual 139, 3) := by decide +kernel
theorem dq_E_quote_44 : decode prog_1_method_11_code 44 = .ok (.lstore 6, 2) := by decide +kernel
theorem dq_E_quote_46 : decode prog_1_method_11_code 46 = .ok (.lload 6, 2) := by decide +kernel
theorem dq_E_quote_48 : decode prog_1_method_11_code 48 = .ok (.lconst 0, 1) := by decide +kernel
theorem dq_E_quote_49 : decode prog_1_method_11_code 49 = .ok (.lcmp, 1) := by decide +kernel
theorem dq_E_quote_50 : decode prog_1_method_11_code 50 = .ok (.ifCond .ne 9, 3) := by decide +kernel
theorem dq_E_quote_53 : decode prog_1_method_11_code 53 = .ok (.ldc2_w 66, 3) := by decide +kernel
theorem dq_E_quote_56 : decode prog_1_method_11_code 56 = .ok (.goto 5, 3) := by decide +kernel
theorem dq_E_quote_59 : decode prog_1_method_11_code 59 = .ok (.lload 6, 2) := by decide +kernel
theorem dq_E_quote_61 : decode prog_1_method_11_code 61 = .ok (.lreturn, 1) := by decide +kernel
def fE_quote (o : Nat) (x1 : Int32) (x2 : Int32) (x3 : Int64) (N : qz_N) : Option (Int64 × qz_N) :=
  (fE_poolAt o x1 N).bind fun q1 => qz_oc q1
    (fun N3 =>
    some ((-2 : Int64), N3))
    fun N3 j4 =>
    (fE_isSide x2 N3).bind fun q5 =>
    if q5.1 = 0 then
      some ((-2 : Int64), q5.2)
    else
    if x3 < (1 : Int64) then
      some ((-2 : Int64), q5.2)
    else
    if x3 ≤ (100000000000000 : Int64) then
      (fP_outputOf j4 x2 x3 q5.2).bind fun q7 =>
      if q7.1 = (0 : Int64) then
        some ((-3 : Int64), q7.2)
      else
      some (q7.1, q7.2)
    else
    some ((-2 : Int64), q5.2)
set_option maxRecDepth 100000 in
set_option maxHeartbeats 4000000 in
theorem sE_quote {p : Program} {l : Launch} {e : Env} {s : State} {m : MethodId} {args : Array Value} {below : List Frame} {meth : Method} {c : Code} {G : qz_G} (X : qz_X p s m args meth c "ExactCurves" prog_1_method_11_code 8 (some .long) G) {r : (Int64 × qz_N)} (o : Nat) (x1 : Int32) (x2 : Int32) (x3 : Int64) (ho : o < 1) (N : qz_N) (h : fE_quote o x1 x2 x3 N = some r) : qz_W p l e (qz_R 3) s m args below meth c 0 0 (MQ below (qz_Q G r.2 (some (.long r.1))) args s 0 0 (qz_A G)) G s.heap 8 N 0 [(0, .ref (G.2.2 0 o)), (1, .int x1), (2, .int x2), (3, .long x3)] [] := by
  unfold fE_quote at h
  refine qz_aload_n X 0 rfl dq_E_quote_0 ?_
  refine qz_iload_n X 1 rfl dq_E_quote_1 ?_
  refine qz_bind h (fun q1 e2 h => ?_)
  obtain ⟨rq1, N3⟩ := q1
  cases rq1 with
  | none =>
    replace h := qz_ocN h
    refine qz_callV X (as := [.int x1]) (st := []) (o := some .null) (N' := N3) cq_E_95 ho (cE_poolAt l G X.2.2.2.2.2.2.1 o x1 N ho _ e2) ⟨by decide, by decide⟩ rfl rfl (Nat.le_of_ble_eq_true rfl) ⟨Nat.zero_le _, Nat.zero_le _⟩ dq_E_quote_2 ?_
    refine qz_astoreN X (lv' := [(5, .null), (0, .ref (G.2.2 0 o)), (1, .int x1), (2, .int x2), (3, .long x3)]) (by decide) rfl dq_E_quote_5 ?_
    refine qz_aloadN X 0 rfl dq_E_quote_7 ?_
    refine qz_ifnullN X (tgt := 33) (by decide) dq_E_quote_9 ?_
    refine qz_ldc2 X (v := (-2 : Int64)) wq_252 dq_E_quote_33 ?_
    exact qz_lret X h dq_E_quote_36
  | some j4 =>
    replace h := qz_ocS h
    refine qz_callV X (as := [.int x1]) (st := []) (o := some (.ref (G.2.2 2 j4))) (N' := N3) cq_E_95 ho (cE_poolAt l G X.2.2.2.2.2.2.1 o x1 N ho _ e2) ⟨by decide, by decide⟩ rfl rfl (Nat.le_of_ble_eq_true rfl) ⟨Nat.zero_le _, Nat.zero_le _⟩ dq_E_quote_2 ?_
    refine qz_astore X (lv' := [(5, .ref (G.2.2 2 j4)), (0, .ref (G.2.2 0 o)), (1, .int x1), (2, .int x2), (3, .long x3)]) (by decide) rfl dq_E_quote_5 ?_
    refine qz_aload X 0 rfl dq_E_quote_7 ?_
    refine qz_ifnull X dq_E_quote_9 ?_
    refine qz_iload_n X 3 rfl dq_E_quote_12 ?_
    refine qz_bind h (fun q5 e6 h => ?_)
    refine qz_callS X (as := [.int x2]) (st := []) (o := some (.int q5.1)) (N' := q5.2) cq_E_132 (cE_isSide l G X.2.2.2.2.2.2.1 x2 N3 _ e6) ⟨by decide, by decide⟩ rfl rfl (Nat.le_of_ble_eq_true rfl) ⟨Nat.zero_le _, Nat.zero_le _⟩ dq_E_quote_13 ?_
    refine qz_if_eq X (tgt := 33) (by decide) dq_E_quote_16 h (fun _ h => ?_) (fun _ h => ?_)
    · refine qz_ldc2 X (v := (-2 : Int64)) wq_252 dq_E_quote_33 ?_
      exact qz_lret X h dq_E_quote_36
    · refine qz_lload_n X 4 rfl dq_E_quote_19 ?_
      refine qz_lconst X (v := (1 : Int64)) (by decide) dq_E_quote_20 ?_
      refine qz_lcmp_lt X (tgt := 33) (by decide) dq_E_quote_21 dq_E_quote_22 h (fun _ h => ?_) (fun _ h => ?_)
      · refine qz_ldc2 X (v := (-2 : Int64)) wq_252 dq_E_quote_33 ?_
        exact qz_lret X h dq_E_quote_36
      · refine qz_lload_n X 4 rfl dq_E_quote_25 ?_
        refine qz_ldc2 X (v := (100000000000000 : Int64)) wq_251 dq_E_quote_26 ?_
        refine qz_lcmp_le X (tgt := 37) (by decide) dq_E_quote_29 dq_E_quote_30 h (fun _ h => ?_) (fun _ h => ?_)
        · refine qz_aload X 0 rfl dq_E_quote_37 ?_
          refine qz_iload_n X 3 rfl dq_E_quote_39 ?_
          refine qz_lload_n X 4 rfl dq_E_quote_40 ?_
          refine qz_bind h (fun q7 e8 h => ?_)
          refine qz_callV X (as := [.int x2, .long x3]) (st := []) (o := some (.long q7.1)) (N' := q7.2) cq_E_139 (vE_poolAt e2 j4 rfl) (cP_outputOf l G X.2.2.2.2.2.2.1 j4 x2 x3 q5.2 (vE_poolAt e2 j4 rfl) _ e8) ⟨by decide, by decide⟩ rfl rfl (Nat.le_of_ble_eq_true rfl) ⟨Nat.zero_le _, Nat.zero_le _⟩ dq_E_quote_41 ?_
          refine qz_lstore X (lv' := [(6, .long q7.1), (5, .ref (G.2.2 2 j4)), (0, .ref (G.2.2 0 o)), (1, .int x1), (2, .int x2), (3, .long x3)]) (by decide) rfl dq_E_quote_44 ?_
          refine qz_lload X 0 rfl dq_E_quote_46 ?_
          refine qz_lconst X (v := (0 : Int64)) (by decide) dq_E_quote_48 ?_
          refine qz_lcmp_ne X (tgt := 59) (by decide) dq_E_quote_49 dq_E_quote_50 h (fun _ h => ?_) (fun _ h => ?_)
          · refine qz_lload X 0 rfl dq_E_quote_59 ?_
            exact qz_lret X h dq_E_quote_61
          · refine qz_ldc2 X (v := (-3 : Int64)) wq_253 dq_E_quote_53 ?_
            refine qz_goto X (tgt := 61) (by decide) dq_E_quote_56 ?_
            exact qz_lret X h dq_E_quote_61
        · refine qz_ldc2 X (v := (-2 : Int64)) wq_252 dq_E_quote_33 ?_
          exact qz_lret X h dq_E_quote_36
theorem cE_quote (l : Launch) (G : qz_G) (hD : qz_D G) (o : Nat) (x1 : Int32) (x2 : Int32) (x3 : Int64) (N : qz_N) (ho : o < 1) (r : (Int64 × qz_N)) (h : fE_quote o x1 x2 x3 N = some r) : qz_M l yE_quote prog_1_method_11_code 8 (some .long) 3 G [.ref (G.2.2 0 o), .int x1, .int x2, .long x3] N (some (.long r.1)) r.2 :=
  qz_enter (lv := [(0, .ref (G.2.2 0 o)), (1, .int x1), (2, .int x2), (3, .long x3)]) rfl hD (Nat.le_of_ble_eq_true rfl) rfl (fun p e s m args below meth c X => sE_quote X o x1 x2 x3 ho N h)
-- ExactCurves$Pool.mayBecome(JJJJ)Z
theorem dq_P_mayBecome_0 : decode prog_6_method_12_code 0 = .ok (.ldc2_w 75, 3) := by decide +kernel
theorem dq_P_mayBecome_3 : decode prog_6_method_12_code 3 = .ok (.lload_n 1, 1) := by decide +kernel
theorem dq_P_mayBecome_4 : decode prog_6_method_12_code 4 = .ok (.lmul, 1) := by decide +kernel
theorem dq_P_mayBecome_5 : decode prog_6_method_12_code 5 = .ok (.aload_n 0, 1) := by decide +kernel
theorem dq_P_mayBecome_6 : decode prog_6_method_12_code 6 = .ok (.getfield 41, 3) := by decide +kernel
theorem dq_P_mayBecome_9 : decode prog_6_method_12_code 9 = .ok (.i2l, 1) := by decide +kernel
theorem dq_P_mayBecome_10 : decode prog_6_method_12_code 10 = .ok (.lload 5, 2) := by decide +kernel
theorem dq_P_mayBecome_12 : decode prog_6_method_12_code 12 = .ok (.lmul, 1) := by decide +kernel
theorem dq_P_mayBecome_13 : decode prog_6_method_12_code 13 = .ok (.lsub, 1) := by decide +kernel
theorem dq_P_mayBecome_14 : decode prog_6_method_12_code 14 = .ok (.lstore 9, 2) := by decide +kernel
theorem dq_P_mayBecome_16 : decode prog_6_method_12_code 16 = .ok (.ldc2_w 75, 3) := by decide +kernel
theorem dq_P_mayBecome_19 : decode prog_6_method_12_code 19 = .ok (.lload_n 3, 1) := by decide +kernel
theorem dq_P_mayBecome_20 : decode prog_6_method_12_code 20 = .ok (.lmul, 1) := by decide +kernel
theorem dq_P_mayBecome_21 : decode prog_6_method_12_code 21 = .ok (.aload_n 0, 1) := by decide +kernel
theorem dq_P_mayBecome_22 : decode prog_6_method_12_code 22 = .ok (.getfield 41, 3) := by decide +kernel
theorem dq_P_mayBecome_25 : decode prog_6_method_12_code 25 = .ok (.i2l, 1) := by decide +kernel
theorem dq_P_mayBecome_26 : decode prog_6_method_12_code 26 = .ok (.lload 7, 2) := by decide +kernel
theorem dq_P_mayBecome_28 : decode prog_6_method_12_code 28 = .ok (.lmul, 1) := by decide +kernel
theorem dq_P_mayBecome_29 : decode prog_6_method_12_code 29 = .ok (.lsub, 1) := by decide +kernel
theorem dq_P_mayBecome_30 : decode prog_6_method_12_code 30 = .ok (.lstore 11, 2) := by decide +kernel
theorem dq_P_mayBecome_32 : decode prog_6_method_12_code 32 = .ok (.lload_n 1, 1) := by decide +kernel
theorem dq_P_mayBecome_33 : decode prog_6_method_12_code 33 = .ok (.lconst 0, 1) := by decide +kernel
theorem dq_P_mayBecome_34 : decode prog_6_method_12_code 34 = .ok (.lcmp, 1) := by decide +kernel
theorem dq_P_mayBecome_35 : decode prog_6_method_12_code 35 = .ok (.ifCond .lt 9, 3) := by decide +kernel
theorem dq_P_mayBecome_38 : decode prog_6_method_12_code 38 = .ok (.lload_n 3, 1) := by decide +kernel
theorem dq_P_mayBecome_39 : decode prog_6_method_12_code 39 = .ok (.lconst 0, 1) := by decide +kernel
theorem dq_P_mayBecome_40 : decode prog_6_method_12_code 40 = .ok (.lcmp, 1) := by decide +kernel
theorem dq_P_mayBecome_41 : decode prog_6_method_12_code 41 = .ok (.ifCond .ge 5, 3) := by decide +kernel
theorem dq_P_mayBecome_44 : decode prog_6_method_12_code 44 = .ok (.iconst 0, 1) := by decide +kernel
theorem dq_P_mayBecome_45 : decode prog_6_method_12_code 45 = .ok (.ireturn, 1) := by decide +kernel
theorem dq_P_mayBecome_46 : decode prog_6_method_12_code 46 = .ok (.aload_n 0, 1) := by decide +kernel
theorem dq_P_mayBecome_47 : decode prog_6_method_12_code 47 = .ok (.getfield 38, 3) := by decide +kernel
theorem dq_P_mayBecome_50 : decode prog_6_method_12_code 50 = .ok (.iconst 1, 1) := by decide +kernel
theorem dq_P_mayBecome_51 : decode prog_6_method_12_code 51 = .ok (.if_icmp .ne 31, 3) := by decide +kernel
theorem dq_P_mayBecome_54 : decode prog_6_method_12_code 54 = .ok (.lload 9, 2) := by decide +kernel
theorem dq_P_mayBecome_56 : decode prog_6_method_12_code 56 = .ok (.lload 11, 2) := by decide +kernel
theorem dq_P_mayBecome_58 : decode prog_6_method_12_code 58 = .ok (.ladd, 1) := by decide +kernel
theorem dq_P_mayBecome_59 : decode prog_6_method_12_code 59 = .ok (.ldc2_w 75, 3) := by decide +kernel
theorem dq_P_mayBecome_62 : decode prog_6_method_12_code 62 = .ok (.aload_n 0, 1) := by decide +kernel
theorem dq_P_mayBecome_63 : decode prog_6_method_12_code 63 = .ok (.getfield 22, 3) := by decide +kernel
theorem dq_P_mayBecome_66 : decode prog_6_method_12_code 66 = .ok (.aload_n 0, 1) := by decide +kernel
theorem dq_P_mayBecome_67 : decode prog_6_method_12_code 67 = .ok (.getfield 26, 3) := by decide +kernel
theorem dq_P_mayBecome_70 : decode prog_6_method_12_code 70 = .ok (.ladd, 1) := by decide +kernel
theorem dq_P_mayBecome_71 : decode prog_6_method_12_code 71 = .ok (.lmul, 1) := by decide +kernel
theorem dq_P_mayBecome_72 : decode prog_6_method_12_code 72 = .ok (.lcmp, 1) := by decide +kernel
theorem dq_P_mayBecome_73 : decode prog_6_method_12_code 73 = .ok (.ifCond .lt 7, 3) := by decide +kernel
theorem dq_P_mayBecome_76 : decode prog_6_method_12_code 76 = .ok (.iconst 1, 1) := by decide +kernel
theorem dq_P_mayBecome_77 : decode prog_6_method_12_code 77 = .ok (.goto 4, 3) := by decide +kernel
theorem dq_P_mayBecome_80 : decode prog_6_method_12_code 80 = .ok (.iconst 0, 1) := by decide +kernel
theorem dq_P_mayBecome_81 : decode prog_6_method_12_code 81 = .ok (.ireturn, 1) := by decide +kernel
theorem dq_P_mayBecome_82 : decode prog_6_method_12_code 82 = .ok (.lload 9, 2) := by decide +kernel
theorem dq_P_mayBecome_84 : decode prog_6_method_12_code 84 = .ok (.lconst 0, 1) := by decide +kernel
theorem dq_P_mayBecome_85 : decode prog_6_method_12_code 85 = .ok (.lcmp, 1) := by decide +kernel
theorem dq_P_mayBecome_86 : decode prog_6_method_12_code 86 = .ok (.ifCond .lt 40, 3) := by decide +kernel
theorem dq_P_mayBecome_89 : decode prog_6_method_12_code 89 = .ok (.lload 11, 2) := by decide +kernel
theorem dq_P_mayBecome_91 : decode prog_6_method_12_code 91 = .ok (.lconst 0, 1) := by decide +kernel
theorem dq_P_mayBecome_92 : decode prog_6_method_12_code 92 = .ok (.lcmp, 1) := by decide +kernel
theorem dq_P_mayBecome_93 : decode prog_6_method_12_code 93 = .ok (.ifCond .lt 33, 3) := by decide +kernel
theorem dq_P_mayBecome_96 : decode prog_6_method_12_code 96 = .ok (.lload 9, 2) := by decide +kernel
theorem dq_P_mayBecome_98 : decode prog_6_method_12_code 98 = .ok (.lload 11, 2) := by decide +kernel
theorem dq_P_mayBecome_100 : decode prog_6_method_12_code 100 = .ok (.ldc2_w 75, 3) := by decide +kernel
theorem dq_P_mayBecome_103 : decode prog_6_method_12_code 103 = .ok (.aload_n 0, 1) := by decide +kernel
theorem dq_P_mayBecome_104 : decode prog_6_method_12_code 104 = .ok (.getfield 22, 3) := by decide +kernel
theorem dq_P_mayBecome_107 : decode prog_6_method_12_code 107 = .ok (.lmul, 1) := by decide +kernel
theorem dq_P_mayBecome_108 : decode prog_6_method_12_code 108 = .ok (.ldc2_w 75, 3) := by decide +kernel
theorem dq_P_mayBecome_111 : decode prog_6_method_12_code 111 = .ok (.aload_n 0, 1) := by decide +kernel
theorem dq_P_mayBecome_112 : decode prog_6_method_12_code 112 = .ok (.getfield 26, 3) := by decide +kernel
theorem dq_P_mayBecome_115 : decode prog_6_method_12_code 115 = .ok (.lmul, 1) := by decide +kernel
theorem dq_P_mayBecome_116 : decode prog_6_method_12_code 116 = .ok (.invokestatic 77, 3) := by decide +kernel
theorem dq_P_mayBecome_119 : decode prog_6_method_12_code 119 = .ok (.ifCond .lt 7, 3) := by decide +kernel
theorem dq_P_mayBecome_122 : decode prog_6_method_12_code 122 = .ok (.iconst 1, 1) := by decide +kernel
theorem dq_P_mayBecome_123 : decode prog_6_method_12_code 123 = .ok (.goto 4, 3) := by decide +kernel
theorem dq_P_mayBecome_126 : decode prog_6_method_12_code 126 = .ok (.iconst 0, 1) := by decide +kernel
theorem dq_P_mayBecome_127 : decode prog_6_method_12_code 127 = .ok (.ireturn, 1) := by decide +kernel
def fP_mayBecome (o : Nat) (x1 : Int64) (x3 : Int64) (x5 : Int64) (x7 : Int64) (N : qz_N) : Option (Int32 × qz_N) :=
  qz_let (((10000 : Int64) * x1) - (((qz_gi N 2 o 4).toInt64) * x5)) fun v1 =>
  qz_let (((10000 : Int64) * x3) - (((qz_gi N 2 o 4).toInt64) * x7)) fun v2 =>
  if x1 < (0 : Int64) then
    some ((0 : Int32), N)
  else
  if (0 : Int64) ≤ x3 then
    if (qz_gi N 2 o 3) = (1 : Int32) then
      if (v1 + v2) < ((10000 : Int64) * ((qz_gl N 2 o 5) + (qz_gl N 2 o 6))) then
        some ((0 : Int32), N)
      else
      some ((1 : Int32), N)
    else
    if v1 < (0 : Int64) then
      some ((0 : Int32), N)
    else
    if v2 < (0 : Int64) then
      some ((0 : Int32), N)
    else
    (fA_compareProducts v1 v2 ((10000 : Int64) * (qz_gl N 2 o 5)) ((10000 : Int64) * (qz_gl N 2 o 6)) N).bind fun q3 =>
    if q3.1 < 0 then
      some ((0 : Int32), q3.2)
    else
    some ((1 : Int32), q3.2)
  else
  some ((0 : Int32), N)
set_option maxRecDepth 100000 in
set_option maxHeartbeats 4000000 in
theorem sP_mayBecome {p : Program} {l : Launch} {e : Env} {s : State} {m : MethodId} {args : Array Value} {below : List Frame} {meth : Method} {c : Code} {G : qz_G} (X : qz_X p s m args meth c "ExactCurves$Pool" prog_6_method_12_code 13 (some .boolean) G) {r : (Int32 × qz_N)} (o : Nat) (x1 : Int64) (x3 : Int64) (x5 : Int64) (x7 : Int64) (ho : o < 6) (N : qz_N) (h : fP_mayBecome o x1 x3 x5 x7 N = some r) : qz_W p l e (qz_R 2) s m args below meth c 0 0 (MQ below (qz_Q G r.2 (some (.int r.1))) args s 0 0 (qz_A G)) G s.heap 13 N 0 [(0, .ref (G.2.2 2 o)), (1, .long x1), (3, .long x3), (5, .long x5), (7, .long x7)] [] := by
  unfold fP_mayBecome at h
  refine qz_ldc2 X (v := (10000 : Int64)) wq_384 dq_P_mayBecome_0 ?_
  refine qz_lload_n X 1 rfl dq_P_mayBecome_3 ?_
  refine qz_lmul X dq_P_mayBecome_4 ?_
  refine qz_aload_n X 0 rfl dq_P_mayBecome_5 ?_
  refine qz_get X (v := .int (qz_gi N 2 o 4)) kq_P_41 ho rfl dq_P_mayBecome_6 ?_
  refine qz_i2l X dq_P_mayBecome_9 ?_
  refine qz_lload X 3 rfl dq_P_mayBecome_10 ?_
  refine qz_lmul X dq_P_mayBecome_12 ?_
  refine qz_lsub X dq_P_mayBecome_13 ?_
  refine qz_letj h (fun v1 h => ?_)
  refine qz_lstore X (lv' := [(9, .long v1), (0, .ref (G.2.2 2 o)), (1, .long x1), (3, .long x3), (5, .long x5), (7, .long x7)]) (by decide) rfl dq_P_mayBecome_14 ?_
  refine qz_ldc2 X (v := (10000 : Int64)) wq_384 dq_P_mayBecome_16 ?_
  refine qz_lload_n X 3 rfl dq_P_mayBecome_19 ?_
  refine qz_lmul X dq_P_mayBecome_20 ?_
  refine qz_aload_n X 1 rfl dq_P_mayBecome_21 ?_
  refine qz_get X (v := .int (qz_gi N 2 o 4)) kq_P_41 ho rfl dq_P_mayBecome_22 ?_
  refine qz_i2l X dq_P_mayBecome_25 ?_
  refine qz_lload X 5 rfl dq_P_mayBecome_26 ?_
  refine qz_lmul X dq_P_mayBecome_28 ?_
  refine qz_lsub X dq_P_mayBecome_29 ?_
  refine qz_letj h (fun v2 h => ?_)
  refine qz_lstore X (lv' := [(11, .long v2), (9, .long v1), (0, .ref (G.2.2 2 o)), (1, .long x1), (3, .long x3), (5, .long x5), (7, .long x7)]) (by decide) rfl dq_P_mayBecome_30 ?_
  refine qz_lload_n X 3 rfl dq_P_mayBecome_32 ?_
  refine qz_lconst X (v := (0 : Int64)) (by decide) dq_P_mayBecome_33 ?_
  refine qz_lcmp_lt X (tgt := 44) (by decide) dq_P_mayBecome_34 dq_P_mayBecome_35 h (fun _ h => ?_) (fun _ h => ?_)
  · refine qz_iconst X (v := (0 : Int32)) (by decide) dq_P_mayBecome_44 ?_
    exact qz_zret X (by decide) h dq_P_mayBecome_45
  · refine qz_lload_n X 4 rfl dq_P_mayBecome_38 ?_
    refine qz_lconst X (v := (0 : Int64)) (by decide) dq_P_mayBecome_39 ?_
    refine qz_lcmp_ge X (tgt := 46) (by decide) dq_P_mayBecome_40 dq_P_mayBecome_41 h (fun _ h => ?_) (fun _ h => ?_)
    · refine qz_aload_n X 2 rfl dq_P_mayBecome_46 ?_
      refine qz_get X (v := .int (qz_gi N 2 o 3)) kq_P_38 ho rfl dq_P_mayBecome_47 ?_
      refine qz_iconst X (v := (1 : Int32)) (by decide) dq_P_mayBecome_50 ?_
      refine qz_icmp_ne X (tgt := 82) (by decide) dq_P_mayBecome_51 h (fun _ h => ?_) (fun _ h => ?_)
      · refine qz_lload X 1 rfl dq_P_mayBecome_82 ?_
        refine qz_lconst X (v := (0 : Int64)) (by decide) dq_P_mayBecome_84 ?_
        refine qz_lcmp_lt X (tgt := 126) (by decide) dq_P_mayBecome_85 dq_P_mayBecome_86 h (fun _ h => ?_) (fun _ h => ?_)
        · refine qz_iconst X (v := (0 : Int32)) (by decide) dq_P_mayBecome_126 ?_
          exact qz_zret X (by decide) h dq_P_mayBecome_127
        · refine qz_lload X 0 rfl dq_P_mayBecome_89 ?_
          refine qz_lconst X (v := (0 : Int64)) (by decide) dq_P_mayBecome_91 ?_
          refine qz_lcmp_lt X (tgt := 126) (by decide) dq_P_mayBecome_92 dq_P_mayBecome_93 h (fun _ h => ?_) (fun _ h => ?_)
          · refine qz_iconst X (v := (0 : Int32)) (by decide) dq_P_mayBecome_126 ?_
            exact qz_zret X (by decide) h dq_P_mayBecome_127
          · refine qz_lload X 1 rfl dq_P_mayBecome_96 ?_
            refine qz_lload X 0 rfl dq_P_mayBecome_98 ?_
            refine qz_ldc2 X (v := (10000 : Int64)) wq_384 dq_P_mayBecome_100 ?_
            refine qz_aload_n X 2 rfl dq_P_mayBecome_103 ?_
            refine qz_get X (v := .long (qz_gl N 2 o 5)) kq_P_22 ho rfl dq_P_mayBecome_104 ?_
            refine qz_lmul X dq_P_mayBecome_107 ?_
            refine qz_ldc2 X (v := (10000 : Int64)) wq_384 dq_P_mayBecome_108 ?_
            refine qz_aload_n X 2 rfl dq_P_mayBecome_111 ?_
            refine qz_get X (v := .long (qz_gl N 2 o 6)) kq_P_26 ho rfl dq_P_mayBecome_112 ?_
            refine qz_lmul X dq_P_mayBecome_115 ?_
            refine qz_bind h (fun q3 e4 h => ?_)
            refine qz_callS X (as := [.long v1, .long v2, .long ((10000 : Int64) * (qz_gl N 2 o 5)), .long ((10000 : Int64) * (qz_gl N 2 o 6))]) (st := []) (o := some (.int q3.1)) (N' := q3.2) cq_P_77 (cA_compareProducts l G X.2.2.2.2.2.2.1 v1 v2 ((10000 : Int64) * (qz_gl N 2 o 5)) ((10000 : Int64) * (qz_gl N 2 o 6)) N _ e4) ⟨by decide, by decide⟩ rfl rfl (Nat.le_of_ble_eq_true rfl) ⟨Nat.zero_le _, Nat.zero_le _⟩ dq_P_mayBecome_116 ?_
            refine qz_if_lt X (tgt := 126) (by decide) dq_P_mayBecome_119 h (fun _ h => ?_) (fun _ h => ?_)
            · refine qz_iconst X (v := (0 : Int32)) (by decide) dq_P_mayBecome_126 ?_
              exact qz_zret X (by decide) h dq_P_mayBecome_127
            · refine qz_iconst X (v := (1 : Int32)) (by decide) dq_P_mayBecome_122 ?_
              refine qz_goto X (tgt := 127) (by decide) dq_P_mayBecome_123 ?_
              exact qz_zret X (by decide) h dq_P_mayBecome_127
      · refine qz_lload X 1 rfl dq_P_mayBecome_54 ?_
        refine qz_lload X 0 rfl dq_P_mayBecome_56 ?_
        refine qz_ladd X dq_P_mayBecome_58 ?_
        refine qz_ldc2 X (v := (10000 : Int64)) wq_384 dq_P_mayBecome_59 ?_
        refine qz_aload_n X 2 rfl dq_P_mayBecome_62 ?_
        refine qz_get X (v := .long (qz_gl N 2 o 5)) kq_P_22 ho rfl dq_P_mayBecome_63 ?_
        refine qz_aload_n X 2 rfl dq_P_mayBecome_66 ?_
        refine qz_get X (v := .long (qz_gl N 2 o 6)) kq_P_26 ho rfl dq_P_mayBecome_67 ?_
        refine qz_ladd X dq_P_mayBecome_70 ?_
        refine qz_lmul X dq_P_mayBecome_71 ?_
        refine qz_lcmp_lt X (tgt := 80) (by decide) dq_P_mayBecome_72 dq_P_mayBecome_73 h (fun _ h => ?_) (fun _ h => ?_)
        · refine qz_iconst X (v := (0 : Int32)) (by decide) dq_P_mayBecome_80 ?_
          exact qz_zret X (by decide) h dq_P_mayBecome_81
        · refine qz_iconst X (v := (1 : Int32)) (by decide) dq_P_mayBecome_76 ?_
          refine qz_goto X (tgt := 81) (by decide) dq_P_mayBecome_77 ?_
          exact qz_zret X (by decide) h dq_P_mayBecome_81
    · refine qz_iconst X (v := (0 : Int32)) (by decide) dq_P_mayBecome_44 ?_
      exact qz_zret X (by decide) h dq_P_mayBecome_45
theorem cP_mayBecome (l : Launch) (G : qz_G) (hD : qz_D G) (o : Nat) (x1 : Int64) (x3 : Int64) (x5 : Int64) (x7 : Int64) (N : qz_N) (ho : o < 6) (r : (Int32 × qz_N)) (h : fP_mayBecome o x1 x3 x5 x7 N = some r) : qz_M l yP_mayBecome prog_6_method_12_code 13 (some .boolean) 2 G [.ref (G.2.2 2 o), .long x1, .long x3, .long x5, .long x7] N (some (.int r.1)) r.2 :=
  qz_enter (lv := [(0, .ref (G.2.2 2 o)), (1, .long x1), (3, .long x3), (5, .long x5), (7, .long x7)]) rfl hD (Nat.le_of_ble_eq_true rfl) rfl (fun p e s m args below meth c X => sP_mayBecome X o x1 x3 x5 x7 ho N h)
