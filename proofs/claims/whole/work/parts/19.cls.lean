-- ExactCurves.vault(II)J
theorem dq_E_vault_0 : decode prog_1_method_23_code 0 = .ok (.iload_n 1, 1) := by decide +kernel
theorem dq_E_vault_1 : decode prog_1_method_23_code 1 = .ok (.invokestatic 55, 3) := by decide +kernel
theorem dq_E_vault_4 : decode prog_1_method_23_code 4 = .ok (.ifCond .ne 7, 3) := by decide +kernel
theorem dq_E_vault_7 : decode prog_1_method_23_code 7 = .ok (.ldc2_w 60, 3) := by decide +kernel
theorem dq_E_vault_10 : decode prog_1_method_23_code 10 = .ok (.lreturn, 1) := by decide +kernel
theorem dq_E_vault_11 : decode prog_1_method_23_code 11 = .ok (.iload_n 2, 1) := by decide +kernel
theorem dq_E_vault_12 : decode prog_1_method_23_code 12 = .ok (.iconst 1, 1) := by decide +kernel
theorem dq_E_vault_13 : decode prog_1_method_23_code 13 = .ok (.if_icmp .ne 11, 3) := by decide +kernel
theorem dq_E_vault_16 : decode prog_1_method_23_code 16 = .ok (.aload_n 0, 1) := by decide +kernel
theorem dq_E_vault_17 : decode prog_1_method_23_code 17 = .ok (.iload_n 1, 1) := by decide +kernel
theorem dq_E_vault_18 : decode prog_1_method_23_code 18 = .ok (.invokevirtual 239, 3) := by decide +kernel
theorem dq_E_vault_21 : decode prog_1_method_23_code 21 = .ok (.goto 13, 3) := by decide +kernel
theorem dq_E_vault_24 : decode prog_1_method_23_code 24 = .ok (.aload_n 0, 1) := by decide +kernel
theorem dq_E_vault_25 : decode prog_1_method_23_code 25 = .ok (.getfield 37, 3) := by decide +kernel
theorem dq_E_vault_28 : decode prog_1_method_23_code 28 = .ok (.iload_n 1, 1) := by decide +kernel
theorem dq_E_vault_29 : decode prog_1_method_23_code 29 = .ok (.aaload, 1) := by decide +kernel
theorem dq_E_vault_30 : decode prog_1_method_23_code 30 = .ok (.iload_n 2, 1) := by decide +kernel
theorem dq_E_vault_31 : decode prog_1_method_23_code 31 = .ok (.invokevirtual 254, 3) := by decide +kernel
theorem dq_E_vault_34 : decode prog_1_method_23_code 34 = .ok (.lreturn, 1) := by decide +kernel
def fE_vault (o : Nat) (x1 : Int32) (x2 : Int32) (N : qz_N) : Option (Int64 × qz_N) :=
  (fE_isToken x1 N).bind fun q1 =>
  if q1.1 = 0 then
    some ((-2 : Int64), q1.2)
  else
  if x2 = (1 : Int32) then
    (fE_worthOf o x1 q1.2).bind fun q6 =>
    some (q6.1, q6.2)
  else
  if x1 < 0 ∨ 4 ≤ x1.toNatClampNeg then none else
  (fV_told x1.toNatClampNeg x2 q1.2).bind fun q4 =>
  some (q4.1, q4.2)
set_option maxRecDepth 100000 in
set_option maxHeartbeats 4000000 in
theorem sE_vault {p : Program} {l : Launch} {e : Env} {s : State} {m : MethodId} {args : Array Value} {below : List Frame} {meth : Method} {c : Code} {G : qz_G} (X : qz_X p s m args meth c "ExactCurves" prog_1_method_23_code 3 (some .long) G) {r : (Int64 × qz_N)} (o : Nat) (x1 : Int32) (x2 : Int32) (ho : o < 1) (N : qz_N) (h : fE_vault o x1 x2 N = some r) : qz_W p l e (qz_R 6) s m args below meth c 0 0 (MQ below (qz_Q G r.2 (some (.long r.1))) args s 0 0 (qz_A G)) G s.heap 3 N 0 [(0, .ref (G.2.2 0 o)), (1, .int x1), (2, .int x2)] [] := by
  unfold fE_vault at h
  refine qz_iload_n X 1 rfl dq_E_vault_0 ?_
  refine qz_bind h (fun q1 e2 h => ?_)
  refine qz_callS X (as := [.int x1]) (st := []) (o := some (.int q1.1)) (N' := q1.2) cq_E_55 (cE_isToken l G X.2.2.2.2.2.2.1 x1 N _ e2) ⟨by decide, by decide⟩ rfl rfl (Nat.le_of_ble_eq_true rfl) ⟨Nat.zero_le _, Nat.zero_le _⟩ dq_E_vault_1 ?_
  refine qz_if_ne X (tgt := 11) (by decide) dq_E_vault_4 h (fun _ h => ?_) (fun _ h => ?_)
  · refine qz_iload_n X 2 rfl dq_E_vault_11 ?_
    refine qz_iconst X (v := (1 : Int32)) (by decide) dq_E_vault_12 ?_
    refine qz_icmp_ne X (tgt := 24) (by decide) dq_E_vault_13 h (fun _ h => ?_) (fun _ h => ?_)
    · refine qz_aload_n X 0 rfl dq_E_vault_24 ?_
      refine qz_get X (v := .ref (G.2.2 10 o)) kq_E_37 ho rfl dq_E_vault_25 ?_
      refine qz_iload_n X 1 rfl dq_E_vault_28 ?_
      refine qz_aald X (c0 := 10) (i := o) (tg := 5) (n := 4) rfl rfl ho dq_E_vault_29 h (fun hb3 h => ?_)
      refine qz_iload_n X 2 rfl dq_E_vault_30 ?_
      refine qz_bind h (fun q4 e5 h => ?_)
      refine qz_callV X (as := [.int x2]) (st := []) (o := some (.long q4.1)) (N' := q4.2) cq_E_254 hb3 (cV_told l G X.2.2.2.2.2.2.1 x1.toNatClampNeg x2 q1.2 hb3 _ e5) ⟨by decide, by decide⟩ rfl rfl (Nat.le_of_ble_eq_true rfl) ⟨Nat.zero_le _, Nat.zero_le _⟩ dq_E_vault_31 ?_
      exact qz_lret X h dq_E_vault_34
    · refine qz_aload_n X 0 rfl dq_E_vault_16 ?_
      refine qz_iload_n X 1 rfl dq_E_vault_17 ?_
      refine qz_bind h (fun q6 e7 h => ?_)
      refine qz_callV X (as := [.int x1]) (st := []) (o := some (.long q6.1)) (N' := q6.2) cq_E_239 ho (cE_worthOf l G X.2.2.2.2.2.2.1 o x1 q1.2 ho _ e7) ⟨by decide, by decide⟩ rfl rfl (Nat.le_of_ble_eq_true rfl) ⟨Nat.zero_le _, Nat.zero_le _⟩ dq_E_vault_18 ?_
      refine qz_goto X (tgt := 34) (by decide) dq_E_vault_21 ?_
      exact qz_lret X h dq_E_vault_34
  · refine qz_ldc2 X (v := (-2 : Int64)) wq_252 dq_E_vault_7 ?_
    exact qz_lret X h dq_E_vault_10
theorem cE_vault (l : Launch) (G : qz_G) (hD : qz_D G) (o : Nat) (x1 : Int32) (x2 : Int32) (N : qz_N) (ho : o < 1) (r : (Int64 × qz_N)) (h : fE_vault o x1 x2 N = some r) : qz_M l yE_vault prog_1_method_23_code 3 (some .long) 6 G [.ref (G.2.2 0 o), .int x1, .int x2] N (some (.long r.1)) r.2 :=
  qz_enter (lv := [(0, .ref (G.2.2 0 o)), (1, .int x1), (2, .int x2)]) rfl hD (Nat.le_of_ble_eq_true rfl) rfl (fun p e s m args below meth c X => sE_vault X o x1 x2 ho N h)
-- ExactCurves.freeLoan()I
theorem dq_E_freeLoan_0 : decode prog_1_method_39_code 0 = .ok (.iconst 0, 1) := by decide +kernel
theorem dq_E_freeLoan_1 : decode prog_1_method_39_code 1 = .ok (.istore_n 1, 1) := by decide +kernel
theorem dq_E_freeLoan_2 : decode prog_1_method_39_code 2 = .ok (.iload_n 1, 1) := by decide +kernel
theorem dq_E_freeLoan_3 : decode prog_1_method_39_code 3 = .ok (.bipush 10, 2) := by decide +kernel
theorem dq_E_freeLoan_5 : decode prog_1_method_39_code 5 = .ok (.if_icmp .ge 23, 3) := by decide +kernel
theorem dq_E_freeLoan_8 : decode prog_1_method_39_code 8 = .ok (.aload_n 0, 1) := by decide +kernel
theorem dq_E_freeLoan_9 : decode prog_1_method_39_code 9 = .ok (.getfield 43, 3) := by decide +kernel
theorem dq_E_freeLoan_12 : decode prog_1_method_39_code 12 = .ok (.iload_n 1, 1) := by decide +kernel
theorem dq_E_freeLoan_13 : decode prog_1_method_39_code 13 = .ok (.aaload, 1) := by decide +kernel
theorem dq_E_freeLoan_14 : decode prog_1_method_39_code 14 = .ok (.getfield 314, 3) := by decide +kernel
theorem dq_E_freeLoan_17 : decode prog_1_method_39_code 17 = .ok (.ifCond .ne 5, 3) := by decide +kernel
theorem dq_E_freeLoan_20 : decode prog_1_method_39_code 20 = .ok (.iload_n 1, 1) := by decide +kernel
theorem dq_E_freeLoan_21 : decode prog_1_method_39_code 21 = .ok (.ireturn, 1) := by decide +kernel
theorem dq_E_freeLoan_22 : decode prog_1_method_39_code 22 = .ok (.iinc 1 1, 3) := by decide +kernel
theorem dq_E_freeLoan_25 : decode prog_1_method_39_code 25 = .ok (.goto (-23), 3) := by decide +kernel
theorem dq_E_freeLoan_28 : decode prog_1_method_39_code 28 = .ok (.iconst (-1), 1) := by decide +kernel
theorem dq_E_freeLoan_29 : decode prog_1_method_39_code 29 = .ok (.ireturn, 1) := by decide +kernel
def fE_freeLoan_2b (y0 : Nat) (k2 : qz_N × Int32 → Option (Int32 × qz_N)) (N : qz_N) (x1 : Int32) : Option (Int32 × qz_N) :=
  if (10 : Int32) ≤ x1 then
    some ((-1 : Int32), N)
  else
  if x1 < 0 ∨ 10 ≤ x1.toNatClampNeg then none else
  if (qz_gi N 6 x1.toNatClampNeg 0) = 0 then
    some (x1, N)
  else
  qz_let (x1 + (1 : Int32)) fun v2 =>
  k2 (N, v2)
def fE_freeLoan_2 (y0 : Nat) (n : Nat) (a : qz_N × Int32) : Option (Int32 × qz_N) := qz_loop (fun k a => fE_freeLoan_2b y0 k a.1 a.2) n a
def fE_freeLoan (o : Nat) (N : qz_N) : Option (Int32 × qz_N) :=
  fE_freeLoan_2 o 1100 (N, (0 : Int32))
set_option maxRecDepth 100000 in
set_option maxHeartbeats 4000000 in
theorem sE_freeLoan_2b {p : Program} {l : Launch} {e : Env} {s : State} {m : MethodId} {args : Array Value} {below : List Frame} {meth : Method} {c : Code} {G : qz_G} (X : qz_X p s m args meth c "ExactCurves" prog_1_method_39_code 2 (some .int) G) {r : (Int32 × qz_N)} (y0 : Nat) (hy0 : y0 < 1) (k2 : qz_N × Int32 → Option (Int32 × qz_N)) (hk2 : ∀ a, k2 a = some r → qz_W p l e (qz_R 0) s m args below meth c 0 0 (MQ below (qz_Q G r.2 (some (.int r.1))) args s 0 0 (qz_A G)) G s.heap 2 a.1 2 [(1, .int a.2), (0, .ref (G.2.2 0 y0))] []) (N : qz_N) (x1 : Int32) (h : fE_freeLoan_2b y0 k2 N x1 = some r) : qz_W p l e (qz_R 0) s m args below meth c 0 0 (MQ below (qz_Q G r.2 (some (.int r.1))) args s 0 0 (qz_A G)) G s.heap 2 N 2 [(1, .int x1), (0, .ref (G.2.2 0 y0))] [] := by
  unfold fE_freeLoan_2b at h
  refine qz_iload_n X 0 rfl dq_E_freeLoan_2 ?_
  refine qz_bipush X (v := (10 : Int32)) (by decide) dq_E_freeLoan_3 ?_
  refine qz_icmp_ge X (tgt := 28) (by decide) dq_E_freeLoan_5 h (fun _ h => ?_) (fun _ h => ?_)
  · refine qz_iconst X (v := (-1 : Int32)) (by decide) dq_E_freeLoan_28 ?_
    exact qz_iret X h dq_E_freeLoan_29
  · refine qz_aload_n X 1 rfl dq_E_freeLoan_8 ?_
    refine qz_get X (v := .ref (G.2.2 11 y0)) kq_E_43 hy0 rfl dq_E_freeLoan_9 ?_
    refine qz_iload_n X 0 rfl dq_E_freeLoan_12 ?_
    refine qz_aald X (c0 := 11) (i := y0) (tg := 6) (n := 10) rfl rfl hy0 dq_E_freeLoan_13 h (fun hb1 h => ?_)
    refine qz_get X (v := .int (qz_gi N 6 x1.toNatClampNeg 0)) kq_E_314 hb1 rfl dq_E_freeLoan_14 ?_
    refine qz_if_ne X (tgt := 22) (by decide) dq_E_freeLoan_17 h (fun _ h => ?_) (fun _ h => ?_)
    · refine qz_iinc_l X (u := (1 : Int32)) (lv' := fun v2 => [(1, .int v2), (0, .ref (G.2.2 0 y0))]) (k := 0) rfl (by decide) (by decide) (fun _ => rfl) dq_E_freeLoan_22 h (fun v2 h => ?_)
      refine qz_goto X (tgt := 2) (by decide) dq_E_freeLoan_25 ?_
      refine qz_sub [0, 1] rfl ?_
      exact hk2 (N, v2) h
    · refine qz_iload_n X 0 rfl dq_E_freeLoan_20 ?_
      exact qz_iret X h dq_E_freeLoan_21
theorem sE_freeLoan_2 {p : Program} {l : Launch} {e : Env} {s : State} {m : MethodId} {args : Array Value} {below : List Frame} {meth : Method} {c : Code} {G : qz_G} (X : qz_X p s m args meth c "ExactCurves" prog_1_method_39_code 2 (some .int) G) {r : (Int32 × qz_N)} (y0 : Nat) (hy0 : y0 < 1) (n : Nat) (a : qz_N × Int32) (h : fE_freeLoan_2 y0 n a = some r) : qz_W p l e (qz_R 0) s m args below meth c 0 0 (MQ below (qz_Q G r.2 (some (.int r.1))) args s 0 0 (qz_A G)) G s.heap 2 a.1 2 [(1, .int a.2), (0, .ref (G.2.2 0 y0))] [] :=
  qz_loop_ind (P := fun a => qz_W p l e (qz_R 0) s m args below meth c 0 0 (MQ below (qz_Q G r.2 (some (.int r.1))) args s 0 0 (qz_A G)) G s.heap 2 a.1 2 [(1, .int a.2), (0, .ref (G.2.2 0 y0))] []) (fun k hk a h => sE_freeLoan_2b X y0 hy0 k hk a.1 a.2 h) n a h
set_option maxRecDepth 100000 in
set_option maxHeartbeats 4000000 in
theorem sE_freeLoan {p : Program} {l : Launch} {e : Env} {s : State} {m : MethodId} {args : Array Value} {below : List Frame} {meth : Method} {c : Code} {G : qz_G} (X : qz_X p s m args meth c "ExactCurves" prog_1_method_39_code 2 (some .int) G) {r : (Int32 × qz_N)} (o : Nat) (ho : o < 1) (N : qz_N) (h : fE_freeLoan o N = some r) : qz_W p l e (qz_R 0) s m args below meth c 0 0 (MQ below (qz_Q G r.2 (some (.int r.1))) args s 0 0 (qz_A G)) G s.heap 2 N 0 [(0, .ref (G.2.2 0 o))] [] := by
  unfold fE_freeLoan at h
  refine qz_iconst X (v := (0 : Int32)) (by decide) dq_E_freeLoan_0 ?_
  refine qz_istore_n X (lv' := [(1, .int (0 : Int32)), (0, .ref (G.2.2 0 o))]) rfl (by decide) rfl dq_E_freeLoan_1 ?_
  refine qz_sub [0, 1] rfl ?_
  exact sE_freeLoan_2 X o ho 1100 (N, (0 : Int32)) h
theorem cE_freeLoan (l : Launch) (G : qz_G) (hD : qz_D G) (o : Nat) (N : qz_N) (ho : o < 1) (r : (Int32 × qz_N)) (h : fE_freeLoan o N = some r) : qz_M l yE_freeLoan prog_1_method_39_code 2 (some .int) 0 G [.ref (G.2.2 0 o)] N (some (.int r.1)) r.2 :=
  qz_enter (lv := [(0, .ref (G.2.2 0 o))]) rfl hD (Nat.le_of_ble_eq_true rfl) rfl (fun p e s m args below meth c X => sE_freeLoan X o ho N h)
-- ExactCurves$Pool.valueOf(IJ)J
theorem dq_P_valueOf_0 : decode prog_6_method_14_code 0 = .ok (.aload_n 0, 1) := by decide +kernel
theorem dq_P_valueOf_1 : decode prog_6_method_14_code 1 = .ok (.iload_n 1, 1) := by decide +kernel
theorem dq_P_valueOf_2 : decode prog_6_method_14_code 2 = .ok (.invokevirtual 68, 3) := by decide +kernel
theorem dq_P_valueOf_5 : decode prog_6_method_14_code 5 = .ok (.lstore 4, 2) := by decide +kernel
theorem dq_P_valueOf_7 : decode prog_6_method_14_code 7 = .ok (.lload 4, 2) := by decide +kernel
theorem dq_P_valueOf_9 : decode prog_6_method_14_code 9 = .ok (.lconst 0, 1) := by decide +kernel
theorem dq_P_valueOf_10 : decode prog_6_method_14_code 10 = .ok (.lcmp, 1) := by decide +kernel
theorem dq_P_valueOf_11 : decode prog_6_method_14_code 11 = .ok (.ifCond .ne 5, 3) := by decide +kernel
theorem dq_P_valueOf_14 : decode prog_6_method_14_code 14 = .ok (.lconst 0, 1) := by decide +kernel
theorem dq_P_valueOf_15 : decode prog_6_method_14_code 15 = .ok (.lreturn, 1) := by decide +kernel
theorem dq_P_valueOf_16 : decode prog_6_method_14_code 16 = .ok (.ldc2_w 83, 3) := by decide +kernel
theorem dq_P_valueOf_19 : decode prog_6_method_14_code 19 = .ok (.lload_n 2, 1) := by decide +kernel
theorem dq_P_valueOf_20 : decode prog_6_method_14_code 20 = .ok (.aload_n 0, 1) := by decide +kernel
theorem dq_P_valueOf_21 : decode prog_6_method_14_code 21 = .ok (.iconst 1, 1) := by decide +kernel
theorem dq_P_valueOf_22 : decode prog_6_method_14_code 22 = .ok (.iload_n 1, 1) := by decide +kernel
theorem dq_P_valueOf_23 : decode prog_6_method_14_code 23 = .ok (.isub, 1) := by decide +kernel
theorem dq_P_valueOf_24 : decode prog_6_method_14_code 24 = .ok (.invokevirtual 68, 3) := by decide +kernel
theorem dq_P_valueOf_27 : decode prog_6_method_14_code 27 = .ok (.lload 4, 2) := by decide +kernel
theorem dq_P_valueOf_29 : decode prog_6_method_14_code 29 = .ok (.invokestatic 64, 3) := by decide +kernel
theorem dq_P_valueOf_32 : decode prog_6_method_14_code 32 = .ok (.invokestatic 55, 3) := by decide +kernel
theorem dq_P_valueOf_35 : decode prog_6_method_14_code 35 = .ok (.lreturn, 1) := by decide +kernel
def fP_valueOf (o : Nat) (x1 : Int32) (x2 : Int64) (N : qz_N) : Option (Int64 × qz_N) :=
  (fP_reserveAt o x1 N).bind fun q1 =>
  if q1.1 = (0 : Int64) then
    some ((0 : Int64), q1.2)
  else
  (fP_reserveAt o ((1 : Int32) - x1) q1.2).bind fun q3 =>
  (fA_timesOver x2 q3.1 q1.1 q3.2).bind fun q5 =>
  some (if q5.1 < (1000000000000000000 : Int64) then q5.1 else (1000000000000000000 : Int64), q5.2)
set_option maxRecDepth 100000 in
set_option maxHeartbeats 4000000 in
theorem sP_valueOf {p : Program} {l : Launch} {e : Env} {s : State} {m : MethodId} {args : Array Value} {below : List Frame} {meth : Method} {c : Code} {G : qz_G} (X : qz_X p s m args meth c "ExactCurves$Pool" prog_6_method_14_code 6 (some .long) G) {r : (Int64 × qz_N)} (o : Nat) (x1 : Int32) (x2 : Int64) (ho : o < 6) (N : qz_N) (h : fP_valueOf o x1 x2 N = some r) : qz_W p l e (qz_R 2) s m args below meth c 0 0 (MQ below (qz_Q G r.2 (some (.long r.1))) args s 0 0 (qz_A G)) G s.heap 6 N 0 [(0, .ref (G.2.2 2 o)), (1, .int x1), (2, .long x2)] [] := by
  unfold fP_valueOf at h
  refine qz_aload_n X 0 rfl dq_P_valueOf_0 ?_
  refine qz_iload_n X 1 rfl dq_P_valueOf_1 ?_
  refine qz_bind h (fun q1 e2 h => ?_)
  refine qz_callV X (as := [.int x1]) (st := []) (o := some (.long q1.1)) (N' := q1.2) cq_P_68 ho (cP_reserveAt l G X.2.2.2.2.2.2.1 o x1 N ho _ e2) ⟨by decide, by decide⟩ rfl rfl (Nat.le_of_ble_eq_true rfl) ⟨Nat.zero_le _, Nat.zero_le _⟩ dq_P_valueOf_2 ?_
  refine qz_lstore X (lv' := [(4, .long q1.1), (0, .ref (G.2.2 2 o)), (1, .int x1), (2, .long x2)]) (by decide) rfl dq_P_valueOf_5 ?_
  refine qz_lload X 0 rfl dq_P_valueOf_7 ?_
  refine qz_lconst X (v := (0 : Int64)) (by decide) dq_P_valueOf_9 ?_
  refine qz_lcmp_ne X (tgt := 16) (by decide) dq_P_valueOf_10 dq_P_valueOf_11 h (fun _ h => ?_) (fun _ h => ?_)
  · refine qz_ldc2 X (v := (1000000000000000000 : Int64)) wq_543 dq_P_valueOf_16 ?_
    refine qz_lload_n X 3 rfl dq_P_valueOf_19 ?_
    refine qz_aload_n X 1 rfl dq_P_valueOf_20 ?_
    refine qz_iconst X (v := (1 : Int32)) (by decide) dq_P_valueOf_21 ?_
    refine qz_iload_n X 2 rfl dq_P_valueOf_22 ?_
    refine qz_isub X dq_P_valueOf_23 ?_
    refine qz_bind h (fun q3 e4 h => ?_)
    refine qz_callV X (as := [.int ((1 : Int32) - x1)]) (st := [.long x2, .long (1000000000000000000 : Int64)]) (o := some (.long q3.1)) (N' := q3.2) cq_P_68 ho (cP_reserveAt l G X.2.2.2.2.2.2.1 o ((1 : Int32) - x1) q1.2 ho _ e4) ⟨by decide, by decide⟩ rfl rfl (Nat.le_of_ble_eq_true rfl) ⟨Nat.zero_le _, Nat.zero_le _⟩ dq_P_valueOf_24 ?_
    refine qz_lload X 0 rfl dq_P_valueOf_27 ?_
    refine qz_bind h (fun q5 e6 h => ?_)
    refine qz_callS X (as := [.long x2, .long q3.1, .long q1.1]) (st := [.long (1000000000000000000 : Int64)]) (o := some (.long q5.1)) (N' := q5.2) cq_P_64 (cA_timesOver l G X.2.2.2.2.2.2.1 x2 q3.1 q1.1 q3.2 _ e6) ⟨by decide, by decide⟩ rfl rfl (Nat.le_of_ble_eq_true rfl) ⟨Nat.zero_le _, Nat.zero_le _⟩ dq_P_valueOf_29 ?_
    refine qz_mmin X (st := []) wq_326 ⟨mq_min, wq_327, wq_11⟩ ⟨by decide, by decide⟩ (Nat.le_of_ble_eq_true rfl) ⟨Nat.zero_le _, Nat.zero_le _⟩ dq_P_valueOf_32 ?_
    exact qz_lret X h dq_P_valueOf_35
  · refine qz_lconst X (v := (0 : Int64)) (by decide) dq_P_valueOf_14 ?_
    exact qz_lret X h dq_P_valueOf_15
theorem cP_valueOf (l : Launch) (G : qz_G) (hD : qz_D G) (o : Nat) (x1 : Int32) (x2 : Int64) (N : qz_N) (ho : o < 6) (r : (Int64 × qz_N)) (h : fP_valueOf o x1 x2 N = some r) : qz_M l yP_valueOf prog_6_method_14_code 6 (some .long) 2 G [.ref (G.2.2 2 o), .int x1, .long x2] N (some (.long r.1)) r.2 :=
  qz_enter (lv := [(0, .ref (G.2.2 2 o)), (1, .int x1), (2, .long x2)]) rfl hD (Nat.le_of_ble_eq_true rfl) rfl (fun p e s m args below meth c X => sP_valueOf X o x1 x2 ho N h)
-- ExactCurves$Vault.unitsOf(J)J
theorem dq_V_unitsOf_0 : decode prog_8_method_6_code 0 = .ok (.lload_n 1, 1) := by decide +kernel
theorem dq_V_unitsOf_1 : decode prog_8_method_6_code 1 = .ok (.ldc2_w 15, 3) := by decide +kernel
theorem dq_V_unitsOf_4 : decode prog_8_method_6_code 4 = .ok (.aload_n 0, 1) := by decide +kernel
theorem dq_V_unitsOf_5 : decode prog_8_method_6_code 5 = .ok (.getfield 17, 3) := by decide +kernel
theorem dq_V_unitsOf_8 : decode prog_8_method_6_code 8 = .ok (.invokestatic 40, 3) := by decide +kernel
theorem dq_V_unitsOf_11 : decode prog_8_method_6_code 11 = .ok (.lreturn, 1) := by decide +kernel
def fV_unitsOf (o : Nat) (x1 : Int64) (N : qz_N) : Option (Int64 × qz_N) :=
  (fA_timesOverUp x1 (1000000000 : Int64) (qz_gl N 5 o 4) N).bind fun q1 =>
  some (q1.1, q1.2)
set_option maxRecDepth 100000 in
set_option maxHeartbeats 4000000 in
theorem sV_unitsOf {p : Program} {l : Launch} {e : Env} {s : State} {m : MethodId} {args : Array Value} {below : List Frame} {meth : Method} {c : Code} {G : qz_G} (X : qz_X p s m args meth c "ExactCurves$Vault" prog_8_method_6_code 3 (some .long) G) {r : (Int64 × qz_N)} (o : Nat) (x1 : Int64) (ho : o < 4) (N : qz_N) (h : fV_unitsOf o x1 N = some r) : qz_W p l e (qz_R 3) s m args below meth c 0 0 (MQ below (qz_Q G r.2 (some (.long r.1))) args s 0 0 (qz_A G)) G s.heap 3 N 0 [(0, .ref (G.2.2 5 o)), (1, .long x1)] [] := by
  unfold fV_unitsOf at h
  refine qz_lload_n X 1 rfl dq_V_unitsOf_0 ?_
  refine qz_ldc2 X (v := (1000000000 : Int64)) wq_165 dq_V_unitsOf_1 ?_
  refine qz_aload_n X 0 rfl dq_V_unitsOf_4 ?_
  refine qz_get X (v := .long (qz_gl N 5 o 4)) kq_V_17 ho rfl dq_V_unitsOf_5 ?_
  refine qz_bind h (fun q1 e2 h => ?_)
  refine qz_callS X (as := [.long x1, .long (1000000000 : Int64), .long (qz_gl N 5 o 4)]) (st := []) (o := some (.long q1.1)) (N' := q1.2) cq_V_40 (cA_timesOverUp l G X.2.2.2.2.2.2.1 x1 (1000000000 : Int64) (qz_gl N 5 o 4) N _ e2) ⟨by decide, by decide⟩ rfl rfl (Nat.le_of_ble_eq_true rfl) ⟨Nat.zero_le _, Nat.zero_le _⟩ dq_V_unitsOf_8 ?_
  exact qz_lret X h dq_V_unitsOf_11
theorem cV_unitsOf (l : Launch) (G : qz_G) (hD : qz_D G) (o : Nat) (x1 : Int64) (N : qz_N) (ho : o < 4) (r : (Int64 × qz_N)) (h : fV_unitsOf o x1 N = some r) : qz_M l yV_unitsOf prog_8_method_6_code 3 (some .long) 3 G [.ref (G.2.2 5 o), .long x1] N (some (.long r.1)) r.2 :=
  qz_enter (lv := [(0, .ref (G.2.2 5 o)), (1, .long x1)]) rfl hD (Nat.le_of_ble_eq_true rfl) rfl (fun p e s m args below meth c X => sV_unitsOf X o x1 ho N h)
-- ExactCurves$Loan.begin(IIIJJ)V
theorem dq_L_begin_0 : decode prog_4_method_2_code 0 = .ok (.aload_n 0, 1) := by decide +kernel
theorem dq_L_begin_1 : decode prog_4_method_2_code 1 = .ok (.iconst 1, 1) := by decide +kernel
theorem dq_L_begin_2 : decode prog_4_method_2_code 2 = .ok (.putfield 7, 3) := by decide +kernel
theorem dq_L_begin_5 : decode prog_4_method_2_code 5 = .ok (.aload_n 0, 1) := by decide +kernel
theorem dq_L_begin_6 : decode prog_4_method_2_code 6 = .ok (.iload_n 1, 1) := by decide +kernel
theorem dq_L_begin_7 : decode prog_4_method_2_code 7 = .ok (.putfield 13, 3) := by decide +kernel
theorem dq_L_begin_10 : decode prog_4_method_2_code 10 = .ok (.aload_n 0, 1) := by decide +kernel
theorem dq_L_begin_11 : decode prog_4_method_2_code 11 = .ok (.iload_n 2, 1) := by decide +kernel
theorem dq_L_begin_12 : decode prog_4_method_2_code 12 = .ok (.putfield 17, 3) := by decide +kernel
theorem dq_L_begin_15 : decode prog_4_method_2_code 15 = .ok (.aload_n 0, 1) := by decide +kernel
theorem dq_L_begin_16 : decode prog_4_method_2_code 16 = .ok (.iload_n 3, 1) := by decide +kernel
theorem dq_L_begin_17 : decode prog_4_method_2_code 17 = .ok (.putfield 20, 3) := by decide +kernel
theorem dq_L_begin_20 : decode prog_4_method_2_code 20 = .ok (.aload_n 0, 1) := by decide +kernel
theorem dq_L_begin_21 : decode prog_4_method_2_code 21 = .ok (.lload 4, 2) := by decide +kernel
theorem dq_L_begin_23 : decode prog_4_method_2_code 23 = .ok (.putfield 23, 3) := by decide +kernel
theorem dq_L_begin_26 : decode prog_4_method_2_code 26 = .ok (.aload_n 0, 1) := by decide +kernel
theorem dq_L_begin_27 : decode prog_4_method_2_code 27 = .ok (.lload 6, 2) := by decide +kernel
theorem dq_L_begin_29 : decode prog_4_method_2_code 29 = .ok (.putfield 27, 3) := by decide +kernel
theorem dq_L_begin_32 : decode prog_4_method_2_code 32 = .ok (.return_, 1) := by decide +kernel
def fL_begin (o : Nat) (x1 : Int32) (x2 : Int32) (x3 : Int32) (x4 : Int64) (x6 : Int64) (N : qz_N) : Option (Unit × qz_N) :=
  qz_let (qz_si N 6 o 0 (1 : Int32)) fun N1 =>
  qz_let (qz_si N1 6 o 1 x1) fun N2 =>
  qz_let (qz_si N2 6 o 2 x2) fun N3 =>
  qz_let (qz_si N3 6 o 3 x3) fun N4 =>
  qz_let (qz_sl N4 6 o 4 x4) fun N5 =>
  qz_let (qz_sl N5 6 o 5 x6) fun N6 =>
  some ((), N6)
set_option maxRecDepth 100000 in
set_option maxHeartbeats 4000000 in
theorem sL_begin {p : Program} {l : Launch} {e : Env} {s : State} {m : MethodId} {args : Array Value} {below : List Frame} {meth : Method} {c : Code} {G : qz_G} (X : qz_X p s m args meth c "ExactCurves$Loan" prog_4_method_2_code 8 none G) {r : (Unit × qz_N)} (o : Nat) (x1 : Int32) (x2 : Int32) (x3 : Int32) (x4 : Int64) (x6 : Int64) (ho : o < 10) (N : qz_N) (h : fL_begin o x1 x2 x3 x4 x6 N = some r) : qz_W p l e (qz_R 0) s m args below meth c 0 0 (MQ below (qz_Q G r.2 none) args s 0 0 (qz_A G)) G s.heap 8 N 0 [(0, .ref (G.2.2 6 o)), (1, .int x1), (2, .int x2), (3, .int x3), (4, .long x4), (6, .long x6)] [] := by
  unfold fL_begin at h
  refine qz_aload_n X 0 rfl dq_L_begin_0 ?_
  refine qz_iconst X (v := (1 : Int32)) (by decide) dq_L_begin_1 ?_
  refine qz_putZ X kq_L_7 ho ⟨by decide, by decide⟩ dq_L_begin_2 h (fun N1 h => ?_)
  refine qz_aload_n X 0 rfl dq_L_begin_5 ?_
  refine qz_iload_n X 1 rfl dq_L_begin_6 ?_
  refine qz_putI X kq_L_13 ho dq_L_begin_7 h (fun N2 h => ?_)
  refine qz_aload_n X 0 rfl dq_L_begin_10 ?_
  refine qz_iload_n X 2 rfl dq_L_begin_11 ?_
  refine qz_putI X kq_L_17 ho dq_L_begin_12 h (fun N3 h => ?_)
  refine qz_aload_n X 0 rfl dq_L_begin_15 ?_
  refine qz_iload_n X 3 rfl dq_L_begin_16 ?_
  refine qz_putI X kq_L_20 ho dq_L_begin_17 h (fun N4 h => ?_)
  refine qz_aload_n X 0 rfl dq_L_begin_20 ?_
  refine qz_lload X 4 rfl dq_L_begin_21 ?_
  refine qz_putJ X kq_L_23 ho dq_L_begin_23 h (fun N5 h => ?_)
  refine qz_aload_n X 0 rfl dq_L_begin_26 ?_
  refine qz_lload X 5 rfl dq_L_begin_27 ?_
  refine qz_putJ X kq_L_27 ho dq_L_begin_29 h (fun N6 h => ?_)
  exact qz_vret X h dq_L_begin_32
theorem cL_begin (l : Launch) (G : qz_G) (hD : qz_D G) (o : Nat) (x1 : Int32) (x2 : Int32) (x3 : Int32) (x4 : Int64) (x6 : Int64) (N : qz_N) (ho : o < 10) (r : (Unit × qz_N)) (h : fL_begin o x1 x2 x3 x4 x6 N = some r) : qz_M l yL_begin prog_4_method_2_code 8 none 0 G [.ref (G.2.2 6 o), .int x1, .int x2, .int x3, .long x4, .long x6] N none r.2 :=
  qz_enter (lv := [(0, .ref (G.2.2 6 o)), (1, .int x1), (2, .int x2), (3, .int x3), (4, .long x4), (6, .long x6)]) rfl hD (Nat.le_of_ble_eq_true rfl) rfl (fun p e s m args below meth c X => sL_begin X o x1 x2 x3 x4 x6 ho N h)
-- ExactCurves.loan(IIIJJ)I
theorem dq_E_loan_0 : decode prog_1_method_24_code 0 = .ok (.aload_n 0, 1) := by decide +kernel
theorem dq_E_loan_1 : decode prog_1_method_24_code 1 = .ok (.iload_n 2, 1) := by decide +kernel
theorem dq_E_loan_2 : decode prog_1_method_24_code 2 = .ok (.invokevirtual 95, 3) := by decide +kernel
theorem dq_E_loan_5 : decode prog_1_method_24_code 5 = .ok (.astore 8, 2) := by decide +kernel
theorem dq_E_loan_7 : decode prog_1_method_24_code 7 = .ok (.iload_n 1, 1) := by decide +kernel
theorem dq_E_loan_8 : decode prog_1_method_24_code 8 = .ok (.invokestatic 51, 3) := by decide +kernel
theorem dq_E_loan_11 : decode prog_1_method_24_code 11 = .ok (.ifCond .eq 29, 3) := by decide +kernel
theorem dq_E_loan_14 : decode prog_1_method_24_code 14 = .ok (.aload 8, 2) := by decide +kernel
theorem dq_E_loan_16 : decode prog_1_method_24_code 16 = .ok (.ifnull 24, 3) := by decide +kernel
theorem dq_E_loan_19 : decode prog_1_method_24_code 19 = .ok (.iload_n 3, 1) := by decide +kernel
theorem dq_E_loan_20 : decode prog_1_method_24_code 20 = .ok (.invokestatic 132, 3) := by decide +kernel
theorem dq_E_loan_23 : decode prog_1_method_24_code 23 = .ok (.ifCond .eq 17, 3) := by decide +kernel
theorem dq_E_loan_26 : decode prog_1_method_24_code 26 = .ok (.lload 4, 2) := by decide +kernel
theorem dq_E_loan_28 : decode prog_1_method_24_code 28 = .ok (.lconst 1, 1) := by decide +kernel
theorem dq_E_loan_29 : decode prog_1_method_24_code 29 = .ok (.lcmp, 1) := by decide +kernel
theorem dq_E_loan_30 : decode prog_1_method_24_code 30 = .ok (.ifCond .lt 10, 3) := by decide +kernel
theorem dq_E_loan_33 : decode prog_1_method_24_code 33 = .ok (.lload 6, 2) := by decide +kernel
theorem dq_E_loan_35 : decode prog_1_method_24_code 35 = .ok (.lconst 1, 1) := by decide +kernel
theorem dq_E_loan_36 : decode prog_1_method_24_code 36 = .ok (.lcmp, 1) := by decide +kernel
theorem dq_E_loan_37 : decode prog_1_method_24_code 37 = .ok (.ifCond .ge 6, 3) := by decide +kernel
theorem dq_E_loan_40 : decode prog_1_method_24_code 40 = .ok (.bipush (-2), 2) := by decide +kernel
theorem dq_E_loan_42 : decode prog_1_method_24_code 42 = .ok (.ireturn, 1) := by decide +kernel
theorem dq_E_loan_43 : decode prog_1_method_24_code 43 = .ok (.aload_n 0, 1) := by decide +kernel
theorem dq_E_loan_44 : decode prog_1_method_24_code 44 = .ok (.invokevirtual 255, 3) := by decide +kernel
theorem dq_E_loan_47 : decode prog_1_method_24_code 47 = .ok (.istore 9, 2) := by decide +kernel
theorem dq_E_loan_49 : decode prog_1_method_24_code 49 = .ok (.aload_n 0, 1) := by decide +kernel
theorem dq_E_loan_50 : decode prog_1_method_24_code 50 = .ok (.getfield 37, 3) := by decide +kernel
theorem dq_E_loan_53 : decode prog_1_method_24_code 53 = .ok (.aload 8, 2) := by decide +kernel
theorem dq_E_loan_55 : decode prog_1_method_24_code 55 = .ok (.iconst 1, 1) := by decide +kernel
theorem dq_E_loan_56 : decode prog_1_method_24_code 56 = .ok (.iload_n 3, 1) := by decide +kernel
theorem dq_E_loan_57 : decode prog_1_method_24_code 57 = .ok (.isub, 1) := by decide +kernel
theorem dq_E_loan_58 : decode prog_1_method_24_code 58 = .ok (.invokevirtual 135, 3) := by decide +kernel
theorem dq_E_loan_61 : decode prog_1_method_24_code 61 = .ok (.aaload, 1) := by decide +kernel
theorem dq_E_loan_62 : decode prog_1_method_24_code 62 = .ok (.astore 10, 2) := by decide +kernel
theorem dq_E_loan_64 : decode prog_1_method_24_code 64 = .ok (.iload 9, 2) := by decide +kernel
theorem dq_E_loan_66 : decode prog_1_method_24_code 66 = .ok (.iconst (-1), 1) := by decide +kernel
theorem dq_E_loan_67 : decode prog_1_method_24_code 67 = .ok (.if_icmp .eq 34, 3) := by decide +kernel
theorem dq_E_loan_70 : decode prog_1_method_24_code 70 = .ok (.aload_n 0, 1) := by decide +kernel
theorem dq_E_loan_71 : decode prog_1_method_24_code 71 = .ok (.getfield 10, 3) := by decide +kernel
theorem dq_E_loan_74 : decode prog_1_method_24_code 74 = .ok (.iload_n 1, 1) := by decide +kernel
theorem dq_E_loan_75 : decode prog_1_method_24_code 75 = .ok (.aload 8, 2) := by decide +kernel
theorem dq_E_loan_77 : decode prog_1_method_24_code 77 = .ok (.iload_n 3, 1) := by decide +kernel
theorem dq_E_loan_78 : decode prog_1_method_24_code 78 = .ok (.invokevirtual 135, 3) := by decide +kernel
theorem dq_E_loan_81 : decode prog_1_method_24_code 81 = .ok (.invokevirtual 72, 3) := by decide +kernel
theorem dq_E_loan_84 : decode prog_1_method_24_code 84 = .ok (.lload 4, 2) := by decide +kernel
theorem dq_E_loan_86 : decode prog_1_method_24_code 86 = .ok (.lcmp, 1) := by decide +kernel
theorem dq_E_loan_87 : decode prog_1_method_24_code 87 = .ok (.ifCond .lt 14, 3) := by decide +kernel
theorem dq_E_loan_90 : decode prog_1_method_24_code 90 = .ok (.aload 10, 2) := by decide +kernel
theorem dq_E_loan_92 : decode prog_1_method_24_code 92 = .ok (.getfield 245, 3) := by decide +kernel
theorem dq_E_loan_95 : decode prog_1_method_24_code 95 = .ok (.lload 6, 2) := by decide +kernel
theorem dq_E_loan_97 : decode prog_1_method_24_code 97 = .ok (.lcmp, 1) := by decide +kernel
theorem dq_E_loan_98 : decode prog_1_method_24_code 98 = .ok (.ifCond .ge 6, 3) := by decide +kernel
theorem dq_E_loan_101 : decode prog_1_method_24_code 101 = .ok (.bipush (-3), 2) := by decide +kernel
theorem dq_E_loan_103 : decode prog_1_method_24_code 103 = .ok (.ireturn, 1) := by decide +kernel
theorem dq_E_loan_104 : decode prog_1_method_24_code 104 = .ok (.ldc2_w 259, 3) := by decide +kernel
theorem dq_E_loan_107 : decode prog_1_method_24_code 107 = .ok (.lload 6, 2) := by decide +kernel
theorem dq_E_loan_109 : decode prog_1_method_24_code 109 = .ok (.lmul, 1) := by decide +kernel
theorem dq_E_loan_110 : decode prog_1_method_24_code 110 = .ok (.ldc2_w 261, 3) := by decide +kernel
theorem dq_E_loan_113 : decode prog_1_method_24_code 113 = .ok (.aload 8, 2) := by decide +kernel
theorem dq_E_loan_115 : decode prog_1_method_24_code 115 = .ok (.iload_n 3, 1) := by decide +kernel
theorem dq_E_loan_116 : decode prog_1_method_24_code 116 = .ok (.lload 4, 2) := by decide +kernel
theorem dq_E_loan_118 : decode prog_1_method_24_code 118 = .ok (.invokevirtual 263, 3) := by decide +kernel
theorem dq_E_loan_121 : decode prog_1_method_24_code 121 = .ok (.lmul, 1) := by decide +kernel
theorem dq_E_loan_122 : decode prog_1_method_24_code 122 = .ok (.lcmp, 1) := by decide +kernel
theorem dq_E_loan_123 : decode prog_1_method_24_code 123 = .ok (.ifCond .le 6, 3) := by decide +kernel
theorem dq_E_loan_126 : decode prog_1_method_24_code 126 = .ok (.bipush (-3), 2) := by decide +kernel
theorem dq_E_loan_128 : decode prog_1_method_24_code 128 = .ok (.ireturn, 1) := by decide +kernel
theorem dq_E_loan_129 : decode prog_1_method_24_code 129 = .ok (.aload_n 0, 1) := by decide +kernel
theorem dq_E_loan_130 : decode prog_1_method_24_code 130 = .ok (.getfield 10, 3) := by decide +kernel
theorem dq_E_loan_133 : decode prog_1_method_24_code 133 = .ok (.iload_n 1, 1) := by decide +kernel
theorem dq_E_loan_134 : decode prog_1_method_24_code 134 = .ok (.aload 8, 2) := by decide +kernel
theorem dq_E_loan_136 : decode prog_1_method_24_code 136 = .ok (.iload_n 3, 1) := by decide +kernel
theorem dq_E_loan_137 : decode prog_1_method_24_code 137 = .ok (.invokevirtual 135, 3) := by decide +kernel
theorem dq_E_loan_140 : decode prog_1_method_24_code 140 = .ok (.lload 4, 2) := by decide +kernel
theorem dq_E_loan_142 : decode prog_1_method_24_code 142 = .ok (.invokevirtual 200, 3) := by decide +kernel
theorem dq_E_loan_145 : decode prog_1_method_24_code 145 = .ok (.aload 10, 2) := by decide +kernel
theorem dq_E_loan_147 : decode prog_1_method_24_code 147 = .ok (.dup, 1) := by decide +kernel
theorem dq_E_loan_148 : decode prog_1_method_24_code 148 = .ok (.getfield 245, 3) := by decide +kernel
theorem dq_E_loan_151 : decode prog_1_method_24_code 151 = .ok (.lload 6, 2) := by decide +kernel
theorem dq_E_loan_153 : decode prog_1_method_24_code 153 = .ok (.lsub, 1) := by decide +kernel
theorem dq_E_loan_154 : decode prog_1_method_24_code 154 = .ok (.putfield 245, 3) := by decide +kernel
theorem dq_E_loan_157 : decode prog_1_method_24_code 157 = .ok (.aload_n 0, 1) := by decide +kernel
theorem dq_E_loan_158 : decode prog_1_method_24_code 158 = .ok (.getfield 10, 3) := by decide +kernel
theorem dq_E_loan_161 : decode prog_1_method_24_code 161 = .ok (.iload_n 1, 1) := by decide +kernel
theorem dq_E_loan_162 : decode prog_1_method_24_code 162 = .ok (.aload 8, 2) := by decide +kernel
theorem dq_E_loan_164 : decode prog_1_method_24_code 164 = .ok (.iconst 1, 1) := by decide +kernel
theorem dq_E_loan_165 : decode prog_1_method_24_code 165 = .ok (.iload_n 3, 1) := by decide +kernel
theorem dq_E_loan_166 : decode prog_1_method_24_code 166 = .ok (.isub, 1) := by decide +kernel
theorem dq_E_loan_167 : decode prog_1_method_24_code 167 = .ok (.invokevirtual 135, 3) := by decide +kernel
theorem dq_E_loan_170 : decode prog_1_method_24_code 170 = .ok (.lload 6, 2) := by decide +kernel
theorem dq_E_loan_172 : decode prog_1_method_24_code 172 = .ok (.invokevirtual 68, 3) := by decide +kernel
theorem dq_E_loan_175 : decode prog_1_method_24_code 175 = .ok (.aload_n 0, 1) := by decide +kernel
theorem dq_E_loan_176 : decode prog_1_method_24_code 176 = .ok (.getfield 43, 3) := by decide +kernel
theorem dq_E_loan_179 : decode prog_1_method_24_code 179 = .ok (.iload 9, 2) := by decide +kernel
theorem dq_E_loan_181 : decode prog_1_method_24_code 181 = .ok (.aaload, 1) := by decide +kernel
theorem dq_E_loan_182 : decode prog_1_method_24_code 182 = .ok (.iload_n 1, 1) := by decide +kernel
theorem dq_E_loan_183 : decode prog_1_method_24_code 183 = .ok (.iload_n 2, 1) := by decide +kernel
theorem dq_E_loan_184 : decode prog_1_method_24_code 184 = .ok (.iload_n 3, 1) := by decide +kernel
theorem dq_E_loan_185 : decode prog_1_method_24_code 185 = .ok (.lload 4, 2) := by decide +kernel
theorem dq_E_loan_187 : decode prog_1_method_24_code 187 = .ok (.aload 10, 2) := by decide +kernel
theorem dq_E_loan_189 : decode prog_1_method_24_code 189 = .ok (.lload 6, 2) := by decide +kernel
theorem dq_E_loan_191 : decode prog_1_method_24_code 191 = .ok (.invokevirtual 266, 3) := by decide +kernel
theorem dq_E_loan_194 : decode prog_1_method_24_code 194 = .ok (.invokevirtual 270, 3) := by decide +kernel
theorem dq_E_loan_197 : decode prog_1_method_24_code 197 = .ok (.iload 9, 2) := by decide +kernel
theorem dq_E_loan_199 : decode prog_1_method_24_code 199 = .ok (.ireturn, 1) := by decide +kernel
def fE_loan (o : Nat) (x1 : Int32) (x2 : Int32) (x3 : Int32) (x4 : Int64) (x6 : Int64) (N : qz_N) : Option (Int32 × qz_N) :=
  (fE_poolAt o x2 N).bind fun q1 => qz_oc q1
    (fun N3 =>
    (fE_isPlayer x1 N3).bind fun q5 =>
    if q5.1 = 0 then
      some ((-2 : Int32), q5.2)
    else
    some ((-2 : Int32), q5.2))
    fun N3 j4 =>
    (fE_isPlayer x1 N3).bind fun q7 =>
    if q7.1 = 0 then
      some ((-2 : Int32), q7.2)
    else
    (fE_isSide x3 q7.2).bind fun q9 =>
    if q9.1 = 0 then
      some ((-2 : Int32), q9.2)
    else
    if x4 < (1 : Int64) then
      some ((-2 : Int32), q9.2)
    else
    if (1 : Int64) ≤ x6 then
      (fE_freeLoan o q9.2).bind fun q11 =>
      (fP_tokenAt j4 ((1 : Int32) - x3) q11.2).bind fun q13 =>
      if q13.1 < 0 ∨ 4 ≤ q13.1.toNatClampNeg then none else
      if q11.1 = (-1 : Int32) then
        some ((-3 : Int32), q13.2)
      else
      (fP_tokenAt j4 x3 q13.2).bind fun q16 =>
      (fU_held o x1 q16.1 q16.2).bind fun q18 =>
      if q18.1 < x4 then
        some ((-3 : Int32), q18.2)
      else
      if x6 ≤ (qz_gl q18.2 5 q13.1.toNatClampNeg 1) then
        (fP_valueOf j4 x3 x4 q18.2).bind fun q20 =>
        if ((5 : Int64) * x6) ≤ ((3 : Int64) * q20.1) then
          (fP_tokenAt j4 x3 q20.2).bind fun q22 =>
          (fU_take o x1 q22.1 x4 q22.2).bind fun q24 =>
          qz_let (qz_sl q24.2 5 q13.1.toNatClampNeg 1 ((qz_gl q24.2 5 q13.1.toNatClampNeg 1) - x6)) fun N26 =>
          (fP_tokenAt j4 ((1 : Int32) - x3) N26).bind fun q27 =>
          (fU_give o x1 q27.1 x6 q27.2).bind fun q29 =>
          if q11.1 < 0 ∨ 10 ≤ q11.1.toNatClampNeg then none else
          (fV_unitsOf q13.1.toNatClampNeg x6 q29.2).bind fun q32 =>
          (fL_begin q11.1.toNatClampNeg x1 x2 x3 x4 q32.1 q32.2).bind fun q34 =>
          some (q11.1, q34.2)
        else
        some ((-3 : Int32), q20.2)
      else
      some ((-3 : Int32), q18.2)
    else
    some ((-2 : Int32), q9.2)
set_option maxRecDepth 100000 in
set_option maxHeartbeats 4000000 in
theorem sE_loan {p : Program} {l : Launch} {e : Env} {s : State} {m : MethodId} {args : Array Value} {below : List Frame} {meth : Method} {c : Code} {G : qz_G} (X : qz_X p s m args meth c "ExactCurves" prog_1_method_24_code 11 (some .int) G) {r : (Int32 × qz_N)} (o : Nat) (x1 : Int32) (x2 : Int32) (x3 : Int32) (x4 : Int64) (x6 : Int64) (ho : o < 1) (N : qz_N) (h : fE_loan o x1 x2 x3 x4 x6 N = some r) : qz_W p l e (qz_R 4) s m args below meth c 0 0 (MQ below (qz_Q G r.2 (some (.int r.1))) args s 0 0 (qz_A G)) G s.heap 11 N 0 [(0, .ref (G.2.2 0 o)), (1, .int x1), (2, .int x2), (3, .int x3), (4, .long x4), (6, .long x6)] [] := by
  unfold fE_loan at h
  refine qz_aload_n X 0 rfl dq_E_loan_0 ?_
  refine qz_iload_n X 2 rfl dq_E_loan_1 ?_
  refine qz_bind h (fun q1 e2 h => ?_)
  obtain ⟨rq1, N3⟩ := q1
  cases rq1 with
  | none =>
    replace h := qz_ocN h
    refine qz_callV X (as := [.int x2]) (st := []) (o := some .null) (N' := N3) cq_E_95 ho (cE_poolAt l G X.2.2.2.2.2.2.1 o x2 N ho _ e2) ⟨by decide, by decide⟩ rfl rfl (Nat.le_of_ble_eq_true rfl) ⟨Nat.zero_le _, Nat.zero_le _⟩ dq_E_loan_2 ?_
    refine qz_astoreN X (lv' := [(8, .null), (0, .ref (G.2.2 0 o)), (1, .int x1), (2, .int x2), (3, .int x3), (4, .long x4), (6, .long x6)]) (by decide) rfl dq_E_loan_5 ?_
    refine qz_iload_n X 2 rfl dq_E_loan_7 ?_
    refine qz_bind h (fun q5 e6 h => ?_)
    refine qz_callS X (as := [.int x1]) (st := []) (o := some (.int q5.1)) (N' := q5.2) cq_E_51 (cE_isPlayer l G X.2.2.2.2.2.2.1 x1 N3 _ e6) ⟨by decide, by decide⟩ rfl rfl (Nat.le_of_ble_eq_true rfl) ⟨Nat.zero_le _, Nat.zero_le _⟩ dq_E_loan_8 ?_
    refine qz_if_eq X (tgt := 40) (by decide) dq_E_loan_11 h (fun _ h => ?_) (fun _ h => ?_)
    · refine qz_bipush X (v := (-2 : Int32)) (by decide) dq_E_loan_40 ?_
      exact qz_iret X h dq_E_loan_42
    · refine qz_aloadN X 0 rfl dq_E_loan_14 ?_
      refine qz_ifnullN X (tgt := 40) (by decide) dq_E_loan_16 ?_
      refine qz_bipush X (v := (-2 : Int32)) (by decide) dq_E_loan_40 ?_
      exact qz_iret X h dq_E_loan_42
  | some j4 =>
    replace h := qz_ocS h
    refine qz_callV X (as := [.int x2]) (st := []) (o := some (.ref (G.2.2 2 j4))) (N' := N3) cq_E_95 ho (cE_poolAt l G X.2.2.2.2.2.2.1 o x2 N ho _ e2) ⟨by decide, by decide⟩ rfl rfl (Nat.le_of_ble_eq_true rfl) ⟨Nat.zero_le _, Nat.zero_le _⟩ dq_E_loan_2 ?_
    refine qz_astore X (lv' := [(8, .ref (G.2.2 2 j4)), (0, .ref (G.2.2 0 o)), (1, .int x1), (2, .int x2), (3, .int x3), (4, .long x4), (6, .long x6)]) (by decide) rfl dq_E_loan_5 ?_
    refine qz_iload_n X 2 rfl dq_E_loan_7 ?_
    refine qz_bind h (fun q7 e8 h => ?_)
    refine qz_callS X (as := [.int x1]) (st := []) (o := some (.int q7.1)) (N' := q7.2) cq_E_51 (cE_isPlayer l G X.2.2.2.2.2.2.1 x1 N3 _ e8) ⟨by decide, by decide⟩ rfl rfl (Nat.le_of_ble_eq_true rfl) ⟨Nat.zero_le _, Nat.zero_le _⟩ dq_E_loan_8 ?_
    refine qz_if_eq X (tgt := 40) (by decide) dq_E_loan_11 h (fun _ h => ?_) (fun _ h => ?_)
    · refine qz_bipush X (v := (-2 : Int32)) (by decide) dq_E_loan_40 ?_
      exact qz_iret X h dq_E_loan_42
    · refine qz_aload X 0 rfl dq_E_loan_14 ?_
      refine qz_ifnull X dq_E_loan_16 ?_
      refine qz_iload_n X 4 rfl dq_E_loan_19 ?_
      refine qz_bind h (fun q9 e10 h => ?_)
      refine qz_callS X (as := [.int x3]) (st := []) (o := some (.int q9.1)) (N' := q9.2) cq_E_132 (cE_isSide l G X.2.2.2.2.2.2.1 x3 q7.2 _ e10) ⟨by decide, by decide⟩ rfl rfl (Nat.le_of_ble_eq_true rfl) ⟨Nat.zero_le _, Nat.zero_le _⟩ dq_E_loan_20 ?_
      refine qz_if_eq X (tgt := 40) (by decide) dq_E_loan_23 h (fun _ h => ?_) (fun _ h => ?_)
      · refine qz_bipush X (v := (-2 : Int32)) (by decide) dq_E_loan_40 ?_
        exact qz_iret X h dq_E_loan_42
      · refine qz_lload X 5 rfl dq_E_loan_26 ?_
        refine qz_lconst X (v := (1 : Int64)) (by decide) dq_E_loan_28 ?_
        refine qz_lcmp_lt X (tgt := 40) (by decide) dq_E_loan_29 dq_E_loan_30 h (fun _ h => ?_) (fun _ h => ?_)
        · refine qz_bipush X (v := (-2 : Int32)) (by decide) dq_E_loan_40 ?_
          exact qz_iret X h dq_E_loan_42
        · refine qz_lload X 6 rfl dq_E_loan_33 ?_
          refine qz_lconst X (v := (1 : Int64)) (by decide) dq_E_loan_35 ?_
          refine qz_lcmp_ge X (tgt := 43) (by decide) dq_E_loan_36 dq_E_loan_37 h (fun _ h => ?_) (fun _ h => ?_)
          · refine qz_aload_n X 1 rfl dq_E_loan_43 ?_
            refine qz_bind h (fun q11 e12 h => ?_)
            refine qz_callV X (as := []) (st := []) (o := some (.int q11.1)) (N' := q11.2) cq_E_255 ho (cE_freeLoan l G X.2.2.2.2.2.2.1 o q9.2 ho _ e12) ⟨by decide, by decide⟩ rfl rfl (Nat.le_of_ble_eq_true rfl) ⟨Nat.zero_le _, Nat.zero_le _⟩ dq_E_loan_44 ?_
            refine qz_istore X (lv' := [(9, .int q11.1), (8, .ref (G.2.2 2 j4)), (0, .ref (G.2.2 0 o)), (1, .int x1), (2, .int x2), (3, .int x3), (4, .long x4), (6, .long x6)]) (by decide) rfl dq_E_loan_47 ?_
            refine qz_aload_n X 2 rfl dq_E_loan_49 ?_
            refine qz_get X (v := .ref (G.2.2 10 o)) kq_E_37 ho rfl dq_E_loan_50 ?_
            refine qz_aload X 1 rfl dq_E_loan_53 ?_
            refine qz_iconst X (v := (1 : Int32)) (by decide) dq_E_loan_55 ?_
            refine qz_iload_n X 5 rfl dq_E_loan_56 ?_
            refine qz_isub X dq_E_loan_57 ?_
            refine qz_bind h (fun q13 e14 h => ?_)
            refine qz_callV X (as := [.int ((1 : Int32) - x3)]) (st := [.ref (G.2.2 10 o)]) (o := some (.int q13.1)) (N' := q13.2) cq_E_135 (vE_poolAt e2 j4 rfl) (cP_tokenAt l G X.2.2.2.2.2.2.1 j4 ((1 : Int32) - x3) q11.2 (vE_poolAt e2 j4 rfl) _ e14) ⟨by decide, by decide⟩ rfl rfl (Nat.le_of_ble_eq_true rfl) ⟨Nat.zero_le _, Nat.zero_le _⟩ dq_E_loan_58 ?_
            refine qz_aald X (c0 := 10) (i := o) (tg := 5) (n := 4) rfl rfl ho dq_E_loan_61 h (fun hb15 h => ?_)
            refine qz_astore X (lv' := [(10, .ref (G.2.2 5 q13.1.toNatClampNeg)), (9, .int q11.1), (8, .ref (G.2.2 2 j4)), (0, .ref (G.2.2 0 o)), (1, .int x1), (2, .int x2), (3, .int x3), (4, .long x4), (6, .long x6)]) (by decide) rfl dq_E_loan_62 ?_
            refine qz_iload X 1 rfl dq_E_loan_64 ?_
            refine qz_iconst X (v := (-1 : Int32)) (by decide) dq_E_loan_66 ?_
            refine qz_icmp_eq X (tgt := 101) (by decide) dq_E_loan_67 h (fun _ h => ?_) (fun _ h => ?_)
            · refine qz_bipush X (v := (-3 : Int32)) (by decide) dq_E_loan_101 ?_
              exact qz_iret X h dq_E_loan_103
            · refine qz_aload_n X 3 rfl dq_E_loan_70 ?_
              refine qz_get X (v := .ref (G.2.2 1 o)) kq_E_10 ho rfl dq_E_loan_71 ?_
              refine qz_iload_n X 4 rfl dq_E_loan_74 ?_
              refine qz_aload X 2 rfl dq_E_loan_75 ?_
              refine qz_iload_n X 6 rfl dq_E_loan_77 ?_
              refine qz_bind h (fun q16 e17 h => ?_)
              refine qz_callV X (as := [.int x3]) (st := [.int x1, .ref (G.2.2 1 o)]) (o := some (.int q16.1)) (N' := q16.2) cq_E_135 (vE_poolAt e2 j4 rfl) (cP_tokenAt l G X.2.2.2.2.2.2.1 j4 x3 q13.2 (vE_poolAt e2 j4 rfl) _ e17) ⟨by decide, by decide⟩ rfl rfl (Nat.le_of_ble_eq_true rfl) ⟨Nat.zero_le _, Nat.zero_le _⟩ dq_E_loan_78 ?_
              refine qz_bind h (fun q18 e19 h => ?_)
              refine qz_callV X (as := [.int x1, .int q16.1]) (st := []) (o := some (.long q18.1)) (N' := q18.2) cq_E_72 ho (cU_held l G X.2.2.2.2.2.2.1 o x1 q16.1 q16.2 ho _ e19) ⟨by decide, by decide⟩ rfl rfl (Nat.le_of_ble_eq_true rfl) ⟨Nat.zero_le _, Nat.zero_le _⟩ dq_E_loan_81 ?_
              refine qz_lload X 7 rfl dq_E_loan_84 ?_
              refine qz_lcmp_lt X (tgt := 101) (by decide) dq_E_loan_86 dq_E_loan_87 h (fun _ h => ?_) (fun _ h => ?_)
              · refine qz_bipush X (v := (-3 : Int32)) (by decide) dq_E_loan_101 ?_
                exact qz_iret X h dq_E_loan_103
              · refine qz_aload X 0 rfl dq_E_loan_90 ?_
                refine qz_get X (v := .long (qz_gl q18.2 5 q13.1.toNatClampNeg 1)) kq_E_245 hb15 rfl dq_E_loan_92 ?_
                refine qz_lload X 8 rfl dq_E_loan_95 ?_
                refine qz_lcmp_ge X (tgt := 104) (by decide) dq_E_loan_97 dq_E_loan_98 h (fun _ h => ?_) (fun _ h => ?_)
                · refine qz_ldc2 X (v := (5 : Int64)) wq_537 dq_E_loan_104 ?_
                  refine qz_lload X 8 rfl dq_E_loan_107 ?_
                  refine qz_lmul X dq_E_loan_109 ?_
                  refine qz_ldc2 X (v := (3 : Int64)) wq_538 dq_E_loan_110 ?_
                  refine qz_aload X 2 rfl dq_E_loan_113 ?_
                  refine qz_iload_n X 6 rfl dq_E_loan_115 ?_
                  refine qz_lload X 7 rfl dq_E_loan_116 ?_
                  refine qz_bind h (fun q20 e21 h => ?_)
                  refine qz_callV X (as := [.int x3, .long x4]) (st := [.long (3 : Int64), .long ((5 : Int64) * x6)]) (o := some (.long q20.1)) (N' := q20.2) cq_E_263 (vE_poolAt e2 j4 rfl) (cP_valueOf l G X.2.2.2.2.2.2.1 j4 x3 x4 q18.2 (vE_poolAt e2 j4 rfl) _ e21) ⟨by decide, by decide⟩ rfl rfl (Nat.le_of_ble_eq_true rfl) ⟨Nat.zero_le _, Nat.zero_le _⟩ dq_E_loan_118 ?_
                  refine qz_lmul X dq_E_loan_121 ?_
                  refine qz_lcmp_le X (tgt := 129) (by decide) dq_E_loan_122 dq_E_loan_123 h (fun _ h => ?_) (fun _ h => ?_)
                  · refine qz_aload_n X 3 rfl dq_E_loan_129 ?_
                    refine qz_get X (v := .ref (G.2.2 1 o)) kq_E_10 ho rfl dq_E_loan_130 ?_
                    refine qz_iload_n X 4 rfl dq_E_loan_133 ?_
                    refine qz_aload X 2 rfl dq_E_loan_134 ?_
                    refine qz_iload_n X 6 rfl dq_E_loan_136 ?_
                    refine qz_bind h (fun q22 e23 h => ?_)
                    refine qz_callV X (as := [.int x3]) (st := [.int x1, .ref (G.2.2 1 o)]) (o := some (.int q22.1)) (N' := q22.2) cq_E_135 (vE_poolAt e2 j4 rfl) (cP_tokenAt l G X.2.2.2.2.2.2.1 j4 x3 q20.2 (vE_poolAt e2 j4 rfl) _ e23) ⟨by decide, by decide⟩ rfl rfl (Nat.le_of_ble_eq_true rfl) ⟨Nat.zero_le _, Nat.zero_le _⟩ dq_E_loan_137 ?_
                    refine qz_lload X 7 rfl dq_E_loan_140 ?_
                    refine qz_bind h (fun q24 e25 h => ?_)
                    refine qz_callV X (as := [.int x1, .int q22.1, .long x4]) (st := []) (o := none) (N' := q24.2) cq_E_200 ho (cU_take l G X.2.2.2.2.2.2.1 o x1 q22.1 x4 q22.2 ho _ e25) ⟨by decide, by decide⟩ rfl rfl (Nat.le_of_ble_eq_true rfl) ⟨Nat.zero_le _, Nat.zero_le _⟩ dq_E_loan_142 ?_
                    refine qz_aload X 0 rfl dq_E_loan_145 ?_
                    refine qz_dup X rfl dq_E_loan_147 ?_
                    refine qz_get X (v := .long (qz_gl q24.2 5 q13.1.toNatClampNeg 1)) kq_E_245 hb15 rfl dq_E_loan_148 ?_
                    refine qz_lload X 8 rfl dq_E_loan_151 ?_
                    refine qz_lsub X dq_E_loan_153 ?_
                    refine qz_putJ X kq_E_245 hb15 dq_E_loan_154 h (fun N26 h => ?_)
                    refine qz_aload_n X 3 rfl dq_E_loan_157 ?_
                    refine qz_get X (v := .ref (G.2.2 1 o)) kq_E_10 ho rfl dq_E_loan_158 ?_
                    refine qz_iload_n X 4 rfl dq_E_loan_161 ?_
                    refine qz_aload X 2 rfl dq_E_loan_162 ?_
                    refine qz_iconst X (v := (1 : Int32)) (by decide) dq_E_loan_164 ?_
                    refine qz_iload_n X 6 rfl dq_E_loan_165 ?_
                    refine qz_isub X dq_E_loan_166 ?_
                    refine qz_bind h (fun q27 e28 h => ?_)
                    refine qz_callV X (as := [.int ((1 : Int32) - x3)]) (st := [.int x1, .ref (G.2.2 1 o)]) (o := some (.int q27.1)) (N' := q27.2) cq_E_135 (vE_poolAt e2 j4 rfl) (cP_tokenAt l G X.2.2.2.2.2.2.1 j4 ((1 : Int32) - x3) N26 (vE_poolAt e2 j4 rfl) _ e28) ⟨by decide, by decide⟩ rfl rfl (Nat.le_of_ble_eq_true rfl) ⟨Nat.zero_le _, Nat.zero_le _⟩ dq_E_loan_167 ?_
                    refine qz_lload X 8 rfl dq_E_loan_170 ?_
                    refine qz_bind h (fun q29 e30 h => ?_)
                    refine qz_callV X (as := [.int x1, .int q27.1, .long x6]) (st := []) (o := none) (N' := q29.2) cq_E_68 ho (cU_give l G X.2.2.2.2.2.2.1 o x1 q27.1 x6 q27.2 ho _ e30) ⟨by decide, by decide⟩ rfl rfl (Nat.le_of_ble_eq_true rfl) ⟨Nat.zero_le _, Nat.zero_le _⟩ dq_E_loan_172 ?_
                    refine qz_aload_n X 3 rfl dq_E_loan_175 ?_
                    refine qz_get X (v := .ref (G.2.2 11 o)) kq_E_43 ho rfl dq_E_loan_176 ?_
                    refine qz_iload X 1 rfl dq_E_loan_179 ?_
                    refine qz_aald X (c0 := 11) (i := o) (tg := 6) (n := 10) rfl rfl ho dq_E_loan_181 h (fun hb31 h => ?_)
                    refine qz_iload_n X 4 rfl dq_E_loan_182 ?_
                    refine qz_iload_n X 5 rfl dq_E_loan_183 ?_
                    refine qz_iload_n X 6 rfl dq_E_loan_184 ?_
                    refine qz_lload X 7 rfl dq_E_loan_185 ?_
                    refine qz_aload X 0 rfl dq_E_loan_187 ?_
                    refine qz_lload X 8 rfl dq_E_loan_189 ?_
                    refine qz_bind h (fun q32 e33 h => ?_)
                    refine qz_callV X (as := [.long x6]) (st := [.long x4, .int x3, .int x2, .int x1, .ref (G.2.2 6 q11.1.toNatClampNeg)]) (o := some (.long q32.1)) (N' := q32.2) cq_E_266 hb15 (cV_unitsOf l G X.2.2.2.2.2.2.1 q13.1.toNatClampNeg x6 q29.2 hb15 _ e33) ⟨by decide, by decide⟩ rfl rfl (Nat.le_of_ble_eq_true rfl) ⟨Nat.zero_le _, Nat.zero_le _⟩ dq_E_loan_191 ?_
                    refine qz_bind h (fun q34 e35 h => ?_)
                    refine qz_callV X (as := [.int x1, .int x2, .int x3, .long x4, .long q32.1]) (st := []) (o := none) (N' := q34.2) cq_E_270 hb31 (cL_begin l G X.2.2.2.2.2.2.1 q11.1.toNatClampNeg x1 x2 x3 x4 q32.1 q32.2 hb31 _ e35) ⟨by decide, by decide⟩ rfl rfl (Nat.le_of_ble_eq_true rfl) ⟨Nat.zero_le _, Nat.zero_le _⟩ dq_E_loan_194 ?_
                    refine qz_iload X 1 rfl dq_E_loan_197 ?_
                    exact qz_iret X h dq_E_loan_199
                  · refine qz_bipush X (v := (-3 : Int32)) (by decide) dq_E_loan_126 ?_
                    exact qz_iret X h dq_E_loan_128
                · refine qz_bipush X (v := (-3 : Int32)) (by decide) dq_E_loan_101 ?_
                  exact qz_iret X h dq_E_loan_103
          · refine qz_bipush X (v := (-2 : Int32)) (by decide) dq_E_loan_40 ?_
            exact qz_iret X h dq_E_loan_42
theorem cE_loan (l : Launch) (G : qz_G) (hD : qz_D G) (o : Nat) (x1 : Int32) (x2 : Int32) (x3 : Int32) (x4 : Int64) (x6 : Int64) (N : qz_N) (ho : o < 1) (r : (Int32 × qz_N)) (h : fE_loan o x1 x2 x3 x4 x6 N = some r) : qz_M l yE_loan prog_1_method_24_code 11 (some .int) 4 G [.ref (G.2.2 0 o), .int x1, .int x2, .int x3, .long x4, .long x6] N (some (.int r.1)) r.2 :=
  qz_enter (lv := [(0, .ref (G.2.2 0 o)), (1, .int x1), (2, .int x2), (3, .int x3), (4, .long x4), (6, .long x6)]) rfl hD (Nat.le_of_ble_eq_true rfl) rfl (fun p e s m args below meth c X => sE_loan X o x1 x2 x3 x4 x6 ho N h)
-- ExactCurves.loanAt(I)LExactCurves$Loan;
theorem dq_E_loanAt_0 : decode prog_1_method_38_code 0 = .ok (.iload_n 1, 1) := by decide +kernel
theorem dq_E_loanAt_1 : decode prog_1_method_38_code 1 = .ok (.ifCond .lt 30, 3) := by decide +kernel
theorem dq_E_loanAt_4 : decode prog_1_method_38_code 4 = .ok (.iload_n 1, 1) := by decide +kernel
theorem dq_E_loanAt_5 : decode prog_1_method_38_code 5 = .ok (.bipush 10, 2) := by decide +kernel
theorem dq_E_loanAt_7 : decode prog_1_method_38_code 7 = .ok (.if_icmp .ge 24, 3) := by decide +kernel
theorem dq_E_loanAt_10 : decode prog_1_method_38_code 10 = .ok (.aload_n 0, 1) := by decide +kernel
theorem dq_E_loanAt_11 : decode prog_1_method_38_code 11 = .ok (.getfield 43, 3) := by decide +kernel
theorem dq_E_loanAt_14 : decode prog_1_method_38_code 14 = .ok (.iload_n 1, 1) := by decide +kernel
theorem dq_E_loanAt_15 : decode prog_1_method_38_code 15 = .ok (.aaload, 1) := by decide +kernel
theorem dq_E_loanAt_16 : decode prog_1_method_38_code 16 = .ok (.getfield 314, 3) := by decide +kernel
theorem dq_E_loanAt_19 : decode prog_1_method_38_code 19 = .ok (.ifCond .eq 12, 3) := by decide +kernel
theorem dq_E_loanAt_22 : decode prog_1_method_38_code 22 = .ok (.aload_n 0, 1) := by decide +kernel
theorem dq_E_loanAt_23 : decode prog_1_method_38_code 23 = .ok (.getfield 43, 3) := by decide +kernel
theorem dq_E_loanAt_26 : decode prog_1_method_38_code 26 = .ok (.iload_n 1, 1) := by decide +kernel
theorem dq_E_loanAt_27 : decode prog_1_method_38_code 27 = .ok (.aaload, 1) := by decide +kernel
theorem dq_E_loanAt_28 : decode prog_1_method_38_code 28 = .ok (.goto 4, 3) := by decide +kernel
theorem dq_E_loanAt_31 : decode prog_1_method_38_code 31 = .ok (.aconst_null, 1) := by decide +kernel
theorem dq_E_loanAt_32 : decode prog_1_method_38_code 32 = .ok (.areturn, 1) := by decide +kernel
def fE_loanAt (o : Nat) (x1 : Int32) (N : qz_N) : Option (Option Nat × qz_N) :=
  if x1 < 0 then
    some (none, N)
  else
  if (10 : Int32) ≤ x1 then
    some (none, N)
  else
  if x1 < 0 ∨ 10 ≤ x1.toNatClampNeg then none else
  if (qz_gi N 6 x1.toNatClampNeg 0) = 0 then
    some (none, N)
  else
  if x1 < 0 ∨ 10 ≤ x1.toNatClampNeg then none else
  some (some x1.toNatClampNeg, N)
set_option maxRecDepth 100000 in
set_option maxHeartbeats 4000000 in
theorem sE_loanAt {p : Program} {l : Launch} {e : Env} {s : State} {m : MethodId} {args : Array Value} {below : List Frame} {meth : Method} {c : Code} {G : qz_G} (X : qz_X p s m args meth c "ExactCurves" prog_1_method_38_code 2 (some (.object "ExactCurves$Loan")) G) {r : (Option Nat × qz_N)} (o : Nat) (x1 : Int32) (ho : o < 1) (N : qz_N) (h : fE_loanAt o x1 N = some r) : qz_W p l e (qz_R 0) s m args below meth c 0 0 (MQ below (qz_Q G r.2 (some (va_rf (Option.map (G.2.2 6) r.1)))) args s 0 0 (qz_A G)) G s.heap 2 N 0 [(0, .ref (G.2.2 0 o)), (1, .int x1)] [] := by
  unfold fE_loanAt at h
  refine qz_iload_n X 1 rfl dq_E_loanAt_0 ?_
  refine qz_if_lt X (tgt := 31) (by decide) dq_E_loanAt_1 h (fun _ h => ?_) (fun _ h => ?_)
  · refine qz_null X dq_E_loanAt_31 ?_
    exact qz_aretN X h dq_E_loanAt_32
  · refine qz_iload_n X 1 rfl dq_E_loanAt_4 ?_
    refine qz_bipush X (v := (10 : Int32)) (by decide) dq_E_loanAt_5 ?_
    refine qz_icmp_ge X (tgt := 31) (by decide) dq_E_loanAt_7 h (fun _ h => ?_) (fun _ h => ?_)
    · refine qz_null X dq_E_loanAt_31 ?_
      exact qz_aretN X h dq_E_loanAt_32
    · refine qz_aload_n X 0 rfl dq_E_loanAt_10 ?_
      refine qz_get X (v := .ref (G.2.2 11 o)) kq_E_43 ho rfl dq_E_loanAt_11 ?_
      refine qz_iload_n X 1 rfl dq_E_loanAt_14 ?_
      refine qz_aald X (c0 := 11) (i := o) (tg := 6) (n := 10) rfl rfl ho dq_E_loanAt_15 h (fun hb1 h => ?_)
      refine qz_get X (v := .int (qz_gi N 6 x1.toNatClampNeg 0)) kq_E_314 hb1 rfl dq_E_loanAt_16 ?_
      refine qz_if_eq X (tgt := 31) (by decide) dq_E_loanAt_19 h (fun _ h => ?_) (fun _ h => ?_)
      · refine qz_null X dq_E_loanAt_31 ?_
        exact qz_aretN X h dq_E_loanAt_32
      · refine qz_aload_n X 0 rfl dq_E_loanAt_22 ?_
        refine qz_get X (v := .ref (G.2.2 11 o)) kq_E_43 ho rfl dq_E_loanAt_23 ?_
        refine qz_iload_n X 1 rfl dq_E_loanAt_26 ?_
        refine qz_aald X (c0 := 11) (i := o) (tg := 6) (n := 10) rfl rfl ho dq_E_loanAt_27 h (fun hb2 h => ?_)
        refine qz_goto X (tgt := 32) (by decide) dq_E_loanAt_28 ?_
        exact qz_aret X h dq_E_loanAt_32
theorem cE_loanAt (l : Launch) (G : qz_G) (hD : qz_D G) (o : Nat) (x1 : Int32) (N : qz_N) (ho : o < 1) (r : (Option Nat × qz_N)) (h : fE_loanAt o x1 N = some r) : qz_M l yE_loanAt prog_1_method_38_code 2 (some (.object "ExactCurves$Loan")) 0 G [.ref (G.2.2 0 o), .int x1] N (some (va_rf (Option.map (G.2.2 6) r.1))) r.2 :=
  qz_enter (lv := [(0, .ref (G.2.2 0 o)), (1, .int x1)]) rfl hD (Nat.le_of_ble_eq_true rfl) rfl (fun p e s m args below meth c X => sE_loanAt X o x1 ho N h)
theorem vE_loanAt {o : Nat} {x1 : Int32} {N : qz_N} {r : Option Nat × qz_N} (e : fE_loanAt o x1 N = some r) (j : Nat) (hj : r.1 = some j) : j < 10 := by
  unfold fE_loanAt at e
  repeat' split at e
  all_goals first
    | (cases e; done)
    | (cases e; cases hj; done)
    | (cases e; cases hj; omega)
-- ExactCurves.coverValue(LExactCurves$Loan;)J
theorem dq_E_coverValue_0 : decode prog_1_method_44_code 0 = .ok (.aload_n 0, 1) := by decide +kernel
theorem dq_E_coverValue_1 : decode prog_1_method_44_code 1 = .ok (.getfield 18, 3) := by decide +kernel
theorem dq_E_coverValue_4 : decode prog_1_method_44_code 4 = .ok (.aload_n 1, 1) := by decide +kernel
theorem dq_E_coverValue_5 : decode prog_1_method_44_code 5 = .ok (.getfield 281, 3) := by decide +kernel
theorem dq_E_coverValue_8 : decode prog_1_method_44_code 8 = .ok (.aaload, 1) := by decide +kernel
theorem dq_E_coverValue_9 : decode prog_1_method_44_code 9 = .ok (.aload_n 1, 1) := by decide +kernel
theorem dq_E_coverValue_10 : decode prog_1_method_44_code 10 = .ok (.getfield 282, 3) := by decide +kernel
theorem dq_E_coverValue_13 : decode prog_1_method_44_code 13 = .ok (.aload_n 1, 1) := by decide +kernel
theorem dq_E_coverValue_14 : decode prog_1_method_44_code 14 = .ok (.getfield 285, 3) := by decide +kernel
theorem dq_E_coverValue_17 : decode prog_1_method_44_code 17 = .ok (.invokevirtual 263, 3) := by decide +kernel
theorem dq_E_coverValue_20 : decode prog_1_method_44_code 20 = .ok (.lreturn, 1) := by decide +kernel
def fE_coverValue (o : Nat) (x1 : Nat) (N : qz_N) : Option (Int64 × qz_N) :=
  if (qz_gi N 6 x1 2) < 0 ∨ 6 ≤ (qz_gi N 6 x1 2).toNatClampNeg then none else
  (fP_valueOf ((qz_gi N 6 x1 2).toNatClampNeg) (qz_gi N 6 x1 3) (qz_gl N 6 x1 4) N).bind fun q2 =>
  some (q2.1, q2.2)
set_option maxRecDepth 100000 in
set_option maxHeartbeats 4000000 in
theorem sE_coverValue {p : Program} {l : Launch} {e : Env} {s : State} {m : MethodId} {args : Array Value} {below : List Frame} {meth : Method} {c : Code} {G : qz_G} (X : qz_X p s m args meth c "ExactCurves" prog_1_method_44_code 2 (some .long) G) {r : (Int64 × qz_N)} (o : Nat) (x1 : Nat) (ho : o < 1) (hx1 : x1 < 10) (N : qz_N) (h : fE_coverValue o x1 N = some r) : qz_W p l e (qz_R 3) s m args below meth c 0 0 (MQ below (qz_Q G r.2 (some (.long r.1))) args s 0 0 (qz_A G)) G s.heap 2 N 0 [(0, .ref (G.2.2 0 o)), (1, .ref (G.2.2 6 x1))] [] := by
  unfold fE_coverValue at h
  refine qz_aload_n X 0 rfl dq_E_coverValue_0 ?_
  refine qz_get X (v := .ref (G.2.2 8 o)) kq_E_18 ho rfl dq_E_coverValue_1 ?_
  refine qz_aload_n X 1 rfl dq_E_coverValue_4 ?_
  refine qz_get X (v := .int (qz_gi N 6 x1 2)) kq_E_281 hx1 rfl dq_E_coverValue_5 ?_
  refine qz_aald X (c0 := 8) (i := o) (tg := 2) (n := 6) rfl rfl ho dq_E_coverValue_8 h (fun hb1 h => ?_)
  refine qz_aload_n X 1 rfl dq_E_coverValue_9 ?_
  refine qz_get X (v := .int (qz_gi N 6 x1 3)) kq_E_282 hx1 rfl dq_E_coverValue_10 ?_
  refine qz_aload_n X 1 rfl dq_E_coverValue_13 ?_
  refine qz_get X (v := .long (qz_gl N 6 x1 4)) kq_E_285 hx1 rfl dq_E_coverValue_14 ?_
  refine qz_bind h (fun q2 e3 h => ?_)
  refine qz_callV X (as := [.int (qz_gi N 6 x1 3), .long (qz_gl N 6 x1 4)]) (st := []) (o := some (.long q2.1)) (N' := q2.2) cq_E_263 hb1 (cP_valueOf l G X.2.2.2.2.2.2.1 ((qz_gi N 6 x1 2).toNatClampNeg) (qz_gi N 6 x1 3) (qz_gl N 6 x1 4) N hb1 _ e3) ⟨by decide, by decide⟩ rfl rfl (Nat.le_of_ble_eq_true rfl) ⟨Nat.zero_le _, Nat.zero_le _⟩ dq_E_coverValue_17 ?_
  exact qz_lret X h dq_E_coverValue_20
theorem cE_coverValue (l : Launch) (G : qz_G) (hD : qz_D G) (o : Nat) (x1 : Nat) (N : qz_N) (ho : o < 1) (hx1 : x1 < 10) (r : (Int64 × qz_N)) (h : fE_coverValue o x1 N = some r) : qz_M l yE_coverValue prog_1_method_44_code 2 (some .long) 3 G [.ref (G.2.2 0 o), .ref (G.2.2 6 x1)] N (some (.long r.1)) r.2 :=
  qz_enter (lv := [(0, .ref (G.2.2 0 o)), (1, .ref (G.2.2 6 x1))]) rfl hD (Nat.le_of_ble_eq_true rfl) rfl (fun p e s m args below meth c X => sE_coverValue X o x1 ho hx1 N h)
