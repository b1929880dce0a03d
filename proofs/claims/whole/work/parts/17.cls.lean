-- ExactCurves$Batch.dealAt(J)V
theorem dq_B_dealAt_0 : decode prog_2_method_7_code 0 = .ok (.lload_n 1, 1) := by decide +kernel
theorem dq_B_dealAt_1 : decode prog_2_method_7_code 1 = .ok (.lconst 0, 1) := by decide +kernel
theorem dq_B_dealAt_2 : decode prog_2_method_7_code 2 = .ok (.lcmp, 1) := by decide +kernel
theorem dq_B_dealAt_3 : decode prog_2_method_7_code 3 = .ok (.ifCond .ne 7, 3) := by decide +kernel
theorem dq_B_dealAt_6 : decode prog_2_method_7_code 6 = .ok (.lconst 0, 1) := by decide +kernel
theorem dq_B_dealAt_7 : decode prog_2_method_7_code 7 = .ok (.goto 16, 3) := by decide +kernel
theorem dq_B_dealAt_10 : decode prog_2_method_7_code 10 = .ok (.aload_n 0, 1) := by decide +kernel
theorem dq_B_dealAt_11 : decode prog_2_method_7_code 11 = .ok (.lload_n 1, 1) := by decide +kernel
theorem dq_B_dealAt_12 : decode prog_2_method_7_code 12 = .ok (.invokevirtual 41, 3) := by decide +kernel
theorem dq_B_dealAt_15 : decode prog_2_method_7_code 15 = .ok (.aload_n 0, 1) := by decide +kernel
theorem dq_B_dealAt_16 : decode prog_2_method_7_code 16 = .ok (.lload_n 1, 1) := by decide +kernel
theorem dq_B_dealAt_17 : decode prog_2_method_7_code 17 = .ok (.invokevirtual 45, 3) := by decide +kernel
theorem dq_B_dealAt_20 : decode prog_2_method_7_code 20 = .ok (.invokestatic 48, 3) := by decide +kernel
theorem dq_B_dealAt_23 : decode prog_2_method_7_code 23 = .ok (.lstore_n 3, 1) := by decide +kernel
theorem dq_B_dealAt_24 : decode prog_2_method_7_code 24 = .ok (.iconst 0, 1) := by decide +kernel
theorem dq_B_dealAt_25 : decode prog_2_method_7_code 25 = .ok (.istore 5, 2) := by decide +kernel
theorem dq_B_dealAt_27 : decode prog_2_method_7_code 27 = .ok (.iload 5, 2) := by decide +kernel
theorem dq_B_dealAt_29 : decode prog_2_method_7_code 29 = .ok (.aload_n 0, 1) := by decide +kernel
theorem dq_B_dealAt_30 : decode prog_2_method_7_code 30 = .ok (.getfield 38, 3) := by decide +kernel
theorem dq_B_dealAt_33 : decode prog_2_method_7_code 33 = .ok (.if_icmp .ge 38, 3) := by decide +kernel
theorem dq_B_dealAt_36 : decode prog_2_method_7_code 36 = .ok (.aload_n 0, 1) := by decide +kernel
theorem dq_B_dealAt_37 : decode prog_2_method_7_code 37 = .ok (.getfield 26, 3) := by decide +kernel
theorem dq_B_dealAt_40 : decode prog_2_method_7_code 40 = .ok (.iload 5, 2) := by decide +kernel
theorem dq_B_dealAt_42 : decode prog_2_method_7_code 42 = .ok (.lconst 0, 1) := by decide +kernel
theorem dq_B_dealAt_43 : decode prog_2_method_7_code 43 = .ok (.aload_n 0, 1) := by decide +kernel
theorem dq_B_dealAt_44 : decode prog_2_method_7_code 44 = .ok (.getfield 19, 3) := by decide +kernel
theorem dq_B_dealAt_47 : decode prog_2_method_7_code 47 = .ok (.iload 5, 2) := by decide +kernel
theorem dq_B_dealAt_49 : decode prog_2_method_7_code 49 = .ok (.laload, 1) := by decide +kernel
theorem dq_B_dealAt_50 : decode prog_2_method_7_code 50 = .ok (.lload_n 3, 1) := by decide +kernel
theorem dq_B_dealAt_51 : decode prog_2_method_7_code 51 = .ok (.aload_n 0, 1) := by decide +kernel
theorem dq_B_dealAt_52 : decode prog_2_method_7_code 52 = .ok (.iload 5, 2) := by decide +kernel
theorem dq_B_dealAt_54 : decode prog_2_method_7_code 54 = .ok (.invokevirtual 57, 3) := by decide +kernel
theorem dq_B_dealAt_57 : decode prog_2_method_7_code 57 = .ok (.lsub, 1) := by decide +kernel
theorem dq_B_dealAt_58 : decode prog_2_method_7_code 58 = .ok (.invokestatic 48, 3) := by decide +kernel
theorem dq_B_dealAt_61 : decode prog_2_method_7_code 61 = .ok (.invokestatic 54, 3) := by decide +kernel
theorem dq_B_dealAt_64 : decode prog_2_method_7_code 64 = .ok (.lastore, 1) := by decide +kernel
theorem dq_B_dealAt_65 : decode prog_2_method_7_code 65 = .ok (.iinc 5 1, 3) := by decide +kernel
theorem dq_B_dealAt_68 : decode prog_2_method_7_code 68 = .ok (.goto (-41), 3) := by decide +kernel
theorem dq_B_dealAt_71 : decode prog_2_method_7_code 71 = .ok (.aload_n 0, 1) := by decide +kernel
theorem dq_B_dealAt_72 : decode prog_2_method_7_code 72 = .ok (.lload_n 3, 1) := by decide +kernel
theorem dq_B_dealAt_73 : decode prog_2_method_7_code 73 = .ok (.putfield 61, 3) := by decide +kernel
theorem dq_B_dealAt_76 : decode prog_2_method_7_code 76 = .ok (.aload_n 0, 1) := by decide +kernel
theorem dq_B_dealAt_77 : decode prog_2_method_7_code 77 = .ok (.aload_n 0, 1) := by decide +kernel
theorem dq_B_dealAt_78 : decode prog_2_method_7_code 78 = .ok (.getfield 38, 3) := by decide +kernel
theorem dq_B_dealAt_81 : decode prog_2_method_7_code 81 = .ok (.putfield 65, 3) := by decide +kernel
theorem dq_B_dealAt_84 : decode prog_2_method_7_code 84 = .ok (.return_, 1) := by decide +kernel
def fB_dealAt_27b (y0 : Nat) (k27 : qz_N × Int64 × Int32 → Option (Unit × qz_N)) (N : qz_N) (x3 : Int64) (x5 : Int32) : Option (Unit × qz_N) :=
  if (qz_gi N 4 y0 7) ≤ x5 then
    qz_let (qz_sl N 4 y0 9 x3) fun N5 =>
    qz_let (qz_si N5 4 y0 8 (qz_gi N5 4 y0 7)) fun N6 =>
    some ((), N6)
  else
  if x5 < 0 ∨ 40 ≤ x5.toNatClampNeg then none else
  (fB_beforeOrder y0 x5 N).bind fun q7 =>
  if x5 < 0 ∨ 40 ≤ x5.toNatClampNeg then none else
  qz_let (qz_sl q7.2 20 y0 x5.toNatClampNeg (if (if (x3 - q7.1) < (qz_gl N 18 y0 x5.toNatClampNeg) then (x3 - q7.1) else (qz_gl N 18 y0 x5.toNatClampNeg)) < (0 : Int64) then (0 : Int64) else (if (x3 - q7.1) < (qz_gl N 18 y0 x5.toNatClampNeg) then (x3 - q7.1) else (qz_gl N 18 y0 x5.toNatClampNeg)))) fun N9 =>
  qz_let (x5 + (1 : Int32)) fun v10 =>
  k27 (N9, x3, v10)
def fB_dealAt_27 (y0 : Nat) (n : Nat) (a : qz_N × Int64 × Int32) : Option (Unit × qz_N) := qz_loop (fun k a => fB_dealAt_27b y0 k a.1 a.2.1 a.2.2) n a
def fB_dealAt_23 (y0 : Nat) (N : qz_N) (s0 : Int64) : Option (Unit × qz_N) :=
  fB_dealAt_27 y0 1100 (N, s0, (0 : Int32))
def fB_dealAt (o : Nat) (x1 : Int64) (N : qz_N) : Option (Unit × qz_N) :=
  if x1 = (0 : Int64) then
    fB_dealAt_23 o N (0 : Int64)
  else
  (fB_boughtAt o x1 N).bind fun q1 =>
  (fB_soldAt o x1 q1.2).bind fun q3 =>
  fB_dealAt_23 o q3.2 (if q3.1 < q1.1 then q3.1 else q1.1)
set_option maxRecDepth 100000 in
set_option maxHeartbeats 4000000 in
theorem sB_dealAt_27b {p : Program} {l : Launch} {e : Env} {s : State} {m : MethodId} {args : Array Value} {below : List Frame} {meth : Method} {c : Code} {G : qz_G} (X : qz_X p s m args meth c "ExactCurves$Batch" prog_2_method_7_code 6 none G) {r : (Unit × qz_N)} (y0 : Nat) (hy0 : y0 < 1) (k27 : qz_N × Int64 × Int32 → Option (Unit × qz_N)) (hk27 : ∀ a, k27 a = some r → qz_W p l e (qz_R 2) s m args below meth c 0 0 (MQ below (qz_Q G r.2 none) args s 0 0 (qz_A G)) G s.heap 6 a.1 27 [(3, .long a.2.1), (5, .int a.2.2), (0, .ref (G.2.2 4 y0))] []) (N : qz_N) (x3 : Int64) (x5 : Int32) (h : fB_dealAt_27b y0 k27 N x3 x5 = some r) : qz_W p l e (qz_R 2) s m args below meth c 0 0 (MQ below (qz_Q G r.2 none) args s 0 0 (qz_A G)) G s.heap 6 N 27 [(3, .long x3), (5, .int x5), (0, .ref (G.2.2 4 y0))] [] := by
  unfold fB_dealAt_27b at h
  refine qz_iload X 1 rfl dq_B_dealAt_27 ?_
  refine qz_aload_n X 2 rfl dq_B_dealAt_29 ?_
  refine qz_get X (v := .int (qz_gi N 4 y0 7)) kq_B_38 hy0 rfl dq_B_dealAt_30 ?_
  refine qz_icmp_ge X (tgt := 71) (by decide) dq_B_dealAt_33 h (fun _ h => ?_) (fun _ h => ?_)
  · refine qz_aload_n X 2 rfl dq_B_dealAt_71 ?_
    refine qz_lload_n X 0 rfl dq_B_dealAt_72 ?_
    refine qz_putJ X kq_B_61 hy0 dq_B_dealAt_73 h (fun N5 h => ?_)
    refine qz_aload_n X 2 rfl dq_B_dealAt_76 ?_
    refine qz_aload_n X 2 rfl dq_B_dealAt_77 ?_
    refine qz_get X (v := .int (qz_gi N5 4 y0 7)) kq_B_38 hy0 rfl dq_B_dealAt_78 ?_
    refine qz_putI X kq_B_65 hy0 dq_B_dealAt_81 h (fun N6 h => ?_)
    exact qz_vret X h dq_B_dealAt_84
  · refine qz_aload_n X 2 rfl dq_B_dealAt_36 ?_
    refine qz_get X (v := .ref (G.2.2 20 y0)) kq_B_26 hy0 rfl dq_B_dealAt_37 ?_
    refine qz_iload X 1 rfl dq_B_dealAt_40 ?_
    refine qz_lconst X (v := (0 : Int64)) (by decide) dq_B_dealAt_42 ?_
    refine qz_aload_n X 2 rfl dq_B_dealAt_43 ?_
    refine qz_get X (v := .ref (G.2.2 18 y0)) kq_B_19 hy0 rfl dq_B_dealAt_44 ?_
    refine qz_iload X 1 rfl dq_B_dealAt_47 ?_
    refine qz_lald X (c0 := 18) (i := y0) (n := 40) rfl hy0 dq_B_dealAt_49 h (fun h => ?_)
    refine qz_lload_n X 0 rfl dq_B_dealAt_50 ?_
    refine qz_aload_n X 2 rfl dq_B_dealAt_51 ?_
    refine qz_iload X 1 rfl dq_B_dealAt_52 ?_
    refine qz_bind h (fun q7 e8 h => ?_)
    refine qz_callV X (as := [.int x5]) (st := [.long x3, .long (qz_gl N 18 y0 x5.toNatClampNeg), .long (0 : Int64), .int x5, .ref (G.2.2 20 y0)]) (o := some (.long q7.1)) (N' := q7.2) cq_B_57 hy0 (cB_beforeOrder l G X.2.2.2.2.2.2.1 y0 x5 N hy0 _ e8) ⟨by decide, by decide⟩ rfl rfl (Nat.le_of_ble_eq_true rfl) ⟨Nat.zero_le _, Nat.zero_le _⟩ dq_B_dealAt_54 ?_
    refine qz_lsub X dq_B_dealAt_57 ?_
    refine qz_mmin X (st := [.long (0 : Int64), .int x5, .ref (G.2.2 20 y0)]) wq_457 ⟨mq_min, wq_327, wq_11⟩ ⟨by decide, by decide⟩ (Nat.le_of_ble_eq_true rfl) ⟨Nat.zero_le _, Nat.zero_le _⟩ dq_B_dealAt_58 ?_
    refine qz_mmax X (st := [.int x5, .ref (G.2.2 20 y0)]) wq_458 ⟨mq_max, wq_459, wq_11⟩ ⟨by decide, by decide⟩ (Nat.le_of_ble_eq_true rfl) ⟨Nat.zero_le _, Nat.zero_le _⟩ dq_B_dealAt_61 ?_
    refine qz_last X (c0 := 20) (i := y0) (n := 40) rfl hy0 dq_B_dealAt_64 h (fun N9 h => ?_)
    refine qz_iinc_l X (u := (1 : Int32)) (lv' := fun v10 => [(5, .int v10), (3, .long x3), (0, .ref (G.2.2 4 y0))]) (k := 1) rfl (by decide) (by decide) (fun _ => rfl) dq_B_dealAt_65 h (fun v10 h => ?_)
    refine qz_goto X (tgt := 27) (by decide) dq_B_dealAt_68 ?_
    refine qz_sub [1, 0, 2] rfl ?_
    exact hk27 (N9, x3, v10) h
theorem sB_dealAt_27 {p : Program} {l : Launch} {e : Env} {s : State} {m : MethodId} {args : Array Value} {below : List Frame} {meth : Method} {c : Code} {G : qz_G} (X : qz_X p s m args meth c "ExactCurves$Batch" prog_2_method_7_code 6 none G) {r : (Unit × qz_N)} (y0 : Nat) (hy0 : y0 < 1) (n : Nat) (a : qz_N × Int64 × Int32) (h : fB_dealAt_27 y0 n a = some r) : qz_W p l e (qz_R 2) s m args below meth c 0 0 (MQ below (qz_Q G r.2 none) args s 0 0 (qz_A G)) G s.heap 6 a.1 27 [(3, .long a.2.1), (5, .int a.2.2), (0, .ref (G.2.2 4 y0))] [] :=
  qz_loop_ind (P := fun a => qz_W p l e (qz_R 2) s m args below meth c 0 0 (MQ below (qz_Q G r.2 none) args s 0 0 (qz_A G)) G s.heap 6 a.1 27 [(3, .long a.2.1), (5, .int a.2.2), (0, .ref (G.2.2 4 y0))] []) (fun k hk a h => sB_dealAt_27b X y0 hy0 k hk a.1 a.2.1 a.2.2 h) n a h
set_option maxRecDepth 100000 in
set_option maxHeartbeats 4000000 in
theorem sB_dealAt_23 {p : Program} {l : Launch} {e : Env} {s : State} {m : MethodId} {args : Array Value} {below : List Frame} {meth : Method} {c : Code} {G : qz_G} (X : qz_X p s m args meth c "ExactCurves$Batch" prog_2_method_7_code 6 none G) {r : (Unit × qz_N)} (y0 : Nat) (hy0 : y0 < 1) (N : qz_N) (s0 : Int64) (h : fB_dealAt_23 y0 N s0 = some r) : qz_W p l e (qz_R 2) s m args below meth c 0 0 (MQ below (qz_Q G r.2 none) args s 0 0 (qz_A G)) G s.heap 6 N 23 [(0, .ref (G.2.2 4 y0))] [.long s0] := by
  unfold fB_dealAt_23 at h
  refine qz_lstore_n X (lv' := [(3, .long s0), (0, .ref (G.2.2 4 y0))]) rfl (by decide) rfl dq_B_dealAt_23 ?_
  refine qz_iconst X (v := (0 : Int32)) (by decide) dq_B_dealAt_24 ?_
  refine qz_istore X (lv' := [(5, .int (0 : Int32)), (3, .long s0), (0, .ref (G.2.2 4 y0))]) (by decide) rfl dq_B_dealAt_25 ?_
  refine qz_sub [1, 0, 2] rfl ?_
  exact sB_dealAt_27 X y0 hy0 1100 (N, s0, (0 : Int32)) h
set_option maxRecDepth 100000 in
set_option maxHeartbeats 4000000 in
theorem sB_dealAt {p : Program} {l : Launch} {e : Env} {s : State} {m : MethodId} {args : Array Value} {below : List Frame} {meth : Method} {c : Code} {G : qz_G} (X : qz_X p s m args meth c "ExactCurves$Batch" prog_2_method_7_code 6 none G) {r : (Unit × qz_N)} (o : Nat) (x1 : Int64) (ho : o < 1) (N : qz_N) (h : fB_dealAt o x1 N = some r) : qz_W p l e (qz_R 2) s m args below meth c 0 0 (MQ below (qz_Q G r.2 none) args s 0 0 (qz_A G)) G s.heap 6 N 0 [(0, .ref (G.2.2 4 o)), (1, .long x1)] [] := by
  unfold fB_dealAt at h
  refine qz_lload_n X 1 rfl dq_B_dealAt_0 ?_
  refine qz_lconst X (v := (0 : Int64)) (by decide) dq_B_dealAt_1 ?_
  refine qz_lcmp_ne X (tgt := 10) (by decide) dq_B_dealAt_2 dq_B_dealAt_3 h (fun _ h => ?_) (fun _ h => ?_)
  · refine qz_aload_n X 0 rfl dq_B_dealAt_10 ?_
    refine qz_lload_n X 1 rfl dq_B_dealAt_11 ?_
    refine qz_bind h (fun q1 e2 h => ?_)
    refine qz_callV X (as := [.long x1]) (st := []) (o := some (.long q1.1)) (N' := q1.2) cq_B_41 ho (cB_boughtAt l G X.2.2.2.2.2.2.1 o x1 N ho _ e2) ⟨by decide, by decide⟩ rfl rfl (Nat.le_of_ble_eq_true rfl) ⟨Nat.zero_le _, Nat.zero_le _⟩ dq_B_dealAt_12 ?_
    refine qz_aload_n X 0 rfl dq_B_dealAt_15 ?_
    refine qz_lload_n X 1 rfl dq_B_dealAt_16 ?_
    refine qz_bind h (fun q3 e4 h => ?_)
    refine qz_callV X (as := [.long x1]) (st := [.long q1.1]) (o := some (.long q3.1)) (N' := q3.2) cq_B_45 ho (cB_soldAt l G X.2.2.2.2.2.2.1 o x1 q1.2 ho _ e4) ⟨by decide, by decide⟩ rfl rfl (Nat.le_of_ble_eq_true rfl) ⟨Nat.zero_le _, Nat.zero_le _⟩ dq_B_dealAt_17 ?_
    refine qz_mmin X (st := []) wq_457 ⟨mq_min, wq_327, wq_11⟩ ⟨by decide, by decide⟩ (Nat.le_of_ble_eq_true rfl) ⟨Nat.zero_le _, Nat.zero_le _⟩ dq_B_dealAt_20 ?_
    refine qz_sub [0] rfl ?_
    exact sB_dealAt_23 X o ho q3.2 (if q3.1 < q1.1 then q3.1 else q1.1) h
  · refine qz_lconst X (v := (0 : Int64)) (by decide) dq_B_dealAt_6 ?_
    refine qz_goto X (tgt := 23) (by decide) dq_B_dealAt_7 ?_
    refine qz_sub [0] rfl ?_
    exact sB_dealAt_23 X o ho N (0 : Int64) h
theorem cB_dealAt (l : Launch) (G : qz_G) (hD : qz_D G) (o : Nat) (x1 : Int64) (N : qz_N) (ho : o < 1) (r : (Unit × qz_N)) (h : fB_dealAt o x1 N = some r) : qz_M l yB_dealAt prog_2_method_7_code 6 none 2 G [.ref (G.2.2 4 o), .long x1] N none r.2 :=
  qz_enter (lv := [(0, .ref (G.2.2 4 o)), (1, .long x1)]) rfl hD (Nat.le_of_ble_eq_true rfl) rfl (fun p e s m args below meth c X => sB_dealAt X o x1 ho N h)
-- ExactCurves.settleBuyer(IJ)V
theorem dq_E_settleBuyer_0 : decode prog_1_method_35_code 0 = .ok (.aload_n 0, 1) := by decide +kernel
theorem dq_E_settleBuyer_1 : decode prog_1_method_35_code 1 = .ok (.getfield 31, 3) := by decide +kernel
theorem dq_E_settleBuyer_4 : decode prog_1_method_35_code 4 = .ok (.getfield 231, 3) := by decide +kernel
theorem dq_E_settleBuyer_7 : decode prog_1_method_35_code 7 = .ok (.iload_n 1, 1) := by decide +kernel
theorem dq_E_settleBuyer_8 : decode prog_1_method_35_code 8 = .ok (.laload, 1) := by decide +kernel
theorem dq_E_settleBuyer_9 : decode prog_1_method_35_code 9 = .ok (.lstore 4, 2) := by decide +kernel
theorem dq_E_settleBuyer_11 : decode prog_1_method_35_code 11 = .ok (.lload 4, 2) := by decide +kernel
theorem dq_E_settleBuyer_13 : decode prog_1_method_35_code 13 = .ok (.lload_n 2, 1) := by decide +kernel
theorem dq_E_settleBuyer_14 : decode prog_1_method_35_code 14 = .ok (.invokestatic 197, 3) := by decide +kernel
theorem dq_E_settleBuyer_17 : decode prog_1_method_35_code 17 = .ok (.lstore 6, 2) := by decide +kernel
theorem dq_E_settleBuyer_19 : decode prog_1_method_35_code 19 = .ok (.aload_n 0, 1) := by decide +kernel
theorem dq_E_settleBuyer_20 : decode prog_1_method_35_code 20 = .ok (.getfield 31, 3) := by decide +kernel
theorem dq_E_settleBuyer_23 : decode prog_1_method_35_code 23 = .ok (.getfield 333, 3) := by decide +kernel
theorem dq_E_settleBuyer_26 : decode prog_1_method_35_code 26 = .ok (.iload_n 1, 1) := by decide +kernel
theorem dq_E_settleBuyer_27 : decode prog_1_method_35_code 27 = .ok (.laload, 1) := by decide +kernel
theorem dq_E_settleBuyer_28 : decode prog_1_method_35_code 28 = .ok (.aload_n 0, 1) := by decide +kernel
theorem dq_E_settleBuyer_29 : decode prog_1_method_35_code 29 = .ok (.getfield 31, 3) := by decide +kernel
theorem dq_E_settleBuyer_32 : decode prog_1_method_35_code 32 = .ok (.getfield 336, 3) := by decide +kernel
theorem dq_E_settleBuyer_35 : decode prog_1_method_35_code 35 = .ok (.iload_n 1, 1) := by decide +kernel
theorem dq_E_settleBuyer_36 : decode prog_1_method_35_code 36 = .ok (.laload, 1) := by decide +kernel
theorem dq_E_settleBuyer_37 : decode prog_1_method_35_code 37 = .ok (.invokestatic 197, 3) := by decide +kernel
theorem dq_E_settleBuyer_40 : decode prog_1_method_35_code 40 = .ok (.lstore 8, 2) := by decide +kernel
theorem dq_E_settleBuyer_42 : decode prog_1_method_35_code 42 = .ok (.aload_n 0, 1) := by decide +kernel
theorem dq_E_settleBuyer_43 : decode prog_1_method_35_code 43 = .ok (.getfield 10, 3) := by decide +kernel
theorem dq_E_settleBuyer_46 : decode prog_1_method_35_code 46 = .ok (.aload_n 0, 1) := by decide +kernel
theorem dq_E_settleBuyer_47 : decode prog_1_method_35_code 47 = .ok (.getfield 31, 3) := by decide +kernel
theorem dq_E_settleBuyer_50 : decode prog_1_method_35_code 50 = .ok (.getfield 339, 3) := by decide +kernel
theorem dq_E_settleBuyer_53 : decode prog_1_method_35_code 53 = .ok (.iload_n 1, 1) := by decide +kernel
theorem dq_E_settleBuyer_54 : decode prog_1_method_35_code 54 = .ok (.iaload, 1) := by decide +kernel
theorem dq_E_settleBuyer_55 : decode prog_1_method_35_code 55 = .ok (.aload_n 0, 1) := by decide +kernel
theorem dq_E_settleBuyer_56 : decode prog_1_method_35_code 56 = .ok (.getfield 31, 3) := by decide +kernel
theorem dq_E_settleBuyer_59 : decode prog_1_method_35_code 59 = .ok (.getfield 187, 3) := by decide +kernel
theorem dq_E_settleBuyer_62 : decode prog_1_method_35_code 62 = .ok (.lload 4, 2) := by decide +kernel
theorem dq_E_settleBuyer_64 : decode prog_1_method_35_code 64 = .ok (.invokevirtual 68, 3) := by decide +kernel
theorem dq_E_settleBuyer_67 : decode prog_1_method_35_code 67 = .ok (.aload_n 0, 1) := by decide +kernel
theorem dq_E_settleBuyer_68 : decode prog_1_method_35_code 68 = .ok (.getfield 10, 3) := by decide +kernel
theorem dq_E_settleBuyer_71 : decode prog_1_method_35_code 71 = .ok (.aload_n 0, 1) := by decide +kernel
theorem dq_E_settleBuyer_72 : decode prog_1_method_35_code 72 = .ok (.getfield 31, 3) := by decide +kernel
theorem dq_E_settleBuyer_75 : decode prog_1_method_35_code 75 = .ok (.getfield 339, 3) := by decide +kernel
theorem dq_E_settleBuyer_78 : decode prog_1_method_35_code 78 = .ok (.iload_n 1, 1) := by decide +kernel
theorem dq_E_settleBuyer_79 : decode prog_1_method_35_code 79 = .ok (.iaload, 1) := by decide +kernel
theorem dq_E_settleBuyer_80 : decode prog_1_method_35_code 80 = .ok (.aload_n 0, 1) := by decide +kernel
theorem dq_E_settleBuyer_81 : decode prog_1_method_35_code 81 = .ok (.getfield 31, 3) := by decide +kernel
theorem dq_E_settleBuyer_84 : decode prog_1_method_35_code 84 = .ok (.getfield 190, 3) := by decide +kernel
theorem dq_E_settleBuyer_87 : decode prog_1_method_35_code 87 = .ok (.lload 8, 2) := by decide +kernel
theorem dq_E_settleBuyer_89 : decode prog_1_method_35_code 89 = .ok (.lload 6, 2) := by decide +kernel
theorem dq_E_settleBuyer_91 : decode prog_1_method_35_code 91 = .ok (.lsub, 1) := by decide +kernel
theorem dq_E_settleBuyer_92 : decode prog_1_method_35_code 92 = .ok (.invokevirtual 68, 3) := by decide +kernel
theorem dq_E_settleBuyer_95 : decode prog_1_method_35_code 95 = .ok (.aload_n 0, 1) := by decide +kernel
theorem dq_E_settleBuyer_96 : decode prog_1_method_35_code 96 = .ok (.getfield 10, 3) := by decide +kernel
theorem dq_E_settleBuyer_99 : decode prog_1_method_35_code 99 = .ok (.getfield 76, 3) := by decide +kernel
theorem dq_E_settleBuyer_102 : decode prog_1_method_35_code 102 = .ok (.aload_n 0, 1) := by decide +kernel
theorem dq_E_settleBuyer_103 : decode prog_1_method_35_code 103 = .ok (.getfield 31, 3) := by decide +kernel
theorem dq_E_settleBuyer_106 : decode prog_1_method_35_code 106 = .ok (.getfield 190, 3) := by decide +kernel
theorem dq_E_settleBuyer_109 : decode prog_1_method_35_code 109 = .ok (.dup2, 1) := by decide +kernel
theorem dq_E_settleBuyer_110 : decode prog_1_method_35_code 110 = .ok (.laload, 1) := by decide +kernel
theorem dq_E_settleBuyer_111 : decode prog_1_method_35_code 111 = .ok (.lload 6, 2) := by decide +kernel
theorem dq_E_settleBuyer_113 : decode prog_1_method_35_code 113 = .ok (.ladd, 1) := by decide +kernel
theorem dq_E_settleBuyer_114 : decode prog_1_method_35_code 114 = .ok (.lastore, 1) := by decide +kernel
theorem dq_E_settleBuyer_115 : decode prog_1_method_35_code 115 = .ok (.return_, 1) := by decide +kernel
def fE_settleBuyer (o : Nat) (x1 : Int32) (x2 : Int64) (N : qz_N) : Option (Unit × qz_N) :=
  if x1 < 0 ∨ 40 ≤ x1.toNatClampNeg then none else
  qz_let (qz_gl N 20 o x1.toNatClampNeg) fun v1 =>
  (fB_priceUp v1 x2 N).bind fun q2 =>
  if x1 < 0 ∨ 40 ≤ x1.toNatClampNeg then none else
  if x1 < 0 ∨ 40 ≤ x1.toNatClampNeg then none else
  (fB_priceUp (qz_gl q2.2 18 o x1.toNatClampNeg) (qz_gl q2.2 19 o x1.toNatClampNeg) q2.2).bind fun q4 =>
  if x1 < 0 ∨ 40 ≤ x1.toNatClampNeg then none else
  (fU_give o (qz_gi q4.2 16 o x1.toNatClampNeg) (qz_gi q4.2 4 o 5) v1 q4.2).bind fun q6 =>
  if x1 < 0 ∨ 40 ≤ x1.toNatClampNeg then none else
  (fU_give o (qz_gi q6.2 16 o x1.toNatClampNeg) (qz_gi q6.2 4 o 6) (q4.1 - q2.1) q6.2).bind fun q8 =>
  if (qz_gi q8.2 4 o 6) < 0 ∨ 4 ≤ (qz_gi q8.2 4 o 6).toNatClampNeg then none else
  if (qz_gi q8.2 4 o 6) < 0 ∨ 4 ≤ (qz_gi q8.2 4 o 6).toNatClampNeg then none else
  qz_let (qz_sl q8.2 14 o (qz_gi q8.2 4 o 6).toNatClampNeg ((qz_gl q8.2 14 o (qz_gi q8.2 4 o 6).toNatClampNeg) + q2.1)) fun N10 =>
  some ((), N10)
set_option maxRecDepth 100000 in
set_option maxHeartbeats 4000000 in
theorem sE_settleBuyer {p : Program} {l : Launch} {e : Env} {s : State} {m : MethodId} {args : Array Value} {below : List Frame} {meth : Method} {c : Code} {G : qz_G} (X : qz_X p s m args meth c "ExactCurves" prog_1_method_35_code 10 none G) {r : (Unit × qz_N)} (o : Nat) (x1 : Int32) (x2 : Int64) (ho : o < 1) (N : qz_N) (h : fE_settleBuyer o x1 x2 N = some r) : qz_W p l e (qz_R 1) s m args below meth c 0 0 (MQ below (qz_Q G r.2 none) args s 0 0 (qz_A G)) G s.heap 10 N 0 [(0, .ref (G.2.2 0 o)), (1, .int x1), (2, .long x2)] [] := by
  unfold fE_settleBuyer at h
  refine qz_aload_n X 0 rfl dq_E_settleBuyer_0 ?_
  refine qz_get X (v := .ref (G.2.2 4 o)) kq_E_31 ho rfl dq_E_settleBuyer_1 ?_
  refine qz_get X (v := .ref (G.2.2 20 o)) kq_E_231 ho rfl dq_E_settleBuyer_4 ?_
  refine qz_iload_n X 1 rfl dq_E_settleBuyer_7 ?_
  refine qz_lald X (c0 := 20) (i := o) (n := 40) rfl ho dq_E_settleBuyer_8 h (fun h => ?_)
  refine qz_letj h (fun v1 h => ?_)
  refine qz_lstore X (lv' := [(4, .long v1), (0, .ref (G.2.2 0 o)), (1, .int x1), (2, .long x2)]) (by decide) rfl dq_E_settleBuyer_9 ?_
  refine qz_lload X 0 rfl dq_E_settleBuyer_11 ?_
  refine qz_lload_n X 3 rfl dq_E_settleBuyer_13 ?_
  refine qz_bind h (fun q2 e3 h => ?_)
  refine qz_callS X (as := [.long v1, .long x2]) (st := []) (o := some (.long q2.1)) (N' := q2.2) cq_E_197 (cB_priceUp l G X.2.2.2.2.2.2.1 v1 x2 N _ e3) ⟨by decide, by decide⟩ rfl rfl (Nat.le_of_ble_eq_true rfl) ⟨Nat.zero_le _, Nat.zero_le _⟩ dq_E_settleBuyer_14 ?_
  refine qz_lstore X (lv' := [(6, .long q2.1), (4, .long v1), (0, .ref (G.2.2 0 o)), (1, .int x1), (2, .long x2)]) (by decide) rfl dq_E_settleBuyer_17 ?_
  refine qz_aload_n X 2 rfl dq_E_settleBuyer_19 ?_
  refine qz_get X (v := .ref (G.2.2 4 o)) kq_E_31 ho rfl dq_E_settleBuyer_20 ?_
  refine qz_get X (v := .ref (G.2.2 18 o)) kq_E_333 ho rfl dq_E_settleBuyer_23 ?_
  refine qz_iload_n X 3 rfl dq_E_settleBuyer_26 ?_
  refine qz_lald X (c0 := 18) (i := o) (n := 40) rfl ho dq_E_settleBuyer_27 h (fun h => ?_)
  refine qz_aload_n X 2 rfl dq_E_settleBuyer_28 ?_
  refine qz_get X (v := .ref (G.2.2 4 o)) kq_E_31 ho rfl dq_E_settleBuyer_29 ?_
  refine qz_get X (v := .ref (G.2.2 19 o)) kq_E_336 ho rfl dq_E_settleBuyer_32 ?_
  refine qz_iload_n X 3 rfl dq_E_settleBuyer_35 ?_
  refine qz_lald X (c0 := 19) (i := o) (n := 40) rfl ho dq_E_settleBuyer_36 h (fun h => ?_)
  refine qz_bind h (fun q4 e5 h => ?_)
  refine qz_callS X (as := [.long (qz_gl q2.2 18 o x1.toNatClampNeg), .long (qz_gl q2.2 19 o x1.toNatClampNeg)]) (st := []) (o := some (.long q4.1)) (N' := q4.2) cq_E_197 (cB_priceUp l G X.2.2.2.2.2.2.1 (qz_gl q2.2 18 o x1.toNatClampNeg) (qz_gl q2.2 19 o x1.toNatClampNeg) q2.2 _ e5) ⟨by decide, by decide⟩ rfl rfl (Nat.le_of_ble_eq_true rfl) ⟨Nat.zero_le _, Nat.zero_le _⟩ dq_E_settleBuyer_37 ?_
  refine qz_lstore X (lv' := [(8, .long q4.1), (6, .long q2.1), (4, .long v1), (0, .ref (G.2.2 0 o)), (1, .int x1), (2, .long x2)]) (by decide) rfl dq_E_settleBuyer_40 ?_
  refine qz_aload_n X 3 rfl dq_E_settleBuyer_42 ?_
  refine qz_get X (v := .ref (G.2.2 1 o)) kq_E_10 ho rfl dq_E_settleBuyer_43 ?_
  refine qz_aload_n X 3 rfl dq_E_settleBuyer_46 ?_
  refine qz_get X (v := .ref (G.2.2 4 o)) kq_E_31 ho rfl dq_E_settleBuyer_47 ?_
  refine qz_get X (v := .ref (G.2.2 16 o)) kq_E_339 ho rfl dq_E_settleBuyer_50 ?_
  refine qz_iload_n X 4 rfl dq_E_settleBuyer_53 ?_
  refine qz_iald X (c0 := 16) (i := o) (n := 40) rfl ho dq_E_settleBuyer_54 h (fun h => ?_)
  refine qz_aload_n X 3 rfl dq_E_settleBuyer_55 ?_
  refine qz_get X (v := .ref (G.2.2 4 o)) kq_E_31 ho rfl dq_E_settleBuyer_56 ?_
  refine qz_get X (v := .int (qz_gi q4.2 4 o 5)) kq_E_187 ho rfl dq_E_settleBuyer_59 ?_
  refine qz_lload X 2 rfl dq_E_settleBuyer_62 ?_
  refine qz_bind h (fun q6 e7 h => ?_)
  refine qz_callV X (as := [.int (qz_gi q4.2 16 o x1.toNatClampNeg), .int (qz_gi q4.2 4 o 5), .long v1]) (st := []) (o := none) (N' := q6.2) cq_E_68 ho (cU_give l G X.2.2.2.2.2.2.1 o (qz_gi q4.2 16 o x1.toNatClampNeg) (qz_gi q4.2 4 o 5) v1 q4.2 ho _ e7) ⟨by decide, by decide⟩ rfl rfl (Nat.le_of_ble_eq_true rfl) ⟨Nat.zero_le _, Nat.zero_le _⟩ dq_E_settleBuyer_64 ?_
  refine qz_aload_n X 3 rfl dq_E_settleBuyer_67 ?_
  refine qz_get X (v := .ref (G.2.2 1 o)) kq_E_10 ho rfl dq_E_settleBuyer_68 ?_
  refine qz_aload_n X 3 rfl dq_E_settleBuyer_71 ?_
  refine qz_get X (v := .ref (G.2.2 4 o)) kq_E_31 ho rfl dq_E_settleBuyer_72 ?_
  refine qz_get X (v := .ref (G.2.2 16 o)) kq_E_339 ho rfl dq_E_settleBuyer_75 ?_
  refine qz_iload_n X 4 rfl dq_E_settleBuyer_78 ?_
  refine qz_iald X (c0 := 16) (i := o) (n := 40) rfl ho dq_E_settleBuyer_79 h (fun h => ?_)
  refine qz_aload_n X 3 rfl dq_E_settleBuyer_80 ?_
  refine qz_get X (v := .ref (G.2.2 4 o)) kq_E_31 ho rfl dq_E_settleBuyer_81 ?_
  refine qz_get X (v := .int (qz_gi q6.2 4 o 6)) kq_E_190 ho rfl dq_E_settleBuyer_84 ?_
  refine qz_lload X 0 rfl dq_E_settleBuyer_87 ?_
  refine qz_lload X 1 rfl dq_E_settleBuyer_89 ?_
  refine qz_lsub X dq_E_settleBuyer_91 ?_
  refine qz_bind h (fun q8 e9 h => ?_)
  refine qz_callV X (as := [.int (qz_gi q6.2 16 o x1.toNatClampNeg), .int (qz_gi q6.2 4 o 6), .long (q4.1 - q2.1)]) (st := []) (o := none) (N' := q8.2) cq_E_68 ho (cU_give l G X.2.2.2.2.2.2.1 o (qz_gi q6.2 16 o x1.toNatClampNeg) (qz_gi q6.2 4 o 6) (q4.1 - q2.1) q6.2 ho _ e9) ⟨by decide, by decide⟩ rfl rfl (Nat.le_of_ble_eq_true rfl) ⟨Nat.zero_le _, Nat.zero_le _⟩ dq_E_settleBuyer_92 ?_
  refine qz_aload_n X 3 rfl dq_E_settleBuyer_95 ?_
  refine qz_get X (v := .ref (G.2.2 1 o)) kq_E_10 ho rfl dq_E_settleBuyer_96 ?_
  refine qz_get X (v := .ref (G.2.2 14 o)) kq_E_76 ho rfl dq_E_settleBuyer_99 ?_
  refine qz_aload_n X 3 rfl dq_E_settleBuyer_102 ?_
  refine qz_get X (v := .ref (G.2.2 4 o)) kq_E_31 ho rfl dq_E_settleBuyer_103 ?_
  refine qz_get X (v := .int (qz_gi q8.2 4 o 6)) kq_E_190 ho rfl dq_E_settleBuyer_106 ?_
  refine qz_dup2_11 X rfl rfl dq_E_settleBuyer_109 ?_
  refine qz_lald X (c0 := 14) (i := o) (n := 4) rfl ho dq_E_settleBuyer_110 h (fun h => ?_)
  refine qz_lload X 1 rfl dq_E_settleBuyer_111 ?_
  refine qz_ladd X dq_E_settleBuyer_113 ?_
  refine qz_last X (c0 := 14) (i := o) (n := 4) rfl ho dq_E_settleBuyer_114 h (fun N10 h => ?_)
  exact qz_vret X h dq_E_settleBuyer_115
theorem cE_settleBuyer (l : Launch) (G : qz_G) (hD : qz_D G) (o : Nat) (x1 : Int32) (x2 : Int64) (N : qz_N) (ho : o < 1) (r : (Unit × qz_N)) (h : fE_settleBuyer o x1 x2 N = some r) : qz_M l yE_settleBuyer prog_1_method_35_code 10 none 1 G [.ref (G.2.2 0 o), .int x1, .long x2] N none r.2 :=
  qz_enter (lv := [(0, .ref (G.2.2 0 o)), (1, .int x1), (2, .long x2)]) rfl hD (Nat.le_of_ble_eq_true rfl) rfl (fun p e s m args below meth c X => sE_settleBuyer X o x1 x2 ho N h)
-- ExactCurves.settleSeller(IJ)V
theorem dq_E_settleSeller_0 : decode prog_1_method_36_code 0 = .ok (.aload_n 0, 1) := by decide +kernel
theorem dq_E_settleSeller_1 : decode prog_1_method_36_code 1 = .ok (.getfield 31, 3) := by decide +kernel
theorem dq_E_settleSeller_4 : decode prog_1_method_36_code 4 = .ok (.getfield 231, 3) := by decide +kernel
theorem dq_E_settleSeller_7 : decode prog_1_method_36_code 7 = .ok (.iload_n 1, 1) := by decide +kernel
theorem dq_E_settleSeller_8 : decode prog_1_method_36_code 8 = .ok (.laload, 1) := by decide +kernel
theorem dq_E_settleSeller_9 : decode prog_1_method_36_code 9 = .ok (.lstore 4, 2) := by decide +kernel
theorem dq_E_settleSeller_11 : decode prog_1_method_36_code 11 = .ok (.lload 4, 2) := by decide +kernel
theorem dq_E_settleSeller_13 : decode prog_1_method_36_code 13 = .ok (.lload_n 2, 1) := by decide +kernel
theorem dq_E_settleSeller_14 : decode prog_1_method_36_code 14 = .ok (.lmul, 1) := by decide +kernel
theorem dq_E_settleSeller_15 : decode prog_1_method_36_code 15 = .ok (.ldc2_w 343, 3) := by decide +kernel
theorem dq_E_settleSeller_18 : decode prog_1_method_36_code 18 = .ok (.ldiv, 1) := by decide +kernel
theorem dq_E_settleSeller_19 : decode prog_1_method_36_code 19 = .ok (.lstore 6, 2) := by decide +kernel
theorem dq_E_settleSeller_21 : decode prog_1_method_36_code 21 = .ok (.aload_n 0, 1) := by decide +kernel
theorem dq_E_settleSeller_22 : decode prog_1_method_36_code 22 = .ok (.getfield 10, 3) := by decide +kernel
theorem dq_E_settleSeller_25 : decode prog_1_method_36_code 25 = .ok (.aload_n 0, 1) := by decide +kernel
theorem dq_E_settleSeller_26 : decode prog_1_method_36_code 26 = .ok (.getfield 31, 3) := by decide +kernel
theorem dq_E_settleSeller_29 : decode prog_1_method_36_code 29 = .ok (.getfield 339, 3) := by decide +kernel
theorem dq_E_settleSeller_32 : decode prog_1_method_36_code 32 = .ok (.iload_n 1, 1) := by decide +kernel
theorem dq_E_settleSeller_33 : decode prog_1_method_36_code 33 = .ok (.iaload, 1) := by decide +kernel
theorem dq_E_settleSeller_34 : decode prog_1_method_36_code 34 = .ok (.aload_n 0, 1) := by decide +kernel
theorem dq_E_settleSeller_35 : decode prog_1_method_36_code 35 = .ok (.getfield 31, 3) := by decide +kernel
theorem dq_E_settleSeller_38 : decode prog_1_method_36_code 38 = .ok (.getfield 187, 3) := by decide +kernel
theorem dq_E_settleSeller_41 : decode prog_1_method_36_code 41 = .ok (.aload_n 0, 1) := by decide +kernel
theorem dq_E_settleSeller_42 : decode prog_1_method_36_code 42 = .ok (.getfield 31, 3) := by decide +kernel
theorem dq_E_settleSeller_45 : decode prog_1_method_36_code 45 = .ok (.getfield 333, 3) := by decide +kernel
theorem dq_E_settleSeller_48 : decode prog_1_method_36_code 48 = .ok (.iload_n 1, 1) := by decide +kernel
theorem dq_E_settleSeller_49 : decode prog_1_method_36_code 49 = .ok (.laload, 1) := by decide +kernel
theorem dq_E_settleSeller_50 : decode prog_1_method_36_code 50 = .ok (.lload 4, 2) := by decide +kernel
theorem dq_E_settleSeller_52 : decode prog_1_method_36_code 52 = .ok (.lsub, 1) := by decide +kernel
theorem dq_E_settleSeller_53 : decode prog_1_method_36_code 53 = .ok (.invokevirtual 68, 3) := by decide +kernel
theorem dq_E_settleSeller_56 : decode prog_1_method_36_code 56 = .ok (.aload_n 0, 1) := by decide +kernel
theorem dq_E_settleSeller_57 : decode prog_1_method_36_code 57 = .ok (.getfield 10, 3) := by decide +kernel
theorem dq_E_settleSeller_60 : decode prog_1_method_36_code 60 = .ok (.aload_n 0, 1) := by decide +kernel
theorem dq_E_settleSeller_61 : decode prog_1_method_36_code 61 = .ok (.getfield 31, 3) := by decide +kernel
theorem dq_E_settleSeller_64 : decode prog_1_method_36_code 64 = .ok (.getfield 339, 3) := by decide +kernel
theorem dq_E_settleSeller_67 : decode prog_1_method_36_code 67 = .ok (.iload_n 1, 1) := by decide +kernel
theorem dq_E_settleSeller_68 : decode prog_1_method_36_code 68 = .ok (.iaload, 1) := by decide +kernel
theorem dq_E_settleSeller_69 : decode prog_1_method_36_code 69 = .ok (.aload_n 0, 1) := by decide +kernel
theorem dq_E_settleSeller_70 : decode prog_1_method_36_code 70 = .ok (.getfield 31, 3) := by decide +kernel
theorem dq_E_settleSeller_73 : decode prog_1_method_36_code 73 = .ok (.getfield 190, 3) := by decide +kernel
theorem dq_E_settleSeller_76 : decode prog_1_method_36_code 76 = .ok (.lload 6, 2) := by decide +kernel
theorem dq_E_settleSeller_78 : decode prog_1_method_36_code 78 = .ok (.invokevirtual 68, 3) := by decide +kernel
theorem dq_E_settleSeller_81 : decode prog_1_method_36_code 81 = .ok (.aload_n 0, 1) := by decide +kernel
theorem dq_E_settleSeller_82 : decode prog_1_method_36_code 82 = .ok (.getfield 10, 3) := by decide +kernel
theorem dq_E_settleSeller_85 : decode prog_1_method_36_code 85 = .ok (.getfield 76, 3) := by decide +kernel
theorem dq_E_settleSeller_88 : decode prog_1_method_36_code 88 = .ok (.aload_n 0, 1) := by decide +kernel
theorem dq_E_settleSeller_89 : decode prog_1_method_36_code 89 = .ok (.getfield 31, 3) := by decide +kernel
theorem dq_E_settleSeller_92 : decode prog_1_method_36_code 92 = .ok (.getfield 190, 3) := by decide +kernel
theorem dq_E_settleSeller_95 : decode prog_1_method_36_code 95 = .ok (.dup2, 1) := by decide +kernel
theorem dq_E_settleSeller_96 : decode prog_1_method_36_code 96 = .ok (.laload, 1) := by decide +kernel
theorem dq_E_settleSeller_97 : decode prog_1_method_36_code 97 = .ok (.lload 6, 2) := by decide +kernel
theorem dq_E_settleSeller_99 : decode prog_1_method_36_code 99 = .ok (.lsub, 1) := by decide +kernel
theorem dq_E_settleSeller_100 : decode prog_1_method_36_code 100 = .ok (.lastore, 1) := by decide +kernel
theorem dq_E_settleSeller_101 : decode prog_1_method_36_code 101 = .ok (.return_, 1) := by decide +kernel
def fE_settleSeller (o : Nat) (x1 : Int32) (x2 : Int64) (N : qz_N) : Option (Unit × qz_N) :=
  if x1 < 0 ∨ 40 ≤ x1.toNatClampNeg then none else
  qz_let (qz_gl N 20 o x1.toNatClampNeg) fun v1 =>
  qz_let ((v1 * x2) / (1000 : Int64)) fun v2 =>
  if x1 < 0 ∨ 40 ≤ x1.toNatClampNeg then none else
  if x1 < 0 ∨ 40 ≤ x1.toNatClampNeg then none else
  (fU_give o (qz_gi N 16 o x1.toNatClampNeg) (qz_gi N 4 o 5) ((qz_gl N 18 o x1.toNatClampNeg) - v1) N).bind fun q3 =>
  if x1 < 0 ∨ 40 ≤ x1.toNatClampNeg then none else
  (fU_give o (qz_gi q3.2 16 o x1.toNatClampNeg) (qz_gi q3.2 4 o 6) v2 q3.2).bind fun q5 =>
  if (qz_gi q5.2 4 o 6) < 0 ∨ 4 ≤ (qz_gi q5.2 4 o 6).toNatClampNeg then none else
  if (qz_gi q5.2 4 o 6) < 0 ∨ 4 ≤ (qz_gi q5.2 4 o 6).toNatClampNeg then none else
  qz_let (qz_sl q5.2 14 o (qz_gi q5.2 4 o 6).toNatClampNeg ((qz_gl q5.2 14 o (qz_gi q5.2 4 o 6).toNatClampNeg) - v2)) fun N7 =>
  some ((), N7)
set_option maxRecDepth 100000 in
set_option maxHeartbeats 4000000 in
theorem sE_settleSeller {p : Program} {l : Launch} {e : Env} {s : State} {m : MethodId} {args : Array Value} {below : List Frame} {meth : Method} {c : Code} {G : qz_G} (X : qz_X p s m args meth c "ExactCurves" prog_1_method_36_code 8 none G) {r : (Unit × qz_N)} (o : Nat) (x1 : Int32) (x2 : Int64) (ho : o < 1) (N : qz_N) (h : fE_settleSeller o x1 x2 N = some r) : qz_W p l e (qz_R 1) s m args below meth c 0 0 (MQ below (qz_Q G r.2 none) args s 0 0 (qz_A G)) G s.heap 8 N 0 [(0, .ref (G.2.2 0 o)), (1, .int x1), (2, .long x2)] [] := by
  unfold fE_settleSeller at h
  refine qz_aload_n X 0 rfl dq_E_settleSeller_0 ?_
  refine qz_get X (v := .ref (G.2.2 4 o)) kq_E_31 ho rfl dq_E_settleSeller_1 ?_
  refine qz_get X (v := .ref (G.2.2 20 o)) kq_E_231 ho rfl dq_E_settleSeller_4 ?_
  refine qz_iload_n X 1 rfl dq_E_settleSeller_7 ?_
  refine qz_lald X (c0 := 20) (i := o) (n := 40) rfl ho dq_E_settleSeller_8 h (fun h => ?_)
  refine qz_letj h (fun v1 h => ?_)
  refine qz_lstore X (lv' := [(4, .long v1), (0, .ref (G.2.2 0 o)), (1, .int x1), (2, .long x2)]) (by decide) rfl dq_E_settleSeller_9 ?_
  refine qz_lload X 0 rfl dq_E_settleSeller_11 ?_
  refine qz_lload_n X 3 rfl dq_E_settleSeller_13 ?_
  refine qz_lmul X dq_E_settleSeller_14 ?_
  refine qz_ldc2 X (v := (1000 : Int64)) wq_481 dq_E_settleSeller_15 ?_
  refine qz_ldiv X (by decide) dq_E_settleSeller_18 ?_
  refine qz_letj h (fun v2 h => ?_)
  refine qz_lstore X (lv' := [(6, .long v2), (4, .long v1), (0, .ref (G.2.2 0 o)), (1, .int x1), (2, .long x2)]) (by decide) rfl dq_E_settleSeller_19 ?_
  refine qz_aload_n X 2 rfl dq_E_settleSeller_21 ?_
  refine qz_get X (v := .ref (G.2.2 1 o)) kq_E_10 ho rfl dq_E_settleSeller_22 ?_
  refine qz_aload_n X 2 rfl dq_E_settleSeller_25 ?_
  refine qz_get X (v := .ref (G.2.2 4 o)) kq_E_31 ho rfl dq_E_settleSeller_26 ?_
  refine qz_get X (v := .ref (G.2.2 16 o)) kq_E_339 ho rfl dq_E_settleSeller_29 ?_
  refine qz_iload_n X 3 rfl dq_E_settleSeller_32 ?_
  refine qz_iald X (c0 := 16) (i := o) (n := 40) rfl ho dq_E_settleSeller_33 h (fun h => ?_)
  refine qz_aload_n X 2 rfl dq_E_settleSeller_34 ?_
  refine qz_get X (v := .ref (G.2.2 4 o)) kq_E_31 ho rfl dq_E_settleSeller_35 ?_
  refine qz_get X (v := .int (qz_gi N 4 o 5)) kq_E_187 ho rfl dq_E_settleSeller_38 ?_
  refine qz_aload_n X 2 rfl dq_E_settleSeller_41 ?_
  refine qz_get X (v := .ref (G.2.2 4 o)) kq_E_31 ho rfl dq_E_settleSeller_42 ?_
  refine qz_get X (v := .ref (G.2.2 18 o)) kq_E_333 ho rfl dq_E_settleSeller_45 ?_
  refine qz_iload_n X 3 rfl dq_E_settleSeller_48 ?_
  refine qz_lald X (c0 := 18) (i := o) (n := 40) rfl ho dq_E_settleSeller_49 h (fun h => ?_)
  refine qz_lload X 1 rfl dq_E_settleSeller_50 ?_
  refine qz_lsub X dq_E_settleSeller_52 ?_
  refine qz_bind h (fun q3 e4 h => ?_)
  refine qz_callV X (as := [.int (qz_gi N 16 o x1.toNatClampNeg), .int (qz_gi N 4 o 5), .long ((qz_gl N 18 o x1.toNatClampNeg) - v1)]) (st := []) (o := none) (N' := q3.2) cq_E_68 ho (cU_give l G X.2.2.2.2.2.2.1 o (qz_gi N 16 o x1.toNatClampNeg) (qz_gi N 4 o 5) ((qz_gl N 18 o x1.toNatClampNeg) - v1) N ho _ e4) ⟨by decide, by decide⟩ rfl rfl (Nat.le_of_ble_eq_true rfl) ⟨Nat.zero_le _, Nat.zero_le _⟩ dq_E_settleSeller_53 ?_
  refine qz_aload_n X 2 rfl dq_E_settleSeller_56 ?_
  refine qz_get X (v := .ref (G.2.2 1 o)) kq_E_10 ho rfl dq_E_settleSeller_57 ?_
  refine qz_aload_n X 2 rfl dq_E_settleSeller_60 ?_
  refine qz_get X (v := .ref (G.2.2 4 o)) kq_E_31 ho rfl dq_E_settleSeller_61 ?_
  refine qz_get X (v := .ref (G.2.2 16 o)) kq_E_339 ho rfl dq_E_settleSeller_64 ?_
  refine qz_iload_n X 3 rfl dq_E_settleSeller_67 ?_
  refine qz_iald X (c0 := 16) (i := o) (n := 40) rfl ho dq_E_settleSeller_68 h (fun h => ?_)
  refine qz_aload_n X 2 rfl dq_E_settleSeller_69 ?_
  refine qz_get X (v := .ref (G.2.2 4 o)) kq_E_31 ho rfl dq_E_settleSeller_70 ?_
  refine qz_get X (v := .int (qz_gi q3.2 4 o 6)) kq_E_190 ho rfl dq_E_settleSeller_73 ?_
  refine qz_lload X 0 rfl dq_E_settleSeller_76 ?_
  refine qz_bind h (fun q5 e6 h => ?_)
  refine qz_callV X (as := [.int (qz_gi q3.2 16 o x1.toNatClampNeg), .int (qz_gi q3.2 4 o 6), .long v2]) (st := []) (o := none) (N' := q5.2) cq_E_68 ho (cU_give l G X.2.2.2.2.2.2.1 o (qz_gi q3.2 16 o x1.toNatClampNeg) (qz_gi q3.2 4 o 6) v2 q3.2 ho _ e6) ⟨by decide, by decide⟩ rfl rfl (Nat.le_of_ble_eq_true rfl) ⟨Nat.zero_le _, Nat.zero_le _⟩ dq_E_settleSeller_78 ?_
  refine qz_aload_n X 2 rfl dq_E_settleSeller_81 ?_
  refine qz_get X (v := .ref (G.2.2 1 o)) kq_E_10 ho rfl dq_E_settleSeller_82 ?_
  refine qz_get X (v := .ref (G.2.2 14 o)) kq_E_76 ho rfl dq_E_settleSeller_85 ?_
  refine qz_aload_n X 2 rfl dq_E_settleSeller_88 ?_
  refine qz_get X (v := .ref (G.2.2 4 o)) kq_E_31 ho rfl dq_E_settleSeller_89 ?_
  refine qz_get X (v := .int (qz_gi q5.2 4 o 6)) kq_E_190 ho rfl dq_E_settleSeller_92 ?_
  refine qz_dup2_11 X rfl rfl dq_E_settleSeller_95 ?_
  refine qz_lald X (c0 := 14) (i := o) (n := 4) rfl ho dq_E_settleSeller_96 h (fun h => ?_)
  refine qz_lload X 0 rfl dq_E_settleSeller_97 ?_
  refine qz_lsub X dq_E_settleSeller_99 ?_
  refine qz_last X (c0 := 14) (i := o) (n := 4) rfl ho dq_E_settleSeller_100 h (fun N7 h => ?_)
  exact qz_vret X h dq_E_settleSeller_101
theorem cE_settleSeller (l : Launch) (G : qz_G) (hD : qz_D G) (o : Nat) (x1 : Int32) (x2 : Int64) (N : qz_N) (ho : o < 1) (r : (Unit × qz_N)) (h : fE_settleSeller o x1 x2 N = some r) : qz_M l yE_settleSeller prog_1_method_36_code 8 none 1 G [.ref (G.2.2 0 o), .int x1, .long x2] N none r.2 :=
  qz_enter (lv := [(0, .ref (G.2.2 0 o)), (1, .int x1), (2, .long x2)]) rfl hD (Nat.le_of_ble_eq_true rfl) rfl (fun p e s m args below meth c X => sE_settleSeller X o x1 x2 ho N h)
-- ExactCurves.clear()J
theorem dq_E_clear_0 : decode prog_1_method_18_code 0 = .ok (.aload_n 0, 1) := by decide +kernel
theorem dq_E_clear_1 : decode prog_1_method_18_code 1 = .ok (.getfield 31, 3) := by decide +kernel
theorem dq_E_clear_4 : decode prog_1_method_18_code 4 = .ok (.invokevirtual 207, 3) := by decide +kernel
theorem dq_E_clear_7 : decode prog_1_method_18_code 7 = .ok (.lstore_n 1, 1) := by decide +kernel
theorem dq_E_clear_8 : decode prog_1_method_18_code 8 = .ok (.aload_n 0, 1) := by decide +kernel
theorem dq_E_clear_9 : decode prog_1_method_18_code 9 = .ok (.getfield 31, 3) := by decide +kernel
theorem dq_E_clear_12 : decode prog_1_method_18_code 12 = .ok (.lload_n 1, 1) := by decide +kernel
theorem dq_E_clear_13 : decode prog_1_method_18_code 13 = .ok (.invokevirtual 211, 3) := by decide +kernel
theorem dq_E_clear_16 : decode prog_1_method_18_code 16 = .ok (.iconst 0, 1) := by decide +kernel
theorem dq_E_clear_17 : decode prog_1_method_18_code 17 = .ok (.istore_n 3, 1) := by decide +kernel
theorem dq_E_clear_18 : decode prog_1_method_18_code 18 = .ok (.iload_n 3, 1) := by decide +kernel
theorem dq_E_clear_19 : decode prog_1_method_18_code 19 = .ok (.aload_n 0, 1) := by decide +kernel
theorem dq_E_clear_20 : decode prog_1_method_18_code 20 = .ok (.getfield 31, 3) := by decide +kernel
theorem dq_E_clear_23 : decode prog_1_method_18_code 23 = .ok (.getfield 184, 3) := by decide +kernel
theorem dq_E_clear_26 : decode prog_1_method_18_code 26 = .ok (.if_icmp .ge 36, 3) := by decide +kernel
theorem dq_E_clear_29 : decode prog_1_method_18_code 29 = .ok (.aload_n 0, 1) := by decide +kernel
theorem dq_E_clear_30 : decode prog_1_method_18_code 30 = .ok (.getfield 31, 3) := by decide +kernel
theorem dq_E_clear_33 : decode prog_1_method_18_code 33 = .ok (.getfield 215, 3) := by decide +kernel
theorem dq_E_clear_36 : decode prog_1_method_18_code 36 = .ok (.iload_n 3, 1) := by decide +kernel
theorem dq_E_clear_37 : decode prog_1_method_18_code 37 = .ok (.baload, 1) := by decide +kernel
theorem dq_E_clear_38 : decode prog_1_method_18_code 38 = .ok (.ifCond .eq 12, 3) := by decide +kernel
theorem dq_E_clear_41 : decode prog_1_method_18_code 41 = .ok (.aload_n 0, 1) := by decide +kernel
theorem dq_E_clear_42 : decode prog_1_method_18_code 42 = .ok (.iload_n 3, 1) := by decide +kernel
theorem dq_E_clear_43 : decode prog_1_method_18_code 43 = .ok (.lload_n 1, 1) := by decide +kernel
theorem dq_E_clear_44 : decode prog_1_method_18_code 44 = .ok (.invokevirtual 219, 3) := by decide +kernel
theorem dq_E_clear_47 : decode prog_1_method_18_code 47 = .ok (.goto 9, 3) := by decide +kernel
theorem dq_E_clear_50 : decode prog_1_method_18_code 50 = .ok (.aload_n 0, 1) := by decide +kernel
theorem dq_E_clear_51 : decode prog_1_method_18_code 51 = .ok (.iload_n 3, 1) := by decide +kernel
theorem dq_E_clear_52 : decode prog_1_method_18_code 52 = .ok (.lload_n 1, 1) := by decide +kernel
theorem dq_E_clear_53 : decode prog_1_method_18_code 53 = .ok (.invokevirtual 222, 3) := by decide +kernel
theorem dq_E_clear_56 : decode prog_1_method_18_code 56 = .ok (.iinc 3 1, 3) := by decide +kernel
theorem dq_E_clear_59 : decode prog_1_method_18_code 59 = .ok (.goto (-41), 3) := by decide +kernel
theorem dq_E_clear_62 : decode prog_1_method_18_code 62 = .ok (.aload_n 0, 1) := by decide +kernel
theorem dq_E_clear_63 : decode prog_1_method_18_code 63 = .ok (.getfield 31, 3) := by decide +kernel
theorem dq_E_clear_66 : decode prog_1_method_18_code 66 = .ok (.iconst 0, 1) := by decide +kernel
theorem dq_E_clear_67 : decode prog_1_method_18_code 67 = .ok (.putfield 184, 3) := by decide +kernel
theorem dq_E_clear_70 : decode prog_1_method_18_code 70 = .ok (.lload_n 1, 1) := by decide +kernel
theorem dq_E_clear_71 : decode prog_1_method_18_code 71 = .ok (.lreturn, 1) := by decide +kernel
def fE_clear_56 (y0 : Nat) (k18 : qz_N × Int64 × Int32 → Option (Int64 × qz_N)) (N : qz_N) (x1 : Int64) (x3 : Int32) : Option (Int64 × qz_N) :=
  qz_let (x3 + (1 : Int32)) fun v8 =>
  k18 (N, x1, v8)
def fE_clear_18b (y0 : Nat) (k18 : qz_N × Int64 × Int32 → Option (Int64 × qz_N)) (N : qz_N) (x1 : Int64) (x3 : Int32) : Option (Int64 × qz_N) :=
  if (qz_gi N 4 y0 7) ≤ x3 then
    qz_let (qz_si N 4 y0 7 (0 : Int32)) fun N5 =>
    some (x1, N5)
  else
  if x3 < 0 ∨ 40 ≤ x3.toNatClampNeg then none else
  if (qz_gi N 17 y0 x3.toNatClampNeg) = 0 then
    (fE_settleSeller y0 x3 x1 N).bind fun q6 =>
    fE_clear_56 y0 k18 q6.2 x1 x3
  else
  (fE_settleBuyer y0 x3 x1 N).bind fun q9 =>
  fE_clear_56 y0 k18 q9.2 x1 x3
def fE_clear_18 (y0 : Nat) (n : Nat) (a : qz_N × Int64 × Int32) : Option (Int64 × qz_N) := qz_loop (fun k a => fE_clear_18b y0 k a.1 a.2.1 a.2.2) n a
def fE_clear (o : Nat) (N : qz_N) : Option (Int64 × qz_N) :=
  (fB_bestPrice o N).bind fun q1 =>
  (fB_dealAt o q1.1 q1.2).bind fun q3 =>
  fE_clear_18 o 1100 (q3.2, q1.1, (0 : Int32))
set_option maxRecDepth 100000 in
set_option maxHeartbeats 4000000 in
theorem sE_clear_56 {p : Program} {l : Launch} {e : Env} {s : State} {m : MethodId} {args : Array Value} {below : List Frame} {meth : Method} {c : Code} {G : qz_G} (X : qz_X p s m args meth c "ExactCurves" prog_1_method_18_code 4 (some .long) G) {r : (Int64 × qz_N)} (y0 : Nat) (hy0 : y0 < 1) (k18 : qz_N × Int64 × Int32 → Option (Int64 × qz_N)) (hk18 : ∀ a, k18 a = some r → qz_W p l e (qz_R 3) s m args below meth c 0 0 (MQ below (qz_Q G r.2 (some (.long r.1))) args s 0 0 (qz_A G)) G s.heap 4 a.1 18 [(1, .long a.2.1), (3, .int a.2.2), (0, .ref (G.2.2 0 y0))] []) (N : qz_N) (x1 : Int64) (x3 : Int32) (h : fE_clear_56 y0 k18 N x1 x3 = some r) : qz_W p l e (qz_R 3) s m args below meth c 0 0 (MQ below (qz_Q G r.2 (some (.long r.1))) args s 0 0 (qz_A G)) G s.heap 4 N 56 [(1, .long x1), (3, .int x3), (0, .ref (G.2.2 0 y0))] [] := by
  unfold fE_clear_56 at h
  refine qz_iinc_l X (u := (1 : Int32)) (lv' := fun v8 => [(3, .int v8), (1, .long x1), (0, .ref (G.2.2 0 y0))]) (k := 1) rfl (by decide) (by decide) (fun _ => rfl) dq_E_clear_56 h (fun v8 h => ?_)
  refine qz_goto X (tgt := 18) (by decide) dq_E_clear_59 ?_
  refine qz_sub [1, 0, 2] rfl ?_
  exact hk18 (N, x1, v8) h
set_option maxRecDepth 100000 in
set_option maxHeartbeats 4000000 in
theorem sE_clear_18b {p : Program} {l : Launch} {e : Env} {s : State} {m : MethodId} {args : Array Value} {below : List Frame} {meth : Method} {c : Code} {G : qz_G} (X : qz_X p s m args meth c "ExactCurves" prog_1_method_18_code 4 (some .long) G) {r : (Int64 × qz_N)} (y0 : Nat) (hy0 : y0 < 1) (k18 : qz_N × Int64 × Int32 → Option (Int64 × qz_N)) (hk18 : ∀ a, k18 a = some r → qz_W p l e (qz_R 3) s m args below meth c 0 0 (MQ below (qz_Q G r.2 (some (.long r.1))) args s 0 0 (qz_A G)) G s.heap 4 a.1 18 [(1, .long a.2.1), (3, .int a.2.2), (0, .ref (G.2.2 0 y0))] []) (N : qz_N) (x1 : Int64) (x3 : Int32) (h : fE_clear_18b y0 k18 N x1 x3 = some r) : qz_W p l e (qz_R 3) s m args below meth c 0 0 (MQ below (qz_Q G r.2 (some (.long r.1))) args s 0 0 (qz_A G)) G s.heap 4 N 18 [(1, .long x1), (3, .int x3), (0, .ref (G.2.2 0 y0))] [] := by
  unfold fE_clear_18b at h
  refine qz_iload_n X 1 rfl dq_E_clear_18 ?_
  refine qz_aload_n X 2 rfl dq_E_clear_19 ?_
  refine qz_get X (v := .ref (G.2.2 4 y0)) kq_E_31 hy0 rfl dq_E_clear_20 ?_
  refine qz_get X (v := .int (qz_gi N 4 y0 7)) kq_E_184 hy0 rfl dq_E_clear_23 ?_
  refine qz_icmp_ge X (tgt := 62) (by decide) dq_E_clear_26 h (fun _ h => ?_) (fun _ h => ?_)
  · refine qz_aload_n X 2 rfl dq_E_clear_62 ?_
    refine qz_get X (v := .ref (G.2.2 4 y0)) kq_E_31 hy0 rfl dq_E_clear_63 ?_
    refine qz_iconst X (v := (0 : Int32)) (by decide) dq_E_clear_66 ?_
    refine qz_putI X kq_E_184 hy0 dq_E_clear_67 h (fun N5 h => ?_)
    refine qz_lload_n X 0 rfl dq_E_clear_70 ?_
    exact qz_lret X h dq_E_clear_71
  · refine qz_aload_n X 2 rfl dq_E_clear_29 ?_
    refine qz_get X (v := .ref (G.2.2 4 y0)) kq_E_31 hy0 rfl dq_E_clear_30 ?_
    refine qz_get X (v := .ref (G.2.2 17 y0)) kq_E_215 hy0 rfl dq_E_clear_33 ?_
    refine qz_iload_n X 1 rfl dq_E_clear_36 ?_
    refine qz_zald X (c0 := 17) (i := y0) (n := 40) rfl hy0 dq_E_clear_37 h (fun h => ?_)
    refine qz_if_eq X (tgt := 50) (by decide) dq_E_clear_38 h (fun _ h => ?_) (fun _ h => ?_)
    · refine qz_aload_n X 2 rfl dq_E_clear_50 ?_
      refine qz_iload_n X 1 rfl dq_E_clear_51 ?_
      refine qz_lload_n X 0 rfl dq_E_clear_52 ?_
      refine qz_bind h (fun q6 e7 h => ?_)
      refine qz_callV X (as := [.int x3, .long x1]) (st := []) (o := none) (N' := q6.2) cq_E_222 hy0 (cE_settleSeller l G X.2.2.2.2.2.2.1 y0 x3 x1 N hy0 _ e7) ⟨by decide, by decide⟩ rfl rfl (Nat.le_of_ble_eq_true rfl) ⟨Nat.zero_le _, Nat.zero_le _⟩ dq_E_clear_53 ?_
      refine qz_sub [0, 1, 2] rfl ?_
      exact sE_clear_56 X y0 hy0 k18 hk18 q6.2 x1 x3 h
    · refine qz_aload_n X 2 rfl dq_E_clear_41 ?_
      refine qz_iload_n X 1 rfl dq_E_clear_42 ?_
      refine qz_lload_n X 0 rfl dq_E_clear_43 ?_
      refine qz_bind h (fun q9 e10 h => ?_)
      refine qz_callV X (as := [.int x3, .long x1]) (st := []) (o := none) (N' := q9.2) cq_E_219 hy0 (cE_settleBuyer l G X.2.2.2.2.2.2.1 y0 x3 x1 N hy0 _ e10) ⟨by decide, by decide⟩ rfl rfl (Nat.le_of_ble_eq_true rfl) ⟨Nat.zero_le _, Nat.zero_le _⟩ dq_E_clear_44 ?_
      refine qz_goto X (tgt := 56) (by decide) dq_E_clear_47 ?_
      refine qz_sub [0, 1, 2] rfl ?_
      exact sE_clear_56 X y0 hy0 k18 hk18 q9.2 x1 x3 h
theorem sE_clear_18 {p : Program} {l : Launch} {e : Env} {s : State} {m : MethodId} {args : Array Value} {below : List Frame} {meth : Method} {c : Code} {G : qz_G} (X : qz_X p s m args meth c "ExactCurves" prog_1_method_18_code 4 (some .long) G) {r : (Int64 × qz_N)} (y0 : Nat) (hy0 : y0 < 1) (n : Nat) (a : qz_N × Int64 × Int32) (h : fE_clear_18 y0 n a = some r) : qz_W p l e (qz_R 3) s m args below meth c 0 0 (MQ below (qz_Q G r.2 (some (.long r.1))) args s 0 0 (qz_A G)) G s.heap 4 a.1 18 [(1, .long a.2.1), (3, .int a.2.2), (0, .ref (G.2.2 0 y0))] [] :=
  qz_loop_ind (P := fun a => qz_W p l e (qz_R 3) s m args below meth c 0 0 (MQ below (qz_Q G r.2 (some (.long r.1))) args s 0 0 (qz_A G)) G s.heap 4 a.1 18 [(1, .long a.2.1), (3, .int a.2.2), (0, .ref (G.2.2 0 y0))] []) (fun k hk a h => sE_clear_18b X y0 hy0 k hk a.1 a.2.1 a.2.2 h) n a h
set_option maxRecDepth 100000 in
set_option maxHeartbeats 4000000 in
theorem sE_clear {p : Program} {l : Launch} {e : Env} {s : State} {m : MethodId} {args : Array Value} {below : List Frame} {meth : Method} {c : Code} {G : qz_G} (X : qz_X p s m args meth c "ExactCurves" prog_1_method_18_code 4 (some .long) G) {r : (Int64 × qz_N)} (o : Nat) (ho : o < 1) (N : qz_N) (h : fE_clear o N = some r) : qz_W p l e (qz_R 3) s m args below meth c 0 0 (MQ below (qz_Q G r.2 (some (.long r.1))) args s 0 0 (qz_A G)) G s.heap 4 N 0 [(0, .ref (G.2.2 0 o))] [] := by
  unfold fE_clear at h
  refine qz_aload_n X 0 rfl dq_E_clear_0 ?_
  refine qz_get X (v := .ref (G.2.2 4 o)) kq_E_31 ho rfl dq_E_clear_1 ?_
  refine qz_bind h (fun q1 e2 h => ?_)
  refine qz_callV X (as := []) (st := []) (o := some (.long q1.1)) (N' := q1.2) cq_E_207 ho (cB_bestPrice l G X.2.2.2.2.2.2.1 o N ho _ e2) ⟨by decide, by decide⟩ rfl rfl (Nat.le_of_ble_eq_true rfl) ⟨Nat.zero_le _, Nat.zero_le _⟩ dq_E_clear_4 ?_
  refine qz_lstore_n X (lv' := [(1, .long q1.1), (0, .ref (G.2.2 0 o))]) rfl (by decide) rfl dq_E_clear_7 ?_
  refine qz_aload_n X 1 rfl dq_E_clear_8 ?_
  refine qz_get X (v := .ref (G.2.2 4 o)) kq_E_31 ho rfl dq_E_clear_9 ?_
  refine qz_lload_n X 0 rfl dq_E_clear_12 ?_
  refine qz_bind h (fun q3 e4 h => ?_)
  refine qz_callV X (as := [.long q1.1]) (st := []) (o := none) (N' := q3.2) cq_E_211 ho (cB_dealAt l G X.2.2.2.2.2.2.1 o q1.1 q1.2 ho _ e4) ⟨by decide, by decide⟩ rfl rfl (Nat.le_of_ble_eq_true rfl) ⟨Nat.zero_le _, Nat.zero_le _⟩ dq_E_clear_13 ?_
  refine qz_iconst X (v := (0 : Int32)) (by decide) dq_E_clear_16 ?_
  refine qz_istore_n X (lv' := [(3, .int (0 : Int32)), (1, .long q1.1), (0, .ref (G.2.2 0 o))]) rfl (by decide) rfl dq_E_clear_17 ?_
  refine qz_sub [1, 0, 2] rfl ?_
  exact sE_clear_18 X o ho 1100 (q3.2, q1.1, (0 : Int32)) h
theorem cE_clear (l : Launch) (G : qz_G) (hD : qz_D G) (o : Nat) (N : qz_N) (ho : o < 1) (r : (Int64 × qz_N)) (h : fE_clear o N = some r) : qz_M l yE_clear prog_1_method_18_code 4 (some .long) 3 G [.ref (G.2.2 0 o)] N (some (.long r.1)) r.2 :=
  qz_enter (lv := [(0, .ref (G.2.2 0 o))]) rfl hD (Nat.le_of_ble_eq_true rfl) rfl (fun p e s m args below meth c X => sE_clear X o ho N h)
-- ExactCurves.dealt(I)J
theorem dq_E_dealt_0 : decode prog_1_method_19_code 0 = .ok (.iload_n 1, 1) := by decide +kernel
theorem dq_E_dealt_1 : decode prog_1_method_19_code 1 = .ok (.ifCond .ne 11, 3) := by decide +kernel
theorem dq_E_dealt_4 : decode prog_1_method_19_code 4 = .ok (.aload_n 0, 1) := by decide +kernel
theorem dq_E_dealt_5 : decode prog_1_method_19_code 5 = .ok (.getfield 31, 3) := by decide +kernel
theorem dq_E_dealt_8 : decode prog_1_method_19_code 8 = .ok (.getfield 225, 3) := by decide +kernel
theorem dq_E_dealt_11 : decode prog_1_method_19_code 11 = .ok (.lreturn, 1) := by decide +kernel
theorem dq_E_dealt_12 : decode prog_1_method_19_code 12 = .ok (.iload_n 1, 1) := by decide +kernel
theorem dq_E_dealt_13 : decode prog_1_method_19_code 13 = .ok (.iconst 1, 1) := by decide +kernel
theorem dq_E_dealt_14 : decode prog_1_method_19_code 14 = .ok (.if_icmp .ne 12, 3) := by decide +kernel
theorem dq_E_dealt_17 : decode prog_1_method_19_code 17 = .ok (.aload_n 0, 1) := by decide +kernel
theorem dq_E_dealt_18 : decode prog_1_method_19_code 18 = .ok (.getfield 31, 3) := by decide +kernel
theorem dq_E_dealt_21 : decode prog_1_method_19_code 21 = .ok (.getfield 228, 3) := by decide +kernel
theorem dq_E_dealt_24 : decode prog_1_method_19_code 24 = .ok (.i2l, 1) := by decide +kernel
theorem dq_E_dealt_25 : decode prog_1_method_19_code 25 = .ok (.lreturn, 1) := by decide +kernel
theorem dq_E_dealt_26 : decode prog_1_method_19_code 26 = .ok (.iload_n 1, 1) := by decide +kernel
theorem dq_E_dealt_27 : decode prog_1_method_19_code 27 = .ok (.iconst 2, 1) := by decide +kernel
theorem dq_E_dealt_28 : decode prog_1_method_19_code 28 = .ok (.if_icmp .lt 30, 3) := by decide +kernel
theorem dq_E_dealt_31 : decode prog_1_method_19_code 31 = .ok (.iload_n 1, 1) := by decide +kernel
theorem dq_E_dealt_32 : decode prog_1_method_19_code 32 = .ok (.iconst 2, 1) := by decide +kernel
theorem dq_E_dealt_33 : decode prog_1_method_19_code 33 = .ok (.isub, 1) := by decide +kernel
theorem dq_E_dealt_34 : decode prog_1_method_19_code 34 = .ok (.aload_n 0, 1) := by decide +kernel
theorem dq_E_dealt_35 : decode prog_1_method_19_code 35 = .ok (.getfield 31, 3) := by decide +kernel
theorem dq_E_dealt_38 : decode prog_1_method_19_code 38 = .ok (.getfield 228, 3) := by decide +kernel
theorem dq_E_dealt_41 : decode prog_1_method_19_code 41 = .ok (.if_icmp .ge 17, 3) := by decide +kernel
theorem dq_E_dealt_44 : decode prog_1_method_19_code 44 = .ok (.aload_n 0, 1) := by decide +kernel
theorem dq_E_dealt_45 : decode prog_1_method_19_code 45 = .ok (.getfield 31, 3) := by decide +kernel
theorem dq_E_dealt_48 : decode prog_1_method_19_code 48 = .ok (.getfield 231, 3) := by decide +kernel
theorem dq_E_dealt_51 : decode prog_1_method_19_code 51 = .ok (.iload_n 1, 1) := by decide +kernel
theorem dq_E_dealt_52 : decode prog_1_method_19_code 52 = .ok (.iconst 2, 1) := by decide +kernel
theorem dq_E_dealt_53 : decode prog_1_method_19_code 53 = .ok (.isub, 1) := by decide +kernel
theorem dq_E_dealt_54 : decode prog_1_method_19_code 54 = .ok (.laload, 1) := by decide +kernel
theorem dq_E_dealt_55 : decode prog_1_method_19_code 55 = .ok (.goto 6, 3) := by decide +kernel
theorem dq_E_dealt_58 : decode prog_1_method_19_code 58 = .ok (.ldc2_w 60, 3) := by decide +kernel
theorem dq_E_dealt_61 : decode prog_1_method_19_code 61 = .ok (.lreturn, 1) := by decide +kernel
def fE_dealt (o : Nat) (x1 : Int32) (N : qz_N) : Option (Int64 × qz_N) :=
  if x1 = 0 then
    some (qz_gl N 4 o 9, N)
  else
  if x1 = (1 : Int32) then
    some ((qz_gi N 4 o 8).toInt64, N)
  else
  if x1 < (2 : Int32) then
    some ((-2 : Int64), N)
  else
  if (qz_gi N 4 o 8) ≤ (x1 - (2 : Int32)) then
    some ((-2 : Int64), N)
  else
  if (x1 - (2 : Int32)) < 0 ∨ 40 ≤ (x1 - (2 : Int32)).toNatClampNeg then none else
  some (qz_gl N 20 o (x1 - (2 : Int32)).toNatClampNeg, N)
set_option maxRecDepth 100000 in
set_option maxHeartbeats 4000000 in
theorem sE_dealt {p : Program} {l : Launch} {e : Env} {s : State} {m : MethodId} {args : Array Value} {below : List Frame} {meth : Method} {c : Code} {G : qz_G} (X : qz_X p s m args meth c "ExactCurves" prog_1_method_19_code 2 (some .long) G) {r : (Int64 × qz_N)} (o : Nat) (x1 : Int32) (ho : o < 1) (N : qz_N) (h : fE_dealt o x1 N = some r) : qz_W p l e (qz_R 0) s m args below meth c 0 0 (MQ below (qz_Q G r.2 (some (.long r.1))) args s 0 0 (qz_A G)) G s.heap 2 N 0 [(0, .ref (G.2.2 0 o)), (1, .int x1)] [] := by
  unfold fE_dealt at h
  refine qz_iload_n X 1 rfl dq_E_dealt_0 ?_
  refine qz_if_ne X (tgt := 12) (by decide) dq_E_dealt_1 h (fun _ h => ?_) (fun _ h => ?_)
  · refine qz_iload_n X 1 rfl dq_E_dealt_12 ?_
    refine qz_iconst X (v := (1 : Int32)) (by decide) dq_E_dealt_13 ?_
    refine qz_icmp_ne X (tgt := 26) (by decide) dq_E_dealt_14 h (fun _ h => ?_) (fun _ h => ?_)
    · refine qz_iload_n X 1 rfl dq_E_dealt_26 ?_
      refine qz_iconst X (v := (2 : Int32)) (by decide) dq_E_dealt_27 ?_
      refine qz_icmp_lt X (tgt := 58) (by decide) dq_E_dealt_28 h (fun _ h => ?_) (fun _ h => ?_)
      · refine qz_ldc2 X (v := (-2 : Int64)) wq_252 dq_E_dealt_58 ?_
        exact qz_lret X h dq_E_dealt_61
      · refine qz_iload_n X 1 rfl dq_E_dealt_31 ?_
        refine qz_iconst X (v := (2 : Int32)) (by decide) dq_E_dealt_32 ?_
        refine qz_isub X dq_E_dealt_33 ?_
        refine qz_aload_n X 0 rfl dq_E_dealt_34 ?_
        refine qz_get X (v := .ref (G.2.2 4 o)) kq_E_31 ho rfl dq_E_dealt_35 ?_
        refine qz_get X (v := .int (qz_gi N 4 o 8)) kq_E_228 ho rfl dq_E_dealt_38 ?_
        refine qz_icmp_ge X (tgt := 58) (by decide) dq_E_dealt_41 h (fun _ h => ?_) (fun _ h => ?_)
        · refine qz_ldc2 X (v := (-2 : Int64)) wq_252 dq_E_dealt_58 ?_
          exact qz_lret X h dq_E_dealt_61
        · refine qz_aload_n X 0 rfl dq_E_dealt_44 ?_
          refine qz_get X (v := .ref (G.2.2 4 o)) kq_E_31 ho rfl dq_E_dealt_45 ?_
          refine qz_get X (v := .ref (G.2.2 20 o)) kq_E_231 ho rfl dq_E_dealt_48 ?_
          refine qz_iload_n X 1 rfl dq_E_dealt_51 ?_
          refine qz_iconst X (v := (2 : Int32)) (by decide) dq_E_dealt_52 ?_
          refine qz_isub X dq_E_dealt_53 ?_
          refine qz_lald X (c0 := 20) (i := o) (n := 40) rfl ho dq_E_dealt_54 h (fun h => ?_)
          refine qz_goto X (tgt := 61) (by decide) dq_E_dealt_55 ?_
          exact qz_lret X h dq_E_dealt_61
    · refine qz_aload_n X 0 rfl dq_E_dealt_17 ?_
      refine qz_get X (v := .ref (G.2.2 4 o)) kq_E_31 ho rfl dq_E_dealt_18 ?_
      refine qz_get X (v := .int (qz_gi N 4 o 8)) kq_E_228 ho rfl dq_E_dealt_21 ?_
      refine qz_i2l X dq_E_dealt_24 ?_
      exact qz_lret X h dq_E_dealt_25
  · refine qz_aload_n X 0 rfl dq_E_dealt_4 ?_
    refine qz_get X (v := .ref (G.2.2 4 o)) kq_E_31 ho rfl dq_E_dealt_5 ?_
    refine qz_get X (v := .long (qz_gl N 4 o 9)) kq_E_225 ho rfl dq_E_dealt_8 ?_
    exact qz_lret X h dq_E_dealt_11
theorem cE_dealt (l : Launch) (G : qz_G) (hD : qz_D G) (o : Nat) (x1 : Int32) (N : qz_N) (ho : o < 1) (r : (Int64 × qz_N)) (h : fE_dealt o x1 N = some r) : qz_M l yE_dealt prog_1_method_19_code 2 (some .long) 0 G [.ref (G.2.2 0 o), .int x1] N (some (.long r.1)) r.2 :=
  qz_enter (lv := [(0, .ref (G.2.2 0 o)), (1, .int x1)]) rfl hD (Nat.le_of_ble_eq_true rfl) rfl (fun p e s m args below meth c X => sE_dealt X o x1 ho N h)
-- ExactCurves.rate(IJ)J
theorem dq_E_rate_0 : decode prog_1_method_20_code 0 = .ok (.iload_n 1, 1) := by decide +kernel
theorem dq_E_rate_1 : decode prog_1_method_20_code 1 = .ok (.invokestatic 55, 3) := by decide +kernel
theorem dq_E_rate_4 : decode prog_1_method_20_code 4 = .ok (.ifCond .eq 17, 3) := by decide +kernel
theorem dq_E_rate_7 : decode prog_1_method_20_code 7 = .ok (.lload_n 2, 1) := by decide +kernel
theorem dq_E_rate_8 : decode prog_1_method_20_code 8 = .ok (.lconst 0, 1) := by decide +kernel
theorem dq_E_rate_9 : decode prog_1_method_20_code 9 = .ok (.lcmp, 1) := by decide +kernel
theorem dq_E_rate_10 : decode prog_1_method_20_code 10 = .ok (.ifCond .lt 11, 3) := by decide +kernel
theorem dq_E_rate_13 : decode prog_1_method_20_code 13 = .ok (.lload_n 2, 1) := by decide +kernel
theorem dq_E_rate_14 : decode prog_1_method_20_code 14 = .ok (.ldc2_w 195, 3) := by decide +kernel
theorem dq_E_rate_17 : decode prog_1_method_20_code 17 = .ok (.lcmp, 1) := by decide +kernel
theorem dq_E_rate_18 : decode prog_1_method_20_code 18 = .ok (.ifCond .le 7, 3) := by decide +kernel
theorem dq_E_rate_21 : decode prog_1_method_20_code 21 = .ok (.ldc2_w 60, 3) := by decide +kernel
theorem dq_E_rate_24 : decode prog_1_method_20_code 24 = .ok (.lreturn, 1) := by decide +kernel
theorem dq_E_rate_25 : decode prog_1_method_20_code 25 = .ok (.aload_n 0, 1) := by decide +kernel
theorem dq_E_rate_26 : decode prog_1_method_20_code 26 = .ok (.getfield 37, 3) := by decide +kernel
theorem dq_E_rate_29 : decode prog_1_method_20_code 29 = .ok (.iload_n 1, 1) := by decide +kernel
theorem dq_E_rate_30 : decode prog_1_method_20_code 30 = .ok (.aaload, 1) := by decide +kernel
theorem dq_E_rate_31 : decode prog_1_method_20_code 31 = .ok (.getfield 234, 3) := by decide +kernel
theorem dq_E_rate_34 : decode prog_1_method_20_code 34 = .ok (.lstore 4, 2) := by decide +kernel
theorem dq_E_rate_36 : decode prog_1_method_20_code 36 = .ok (.aload_n 0, 1) := by decide +kernel
theorem dq_E_rate_37 : decode prog_1_method_20_code 37 = .ok (.getfield 37, 3) := by decide +kernel
theorem dq_E_rate_40 : decode prog_1_method_20_code 40 = .ok (.iload_n 1, 1) := by decide +kernel
theorem dq_E_rate_41 : decode prog_1_method_20_code 41 = .ok (.aaload, 1) := by decide +kernel
theorem dq_E_rate_42 : decode prog_1_method_20_code 42 = .ok (.lload_n 2, 1) := by decide +kernel
theorem dq_E_rate_43 : decode prog_1_method_20_code 43 = .ok (.putfield 234, 3) := by decide +kernel
theorem dq_E_rate_46 : decode prog_1_method_20_code 46 = .ok (.lload 4, 2) := by decide +kernel
theorem dq_E_rate_48 : decode prog_1_method_20_code 48 = .ok (.lreturn, 1) := by decide +kernel
def fE_rate (o : Nat) (x1 : Int32) (x2 : Int64) (N : qz_N) : Option (Int64 × qz_N) :=
  (fE_isToken x1 N).bind fun q1 =>
  if q1.1 = 0 then
    some ((-2 : Int64), q1.2)
  else
  if x2 < (0 : Int64) then
    some ((-2 : Int64), q1.2)
  else
  if x2 ≤ (1000000 : Int64) then
    if x1 < 0 ∨ 4 ≤ x1.toNatClampNeg then none else
    qz_let (qz_gl q1.2 5 x1.toNatClampNeg 3) fun v4 =>
    if x1 < 0 ∨ 4 ≤ x1.toNatClampNeg then none else
    qz_let (qz_sl q1.2 5 x1.toNatClampNeg 3 x2) fun N6 =>
    some (v4, N6)
  else
  some ((-2 : Int64), q1.2)
set_option maxRecDepth 100000 in
set_option maxHeartbeats 4000000 in
theorem sE_rate {p : Program} {l : Launch} {e : Env} {s : State} {m : MethodId} {args : Array Value} {below : List Frame} {meth : Method} {c : Code} {G : qz_G} (X : qz_X p s m args meth c "ExactCurves" prog_1_method_20_code 6 (some .long) G) {r : (Int64 × qz_N)} (o : Nat) (x1 : Int32) (x2 : Int64) (ho : o < 1) (N : qz_N) (h : fE_rate o x1 x2 N = some r) : qz_W p l e (qz_R 1) s m args below meth c 0 0 (MQ below (qz_Q G r.2 (some (.long r.1))) args s 0 0 (qz_A G)) G s.heap 6 N 0 [(0, .ref (G.2.2 0 o)), (1, .int x1), (2, .long x2)] [] := by
  unfold fE_rate at h
  refine qz_iload_n X 1 rfl dq_E_rate_0 ?_
  refine qz_bind h (fun q1 e2 h => ?_)
  refine qz_callS X (as := [.int x1]) (st := []) (o := some (.int q1.1)) (N' := q1.2) cq_E_55 (cE_isToken l G X.2.2.2.2.2.2.1 x1 N _ e2) ⟨by decide, by decide⟩ rfl rfl (Nat.le_of_ble_eq_true rfl) ⟨Nat.zero_le _, Nat.zero_le _⟩ dq_E_rate_1 ?_
  refine qz_if_eq X (tgt := 21) (by decide) dq_E_rate_4 h (fun _ h => ?_) (fun _ h => ?_)
  · refine qz_ldc2 X (v := (-2 : Int64)) wq_252 dq_E_rate_21 ?_
    exact qz_lret X h dq_E_rate_24
  · refine qz_lload_n X 2 rfl dq_E_rate_7 ?_
    refine qz_lconst X (v := (0 : Int64)) (by decide) dq_E_rate_8 ?_
    refine qz_lcmp_lt X (tgt := 21) (by decide) dq_E_rate_9 dq_E_rate_10 h (fun _ h => ?_) (fun _ h => ?_)
    · refine qz_ldc2 X (v := (-2 : Int64)) wq_252 dq_E_rate_21 ?_
      exact qz_lret X h dq_E_rate_24
    · refine qz_lload_n X 2 rfl dq_E_rate_13 ?_
      refine qz_ldc2 X (v := (1000000 : Int64)) wq_432 dq_E_rate_14 ?_
      refine qz_lcmp_le X (tgt := 25) (by decide) dq_E_rate_17 dq_E_rate_18 h (fun _ h => ?_) (fun _ h => ?_)
      · refine qz_aload_n X 0 rfl dq_E_rate_25 ?_
        refine qz_get X (v := .ref (G.2.2 10 o)) kq_E_37 ho rfl dq_E_rate_26 ?_
        refine qz_iload_n X 1 rfl dq_E_rate_29 ?_
        refine qz_aald X (c0 := 10) (i := o) (tg := 5) (n := 4) rfl rfl ho dq_E_rate_30 h (fun hb3 h => ?_)
        refine qz_get X (v := .long (qz_gl q1.2 5 x1.toNatClampNeg 3)) kq_E_234 hb3 rfl dq_E_rate_31 ?_
        refine qz_letj h (fun v4 h => ?_)
        refine qz_lstore X (lv' := [(4, .long v4), (0, .ref (G.2.2 0 o)), (1, .int x1), (2, .long x2)]) (by decide) rfl dq_E_rate_34 ?_
        refine qz_aload_n X 1 rfl dq_E_rate_36 ?_
        refine qz_get X (v := .ref (G.2.2 10 o)) kq_E_37 ho rfl dq_E_rate_37 ?_
        refine qz_iload_n X 2 rfl dq_E_rate_40 ?_
        refine qz_aald X (c0 := 10) (i := o) (tg := 5) (n := 4) rfl rfl ho dq_E_rate_41 h (fun hb5 h => ?_)
        refine qz_lload_n X 3 rfl dq_E_rate_42 ?_
        refine qz_putJ X kq_E_234 hb5 dq_E_rate_43 h (fun N6 h => ?_)
        refine qz_lload X 0 rfl dq_E_rate_46 ?_
        exact qz_lret X h dq_E_rate_48
      · refine qz_ldc2 X (v := (-2 : Int64)) wq_252 dq_E_rate_21 ?_
        exact qz_lret X h dq_E_rate_24
theorem cE_rate (l : Launch) (G : qz_G) (hD : qz_D G) (o : Nat) (x1 : Int32) (x2 : Int64) (N : qz_N) (ho : o < 1) (r : (Int64 × qz_N)) (h : fE_rate o x1 x2 N = some r) : qz_M l yE_rate prog_1_method_20_code 6 (some .long) 1 G [.ref (G.2.2 0 o), .int x1, .long x2] N (some (.long r.1)) r.2 :=
  qz_enter (lv := [(0, .ref (G.2.2 0 o)), (1, .int x1), (2, .long x2)]) rfl hD (Nat.le_of_ble_eq_true rfl) rfl (fun p e s m args below meth c X => sE_rate X o x1 x2 ho N h)
