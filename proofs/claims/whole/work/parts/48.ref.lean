-- ExactCurvesModel.worthOf(I)J
theorem dq_M_worthOf_0 : decode prog_10_method_47_code 0 = .ok (.aload_n 0, 1) := by decide +kernel
theorem dq_M_worthOf_1 : decode prog_10_method_47_code 1 = .ok (.getfield 73, 3) := by decide +kernel
theorem dq_M_worthOf_4 : decode prog_10_method_47_code 4 = .ok (.iload_n 1, 1) := by decide +kernel
theorem dq_M_worthOf_5 : decode prog_10_method_47_code 5 = .ok (.laload, 1) := by decide +kernel
theorem dq_M_worthOf_6 : decode prog_10_method_47_code 6 = .ok (.lstore_n 2, 1) := by decide +kernel
theorem dq_M_worthOf_7 : decode prog_10_method_47_code 7 = .ok (.iconst 0, 1) := by decide +kernel
theorem dq_M_worthOf_8 : decode prog_10_method_47_code 8 = .ok (.istore 4, 2) := by decide +kernel
theorem dq_M_worthOf_10 : decode prog_10_method_47_code 10 = .ok (.iload 4, 2) := by decide +kernel
theorem dq_M_worthOf_12 : decode prog_10_method_47_code 12 = .ok (.bipush 10, 2) := by decide +kernel
theorem dq_M_worthOf_14 : decode prog_10_method_47_code 14 = .ok (.if_icmp .ge 42, 3) := by decide +kernel
theorem dq_M_worthOf_17 : decode prog_10_method_47_code 17 = .ok (.lload_n 2, 1) := by decide +kernel
theorem dq_M_worthOf_18 : decode prog_10_method_47_code 18 = .ok (.aload_n 0, 1) := by decide +kernel
theorem dq_M_worthOf_19 : decode prog_10_method_47_code 19 = .ok (.getfield 88, 3) := by decide +kernel
theorem dq_M_worthOf_22 : decode prog_10_method_47_code 22 = .ok (.iload 4, 2) := by decide +kernel
theorem dq_M_worthOf_24 : decode prog_10_method_47_code 24 = .ok (.baload, 1) := by decide +kernel
theorem dq_M_worthOf_25 : decode prog_10_method_47_code 25 = .ok (.ifCond .eq 22, 3) := by decide +kernel
theorem dq_M_worthOf_28 : decode prog_10_method_47_code 28 = .ok (.aload_n 0, 1) := by decide +kernel
theorem dq_M_worthOf_29 : decode prog_10_method_47_code 29 = .ok (.iload 4, 2) := by decide +kernel
theorem dq_M_worthOf_31 : decode prog_10_method_47_code 31 = .ok (.invokevirtual 252, 3) := by decide +kernel
theorem dq_M_worthOf_34 : decode prog_10_method_47_code 34 = .ok (.iload_n 1, 1) := by decide +kernel
theorem dq_M_worthOf_35 : decode prog_10_method_47_code 35 = .ok (.if_icmp .ne 12, 3) := by decide +kernel
theorem dq_M_worthOf_38 : decode prog_10_method_47_code 38 = .ok (.aload_n 0, 1) := by decide +kernel
theorem dq_M_worthOf_39 : decode prog_10_method_47_code 39 = .ok (.iload 4, 2) := by decide +kernel
theorem dq_M_worthOf_41 : decode prog_10_method_47_code 41 = .ok (.invokevirtual 255, 3) := by decide +kernel
theorem dq_M_worthOf_44 : decode prog_10_method_47_code 44 = .ok (.goto 4, 3) := by decide +kernel
theorem dq_M_worthOf_47 : decode prog_10_method_47_code 47 = .ok (.lconst 0, 1) := by decide +kernel
theorem dq_M_worthOf_48 : decode prog_10_method_47_code 48 = .ok (.ladd, 1) := by decide +kernel
theorem dq_M_worthOf_49 : decode prog_10_method_47_code 49 = .ok (.lstore_n 2, 1) := by decide +kernel
theorem dq_M_worthOf_50 : decode prog_10_method_47_code 50 = .ok (.iinc 4 1, 3) := by decide +kernel
theorem dq_M_worthOf_53 : decode prog_10_method_47_code 53 = .ok (.goto (-43), 3) := by decide +kernel
theorem dq_M_worthOf_56 : decode prog_10_method_47_code 56 = .ok (.lload_n 2, 1) := by decide +kernel
theorem dq_M_worthOf_57 : decode prog_10_method_47_code 57 = .ok (.lreturn, 1) := by decide +kernel
def fM_worthOf_48 (y0 : Nat) (k10 : qz_N × Int32 × Int64 × Int32 → Option (Int64 × qz_N)) (N : qz_N) (x1 : Int32) (x4 : Int32) (s0 : Int64) (s1 : Int64) : Option (Int64 × qz_N) :=
  qz_let (s1 + s0) fun v2 =>
  qz_let (x4 + (1 : Int32)) fun v3 =>
  k10 (N, x1, v2, v3)
def fM_worthOf_47 (y0 : Nat) (k10 : qz_N × Int32 × Int64 × Int32 → Option (Int64 × qz_N)) (N : qz_N) (x1 : Int32) (x4 : Int32) (s0 : Int64) : Option (Int64 × qz_N) :=
  fM_worthOf_48 y0 k10 N x1 x4 (0 : Int64) s0
def fM_worthOf_10b (y0 : Nat) (k10 : qz_N × Int32 × Int64 × Int32 → Option (Int64 × qz_N)) (N : qz_N) (x1 : Int32) (x2 : Int64) (x4 : Int32) : Option (Int64 × qz_N) :=
  if (10 : Int32) ≤ x4 then
    some (x2, N)
  else
  if x4 < 0 ∨ 10 ≤ x4.toNatClampNeg then none else
  if (qz_gi N 46 y0 x4.toNatClampNeg) = 0 then
    fM_worthOf_47 y0 k10 N x1 x4 x2
  else
  (fM_debtToken y0 x4 N).bind fun q4 =>
  if q4.1 = x1 then
    (fM_debtOf y0 x4 q4.2).bind fun q6 =>
    fM_worthOf_48 y0 k10 q6.2 x1 x4 q6.1 x2
  else
  fM_worthOf_47 y0 k10 q4.2 x1 x4 x2
def fM_worthOf_10 (y0 : Nat) (n : Nat) (a : qz_N × Int32 × Int64 × Int32) : Option (Int64 × qz_N) := qz_loop (fun k a => fM_worthOf_10b y0 k a.1 a.2.1 a.2.2.1 a.2.2.2) n a
def fM_worthOf (o : Nat) (x1 : Int32) (N : qz_N) : Option (Int64 × qz_N) :=
  if x1 < 0 ∨ 4 ≤ x1.toNatClampNeg then none else
  qz_let (qz_gl N 41 o x1.toNatClampNeg) fun v1 =>
  fM_worthOf_10 o 1100 (N, x1, v1, (0 : Int32))
set_option maxRecDepth 100000 in
set_option maxHeartbeats 4000000 in
theorem sM_worthOf_48 {p : Program} {l : Launch} {e : Env} {s : State} {m : MethodId} {args : Array Value} {below : List Frame} {meth : Method} {c : Code} {G : qz_G} (X : qz_X p s m args meth c "ExactCurvesModel" prog_10_method_47_code 5 (some .long) G) {r : (Int64 × qz_N)} (y0 : Nat) (hy0 : y0 < 1) (k10 : qz_N × Int32 × Int64 × Int32 → Option (Int64 × qz_N)) (hk10 : ∀ a, k10 a = some r → qz_W p l e (qz_R 4) s m args below meth c 0 0 (MQ below (qz_Q G r.2 (some (.long r.1))) args s 0 0 (qz_A G)) G s.heap 5 a.1 10 [(1, .int a.2.1), (2, .long a.2.2.1), (4, .int a.2.2.2), (0, .ref (G.2.2 7 y0))] []) (N : qz_N) (x1 : Int32) (x4 : Int32) (s0 : Int64) (s1 : Int64) (h : fM_worthOf_48 y0 k10 N x1 x4 s0 s1 = some r) : qz_W p l e (qz_R 4) s m args below meth c 0 0 (MQ below (qz_Q G r.2 (some (.long r.1))) args s 0 0 (qz_A G)) G s.heap 5 N 48 [(1, .int x1), (4, .int x4), (0, .ref (G.2.2 7 y0))] [.long s0, .long s1] := by
  unfold fM_worthOf_48 at h
  refine qz_ladd X dq_M_worthOf_48 ?_
  refine qz_letj h (fun v2 h => ?_)
  refine qz_lstore_n X (lv' := [(2, .long v2), (1, .int x1), (4, .int x4), (0, .ref (G.2.2 7 y0))]) rfl (by decide) rfl dq_M_worthOf_49 ?_
  refine qz_iinc_l X (u := (1 : Int32)) (lv' := fun v3 => [(4, .int v3), (2, .long v2), (1, .int x1), (0, .ref (G.2.2 7 y0))]) (k := 2) rfl (by decide) (by decide) (fun _ => rfl) dq_M_worthOf_50 h (fun v3 h => ?_)
  refine qz_goto X (tgt := 10) (by decide) dq_M_worthOf_53 ?_
  refine qz_sub [2, 1, 0, 3] rfl ?_
  exact hk10 (N, x1, v2, v3) h
set_option maxRecDepth 100000 in
set_option maxHeartbeats 4000000 in
theorem sM_worthOf_47 {p : Program} {l : Launch} {e : Env} {s : State} {m : MethodId} {args : Array Value} {below : List Frame} {meth : Method} {c : Code} {G : qz_G} (X : qz_X p s m args meth c "ExactCurvesModel" prog_10_method_47_code 5 (some .long) G) {r : (Int64 × qz_N)} (y0 : Nat) (hy0 : y0 < 1) (k10 : qz_N × Int32 × Int64 × Int32 → Option (Int64 × qz_N)) (hk10 : ∀ a, k10 a = some r → qz_W p l e (qz_R 4) s m args below meth c 0 0 (MQ below (qz_Q G r.2 (some (.long r.1))) args s 0 0 (qz_A G)) G s.heap 5 a.1 10 [(1, .int a.2.1), (2, .long a.2.2.1), (4, .int a.2.2.2), (0, .ref (G.2.2 7 y0))] []) (N : qz_N) (x1 : Int32) (x4 : Int32) (s0 : Int64) (h : fM_worthOf_47 y0 k10 N x1 x4 s0 = some r) : qz_W p l e (qz_R 4) s m args below meth c 0 0 (MQ below (qz_Q G r.2 (some (.long r.1))) args s 0 0 (qz_A G)) G s.heap 5 N 47 [(1, .int x1), (4, .int x4), (0, .ref (G.2.2 7 y0))] [.long s0] := by
  unfold fM_worthOf_47 at h
  refine qz_lconst X (v := (0 : Int64)) (by decide) dq_M_worthOf_47 ?_
  refine qz_sub [0, 1, 2] rfl ?_
  exact sM_worthOf_48 X y0 hy0 k10 hk10 N x1 x4 (0 : Int64) s0 h
set_option maxRecDepth 100000 in
set_option maxHeartbeats 4000000 in
theorem sM_worthOf_10b {p : Program} {l : Launch} {e : Env} {s : State} {m : MethodId} {args : Array Value} {below : List Frame} {meth : Method} {c : Code} {G : qz_G} (X : qz_X p s m args meth c "ExactCurvesModel" prog_10_method_47_code 5 (some .long) G) {r : (Int64 × qz_N)} (y0 : Nat) (hy0 : y0 < 1) (k10 : qz_N × Int32 × Int64 × Int32 → Option (Int64 × qz_N)) (hk10 : ∀ a, k10 a = some r → qz_W p l e (qz_R 4) s m args below meth c 0 0 (MQ below (qz_Q G r.2 (some (.long r.1))) args s 0 0 (qz_A G)) G s.heap 5 a.1 10 [(1, .int a.2.1), (2, .long a.2.2.1), (4, .int a.2.2.2), (0, .ref (G.2.2 7 y0))] []) (N : qz_N) (x1 : Int32) (x2 : Int64) (x4 : Int32) (h : fM_worthOf_10b y0 k10 N x1 x2 x4 = some r) : qz_W p l e (qz_R 4) s m args below meth c 0 0 (MQ below (qz_Q G r.2 (some (.long r.1))) args s 0 0 (qz_A G)) G s.heap 5 N 10 [(1, .int x1), (2, .long x2), (4, .int x4), (0, .ref (G.2.2 7 y0))] [] := by
  unfold fM_worthOf_10b at h
  refine qz_iload X 2 rfl dq_M_worthOf_10 ?_
  refine qz_bipush X (v := (10 : Int32)) (by decide) dq_M_worthOf_12 ?_
  refine qz_icmp_ge X (tgt := 56) (by decide) dq_M_worthOf_14 h (fun _ h => ?_) (fun _ h => ?_)
  · refine qz_lload_n X 1 rfl dq_M_worthOf_56 ?_
    exact qz_lret X h dq_M_worthOf_57
  · refine qz_lload_n X 1 rfl dq_M_worthOf_17 ?_
    refine qz_aload_n X 3 rfl dq_M_worthOf_18 ?_
    refine qz_get X (v := .ref (G.2.2 46 y0)) kq_M_88 hy0 rfl dq_M_worthOf_19 ?_
    refine qz_iload X 2 rfl dq_M_worthOf_22 ?_
    refine qz_zald X (c0 := 46) (i := y0) (n := 10) rfl hy0 dq_M_worthOf_24 h (fun h => ?_)
    refine qz_if_eq X (tgt := 47) (by decide) dq_M_worthOf_25 h (fun _ h => ?_) (fun _ h => ?_)
    · refine qz_sub [0, 2, 3] rfl ?_
      exact sM_worthOf_47 X y0 hy0 k10 hk10 N x1 x4 x2 h
    · refine qz_aload_n X 3 rfl dq_M_worthOf_28 ?_
      refine qz_iload X 2 rfl dq_M_worthOf_29 ?_
      refine qz_bind h (fun q4 e5 h => ?_)
      refine qz_callV X (as := [.int x4]) (st := [.long x2]) (o := some (.int q4.1)) (N' := q4.2) cq_M_252 hy0 (cM_debtToken l G X.2.2.2.2.2.2.1 y0 x4 N hy0 _ e5) ⟨by decide, by decide⟩ rfl rfl (Nat.le_of_ble_eq_true rfl) ⟨Nat.zero_le _, Nat.zero_le _⟩ dq_M_worthOf_31 ?_
      refine qz_iload_n X 0 rfl dq_M_worthOf_34 ?_
      refine qz_icmp_ne X (tgt := 47) (by decide) dq_M_worthOf_35 h (fun _ h => ?_) (fun _ h => ?_)
      · refine qz_sub [0, 2, 3] rfl ?_
        exact sM_worthOf_47 X y0 hy0 k10 hk10 q4.2 x1 x4 x2 h
      · refine qz_aload_n X 3 rfl dq_M_worthOf_38 ?_
        refine qz_iload X 2 rfl dq_M_worthOf_39 ?_
        refine qz_bind h (fun q6 e7 h => ?_)
        refine qz_callV X (as := [.int x4]) (st := [.long x2]) (o := some (.long q6.1)) (N' := q6.2) cq_M_255 hy0 (cM_debtOf l G X.2.2.2.2.2.2.1 y0 x4 q4.2 hy0 _ e7) ⟨by decide, by decide⟩ rfl rfl (Nat.le_of_ble_eq_true rfl) ⟨Nat.zero_le _, Nat.zero_le _⟩ dq_M_worthOf_41 ?_
        refine qz_goto X (tgt := 48) (by decide) dq_M_worthOf_44 ?_
        refine qz_sub [0, 2, 3] rfl ?_
        exact sM_worthOf_48 X y0 hy0 k10 hk10 q6.2 x1 x4 q6.1 x2 h
theorem sM_worthOf_10 {p : Program} {l : Launch} {e : Env} {s : State} {m : MethodId} {args : Array Value} {below : List Frame} {meth : Method} {c : Code} {G : qz_G} (X : qz_X p s m args meth c "ExactCurvesModel" prog_10_method_47_code 5 (some .long) G) {r : (Int64 × qz_N)} (y0 : Nat) (hy0 : y0 < 1) (n : Nat) (a : qz_N × Int32 × Int64 × Int32) (h : fM_worthOf_10 y0 n a = some r) : qz_W p l e (qz_R 4) s m args below meth c 0 0 (MQ below (qz_Q G r.2 (some (.long r.1))) args s 0 0 (qz_A G)) G s.heap 5 a.1 10 [(1, .int a.2.1), (2, .long a.2.2.1), (4, .int a.2.2.2), (0, .ref (G.2.2 7 y0))] [] :=
  qz_loop_ind (P := fun a => qz_W p l e (qz_R 4) s m args below meth c 0 0 (MQ below (qz_Q G r.2 (some (.long r.1))) args s 0 0 (qz_A G)) G s.heap 5 a.1 10 [(1, .int a.2.1), (2, .long a.2.2.1), (4, .int a.2.2.2), (0, .ref (G.2.2 7 y0))] []) (fun k hk a h => sM_worthOf_10b X y0 hy0 k hk a.1 a.2.1 a.2.2.1 a.2.2.2 h) n a h
set_option maxRecDepth 100000 in
set_option maxHeartbeats 4000000 in
theorem sM_worthOf {p : Program} {l : Launch} {e : Env} {s : State} {m : MethodId} {args : Array Value} {below : List Frame} {meth : Method} {c : Code} {G : qz_G} (X : qz_X p s m args meth c "ExactCurvesModel" prog_10_method_47_code 5 (some .long) G) {r : (Int64 × qz_N)} (o : Nat) (x1 : Int32) (ho : o < 1) (N : qz_N) (h : fM_worthOf o x1 N = some r) : qz_W p l e (qz_R 4) s m args below meth c 0 0 (MQ below (qz_Q G r.2 (some (.long r.1))) args s 0 0 (qz_A G)) G s.heap 5 N 0 [(0, .ref (G.2.2 7 o)), (1, .int x1)] [] := by
  unfold fM_worthOf at h
  refine qz_aload_n X 0 rfl dq_M_worthOf_0 ?_
  refine qz_get X (v := .ref (G.2.2 41 o)) kq_M_73 ho rfl dq_M_worthOf_1 ?_
  refine qz_iload_n X 1 rfl dq_M_worthOf_4 ?_
  refine qz_lald X (c0 := 41) (i := o) (n := 4) rfl ho dq_M_worthOf_5 h (fun h => ?_)
  refine qz_letj h (fun v1 h => ?_)
  refine qz_lstore_n X (lv' := [(2, .long v1), (0, .ref (G.2.2 7 o)), (1, .int x1)]) rfl (by decide) rfl dq_M_worthOf_6 ?_
  refine qz_iconst X (v := (0 : Int32)) (by decide) dq_M_worthOf_7 ?_
  refine qz_istore X (lv' := [(4, .int (0 : Int32)), (2, .long v1), (0, .ref (G.2.2 7 o)), (1, .int x1)]) (by decide) rfl dq_M_worthOf_8 ?_
  refine qz_sub [3, 1, 0, 2] rfl ?_
  exact sM_worthOf_10 X o ho 1100 (N, x1, v1, (0 : Int32)) h
theorem cM_worthOf (l : Launch) (G : qz_G) (hD : qz_D G) (o : Nat) (x1 : Int32) (N : qz_N) (ho : o < 1) (r : (Int64 × qz_N)) (h : fM_worthOf o x1 N = some r) : qz_M l yM_worthOf prog_10_method_47_code 5 (some .long) 4 G [.ref (G.2.2 7 o), .int x1] N (some (.long r.1)) r.2 :=
  qz_enter (lv := [(0, .ref (G.2.2 7 o)), (1, .int x1)]) rfl hD (Nat.le_of_ble_eq_true rfl) rfl (fun p e s m args below meth c X => sM_worthOf X o x1 ho N h)
-- ExactCurvesModel.lend(IIJ)J
theorem dq_M_lend_0 : decode prog_10_method_48_code 0 = .ok (.iload_n 1, 1) := by decide +kernel
theorem dq_M_lend_1 : decode prog_10_method_48_code 1 = .ok (.invokestatic 166, 3) := by decide +kernel
theorem dq_M_lend_4 : decode prog_10_method_48_code 4 = .ok (.ifCond .eq 16, 3) := by decide +kernel
theorem dq_M_lend_7 : decode prog_10_method_48_code 7 = .ok (.iload_n 2, 1) := by decide +kernel
theorem dq_M_lend_8 : decode prog_10_method_48_code 8 = .ok (.invokestatic 170, 3) := by decide +kernel
theorem dq_M_lend_11 : decode prog_10_method_48_code 11 = .ok (.ifCond .eq 9, 3) := by decide +kernel
theorem dq_M_lend_14 : decode prog_10_method_48_code 14 = .ok (.lload_n 3, 1) := by decide +kernel
theorem dq_M_lend_15 : decode prog_10_method_48_code 15 = .ok (.lconst 1, 1) := by decide +kernel
theorem dq_M_lend_16 : decode prog_10_method_48_code 16 = .ok (.lcmp, 1) := by decide +kernel
theorem dq_M_lend_17 : decode prog_10_method_48_code 17 = .ok (.ifCond .ge 7, 3) := by decide +kernel
theorem dq_M_lend_20 : decode prog_10_method_48_code 20 = .ok (.ldc2_w 175, 3) := by decide +kernel
theorem dq_M_lend_23 : decode prog_10_method_48_code 23 = .ok (.lreturn, 1) := by decide +kernel
theorem dq_M_lend_24 : decode prog_10_method_48_code 24 = .ok (.aload_n 0, 1) := by decide +kernel
theorem dq_M_lend_25 : decode prog_10_method_48_code 25 = .ok (.iload_n 1, 1) := by decide +kernel
theorem dq_M_lend_26 : decode prog_10_method_48_code 26 = .ok (.iload_n 2, 1) := by decide +kernel
theorem dq_M_lend_27 : decode prog_10_method_48_code 27 = .ok (.invokevirtual 148, 3) := by decide +kernel
theorem dq_M_lend_30 : decode prog_10_method_48_code 30 = .ok (.lload_n 3, 1) := by decide +kernel
theorem dq_M_lend_31 : decode prog_10_method_48_code 31 = .ok (.lcmp, 1) := by decide +kernel
theorem dq_M_lend_32 : decode prog_10_method_48_code 32 = .ok (.ifCond .ge 7, 3) := by decide +kernel
theorem dq_M_lend_35 : decode prog_10_method_48_code 35 = .ok (.ldc2_w 180, 3) := by decide +kernel
theorem dq_M_lend_38 : decode prog_10_method_48_code 38 = .ok (.lreturn, 1) := by decide +kernel
theorem dq_M_lend_39 : decode prog_10_method_48_code 39 = .ok (.aload_n 0, 1) := by decide +kernel
theorem dq_M_lend_40 : decode prog_10_method_48_code 40 = .ok (.getfield 76, 3) := by decide +kernel
theorem dq_M_lend_43 : decode prog_10_method_48_code 43 = .ok (.iload_n 2, 1) := by decide +kernel
theorem dq_M_lend_44 : decode prog_10_method_48_code 44 = .ok (.laload, 1) := by decide +kernel
theorem dq_M_lend_45 : decode prog_10_method_48_code 45 = .ok (.lconst 0, 1) := by decide +kernel
theorem dq_M_lend_46 : decode prog_10_method_48_code 46 = .ok (.lcmp, 1) := by decide +kernel
theorem dq_M_lend_47 : decode prog_10_method_48_code 47 = .ok (.ifCond .ne 7, 3) := by decide +kernel
theorem dq_M_lend_50 : decode prog_10_method_48_code 50 = .ok (.lload_n 3, 1) := by decide +kernel
theorem dq_M_lend_51 : decode prog_10_method_48_code 51 = .ok (.goto 19, 3) := by decide +kernel
theorem dq_M_lend_54 : decode prog_10_method_48_code 54 = .ok (.aload_n 0, 1) := by decide +kernel
theorem dq_M_lend_55 : decode prog_10_method_48_code 55 = .ok (.lload_n 3, 1) := by decide +kernel
theorem dq_M_lend_56 : decode prog_10_method_48_code 56 = .ok (.aload_n 0, 1) := by decide +kernel
theorem dq_M_lend_57 : decode prog_10_method_48_code 57 = .ok (.getfield 76, 3) := by decide +kernel
theorem dq_M_lend_60 : decode prog_10_method_48_code 60 = .ok (.iload_n 2, 1) := by decide +kernel
theorem dq_M_lend_61 : decode prog_10_method_48_code 61 = .ok (.laload, 1) := by decide +kernel
theorem dq_M_lend_62 : decode prog_10_method_48_code 62 = .ok (.aload_n 0, 1) := by decide +kernel
theorem dq_M_lend_63 : decode prog_10_method_48_code 63 = .ok (.iload_n 2, 1) := by decide +kernel
theorem dq_M_lend_64 : decode prog_10_method_48_code 64 = .ok (.invokevirtual 258, 3) := by decide +kernel
theorem dq_M_lend_67 : decode prog_10_method_48_code 67 = .ok (.invokevirtual 141, 3) := by decide +kernel
theorem dq_M_lend_70 : decode prog_10_method_48_code 70 = .ok (.lstore 5, 2) := by decide +kernel
theorem dq_M_lend_72 : decode prog_10_method_48_code 72 = .ok (.lload 5, 2) := by decide +kernel
theorem dq_M_lend_74 : decode prog_10_method_48_code 74 = .ok (.lconst 0, 1) := by decide +kernel
theorem dq_M_lend_75 : decode prog_10_method_48_code 75 = .ok (.lcmp, 1) := by decide +kernel
theorem dq_M_lend_76 : decode prog_10_method_48_code 76 = .ok (.ifCond .ne 7, 3) := by decide +kernel
theorem dq_M_lend_79 : decode prog_10_method_48_code 79 = .ok (.ldc2_w 180, 3) := by decide +kernel
theorem dq_M_lend_82 : decode prog_10_method_48_code 82 = .ok (.lreturn, 1) := by decide +kernel
theorem dq_M_lend_83 : decode prog_10_method_48_code 83 = .ok (.aload_n 0, 1) := by decide +kernel
theorem dq_M_lend_84 : decode prog_10_method_48_code 84 = .ok (.iload_n 1, 1) := by decide +kernel
theorem dq_M_lend_85 : decode prog_10_method_48_code 85 = .ok (.iload_n 2, 1) := by decide +kernel
theorem dq_M_lend_86 : decode prog_10_method_48_code 86 = .ok (.lload_n 3, 1) := by decide +kernel
theorem dq_M_lend_87 : decode prog_10_method_48_code 87 = .ok (.lneg, 1) := by decide +kernel
theorem dq_M_lend_88 : decode prog_10_method_48_code 88 = .ok (.invokevirtual 182, 3) := by decide +kernel
theorem dq_M_lend_91 : decode prog_10_method_48_code 91 = .ok (.aload_n 0, 1) := by decide +kernel
theorem dq_M_lend_92 : decode prog_10_method_48_code 92 = .ok (.getfield 73, 3) := by decide +kernel
theorem dq_M_lend_95 : decode prog_10_method_48_code 95 = .ok (.iload_n 2, 1) := by decide +kernel
theorem dq_M_lend_96 : decode prog_10_method_48_code 96 = .ok (.dup2, 1) := by decide +kernel
theorem dq_M_lend_97 : decode prog_10_method_48_code 97 = .ok (.laload, 1) := by decide +kernel
theorem dq_M_lend_98 : decode prog_10_method_48_code 98 = .ok (.lload_n 3, 1) := by decide +kernel
theorem dq_M_lend_99 : decode prog_10_method_48_code 99 = .ok (.ladd, 1) := by decide +kernel
theorem dq_M_lend_100 : decode prog_10_method_48_code 100 = .ok (.lastore, 1) := by decide +kernel
theorem dq_M_lend_101 : decode prog_10_method_48_code 101 = .ok (.aload_n 0, 1) := by decide +kernel
theorem dq_M_lend_102 : decode prog_10_method_48_code 102 = .ok (.getfield 76, 3) := by decide +kernel
theorem dq_M_lend_105 : decode prog_10_method_48_code 105 = .ok (.iload_n 2, 1) := by decide +kernel
theorem dq_M_lend_106 : decode prog_10_method_48_code 106 = .ok (.dup2, 1) := by decide +kernel
theorem dq_M_lend_107 : decode prog_10_method_48_code 107 = .ok (.laload, 1) := by decide +kernel
theorem dq_M_lend_108 : decode prog_10_method_48_code 108 = .ok (.lload 5, 2) := by decide +kernel
theorem dq_M_lend_110 : decode prog_10_method_48_code 110 = .ok (.ladd, 1) := by decide +kernel
theorem dq_M_lend_111 : decode prog_10_method_48_code 111 = .ok (.lastore, 1) := by decide +kernel
theorem dq_M_lend_112 : decode prog_10_method_48_code 112 = .ok (.aload_n 0, 1) := by decide +kernel
theorem dq_M_lend_113 : decode prog_10_method_48_code 113 = .ok (.getfield 79, 3) := by decide +kernel
theorem dq_M_lend_116 : decode prog_10_method_48_code 116 = .ok (.iconst 4, 1) := by decide +kernel
theorem dq_M_lend_117 : decode prog_10_method_48_code 117 = .ok (.iload_n 1, 1) := by decide +kernel
theorem dq_M_lend_118 : decode prog_10_method_48_code 118 = .ok (.imul, 1) := by decide +kernel
theorem dq_M_lend_119 : decode prog_10_method_48_code 119 = .ok (.iload_n 2, 1) := by decide +kernel
theorem dq_M_lend_120 : decode prog_10_method_48_code 120 = .ok (.iadd, 1) := by decide +kernel
theorem dq_M_lend_121 : decode prog_10_method_48_code 121 = .ok (.dup2, 1) := by decide +kernel
theorem dq_M_lend_122 : decode prog_10_method_48_code 122 = .ok (.laload, 1) := by decide +kernel
theorem dq_M_lend_123 : decode prog_10_method_48_code 123 = .ok (.lload 5, 2) := by decide +kernel
theorem dq_M_lend_125 : decode prog_10_method_48_code 125 = .ok (.ladd, 1) := by decide +kernel
theorem dq_M_lend_126 : decode prog_10_method_48_code 126 = .ok (.lastore, 1) := by decide +kernel
theorem dq_M_lend_127 : decode prog_10_method_48_code 127 = .ok (.lload 5, 2) := by decide +kernel
theorem dq_M_lend_129 : decode prog_10_method_48_code 129 = .ok (.lreturn, 1) := by decide +kernel
def fM_lend_70 (y0 : Nat) (N : qz_N) (x1 : Int32) (x2 : Int32) (x3 : Int64) (s0 : Int64) : Option (Int64 × qz_N) :=
  if s0 = (0 : Int64) then
    some ((-3 : Int64), N)
  else
  (fM_give y0 x1 x2 (-x3) N).bind fun q11 =>
  if x2 < 0 ∨ 4 ≤ x2.toNatClampNeg then none else
  if x2 < 0 ∨ 4 ≤ x2.toNatClampNeg then none else
  qz_let (qz_sl q11.2 41 y0 x2.toNatClampNeg ((qz_gl q11.2 41 y0 x2.toNatClampNeg) + x3)) fun N13 =>
  if x2 < 0 ∨ 4 ≤ x2.toNatClampNeg then none else
  if x2 < 0 ∨ 4 ≤ x2.toNatClampNeg then none else
  qz_let (qz_sl N13 42 y0 x2.toNatClampNeg ((qz_gl N13 42 y0 x2.toNatClampNeg) + s0)) fun N14 =>
  if (((4 : Int32) * x1) + x2) < 0 ∨ 24 ≤ (((4 : Int32) * x1) + x2).toNatClampNeg then none else
  if (((4 : Int32) * x1) + x2) < 0 ∨ 24 ≤ (((4 : Int32) * x1) + x2).toNatClampNeg then none else
  qz_let (qz_sl N14 43 y0 (((4 : Int32) * x1) + x2).toNatClampNeg ((qz_gl N14 43 y0 (((4 : Int32) * x1) + x2).toNatClampNeg) + s0)) fun N15 =>
  some (s0, N15)
def fM_lend (o : Nat) (x1 : Int32) (x2 : Int32) (x3 : Int64) (N : qz_N) : Option (Int64 × qz_N) :=
  (fM_isPlayer x1 N).bind fun q1 =>
  if q1.1 = 0 then
    some ((-2 : Int64), q1.2)
  else
  (fM_isToken x2 q1.2).bind fun q3 =>
  if q3.1 = 0 then
    some ((-2 : Int64), q3.2)
  else
  if (1 : Int64) ≤ x3 then
    (fM_has o x1 x2 q3.2).bind fun q5 =>
    if x3 ≤ q5.1 then
      if x2 < 0 ∨ 4 ≤ x2.toNatClampNeg then none else
      if (qz_gl q5.2 42 o x2.toNatClampNeg) = (0 : Int64) then
        fM_lend_70 o q5.2 x1 x2 x3 x3
      else
      if x2 < 0 ∨ 4 ≤ x2.toNatClampNeg then none else
      (fM_worthOf o x2 q5.2).bind fun q7 =>
      (fM_part o x3 (qz_gl q5.2 42 o x2.toNatClampNeg) q7.1 q7.2).bind fun q9 =>
      fM_lend_70 o q9.2 x1 x2 x3 q9.1
    else
    some ((-3 : Int64), q5.2)
  else
  some ((-2 : Int64), q3.2)
set_option maxRecDepth 100000 in
set_option maxHeartbeats 4000000 in
theorem sM_lend_70 {p : Program} {l : Launch} {e : Env} {s : State} {m : MethodId} {args : Array Value} {below : List Frame} {meth : Method} {c : Code} {G : qz_G} (X : qz_X p s m args meth c "ExactCurvesModel" prog_10_method_48_code 7 (some .long) G) {r : (Int64 × qz_N)} (y0 : Nat) (hy0 : y0 < 1) (N : qz_N) (x1 : Int32) (x2 : Int32) (x3 : Int64) (s0 : Int64) (h : fM_lend_70 y0 N x1 x2 x3 s0 = some r) : qz_W p l e (qz_R 5) s m args below meth c 0 0 (MQ below (qz_Q G r.2 (some (.long r.1))) args s 0 0 (qz_A G)) G s.heap 7 N 70 [(1, .int x1), (2, .int x2), (3, .long x3), (0, .ref (G.2.2 7 y0))] [.long s0] := by
  unfold fM_lend_70 at h
  refine qz_lstore X (lv' := [(5, .long s0), (1, .int x1), (2, .int x2), (3, .long x3), (0, .ref (G.2.2 7 y0))]) (by decide) rfl dq_M_lend_70 ?_
  refine qz_lload X 0 rfl dq_M_lend_72 ?_
  refine qz_lconst X (v := (0 : Int64)) (by decide) dq_M_lend_74 ?_
  refine qz_lcmp_ne X (tgt := 83) (by decide) dq_M_lend_75 dq_M_lend_76 h (fun _ h => ?_) (fun _ h => ?_)
  · refine qz_aload_n X 4 rfl dq_M_lend_83 ?_
    refine qz_iload_n X 1 rfl dq_M_lend_84 ?_
    refine qz_iload_n X 2 rfl dq_M_lend_85 ?_
    refine qz_lload_n X 3 rfl dq_M_lend_86 ?_
    refine qz_lneg X dq_M_lend_87 ?_
    refine qz_bind h (fun q11 e12 h => ?_)
    refine qz_callV X (as := [.int x1, .int x2, .long (-x3)]) (st := []) (o := none) (N' := q11.2) cq_M_182 hy0 (cM_give l G X.2.2.2.2.2.2.1 y0 x1 x2 (-x3) N hy0 _ e12) ⟨by decide, by decide⟩ rfl rfl (Nat.le_of_ble_eq_true rfl) ⟨Nat.zero_le _, Nat.zero_le _⟩ dq_M_lend_88 ?_
    refine qz_aload_n X 4 rfl dq_M_lend_91 ?_
    refine qz_get X (v := .ref (G.2.2 41 y0)) kq_M_73 hy0 rfl dq_M_lend_92 ?_
    refine qz_iload_n X 2 rfl dq_M_lend_95 ?_
    refine qz_dup2_11 X rfl rfl dq_M_lend_96 ?_
    refine qz_lald X (c0 := 41) (i := y0) (n := 4) rfl hy0 dq_M_lend_97 h (fun h => ?_)
    refine qz_lload_n X 3 rfl dq_M_lend_98 ?_
    refine qz_ladd X dq_M_lend_99 ?_
    refine qz_last X (c0 := 41) (i := y0) (n := 4) rfl hy0 dq_M_lend_100 h (fun N13 h => ?_)
    refine qz_aload_n X 4 rfl dq_M_lend_101 ?_
    refine qz_get X (v := .ref (G.2.2 42 y0)) kq_M_76 hy0 rfl dq_M_lend_102 ?_
    refine qz_iload_n X 2 rfl dq_M_lend_105 ?_
    refine qz_dup2_11 X rfl rfl dq_M_lend_106 ?_
    refine qz_lald X (c0 := 42) (i := y0) (n := 4) rfl hy0 dq_M_lend_107 h (fun h => ?_)
    refine qz_lload X 0 rfl dq_M_lend_108 ?_
    refine qz_ladd X dq_M_lend_110 ?_
    refine qz_last X (c0 := 42) (i := y0) (n := 4) rfl hy0 dq_M_lend_111 h (fun N14 h => ?_)
    refine qz_aload_n X 4 rfl dq_M_lend_112 ?_
    refine qz_get X (v := .ref (G.2.2 43 y0)) kq_M_79 hy0 rfl dq_M_lend_113 ?_
    refine qz_iconst X (v := (4 : Int32)) (by decide) dq_M_lend_116 ?_
    refine qz_iload_n X 1 rfl dq_M_lend_117 ?_
    refine qz_imul X dq_M_lend_118 ?_
    refine qz_iload_n X 2 rfl dq_M_lend_119 ?_
    refine qz_iadd X dq_M_lend_120 ?_
    refine qz_dup2_11 X rfl rfl dq_M_lend_121 ?_
    refine qz_lald X (c0 := 43) (i := y0) (n := 24) rfl hy0 dq_M_lend_122 h (fun h => ?_)
    refine qz_lload X 0 rfl dq_M_lend_123 ?_
    refine qz_ladd X dq_M_lend_125 ?_
    refine qz_last X (c0 := 43) (i := y0) (n := 24) rfl hy0 dq_M_lend_126 h (fun N15 h => ?_)
    refine qz_lload X 0 rfl dq_M_lend_127 ?_
    exact qz_lret X h dq_M_lend_129
  · refine qz_ldc2 X (v := (-3 : Int64)) wq_763 dq_M_lend_79 ?_
    exact qz_lret X h dq_M_lend_82
set_option maxRecDepth 100000 in
set_option maxHeartbeats 4000000 in
theorem sM_lend {p : Program} {l : Launch} {e : Env} {s : State} {m : MethodId} {args : Array Value} {below : List Frame} {meth : Method} {c : Code} {G : qz_G} (X : qz_X p s m args meth c "ExactCurvesModel" prog_10_method_48_code 7 (some .long) G) {r : (Int64 × qz_N)} (o : Nat) (x1 : Int32) (x2 : Int32) (x3 : Int64) (ho : o < 1) (N : qz_N) (h : fM_lend o x1 x2 x3 N = some r) : qz_W p l e (qz_R 5) s m args below meth c 0 0 (MQ below (qz_Q G r.2 (some (.long r.1))) args s 0 0 (qz_A G)) G s.heap 7 N 0 [(0, .ref (G.2.2 7 o)), (1, .int x1), (2, .int x2), (3, .long x3)] [] := by
  unfold fM_lend at h
  refine qz_iload_n X 1 rfl dq_M_lend_0 ?_
  refine qz_bind h (fun q1 e2 h => ?_)
  refine qz_callS X (as := [.int x1]) (st := []) (o := some (.int q1.1)) (N' := q1.2) cq_M_166 (cM_isPlayer l G X.2.2.2.2.2.2.1 x1 N _ e2) ⟨by decide, by decide⟩ rfl rfl (Nat.le_of_ble_eq_true rfl) ⟨Nat.zero_le _, Nat.zero_le _⟩ dq_M_lend_1 ?_
  refine qz_if_eq X (tgt := 20) (by decide) dq_M_lend_4 h (fun _ h => ?_) (fun _ h => ?_)
  · refine qz_ldc2 X (v := (-2 : Int64)) wq_742 dq_M_lend_20 ?_
    exact qz_lret X h dq_M_lend_23
  · refine qz_iload_n X 2 rfl dq_M_lend_7 ?_
    refine qz_bind h (fun q3 e4 h => ?_)
    refine qz_callS X (as := [.int x2]) (st := []) (o := some (.int q3.1)) (N' := q3.2) cq_M_170 (cM_isToken l G X.2.2.2.2.2.2.1 x2 q1.2 _ e4) ⟨by decide, by decide⟩ rfl rfl (Nat.le_of_ble_eq_true rfl) ⟨Nat.zero_le _, Nat.zero_le _⟩ dq_M_lend_8 ?_
    refine qz_if_eq X (tgt := 20) (by decide) dq_M_lend_11 h (fun _ h => ?_) (fun _ h => ?_)
    · refine qz_ldc2 X (v := (-2 : Int64)) wq_742 dq_M_lend_20 ?_
      exact qz_lret X h dq_M_lend_23
    · refine qz_lload_n X 3 rfl dq_M_lend_14 ?_
      refine qz_lconst X (v := (1 : Int64)) (by decide) dq_M_lend_15 ?_
      refine qz_lcmp_ge X (tgt := 24) (by decide) dq_M_lend_16 dq_M_lend_17 h (fun _ h => ?_) (fun _ h => ?_)
      · refine qz_aload_n X 0 rfl dq_M_lend_24 ?_
        refine qz_iload_n X 1 rfl dq_M_lend_25 ?_
        refine qz_iload_n X 2 rfl dq_M_lend_26 ?_
        refine qz_bind h (fun q5 e6 h => ?_)
        refine qz_callV X (as := [.int x1, .int x2]) (st := []) (o := some (.long q5.1)) (N' := q5.2) cq_M_148 ho (cM_has l G X.2.2.2.2.2.2.1 o x1 x2 q3.2 ho _ e6) ⟨by decide, by decide⟩ rfl rfl (Nat.le_of_ble_eq_true rfl) ⟨Nat.zero_le _, Nat.zero_le _⟩ dq_M_lend_27 ?_
        refine qz_lload_n X 3 rfl dq_M_lend_30 ?_
        refine qz_lcmp_ge X (tgt := 39) (by decide) dq_M_lend_31 dq_M_lend_32 h (fun _ h => ?_) (fun _ h => ?_)
        · refine qz_aload_n X 0 rfl dq_M_lend_39 ?_
          refine qz_get X (v := .ref (G.2.2 42 o)) kq_M_76 ho rfl dq_M_lend_40 ?_
          refine qz_iload_n X 2 rfl dq_M_lend_43 ?_
          refine qz_lald X (c0 := 42) (i := o) (n := 4) rfl ho dq_M_lend_44 h (fun h => ?_)
          refine qz_lconst X (v := (0 : Int64)) (by decide) dq_M_lend_45 ?_
          refine qz_lcmp_ne X (tgt := 54) (by decide) dq_M_lend_46 dq_M_lend_47 h (fun _ h => ?_) (fun _ h => ?_)
          · refine qz_aload_n X 0 rfl dq_M_lend_54 ?_
            refine qz_lload_n X 3 rfl dq_M_lend_55 ?_
            refine qz_aload_n X 0 rfl dq_M_lend_56 ?_
            refine qz_get X (v := .ref (G.2.2 42 o)) kq_M_76 ho rfl dq_M_lend_57 ?_
            refine qz_iload_n X 2 rfl dq_M_lend_60 ?_
            refine qz_lald X (c0 := 42) (i := o) (n := 4) rfl ho dq_M_lend_61 h (fun h => ?_)
            refine qz_aload_n X 0 rfl dq_M_lend_62 ?_
            refine qz_iload_n X 2 rfl dq_M_lend_63 ?_
            refine qz_bind h (fun q7 e8 h => ?_)
            refine qz_callV X (as := [.int x2]) (st := [.long (qz_gl q5.2 42 o x2.toNatClampNeg), .long x3, .ref (G.2.2 7 o)]) (o := some (.long q7.1)) (N' := q7.2) cq_M_258 ho (cM_worthOf l G X.2.2.2.2.2.2.1 o x2 q5.2 ho _ e8) ⟨by decide, by decide⟩ rfl rfl (Nat.le_of_ble_eq_true rfl) ⟨Nat.zero_le _, Nat.zero_le _⟩ dq_M_lend_64 ?_
            refine qz_bind h (fun q9 e10 h => ?_)
            refine qz_callV X (as := [.long x3, .long (qz_gl q5.2 42 o x2.toNatClampNeg), .long q7.1]) (st := []) (o := some (.long q9.1)) (N' := q9.2) cq_M_141 ho (cM_part l G X.2.2.2.2.2.2.1 o x3 (qz_gl q5.2 42 o x2.toNatClampNeg) q7.1 q7.2 ho _ e10) ⟨by decide, by decide⟩ rfl rfl (Nat.le_of_ble_eq_true rfl) ⟨Nat.zero_le _, Nat.zero_le _⟩ dq_M_lend_67 ?_
            refine qz_sub [1, 2, 3, 0] rfl ?_
            exact sM_lend_70 X o ho q9.2 x1 x2 x3 q9.1 h
          · refine qz_lload_n X 3 rfl dq_M_lend_50 ?_
            refine qz_goto X (tgt := 70) (by decide) dq_M_lend_51 ?_
            refine qz_sub [1, 2, 3, 0] rfl ?_
            exact sM_lend_70 X o ho q5.2 x1 x2 x3 x3 h
        · refine qz_ldc2 X (v := (-3 : Int64)) wq_763 dq_M_lend_35 ?_
          exact qz_lret X h dq_M_lend_38
      · refine qz_ldc2 X (v := (-2 : Int64)) wq_742 dq_M_lend_20 ?_
        exact qz_lret X h dq_M_lend_23
theorem cM_lend (l : Launch) (G : qz_G) (hD : qz_D G) (o : Nat) (x1 : Int32) (x2 : Int32) (x3 : Int64) (N : qz_N) (ho : o < 1) (r : (Int64 × qz_N)) (h : fM_lend o x1 x2 x3 N = some r) : qz_M l yM_lend prog_10_method_48_code 7 (some .long) 5 G [.ref (G.2.2 7 o), .int x1, .int x2, .long x3] N (some (.long r.1)) r.2 :=
  qz_enter (lv := [(0, .ref (G.2.2 7 o)), (1, .int x1), (2, .int x2), (3, .long x3)]) rfl hD (Nat.le_of_ble_eq_true rfl) rfl (fun p e s m args below meth c X => sM_lend X o x1 x2 x3 ho N h)
-- ExactCurvesModel.redeem(IIJ)J
theorem dq_M_redeem_0 : decode prog_10_method_49_code 0 = .ok (.iload_n 1, 1) := by decide +kernel
theorem dq_M_redeem_1 : decode prog_10_method_49_code 1 = .ok (.invokestatic 166, 3) := by decide +kernel
theorem dq_M_redeem_4 : decode prog_10_method_49_code 4 = .ok (.ifCond .eq 16, 3) := by decide +kernel
theorem dq_M_redeem_7 : decode prog_10_method_49_code 7 = .ok (.iload_n 2, 1) := by decide +kernel
theorem dq_M_redeem_8 : decode prog_10_method_49_code 8 = .ok (.invokestatic 170, 3) := by decide +kernel
theorem dq_M_redeem_11 : decode prog_10_method_49_code 11 = .ok (.ifCond .eq 9, 3) := by decide +kernel
theorem dq_M_redeem_14 : decode prog_10_method_49_code 14 = .ok (.lload_n 3, 1) := by decide +kernel
theorem dq_M_redeem_15 : decode prog_10_method_49_code 15 = .ok (.lconst 1, 1) := by decide +kernel
theorem dq_M_redeem_16 : decode prog_10_method_49_code 16 = .ok (.lcmp, 1) := by decide +kernel
theorem dq_M_redeem_17 : decode prog_10_method_49_code 17 = .ok (.ifCond .ge 7, 3) := by decide +kernel
theorem dq_M_redeem_20 : decode prog_10_method_49_code 20 = .ok (.ldc2_w 175, 3) := by decide +kernel
theorem dq_M_redeem_23 : decode prog_10_method_49_code 23 = .ok (.lreturn, 1) := by decide +kernel
theorem dq_M_redeem_24 : decode prog_10_method_49_code 24 = .ok (.aload_n 0, 1) := by decide +kernel
theorem dq_M_redeem_25 : decode prog_10_method_49_code 25 = .ok (.getfield 79, 3) := by decide +kernel
theorem dq_M_redeem_28 : decode prog_10_method_49_code 28 = .ok (.iconst 4, 1) := by decide +kernel
theorem dq_M_redeem_29 : decode prog_10_method_49_code 29 = .ok (.iload_n 1, 1) := by decide +kernel
theorem dq_M_redeem_30 : decode prog_10_method_49_code 30 = .ok (.imul, 1) := by decide +kernel
theorem dq_M_redeem_31 : decode prog_10_method_49_code 31 = .ok (.iload_n 2, 1) := by decide +kernel
theorem dq_M_redeem_32 : decode prog_10_method_49_code 32 = .ok (.iadd, 1) := by decide +kernel
theorem dq_M_redeem_33 : decode prog_10_method_49_code 33 = .ok (.laload, 1) := by decide +kernel
theorem dq_M_redeem_34 : decode prog_10_method_49_code 34 = .ok (.lload_n 3, 1) := by decide +kernel
theorem dq_M_redeem_35 : decode prog_10_method_49_code 35 = .ok (.lcmp, 1) := by decide +kernel
theorem dq_M_redeem_36 : decode prog_10_method_49_code 36 = .ok (.ifCond .ge 7, 3) := by decide +kernel
theorem dq_M_redeem_39 : decode prog_10_method_49_code 39 = .ok (.ldc2_w 180, 3) := by decide +kernel
theorem dq_M_redeem_42 : decode prog_10_method_49_code 42 = .ok (.lreturn, 1) := by decide +kernel
theorem dq_M_redeem_43 : decode prog_10_method_49_code 43 = .ok (.aload_n 0, 1) := by decide +kernel
theorem dq_M_redeem_44 : decode prog_10_method_49_code 44 = .ok (.lload_n 3, 1) := by decide +kernel
theorem dq_M_redeem_45 : decode prog_10_method_49_code 45 = .ok (.aload_n 0, 1) := by decide +kernel
theorem dq_M_redeem_46 : decode prog_10_method_49_code 46 = .ok (.iload_n 2, 1) := by decide +kernel
theorem dq_M_redeem_47 : decode prog_10_method_49_code 47 = .ok (.invokevirtual 258, 3) := by decide +kernel
theorem dq_M_redeem_50 : decode prog_10_method_49_code 50 = .ok (.aload_n 0, 1) := by decide +kernel
theorem dq_M_redeem_51 : decode prog_10_method_49_code 51 = .ok (.getfield 76, 3) := by decide +kernel
theorem dq_M_redeem_54 : decode prog_10_method_49_code 54 = .ok (.iload_n 2, 1) := by decide +kernel
theorem dq_M_redeem_55 : decode prog_10_method_49_code 55 = .ok (.laload, 1) := by decide +kernel
theorem dq_M_redeem_56 : decode prog_10_method_49_code 56 = .ok (.invokevirtual 141, 3) := by decide +kernel
theorem dq_M_redeem_59 : decode prog_10_method_49_code 59 = .ok (.lstore 5, 2) := by decide +kernel
theorem dq_M_redeem_61 : decode prog_10_method_49_code 61 = .ok (.lload 5, 2) := by decide +kernel
theorem dq_M_redeem_63 : decode prog_10_method_49_code 63 = .ok (.lconst 0, 1) := by decide +kernel
theorem dq_M_redeem_64 : decode prog_10_method_49_code 64 = .ok (.lcmp, 1) := by decide +kernel
theorem dq_M_redeem_65 : decode prog_10_method_49_code 65 = .ok (.ifCond .eq 15, 3) := by decide +kernel
theorem dq_M_redeem_68 : decode prog_10_method_49_code 68 = .ok (.lload 5, 2) := by decide +kernel
theorem dq_M_redeem_70 : decode prog_10_method_49_code 70 = .ok (.aload_n 0, 1) := by decide +kernel
theorem dq_M_redeem_71 : decode prog_10_method_49_code 71 = .ok (.getfield 73, 3) := by decide +kernel
theorem dq_M_redeem_74 : decode prog_10_method_49_code 74 = .ok (.iload_n 2, 1) := by decide +kernel
theorem dq_M_redeem_75 : decode prog_10_method_49_code 75 = .ok (.laload, 1) := by decide +kernel
theorem dq_M_redeem_76 : decode prog_10_method_49_code 76 = .ok (.lcmp, 1) := by decide +kernel
theorem dq_M_redeem_77 : decode prog_10_method_49_code 77 = .ok (.ifCond .le 7, 3) := by decide +kernel
theorem dq_M_redeem_80 : decode prog_10_method_49_code 80 = .ok (.ldc2_w 180, 3) := by decide +kernel
theorem dq_M_redeem_83 : decode prog_10_method_49_code 83 = .ok (.lreturn, 1) := by decide +kernel
theorem dq_M_redeem_84 : decode prog_10_method_49_code 84 = .ok (.aload_n 0, 1) := by decide +kernel
theorem dq_M_redeem_85 : decode prog_10_method_49_code 85 = .ok (.getfield 73, 3) := by decide +kernel
theorem dq_M_redeem_88 : decode prog_10_method_49_code 88 = .ok (.iload_n 2, 1) := by decide +kernel
theorem dq_M_redeem_89 : decode prog_10_method_49_code 89 = .ok (.dup2, 1) := by decide +kernel
theorem dq_M_redeem_90 : decode prog_10_method_49_code 90 = .ok (.laload, 1) := by decide +kernel
theorem dq_M_redeem_91 : decode prog_10_method_49_code 91 = .ok (.lload 5, 2) := by decide +kernel
theorem dq_M_redeem_93 : decode prog_10_method_49_code 93 = .ok (.lsub, 1) := by decide +kernel
theorem dq_M_redeem_94 : decode prog_10_method_49_code 94 = .ok (.lastore, 1) := by decide +kernel
theorem dq_M_redeem_95 : decode prog_10_method_49_code 95 = .ok (.aload_n 0, 1) := by decide +kernel
theorem dq_M_redeem_96 : decode prog_10_method_49_code 96 = .ok (.iload_n 1, 1) := by decide +kernel
theorem dq_M_redeem_97 : decode prog_10_method_49_code 97 = .ok (.iload_n 2, 1) := by decide +kernel
theorem dq_M_redeem_98 : decode prog_10_method_49_code 98 = .ok (.lload 5, 2) := by decide +kernel
theorem dq_M_redeem_100 : decode prog_10_method_49_code 100 = .ok (.invokevirtual 182, 3) := by decide +kernel
theorem dq_M_redeem_103 : decode prog_10_method_49_code 103 = .ok (.aload_n 0, 1) := by decide +kernel
theorem dq_M_redeem_104 : decode prog_10_method_49_code 104 = .ok (.getfield 76, 3) := by decide +kernel
theorem dq_M_redeem_107 : decode prog_10_method_49_code 107 = .ok (.iload_n 2, 1) := by decide +kernel
theorem dq_M_redeem_108 : decode prog_10_method_49_code 108 = .ok (.dup2, 1) := by decide +kernel
theorem dq_M_redeem_109 : decode prog_10_method_49_code 109 = .ok (.laload, 1) := by decide +kernel
theorem dq_M_redeem_110 : decode prog_10_method_49_code 110 = .ok (.lload_n 3, 1) := by decide +kernel
theorem dq_M_redeem_111 : decode prog_10_method_49_code 111 = .ok (.lsub, 1) := by decide +kernel
theorem dq_M_redeem_112 : decode prog_10_method_49_code 112 = .ok (.lastore, 1) := by decide +kernel
theorem dq_M_redeem_113 : decode prog_10_method_49_code 113 = .ok (.aload_n 0, 1) := by decide +kernel
theorem dq_M_redeem_114 : decode prog_10_method_49_code 114 = .ok (.getfield 79, 3) := by decide +kernel
theorem dq_M_redeem_117 : decode prog_10_method_49_code 117 = .ok (.iconst 4, 1) := by decide +kernel
theorem dq_M_redeem_118 : decode prog_10_method_49_code 118 = .ok (.iload_n 1, 1) := by decide +kernel
theorem dq_M_redeem_119 : decode prog_10_method_49_code 119 = .ok (.imul, 1) := by decide +kernel
theorem dq_M_redeem_120 : decode prog_10_method_49_code 120 = .ok (.iload_n 2, 1) := by decide +kernel
theorem dq_M_redeem_121 : decode prog_10_method_49_code 121 = .ok (.iadd, 1) := by decide +kernel
theorem dq_M_redeem_122 : decode prog_10_method_49_code 122 = .ok (.dup2, 1) := by decide +kernel
theorem dq_M_redeem_123 : decode prog_10_method_49_code 123 = .ok (.laload, 1) := by decide +kernel
theorem dq_M_redeem_124 : decode prog_10_method_49_code 124 = .ok (.lload_n 3, 1) := by decide +kernel
theorem dq_M_redeem_125 : decode prog_10_method_49_code 125 = .ok (.lsub, 1) := by decide +kernel
theorem dq_M_redeem_126 : decode prog_10_method_49_code 126 = .ok (.lastore, 1) := by decide +kernel
theorem dq_M_redeem_127 : decode prog_10_method_49_code 127 = .ok (.lload 5, 2) := by decide +kernel
theorem dq_M_redeem_129 : decode prog_10_method_49_code 129 = .ok (.lreturn, 1) := by decide +kernel
def fM_redeem (o : Nat) (x1 : Int32) (x2 : Int32) (x3 : Int64) (N : qz_N) : Option (Int64 × qz_N) :=
  (fM_isPlayer x1 N).bind fun q1 =>
  if q1.1 = 0 then
    some ((-2 : Int64), q1.2)
  else
  (fM_isToken x2 q1.2).bind fun q3 =>
  if q3.1 = 0 then
    some ((-2 : Int64), q3.2)
  else
  if (1 : Int64) ≤ x3 then
    if (((4 : Int32) * x1) + x2) < 0 ∨ 24 ≤ (((4 : Int32) * x1) + x2).toNatClampNeg then none else
    if x3 ≤ (qz_gl q3.2 43 o (((4 : Int32) * x1) + x2).toNatClampNeg) then
      (fM_worthOf o x2 q3.2).bind fun q5 =>
      if x2 < 0 ∨ 4 ≤ x2.toNatClampNeg then none else
      (fM_part o x3 q5.1 (qz_gl q5.2 42 o x2.toNatClampNeg) q5.2).bind fun q7 =>
      if q7.1 = (0 : Int64) then
        some ((-3 : Int64), q7.2)
      else
      if x2 < 0 ∨ 4 ≤ x2.toNatClampNeg then none else
      if q7.1 ≤ (qz_gl q7.2 41 o x2.toNatClampNeg) then
        if x2 < 0 ∨ 4 ≤ x2.toNatClampNeg then none else
        if x2 < 0 ∨ 4 ≤ x2.toNatClampNeg then none else
        qz_let (qz_sl q7.2 41 o x2.toNatClampNeg ((qz_gl q7.2 41 o x2.toNatClampNeg) - q7.1)) fun N9 =>
        (fM_give o x1 x2 q7.1 N9).bind fun q10 =>
        if x2 < 0 ∨ 4 ≤ x2.toNatClampNeg then none else
        if x2 < 0 ∨ 4 ≤ x2.toNatClampNeg then none else
        qz_let (qz_sl q10.2 42 o x2.toNatClampNeg ((qz_gl q10.2 42 o x2.toNatClampNeg) - x3)) fun N12 =>
        if (((4 : Int32) * x1) + x2) < 0 ∨ 24 ≤ (((4 : Int32) * x1) + x2).toNatClampNeg then none else
        if (((4 : Int32) * x1) + x2) < 0 ∨ 24 ≤ (((4 : Int32) * x1) + x2).toNatClampNeg then none else
        qz_let (qz_sl N12 43 o (((4 : Int32) * x1) + x2).toNatClampNeg ((qz_gl N12 43 o (((4 : Int32) * x1) + x2).toNatClampNeg) - x3)) fun N13 =>
        some (q7.1, N13)
      else
      some ((-3 : Int64), q7.2)
    else
    some ((-3 : Int64), q3.2)
  else
  some ((-2 : Int64), q3.2)
set_option maxRecDepth 100000 in
set_option maxHeartbeats 4000000 in
theorem sM_redeem {p : Program} {l : Launch} {e : Env} {s : State} {m : MethodId} {args : Array Value} {below : List Frame} {meth : Method} {c : Code} {G : qz_G} (X : qz_X p s m args meth c "ExactCurvesModel" prog_10_method_49_code 7 (some .long) G) {r : (Int64 × qz_N)} (o : Nat) (x1 : Int32) (x2 : Int32) (x3 : Int64) (ho : o < 1) (N : qz_N) (h : fM_redeem o x1 x2 x3 N = some r) : qz_W p l e (qz_R 5) s m args below meth c 0 0 (MQ below (qz_Q G r.2 (some (.long r.1))) args s 0 0 (qz_A G)) G s.heap 7 N 0 [(0, .ref (G.2.2 7 o)), (1, .int x1), (2, .int x2), (3, .long x3)] [] := by
  unfold fM_redeem at h
  refine qz_iload_n X 1 rfl dq_M_redeem_0 ?_
  refine qz_bind h (fun q1 e2 h => ?_)
  refine qz_callS X (as := [.int x1]) (st := []) (o := some (.int q1.1)) (N' := q1.2) cq_M_166 (cM_isPlayer l G X.2.2.2.2.2.2.1 x1 N _ e2) ⟨by decide, by decide⟩ rfl rfl (Nat.le_of_ble_eq_true rfl) ⟨Nat.zero_le _, Nat.zero_le _⟩ dq_M_redeem_1 ?_
  refine qz_if_eq X (tgt := 20) (by decide) dq_M_redeem_4 h (fun _ h => ?_) (fun _ h => ?_)
  · refine qz_ldc2 X (v := (-2 : Int64)) wq_742 dq_M_redeem_20 ?_
    exact qz_lret X h dq_M_redeem_23
  · refine qz_iload_n X 2 rfl dq_M_redeem_7 ?_
    refine qz_bind h (fun q3 e4 h => ?_)
    refine qz_callS X (as := [.int x2]) (st := []) (o := some (.int q3.1)) (N' := q3.2) cq_M_170 (cM_isToken l G X.2.2.2.2.2.2.1 x2 q1.2 _ e4) ⟨by decide, by decide⟩ rfl rfl (Nat.le_of_ble_eq_true rfl) ⟨Nat.zero_le _, Nat.zero_le _⟩ dq_M_redeem_8 ?_
    refine qz_if_eq X (tgt := 20) (by decide) dq_M_redeem_11 h (fun _ h => ?_) (fun _ h => ?_)
    · refine qz_ldc2 X (v := (-2 : Int64)) wq_742 dq_M_redeem_20 ?_
      exact qz_lret X h dq_M_redeem_23
    · refine qz_lload_n X 3 rfl dq_M_redeem_14 ?_
      refine qz_lconst X (v := (1 : Int64)) (by decide) dq_M_redeem_15 ?_
      refine qz_lcmp_ge X (tgt := 24) (by decide) dq_M_redeem_16 dq_M_redeem_17 h (fun _ h => ?_) (fun _ h => ?_)
      · refine qz_aload_n X 0 rfl dq_M_redeem_24 ?_
        refine qz_get X (v := .ref (G.2.2 43 o)) kq_M_79 ho rfl dq_M_redeem_25 ?_
        refine qz_iconst X (v := (4 : Int32)) (by decide) dq_M_redeem_28 ?_
        refine qz_iload_n X 1 rfl dq_M_redeem_29 ?_
        refine qz_imul X dq_M_redeem_30 ?_
        refine qz_iload_n X 2 rfl dq_M_redeem_31 ?_
        refine qz_iadd X dq_M_redeem_32 ?_
        refine qz_lald X (c0 := 43) (i := o) (n := 24) rfl ho dq_M_redeem_33 h (fun h => ?_)
        refine qz_lload_n X 3 rfl dq_M_redeem_34 ?_
        refine qz_lcmp_ge X (tgt := 43) (by decide) dq_M_redeem_35 dq_M_redeem_36 h (fun _ h => ?_) (fun _ h => ?_)
        · refine qz_aload_n X 0 rfl dq_M_redeem_43 ?_
          refine qz_lload_n X 3 rfl dq_M_redeem_44 ?_
          refine qz_aload_n X 0 rfl dq_M_redeem_45 ?_
          refine qz_iload_n X 2 rfl dq_M_redeem_46 ?_
          refine qz_bind h (fun q5 e6 h => ?_)
          refine qz_callV X (as := [.int x2]) (st := [.long x3, .ref (G.2.2 7 o)]) (o := some (.long q5.1)) (N' := q5.2) cq_M_258 ho (cM_worthOf l G X.2.2.2.2.2.2.1 o x2 q3.2 ho _ e6) ⟨by decide, by decide⟩ rfl rfl (Nat.le_of_ble_eq_true rfl) ⟨Nat.zero_le _, Nat.zero_le _⟩ dq_M_redeem_47 ?_
          refine qz_aload_n X 0 rfl dq_M_redeem_50 ?_
          refine qz_get X (v := .ref (G.2.2 42 o)) kq_M_76 ho rfl dq_M_redeem_51 ?_
          refine qz_iload_n X 2 rfl dq_M_redeem_54 ?_
          refine qz_lald X (c0 := 42) (i := o) (n := 4) rfl ho dq_M_redeem_55 h (fun h => ?_)
          refine qz_bind h (fun q7 e8 h => ?_)
          refine qz_callV X (as := [.long x3, .long q5.1, .long (qz_gl q5.2 42 o x2.toNatClampNeg)]) (st := []) (o := some (.long q7.1)) (N' := q7.2) cq_M_141 ho (cM_part l G X.2.2.2.2.2.2.1 o x3 q5.1 (qz_gl q5.2 42 o x2.toNatClampNeg) q5.2 ho _ e8) ⟨by decide, by decide⟩ rfl rfl (Nat.le_of_ble_eq_true rfl) ⟨Nat.zero_le _, Nat.zero_le _⟩ dq_M_redeem_56 ?_
          refine qz_lstore X (lv' := [(5, .long q7.1), (0, .ref (G.2.2 7 o)), (1, .int x1), (2, .int x2), (3, .long x3)]) (by decide) rfl dq_M_redeem_59 ?_
          refine qz_lload X 0 rfl dq_M_redeem_61 ?_
          refine qz_lconst X (v := (0 : Int64)) (by decide) dq_M_redeem_63 ?_
          refine qz_lcmp_eq X (tgt := 80) (by decide) dq_M_redeem_64 dq_M_redeem_65 h (fun _ h => ?_) (fun _ h => ?_)
          · refine qz_ldc2 X (v := (-3 : Int64)) wq_763 dq_M_redeem_80 ?_
            exact qz_lret X h dq_M_redeem_83
          · refine qz_lload X 0 rfl dq_M_redeem_68 ?_
            refine qz_aload_n X 1 rfl dq_M_redeem_70 ?_
            refine qz_get X (v := .ref (G.2.2 41 o)) kq_M_73 ho rfl dq_M_redeem_71 ?_
            refine qz_iload_n X 3 rfl dq_M_redeem_74 ?_
            refine qz_lald X (c0 := 41) (i := o) (n := 4) rfl ho dq_M_redeem_75 h (fun h => ?_)
            refine qz_lcmp_le X (tgt := 84) (by decide) dq_M_redeem_76 dq_M_redeem_77 h (fun _ h => ?_) (fun _ h => ?_)
            · refine qz_aload_n X 1 rfl dq_M_redeem_84 ?_
              refine qz_get X (v := .ref (G.2.2 41 o)) kq_M_73 ho rfl dq_M_redeem_85 ?_
              refine qz_iload_n X 3 rfl dq_M_redeem_88 ?_
              refine qz_dup2_11 X rfl rfl dq_M_redeem_89 ?_
              refine qz_lald X (c0 := 41) (i := o) (n := 4) rfl ho dq_M_redeem_90 h (fun h => ?_)
              refine qz_lload X 0 rfl dq_M_redeem_91 ?_
              refine qz_lsub X dq_M_redeem_93 ?_
              refine qz_last X (c0 := 41) (i := o) (n := 4) rfl ho dq_M_redeem_94 h (fun N9 h => ?_)
              refine qz_aload_n X 1 rfl dq_M_redeem_95 ?_
              refine qz_iload_n X 2 rfl dq_M_redeem_96 ?_
              refine qz_iload_n X 3 rfl dq_M_redeem_97 ?_
              refine qz_lload X 0 rfl dq_M_redeem_98 ?_
              refine qz_bind h (fun q10 e11 h => ?_)
              refine qz_callV X (as := [.int x1, .int x2, .long q7.1]) (st := []) (o := none) (N' := q10.2) cq_M_182 ho (cM_give l G X.2.2.2.2.2.2.1 o x1 x2 q7.1 N9 ho _ e11) ⟨by decide, by decide⟩ rfl rfl (Nat.le_of_ble_eq_true rfl) ⟨Nat.zero_le _, Nat.zero_le _⟩ dq_M_redeem_100 ?_
              refine qz_aload_n X 1 rfl dq_M_redeem_103 ?_
              refine qz_get X (v := .ref (G.2.2 42 o)) kq_M_76 ho rfl dq_M_redeem_104 ?_
              refine qz_iload_n X 3 rfl dq_M_redeem_107 ?_
              refine qz_dup2_11 X rfl rfl dq_M_redeem_108 ?_
              refine qz_lald X (c0 := 42) (i := o) (n := 4) rfl ho dq_M_redeem_109 h (fun h => ?_)
              refine qz_lload_n X 4 rfl dq_M_redeem_110 ?_
              refine qz_lsub X dq_M_redeem_111 ?_
              refine qz_last X (c0 := 42) (i := o) (n := 4) rfl ho dq_M_redeem_112 h (fun N12 h => ?_)
              refine qz_aload_n X 1 rfl dq_M_redeem_113 ?_
              refine qz_get X (v := .ref (G.2.2 43 o)) kq_M_79 ho rfl dq_M_redeem_114 ?_
              refine qz_iconst X (v := (4 : Int32)) (by decide) dq_M_redeem_117 ?_
              refine qz_iload_n X 2 rfl dq_M_redeem_118 ?_
              refine qz_imul X dq_M_redeem_119 ?_
              refine qz_iload_n X 3 rfl dq_M_redeem_120 ?_
              refine qz_iadd X dq_M_redeem_121 ?_
              refine qz_dup2_11 X rfl rfl dq_M_redeem_122 ?_
              refine qz_lald X (c0 := 43) (i := o) (n := 24) rfl ho dq_M_redeem_123 h (fun h => ?_)
              refine qz_lload_n X 4 rfl dq_M_redeem_124 ?_
              refine qz_lsub X dq_M_redeem_125 ?_
              refine qz_last X (c0 := 43) (i := o) (n := 24) rfl ho dq_M_redeem_126 h (fun N13 h => ?_)
              refine qz_lload X 0 rfl dq_M_redeem_127 ?_
              exact qz_lret X h dq_M_redeem_129
            · refine qz_ldc2 X (v := (-3 : Int64)) wq_763 dq_M_redeem_80 ?_
              exact qz_lret X h dq_M_redeem_83
        · refine qz_ldc2 X (v := (-3 : Int64)) wq_763 dq_M_redeem_39 ?_
          exact qz_lret X h dq_M_redeem_42
      · refine qz_ldc2 X (v := (-2 : Int64)) wq_742 dq_M_redeem_20 ?_
        exact qz_lret X h dq_M_redeem_23
theorem cM_redeem (l : Launch) (G : qz_G) (hD : qz_D G) (o : Nat) (x1 : Int32) (x2 : Int32) (x3 : Int64) (N : qz_N) (ho : o < 1) (r : (Int64 × qz_N)) (h : fM_redeem o x1 x2 x3 N = some r) : qz_M l yM_redeem prog_10_method_49_code 7 (some .long) 5 G [.ref (G.2.2 7 o), .int x1, .int x2, .long x3] N (some (.long r.1)) r.2 :=
  qz_enter (lv := [(0, .ref (G.2.2 7 o)), (1, .int x1), (2, .int x2), (3, .long x3)]) rfl hD (Nat.le_of_ble_eq_true rfl) rfl (fun p e s m args below meth c X => sM_redeem X o x1 x2 x3 ho N h)
-- ExactCurvesModel.vault(II)J
theorem dq_M_vault_0 : decode prog_10_method_50_code 0 = .ok (.iload_n 1, 1) := by decide +kernel
theorem dq_M_vault_1 : decode prog_10_method_50_code 1 = .ok (.invokestatic 170, 3) := by decide +kernel
theorem dq_M_vault_4 : decode prog_10_method_50_code 4 = .ok (.ifCond .ne 7, 3) := by decide +kernel
theorem dq_M_vault_7 : decode prog_10_method_50_code 7 = .ok (.ldc2_w 175, 3) := by decide +kernel
theorem dq_M_vault_10 : decode prog_10_method_50_code 10 = .ok (.lreturn, 1) := by decide +kernel
theorem dq_M_vault_11 : decode prog_10_method_50_code 11 = .ok (.iload_n 2, 1) := by decide +kernel
theorem dq_M_vault_12 : decode prog_10_method_50_code 12 = .ok (.iconst 5, 1) := by decide +kernel
theorem dq_M_vault_13 : decode prog_10_method_50_code 13 = .ok (.if_icmp .lt 22, 3) := by decide +kernel
theorem dq_M_vault_16 : decode prog_10_method_50_code 16 = .ok (.iload_n 2, 1) := by decide +kernel
theorem dq_M_vault_17 : decode prog_10_method_50_code 17 = .ok (.bipush 11, 2) := by decide +kernel
theorem dq_M_vault_19 : decode prog_10_method_50_code 19 = .ok (.if_icmp .ge 16, 3) := by decide +kernel
theorem dq_M_vault_22 : decode prog_10_method_50_code 22 = .ok (.aload_n 0, 1) := by decide +kernel
theorem dq_M_vault_23 : decode prog_10_method_50_code 23 = .ok (.getfield 79, 3) := by decide +kernel
theorem dq_M_vault_26 : decode prog_10_method_50_code 26 = .ok (.iconst 4, 1) := by decide +kernel
theorem dq_M_vault_27 : decode prog_10_method_50_code 27 = .ok (.iload_n 2, 1) := by decide +kernel
theorem dq_M_vault_28 : decode prog_10_method_50_code 28 = .ok (.iconst 5, 1) := by decide +kernel
theorem dq_M_vault_29 : decode prog_10_method_50_code 29 = .ok (.isub, 1) := by decide +kernel
theorem dq_M_vault_30 : decode prog_10_method_50_code 30 = .ok (.imul, 1) := by decide +kernel
theorem dq_M_vault_31 : decode prog_10_method_50_code 31 = .ok (.iload_n 1, 1) := by decide +kernel
theorem dq_M_vault_32 : decode prog_10_method_50_code 32 = .ok (.iadd, 1) := by decide +kernel
theorem dq_M_vault_33 : decode prog_10_method_50_code 33 = .ok (.laload, 1) := by decide +kernel
theorem dq_M_vault_34 : decode prog_10_method_50_code 34 = .ok (.lreturn, 1) := by decide +kernel
theorem dq_M_vault_35 : decode prog_10_method_50_code 35 = .ok (.iload_n 2, 1) := by decide +kernel
theorem dq_M_vault_36 : decode prog_10_method_50_code 36 = .ok (.ifCond .ne 12, 3) := by decide +kernel
theorem dq_M_vault_39 : decode prog_10_method_50_code 39 = .ok (.aload_n 0, 1) := by decide +kernel
theorem dq_M_vault_40 : decode prog_10_method_50_code 40 = .ok (.getfield 73, 3) := by decide +kernel
theorem dq_M_vault_43 : decode prog_10_method_50_code 43 = .ok (.iload_n 1, 1) := by decide +kernel
theorem dq_M_vault_44 : decode prog_10_method_50_code 44 = .ok (.laload, 1) := by decide +kernel
theorem dq_M_vault_45 : decode prog_10_method_50_code 45 = .ok (.goto 61, 3) := by decide +kernel
theorem dq_M_vault_48 : decode prog_10_method_50_code 48 = .ok (.iload_n 2, 1) := by decide +kernel
theorem dq_M_vault_49 : decode prog_10_method_50_code 49 = .ok (.iconst 1, 1) := by decide +kernel
theorem dq_M_vault_50 : decode prog_10_method_50_code 50 = .ok (.if_icmp .ne 11, 3) := by decide +kernel
theorem dq_M_vault_53 : decode prog_10_method_50_code 53 = .ok (.aload_n 0, 1) := by decide +kernel
theorem dq_M_vault_54 : decode prog_10_method_50_code 54 = .ok (.iload_n 1, 1) := by decide +kernel
theorem dq_M_vault_55 : decode prog_10_method_50_code 55 = .ok (.invokevirtual 258, 3) := by decide +kernel
theorem dq_M_vault_58 : decode prog_10_method_50_code 58 = .ok (.goto 48, 3) := by decide +kernel
theorem dq_M_vault_61 : decode prog_10_method_50_code 61 = .ok (.iload_n 2, 1) := by decide +kernel
theorem dq_M_vault_62 : decode prog_10_method_50_code 62 = .ok (.iconst 2, 1) := by decide +kernel
theorem dq_M_vault_63 : decode prog_10_method_50_code 63 = .ok (.if_icmp .ne 12, 3) := by decide +kernel
theorem dq_M_vault_66 : decode prog_10_method_50_code 66 = .ok (.aload_n 0, 1) := by decide +kernel
theorem dq_M_vault_67 : decode prog_10_method_50_code 67 = .ok (.getfield 76, 3) := by decide +kernel
theorem dq_M_vault_70 : decode prog_10_method_50_code 70 = .ok (.iload_n 1, 1) := by decide +kernel
theorem dq_M_vault_71 : decode prog_10_method_50_code 71 = .ok (.laload, 1) := by decide +kernel
theorem dq_M_vault_72 : decode prog_10_method_50_code 72 = .ok (.goto 34, 3) := by decide +kernel
theorem dq_M_vault_75 : decode prog_10_method_50_code 75 = .ok (.iload_n 2, 1) := by decide +kernel
theorem dq_M_vault_76 : decode prog_10_method_50_code 76 = .ok (.iconst 3, 1) := by decide +kernel
theorem dq_M_vault_77 : decode prog_10_method_50_code 77 = .ok (.if_icmp .ne 12, 3) := by decide +kernel
theorem dq_M_vault_80 : decode prog_10_method_50_code 80 = .ok (.aload_n 0, 1) := by decide +kernel
theorem dq_M_vault_81 : decode prog_10_method_50_code 81 = .ok (.getfield 82, 3) := by decide +kernel
theorem dq_M_vault_84 : decode prog_10_method_50_code 84 = .ok (.iload_n 1, 1) := by decide +kernel
theorem dq_M_vault_85 : decode prog_10_method_50_code 85 = .ok (.laload, 1) := by decide +kernel
theorem dq_M_vault_86 : decode prog_10_method_50_code 86 = .ok (.goto 20, 3) := by decide +kernel
theorem dq_M_vault_89 : decode prog_10_method_50_code 89 = .ok (.iload_n 2, 1) := by decide +kernel
theorem dq_M_vault_90 : decode prog_10_method_50_code 90 = .ok (.iconst 4, 1) := by decide +kernel
theorem dq_M_vault_91 : decode prog_10_method_50_code 91 = .ok (.if_icmp .ne 12, 3) := by decide +kernel
theorem dq_M_vault_94 : decode prog_10_method_50_code 94 = .ok (.aload_n 0, 1) := by decide +kernel
theorem dq_M_vault_95 : decode prog_10_method_50_code 95 = .ok (.getfield 85, 3) := by decide +kernel
theorem dq_M_vault_98 : decode prog_10_method_50_code 98 = .ok (.iload_n 1, 1) := by decide +kernel
theorem dq_M_vault_99 : decode prog_10_method_50_code 99 = .ok (.laload, 1) := by decide +kernel
theorem dq_M_vault_100 : decode prog_10_method_50_code 100 = .ok (.goto 6, 3) := by decide +kernel
theorem dq_M_vault_103 : decode prog_10_method_50_code 103 = .ok (.ldc2_w 175, 3) := by decide +kernel
theorem dq_M_vault_106 : decode prog_10_method_50_code 106 = .ok (.lreturn, 1) := by decide +kernel
def fM_vault_35 (y0 : Nat) (N : qz_N) (x1 : Int32) (x2 : Int32) : Option (Int64 × qz_N) :=
  if x2 = 0 then
    if x1 < 0 ∨ 4 ≤ x1.toNatClampNeg then none else
    some (qz_gl N 41 y0 x1.toNatClampNeg, N)
  else
  if x2 = (1 : Int32) then
    (fM_worthOf y0 x1 N).bind fun q3 =>
    some (q3.1, q3.2)
  else
  if x2 = (2 : Int32) then
    if x1 < 0 ∨ 4 ≤ x1.toNatClampNeg then none else
    some (qz_gl N 42 y0 x1.toNatClampNeg, N)
  else
  if x2 = (3 : Int32) then
    if x1 < 0 ∨ 4 ≤ x1.toNatClampNeg then none else
    some (qz_gl N 44 y0 x1.toNatClampNeg, N)
  else
  if x2 = (4 : Int32) then
    if x1 < 0 ∨ 4 ≤ x1.toNatClampNeg then none else
    some (qz_gl N 45 y0 x1.toNatClampNeg, N)
  else
  some ((-2 : Int64), N)
def fM_vault (o : Nat) (x1 : Int32) (x2 : Int32) (N : qz_N) : Option (Int64 × qz_N) :=
  (fM_isToken x1 N).bind fun q1 =>
  if q1.1 = 0 then
    some ((-2 : Int64), q1.2)
  else
  if x2 < (5 : Int32) then
    fM_vault_35 o q1.2 x1 x2
  else
  if (11 : Int32) ≤ x2 then
    fM_vault_35 o q1.2 x1 x2
  else
  if (((4 : Int32) * (x2 - (5 : Int32))) + x1) < 0 ∨ 24 ≤ (((4 : Int32) * (x2 - (5 : Int32))) + x1).toNatClampNeg then none else
  some (qz_gl q1.2 43 o (((4 : Int32) * (x2 - (5 : Int32))) + x1).toNatClampNeg, q1.2)
set_option maxRecDepth 100000 in
set_option maxHeartbeats 4000000 in
theorem sM_vault_35 {p : Program} {l : Launch} {e : Env} {s : State} {m : MethodId} {args : Array Value} {below : List Frame} {meth : Method} {c : Code} {G : qz_G} (X : qz_X p s m args meth c "ExactCurvesModel" prog_10_method_50_code 3 (some .long) G) {r : (Int64 × qz_N)} (y0 : Nat) (hy0 : y0 < 1) (N : qz_N) (x1 : Int32) (x2 : Int32) (h : fM_vault_35 y0 N x1 x2 = some r) : qz_W p l e (qz_R 5) s m args below meth c 0 0 (MQ below (qz_Q G r.2 (some (.long r.1))) args s 0 0 (qz_A G)) G s.heap 3 N 35 [(1, .int x1), (2, .int x2), (0, .ref (G.2.2 7 y0))] [] := by
  unfold fM_vault_35 at h
  refine qz_iload_n X 1 rfl dq_M_vault_35 ?_
  refine qz_if_ne X (tgt := 48) (by decide) dq_M_vault_36 h (fun _ h => ?_) (fun _ h => ?_)
  · refine qz_iload_n X 1 rfl dq_M_vault_48 ?_
    refine qz_iconst X (v := (1 : Int32)) (by decide) dq_M_vault_49 ?_
    refine qz_icmp_ne X (tgt := 61) (by decide) dq_M_vault_50 h (fun _ h => ?_) (fun _ h => ?_)
    · refine qz_iload_n X 1 rfl dq_M_vault_61 ?_
      refine qz_iconst X (v := (2 : Int32)) (by decide) dq_M_vault_62 ?_
      refine qz_icmp_ne X (tgt := 75) (by decide) dq_M_vault_63 h (fun _ h => ?_) (fun _ h => ?_)
      · refine qz_iload_n X 1 rfl dq_M_vault_75 ?_
        refine qz_iconst X (v := (3 : Int32)) (by decide) dq_M_vault_76 ?_
        refine qz_icmp_ne X (tgt := 89) (by decide) dq_M_vault_77 h (fun _ h => ?_) (fun _ h => ?_)
        · refine qz_iload_n X 1 rfl dq_M_vault_89 ?_
          refine qz_iconst X (v := (4 : Int32)) (by decide) dq_M_vault_90 ?_
          refine qz_icmp_ne X (tgt := 103) (by decide) dq_M_vault_91 h (fun _ h => ?_) (fun _ h => ?_)
          · refine qz_ldc2 X (v := (-2 : Int64)) wq_742 dq_M_vault_103 ?_
            exact qz_lret X h dq_M_vault_106
          · refine qz_aload_n X 2 rfl dq_M_vault_94 ?_
            refine qz_get X (v := .ref (G.2.2 45 y0)) kq_M_85 hy0 rfl dq_M_vault_95 ?_
            refine qz_iload_n X 0 rfl dq_M_vault_98 ?_
            refine qz_lald X (c0 := 45) (i := y0) (n := 4) rfl hy0 dq_M_vault_99 h (fun h => ?_)
            refine qz_goto X (tgt := 106) (by decide) dq_M_vault_100 ?_
            exact qz_lret X h dq_M_vault_106
        · refine qz_aload_n X 2 rfl dq_M_vault_80 ?_
          refine qz_get X (v := .ref (G.2.2 44 y0)) kq_M_82 hy0 rfl dq_M_vault_81 ?_
          refine qz_iload_n X 0 rfl dq_M_vault_84 ?_
          refine qz_lald X (c0 := 44) (i := y0) (n := 4) rfl hy0 dq_M_vault_85 h (fun h => ?_)
          refine qz_goto X (tgt := 106) (by decide) dq_M_vault_86 ?_
          exact qz_lret X h dq_M_vault_106
      · refine qz_aload_n X 2 rfl dq_M_vault_66 ?_
        refine qz_get X (v := .ref (G.2.2 42 y0)) kq_M_76 hy0 rfl dq_M_vault_67 ?_
        refine qz_iload_n X 0 rfl dq_M_vault_70 ?_
        refine qz_lald X (c0 := 42) (i := y0) (n := 4) rfl hy0 dq_M_vault_71 h (fun h => ?_)
        refine qz_goto X (tgt := 106) (by decide) dq_M_vault_72 ?_
        exact qz_lret X h dq_M_vault_106
    · refine qz_aload_n X 2 rfl dq_M_vault_53 ?_
      refine qz_iload_n X 0 rfl dq_M_vault_54 ?_
      refine qz_bind h (fun q3 e4 h => ?_)
      refine qz_callV X (as := [.int x1]) (st := []) (o := some (.long q3.1)) (N' := q3.2) cq_M_258 hy0 (cM_worthOf l G X.2.2.2.2.2.2.1 y0 x1 N hy0 _ e4) ⟨by decide, by decide⟩ rfl rfl (Nat.le_of_ble_eq_true rfl) ⟨Nat.zero_le _, Nat.zero_le _⟩ dq_M_vault_55 ?_
      refine qz_goto X (tgt := 106) (by decide) dq_M_vault_58 ?_
      exact qz_lret X h dq_M_vault_106
  · refine qz_aload_n X 2 rfl dq_M_vault_39 ?_
    refine qz_get X (v := .ref (G.2.2 41 y0)) kq_M_73 hy0 rfl dq_M_vault_40 ?_
    refine qz_iload_n X 0 rfl dq_M_vault_43 ?_
    refine qz_lald X (c0 := 41) (i := y0) (n := 4) rfl hy0 dq_M_vault_44 h (fun h => ?_)
    refine qz_goto X (tgt := 106) (by decide) dq_M_vault_45 ?_
    exact qz_lret X h dq_M_vault_106
set_option maxRecDepth 100000 in
set_option maxHeartbeats 4000000 in
theorem sM_vault {p : Program} {l : Launch} {e : Env} {s : State} {m : MethodId} {args : Array Value} {below : List Frame} {meth : Method} {c : Code} {G : qz_G} (X : qz_X p s m args meth c "ExactCurvesModel" prog_10_method_50_code 3 (some .long) G) {r : (Int64 × qz_N)} (o : Nat) (x1 : Int32) (x2 : Int32) (ho : o < 1) (N : qz_N) (h : fM_vault o x1 x2 N = some r) : qz_W p l e (qz_R 5) s m args below meth c 0 0 (MQ below (qz_Q G r.2 (some (.long r.1))) args s 0 0 (qz_A G)) G s.heap 3 N 0 [(0, .ref (G.2.2 7 o)), (1, .int x1), (2, .int x2)] [] := by
  unfold fM_vault at h
  refine qz_iload_n X 1 rfl dq_M_vault_0 ?_
  refine qz_bind h (fun q1 e2 h => ?_)
  refine qz_callS X (as := [.int x1]) (st := []) (o := some (.int q1.1)) (N' := q1.2) cq_M_170 (cM_isToken l G X.2.2.2.2.2.2.1 x1 N _ e2) ⟨by decide, by decide⟩ rfl rfl (Nat.le_of_ble_eq_true rfl) ⟨Nat.zero_le _, Nat.zero_le _⟩ dq_M_vault_1 ?_
  refine qz_if_ne X (tgt := 11) (by decide) dq_M_vault_4 h (fun _ h => ?_) (fun _ h => ?_)
  · refine qz_iload_n X 2 rfl dq_M_vault_11 ?_
    refine qz_iconst X (v := (5 : Int32)) (by decide) dq_M_vault_12 ?_
    refine qz_icmp_lt X (tgt := 35) (by decide) dq_M_vault_13 h (fun _ h => ?_) (fun _ h => ?_)
    · refine qz_sub [1, 2, 0] rfl ?_
      exact sM_vault_35 X o ho q1.2 x1 x2 h
    · refine qz_iload_n X 2 rfl dq_M_vault_16 ?_
      refine qz_bipush X (v := (11 : Int32)) (by decide) dq_M_vault_17 ?_
      refine qz_icmp_ge X (tgt := 35) (by decide) dq_M_vault_19 h (fun _ h => ?_) (fun _ h => ?_)
      · refine qz_sub [1, 2, 0] rfl ?_
        exact sM_vault_35 X o ho q1.2 x1 x2 h
      · refine qz_aload_n X 0 rfl dq_M_vault_22 ?_
        refine qz_get X (v := .ref (G.2.2 43 o)) kq_M_79 ho rfl dq_M_vault_23 ?_
        refine qz_iconst X (v := (4 : Int32)) (by decide) dq_M_vault_26 ?_
        refine qz_iload_n X 2 rfl dq_M_vault_27 ?_
        refine qz_iconst X (v := (5 : Int32)) (by decide) dq_M_vault_28 ?_
        refine qz_isub X dq_M_vault_29 ?_
        refine qz_imul X dq_M_vault_30 ?_
        refine qz_iload_n X 1 rfl dq_M_vault_31 ?_
        refine qz_iadd X dq_M_vault_32 ?_
        refine qz_lald X (c0 := 43) (i := o) (n := 24) rfl ho dq_M_vault_33 h (fun h => ?_)
        exact qz_lret X h dq_M_vault_34
  · refine qz_ldc2 X (v := (-2 : Int64)) wq_742 dq_M_vault_7 ?_
    exact qz_lret X h dq_M_vault_10
theorem cM_vault (l : Launch) (G : qz_G) (hD : qz_D G) (o : Nat) (x1 : Int32) (x2 : Int32) (N : qz_N) (ho : o < 1) (r : (Int64 × qz_N)) (h : fM_vault o x1 x2 N = some r) : qz_M l yM_vault prog_10_method_50_code 3 (some .long) 5 G [.ref (G.2.2 7 o), .int x1, .int x2] N (some (.long r.1)) r.2 :=
  qz_enter (lv := [(0, .ref (G.2.2 7 o)), (1, .int x1), (2, .int x2)]) rfl hD (Nat.le_of_ble_eq_true rfl) rfl (fun p e s m args below meth c X => sM_vault X o x1 x2 ho N h)
