-- ExactCurvesModel.part(JJJ)J
theorem dq_M_part_0 : decode prog_10_method_5_code 0 = .ok (.aload_n 0, 1) := by decide +kernel
theorem dq_M_part_1 : decode prog_10_method_5_code 1 = .ok (.lload_n 1, 1) := by decide +kernel
theorem dq_M_part_2 : decode prog_10_method_5_code 2 = .ok (.invokevirtual 130, 3) := by decide +kernel
theorem dq_M_part_5 : decode prog_10_method_5_code 5 = .ok (.aload_n 0, 1) := by decide +kernel
theorem dq_M_part_6 : decode prog_10_method_5_code 6 = .ok (.lload_n 3, 1) := by decide +kernel
theorem dq_M_part_7 : decode prog_10_method_5_code 7 = .ok (.invokevirtual 134, 3) := by decide +kernel
theorem dq_M_part_10 : decode prog_10_method_5_code 10 = .ok (.aload_n 0, 1) := by decide +kernel
theorem dq_M_part_11 : decode prog_10_method_5_code 11 = .ok (.lload 5, 2) := by decide +kernel
theorem dq_M_part_13 : decode prog_10_method_5_code 13 = .ok (.invokevirtual 137, 3) := by decide +kernel
theorem dq_M_part_16 : decode prog_10_method_5_code 16 = .ok (.lreturn, 1) := by decide +kernel
def fM_part (o : Nat) (x1 : Int64) (x3 : Int64) (x5 : Int64) (N : qz_N) : Option (Int64 × qz_N) :=
  (fM_begin o x1 N).bind fun q1 =>
  (fM_times o x3 q1.2).bind fun q3 =>
  (fM_over o x5 q3.2).bind fun q5 =>
  some (q5.1, q5.2)
set_option maxRecDepth 100000 in
set_option maxHeartbeats 4000000 in
theorem sM_part {p : Program} {l : Launch} {e : Env} {s : State} {m : MethodId} {args : Array Value} {below : List Frame} {meth : Method} {c : Code} {G : qz_G} (X : qz_X p s m args meth c "ExactCurvesModel" prog_10_method_5_code 7 (some .long) G) {r : (Int64 × qz_N)} (o : Nat) (x1 : Int64) (x3 : Int64) (x5 : Int64) (ho : o < 1) (N : qz_N) (h : fM_part o x1 x3 x5 N = some r) : qz_W p l e (qz_R 1) s m args below meth c 0 0 (MQ below (qz_Q G r.2 (some (.long r.1))) args s 0 0 (qz_A G)) G s.heap 7 N 0 [(0, .ref (G.2.2 7 o)), (1, .long x1), (3, .long x3), (5, .long x5)] [] := by
  unfold fM_part at h
  refine qz_aload_n X 0 rfl dq_M_part_0 ?_
  refine qz_lload_n X 1 rfl dq_M_part_1 ?_
  refine qz_bind h (fun q1 e2 h => ?_)
  refine qz_callV X (as := [.long x1]) (st := []) (o := none) (N' := q1.2) cq_M_130 ho (cM_begin l G X.2.2.2.2.2.2.1 o x1 N ho _ e2) ⟨by decide, by decide⟩ rfl rfl (Nat.le_of_ble_eq_true rfl) ⟨Nat.zero_le _, Nat.zero_le _⟩ dq_M_part_2 ?_
  refine qz_aload_n X 0 rfl dq_M_part_5 ?_
  refine qz_lload_n X 2 rfl dq_M_part_6 ?_
  refine qz_bind h (fun q3 e4 h => ?_)
  refine qz_callV X (as := [.long x3]) (st := []) (o := none) (N' := q3.2) cq_M_134 ho (cM_times l G X.2.2.2.2.2.2.1 o x3 q1.2 ho _ e4) ⟨by decide, by decide⟩ rfl rfl (Nat.le_of_ble_eq_true rfl) ⟨Nat.zero_le _, Nat.zero_le _⟩ dq_M_part_7 ?_
  refine qz_aload_n X 0 rfl dq_M_part_10 ?_
  refine qz_lload X 3 rfl dq_M_part_11 ?_
  refine qz_bind h (fun q5 e6 h => ?_)
  refine qz_callV X (as := [.long x5]) (st := []) (o := some (.long q5.1)) (N' := q5.2) cq_M_137 ho (cM_over l G X.2.2.2.2.2.2.1 o x5 q3.2 ho _ e6) ⟨by decide, by decide⟩ rfl rfl (Nat.le_of_ble_eq_true rfl) ⟨Nat.zero_le _, Nat.zero_le _⟩ dq_M_part_13 ?_
  exact qz_lret X h dq_M_part_16
theorem cM_part (l : Launch) (G : qz_G) (hD : qz_D G) (o : Nat) (x1 : Int64) (x3 : Int64) (x5 : Int64) (N : qz_N) (ho : o < 1) (r : (Int64 × qz_N)) (h : fM_part o x1 x3 x5 N = some r) : qz_M l yM_part prog_10_method_5_code 7 (some .long) 1 G [.ref (G.2.2 7 o), .long x1, .long x3, .long x5] N (some (.long r.1)) r.2 :=
  qz_enter (lv := [(0, .ref (G.2.2 7 o)), (1, .long x1), (3, .long x3), (5, .long x5)]) rfl hD (Nat.le_of_ble_eq_true rfl) rfl (fun p e s m args below meth c X => sM_part X o x1 x3 x5 ho N h)
-- ExactCurvesModel.partUp(JJJ)J
theorem dq_M_partUp_0 : decode prog_10_method_6_code 0 = .ok (.aload_n 0, 1) := by decide +kernel
theorem dq_M_partUp_1 : decode prog_10_method_6_code 1 = .ok (.lload_n 1, 1) := by decide +kernel
theorem dq_M_partUp_2 : decode prog_10_method_6_code 2 = .ok (.lload_n 3, 1) := by decide +kernel
theorem dq_M_partUp_3 : decode prog_10_method_6_code 3 = .ok (.lload 5, 2) := by decide +kernel
theorem dq_M_partUp_5 : decode prog_10_method_6_code 5 = .ok (.invokevirtual 141, 3) := by decide +kernel
theorem dq_M_partUp_8 : decode prog_10_method_6_code 8 = .ok (.lstore 7, 2) := by decide +kernel
theorem dq_M_partUp_10 : decode prog_10_method_6_code 10 = .ok (.aload_n 0, 1) := by decide +kernel
theorem dq_M_partUp_11 : decode prog_10_method_6_code 11 = .ok (.getfield 122, 3) := by decide +kernel
theorem dq_M_partUp_14 : decode prog_10_method_6_code 14 = .ok (.lconst 0, 1) := by decide +kernel
theorem dq_M_partUp_15 : decode prog_10_method_6_code 15 = .ok (.lcmp, 1) := by decide +kernel
theorem dq_M_partUp_16 : decode prog_10_method_6_code 16 = .ok (.ifCond .le 10, 3) := by decide +kernel
theorem dq_M_partUp_19 : decode prog_10_method_6_code 19 = .ok (.lload 7, 2) := by decide +kernel
theorem dq_M_partUp_21 : decode prog_10_method_6_code 21 = .ok (.lconst 1, 1) := by decide +kernel
theorem dq_M_partUp_22 : decode prog_10_method_6_code 22 = .ok (.ladd, 1) := by decide +kernel
theorem dq_M_partUp_23 : decode prog_10_method_6_code 23 = .ok (.goto 5, 3) := by decide +kernel
theorem dq_M_partUp_26 : decode prog_10_method_6_code 26 = .ok (.lload 7, 2) := by decide +kernel
theorem dq_M_partUp_28 : decode prog_10_method_6_code 28 = .ok (.lreturn, 1) := by decide +kernel
def fM_partUp (o : Nat) (x1 : Int64) (x3 : Int64) (x5 : Int64) (N : qz_N) : Option (Int64 × qz_N) :=
  (fM_part o x1 x3 x5 N).bind fun q1 =>
  if (qz_gl q1.2 7 o 41) ≤ (0 : Int64) then
    some (q1.1, q1.2)
  else
  some (q1.1 + (1 : Int64), q1.2)
set_option maxRecDepth 100000 in
set_option maxHeartbeats 4000000 in
theorem sM_partUp {p : Program} {l : Launch} {e : Env} {s : State} {m : MethodId} {args : Array Value} {below : List Frame} {meth : Method} {c : Code} {G : qz_G} (X : qz_X p s m args meth c "ExactCurvesModel" prog_10_method_6_code 9 (some .long) G) {r : (Int64 × qz_N)} (o : Nat) (x1 : Int64) (x3 : Int64) (x5 : Int64) (ho : o < 1) (N : qz_N) (h : fM_partUp o x1 x3 x5 N = some r) : qz_W p l e (qz_R 2) s m args below meth c 0 0 (MQ below (qz_Q G r.2 (some (.long r.1))) args s 0 0 (qz_A G)) G s.heap 9 N 0 [(0, .ref (G.2.2 7 o)), (1, .long x1), (3, .long x3), (5, .long x5)] [] := by
  unfold fM_partUp at h
  refine qz_aload_n X 0 rfl dq_M_partUp_0 ?_
  refine qz_lload_n X 1 rfl dq_M_partUp_1 ?_
  refine qz_lload_n X 2 rfl dq_M_partUp_2 ?_
  refine qz_lload X 3 rfl dq_M_partUp_3 ?_
  refine qz_bind h (fun q1 e2 h => ?_)
  refine qz_callV X (as := [.long x1, .long x3, .long x5]) (st := []) (o := some (.long q1.1)) (N' := q1.2) cq_M_141 ho (cM_part l G X.2.2.2.2.2.2.1 o x1 x3 x5 N ho _ e2) ⟨by decide, by decide⟩ rfl rfl (Nat.le_of_ble_eq_true rfl) ⟨Nat.zero_le _, Nat.zero_le _⟩ dq_M_partUp_5 ?_
  refine qz_lstore X (lv' := [(7, .long q1.1), (0, .ref (G.2.2 7 o)), (1, .long x1), (3, .long x3), (5, .long x5)]) (by decide) rfl dq_M_partUp_8 ?_
  refine qz_aload_n X 1 rfl dq_M_partUp_10 ?_
  refine qz_get X (v := .long (qz_gl q1.2 7 o 41)) kq_M_122 ho rfl dq_M_partUp_11 ?_
  refine qz_lconst X (v := (0 : Int64)) (by decide) dq_M_partUp_14 ?_
  refine qz_lcmp_le X (tgt := 26) (by decide) dq_M_partUp_15 dq_M_partUp_16 h (fun _ h => ?_) (fun _ h => ?_)
  · refine qz_lload X 0 rfl dq_M_partUp_26 ?_
    exact qz_lret X h dq_M_partUp_28
  · refine qz_lload X 0 rfl dq_M_partUp_19 ?_
    refine qz_lconst X (v := (1 : Int64)) (by decide) dq_M_partUp_21 ?_
    refine qz_ladd X dq_M_partUp_22 ?_
    refine qz_goto X (tgt := 28) (by decide) dq_M_partUp_23 ?_
    exact qz_lret X h dq_M_partUp_28
theorem cM_partUp (l : Launch) (G : qz_G) (hD : qz_D G) (o : Nat) (x1 : Int64) (x3 : Int64) (x5 : Int64) (N : qz_N) (ho : o < 1) (r : (Int64 × qz_N)) (h : fM_partUp o x1 x3 x5 N = some r) : qz_M l yM_partUp prog_10_method_6_code 9 (some .long) 2 G [.ref (G.2.2 7 o), .long x1, .long x3, .long x5] N (some (.long r.1)) r.2 :=
  qz_enter (lv := [(0, .ref (G.2.2 7 o)), (1, .long x1), (3, .long x3), (5, .long x5)]) rfl hD (Nat.le_of_ble_eq_true rfl) rfl (fun p e s m args below meth c X => sM_partUp X o x1 x3 x5 ho N h)
-- ExactCurvesModel.keepBig()V
theorem dq_M_keepBig_0 : decode prog_10_method_7_code 0 = .ok (.iconst 0, 1) := by decide +kernel
theorem dq_M_keepBig_1 : decode prog_10_method_7_code 1 = .ok (.istore_n 1, 1) := by decide +kernel
theorem dq_M_keepBig_2 : decode prog_10_method_7_code 2 = .ok (.iload_n 1, 1) := by decide +kernel
theorem dq_M_keepBig_3 : decode prog_10_method_7_code 3 = .ok (.bipush 6, 2) := by decide +kernel
theorem dq_M_keepBig_5 : decode prog_10_method_7_code 5 = .ok (.if_icmp .ge 21, 3) := by decide +kernel
theorem dq_M_keepBig_8 : decode prog_10_method_7_code 8 = .ok (.aload_n 0, 1) := by decide +kernel
theorem dq_M_keepBig_9 : decode prog_10_method_7_code 9 = .ok (.getfield 109, 3) := by decide +kernel
theorem dq_M_keepBig_12 : decode prog_10_method_7_code 12 = .ok (.iload_n 1, 1) := by decide +kernel
theorem dq_M_keepBig_13 : decode prog_10_method_7_code 13 = .ok (.aload_n 0, 1) := by decide +kernel
theorem dq_M_keepBig_14 : decode prog_10_method_7_code 14 = .ok (.getfield 106, 3) := by decide +kernel
theorem dq_M_keepBig_17 : decode prog_10_method_7_code 17 = .ok (.iload_n 1, 1) := by decide +kernel
theorem dq_M_keepBig_18 : decode prog_10_method_7_code 18 = .ok (.laload, 1) := by decide +kernel
theorem dq_M_keepBig_19 : decode prog_10_method_7_code 19 = .ok (.lastore, 1) := by decide +kernel
theorem dq_M_keepBig_20 : decode prog_10_method_7_code 20 = .ok (.iinc 1 1, 3) := by decide +kernel
theorem dq_M_keepBig_23 : decode prog_10_method_7_code 23 = .ok (.goto (-21), 3) := by decide +kernel
theorem dq_M_keepBig_26 : decode prog_10_method_7_code 26 = .ok (.return_, 1) := by decide +kernel
def fM_keepBig_2b (y0 : Nat) (k2 : qz_N × Int32 → Option (Unit × qz_N)) (N : qz_N) (x1 : Int32) : Option (Unit × qz_N) :=
  if (6 : Int32) ≤ x1 then
    some ((), N)
  else
  if x1 < 0 ∨ 6 ≤ x1.toNatClampNeg then none else
  if x1 < 0 ∨ 6 ≤ x1.toNatClampNeg then none else
  qz_let (qz_sl N 53 y0 x1.toNatClampNeg (qz_gl N 52 y0 x1.toNatClampNeg)) fun N1 =>
  qz_let (x1 + (1 : Int32)) fun v2 =>
  k2 (N1, v2)
def fM_keepBig_2 (y0 : Nat) (n : Nat) (a : qz_N × Int32) : Option (Unit × qz_N) := qz_loop (fun k a => fM_keepBig_2b y0 k a.1 a.2) n a
def fM_keepBig (o : Nat) (N : qz_N) : Option (Unit × qz_N) :=
  fM_keepBig_2 o 1100 (N, (0 : Int32))
set_option maxRecDepth 100000 in
set_option maxHeartbeats 4000000 in
theorem sM_keepBig_2b {p : Program} {l : Launch} {e : Env} {s : State} {m : MethodId} {args : Array Value} {below : List Frame} {meth : Method} {c : Code} {G : qz_G} (X : qz_X p s m args meth c "ExactCurvesModel" prog_10_method_7_code 2 none G) {r : (Unit × qz_N)} (y0 : Nat) (hy0 : y0 < 1) (k2 : qz_N × Int32 → Option (Unit × qz_N)) (hk2 : ∀ a, k2 a = some r → qz_W p l e (qz_R 0) s m args below meth c 0 0 (MQ below (qz_Q G r.2 none) args s 0 0 (qz_A G)) G s.heap 2 a.1 2 [(1, .int a.2), (0, .ref (G.2.2 7 y0))] []) (N : qz_N) (x1 : Int32) (h : fM_keepBig_2b y0 k2 N x1 = some r) : qz_W p l e (qz_R 0) s m args below meth c 0 0 (MQ below (qz_Q G r.2 none) args s 0 0 (qz_A G)) G s.heap 2 N 2 [(1, .int x1), (0, .ref (G.2.2 7 y0))] [] := by
  unfold fM_keepBig_2b at h
  refine qz_iload_n X 0 rfl dq_M_keepBig_2 ?_
  refine qz_bipush X (v := (6 : Int32)) (by decide) dq_M_keepBig_3 ?_
  refine qz_icmp_ge X (tgt := 26) (by decide) dq_M_keepBig_5 h (fun _ h => ?_) (fun _ h => ?_)
  · exact qz_vret X h dq_M_keepBig_26
  · refine qz_aload_n X 1 rfl dq_M_keepBig_8 ?_
    refine qz_get X (v := .ref (G.2.2 53 y0)) kq_M_109 hy0 rfl dq_M_keepBig_9 ?_
    refine qz_iload_n X 0 rfl dq_M_keepBig_12 ?_
    refine qz_aload_n X 1 rfl dq_M_keepBig_13 ?_
    refine qz_get X (v := .ref (G.2.2 52 y0)) kq_M_106 hy0 rfl dq_M_keepBig_14 ?_
    refine qz_iload_n X 0 rfl dq_M_keepBig_17 ?_
    refine qz_lald X (c0 := 52) (i := y0) (n := 6) rfl hy0 dq_M_keepBig_18 h (fun h => ?_)
    refine qz_last X (c0 := 53) (i := y0) (n := 6) rfl hy0 dq_M_keepBig_19 h (fun N1 h => ?_)
    refine qz_iinc_l X (u := (1 : Int32)) (lv' := fun v2 => [(1, .int v2), (0, .ref (G.2.2 7 y0))]) (k := 0) rfl (by decide) (by decide) (fun _ => rfl) dq_M_keepBig_20 h (fun v2 h => ?_)
    refine qz_goto X (tgt := 2) (by decide) dq_M_keepBig_23 ?_
    refine qz_sub [0, 1] rfl ?_
    exact hk2 (N1, v2) h
theorem sM_keepBig_2 {p : Program} {l : Launch} {e : Env} {s : State} {m : MethodId} {args : Array Value} {below : List Frame} {meth : Method} {c : Code} {G : qz_G} (X : qz_X p s m args meth c "ExactCurvesModel" prog_10_method_7_code 2 none G) {r : (Unit × qz_N)} (y0 : Nat) (hy0 : y0 < 1) (n : Nat) (a : qz_N × Int32) (h : fM_keepBig_2 y0 n a = some r) : qz_W p l e (qz_R 0) s m args below meth c 0 0 (MQ below (qz_Q G r.2 none) args s 0 0 (qz_A G)) G s.heap 2 a.1 2 [(1, .int a.2), (0, .ref (G.2.2 7 y0))] [] :=
  qz_loop_ind (P := fun a => qz_W p l e (qz_R 0) s m args below meth c 0 0 (MQ below (qz_Q G r.2 none) args s 0 0 (qz_A G)) G s.heap 2 a.1 2 [(1, .int a.2), (0, .ref (G.2.2 7 y0))] []) (fun k hk a h => sM_keepBig_2b X y0 hy0 k hk a.1 a.2 h) n a h
set_option maxRecDepth 100000 in
set_option maxHeartbeats 4000000 in
theorem sM_keepBig {p : Program} {l : Launch} {e : Env} {s : State} {m : MethodId} {args : Array Value} {below : List Frame} {meth : Method} {c : Code} {G : qz_G} (X : qz_X p s m args meth c "ExactCurvesModel" prog_10_method_7_code 2 none G) {r : (Unit × qz_N)} (o : Nat) (ho : o < 1) (N : qz_N) (h : fM_keepBig o N = some r) : qz_W p l e (qz_R 0) s m args below meth c 0 0 (MQ below (qz_Q G r.2 none) args s 0 0 (qz_A G)) G s.heap 2 N 0 [(0, .ref (G.2.2 7 o))] [] := by
  unfold fM_keepBig at h
  refine qz_iconst X (v := (0 : Int32)) (by decide) dq_M_keepBig_0 ?_
  refine qz_istore_n X (lv' := [(1, .int (0 : Int32)), (0, .ref (G.2.2 7 o))]) rfl (by decide) rfl dq_M_keepBig_1 ?_
  refine qz_sub [0, 1] rfl ?_
  exact sM_keepBig_2 X o ho 1100 (N, (0 : Int32)) h
theorem cM_keepBig (l : Launch) (G : qz_G) (hD : qz_D G) (o : Nat) (N : qz_N) (ho : o < 1) (r : (Unit × qz_N)) (h : fM_keepBig o N = some r) : qz_M l yM_keepBig prog_10_method_7_code 2 none 0 G [.ref (G.2.2 7 o)] N none r.2 :=
  qz_enter (lv := [(0, .ref (G.2.2 7 o))]) rfl hD (Nat.le_of_ble_eq_true rfl) rfl (fun p e s m args below meth c X => sM_keepBig X o ho N h)
-- ExactCurvesModel.keptIsLess()Z
theorem dq_M_keptIsLess_0 : decode prog_10_method_8_code 0 = .ok (.iconst 5, 1) := by decide +kernel
theorem dq_M_keptIsLess_1 : decode prog_10_method_8_code 1 = .ok (.istore_n 1, 1) := by decide +kernel
theorem dq_M_keptIsLess_2 : decode prog_10_method_8_code 2 = .ok (.iload_n 1, 1) := by decide +kernel
theorem dq_M_keptIsLess_3 : decode prog_10_method_8_code 3 = .ok (.ifCond .le 25, 3) := by decide +kernel
theorem dq_M_keptIsLess_6 : decode prog_10_method_8_code 6 = .ok (.aload_n 0, 1) := by decide +kernel
theorem dq_M_keptIsLess_7 : decode prog_10_method_8_code 7 = .ok (.getfield 109, 3) := by decide +kernel
theorem dq_M_keptIsLess_10 : decode prog_10_method_8_code 10 = .ok (.iload_n 1, 1) := by decide +kernel
theorem dq_M_keptIsLess_11 : decode prog_10_method_8_code 11 = .ok (.laload, 1) := by decide +kernel
theorem dq_M_keptIsLess_12 : decode prog_10_method_8_code 12 = .ok (.aload_n 0, 1) := by decide +kernel
theorem dq_M_keptIsLess_13 : decode prog_10_method_8_code 13 = .ok (.getfield 106, 3) := by decide +kernel
theorem dq_M_keptIsLess_16 : decode prog_10_method_8_code 16 = .ok (.iload_n 1, 1) := by decide +kernel
theorem dq_M_keptIsLess_17 : decode prog_10_method_8_code 17 = .ok (.laload, 1) := by decide +kernel
theorem dq_M_keptIsLess_18 : decode prog_10_method_8_code 18 = .ok (.lcmp, 1) := by decide +kernel
theorem dq_M_keptIsLess_19 : decode prog_10_method_8_code 19 = .ok (.ifCond .ne 9, 3) := by decide +kernel
theorem dq_M_keptIsLess_22 : decode prog_10_method_8_code 22 = .ok (.iinc 1 (-1), 3) := by decide +kernel
theorem dq_M_keptIsLess_25 : decode prog_10_method_8_code 25 = .ok (.goto (-23), 3) := by decide +kernel
theorem dq_M_keptIsLess_28 : decode prog_10_method_8_code 28 = .ok (.aload_n 0, 1) := by decide +kernel
theorem dq_M_keptIsLess_29 : decode prog_10_method_8_code 29 = .ok (.getfield 109, 3) := by decide +kernel
theorem dq_M_keptIsLess_32 : decode prog_10_method_8_code 32 = .ok (.iload_n 1, 1) := by decide +kernel
theorem dq_M_keptIsLess_33 : decode prog_10_method_8_code 33 = .ok (.laload, 1) := by decide +kernel
theorem dq_M_keptIsLess_34 : decode prog_10_method_8_code 34 = .ok (.aload_n 0, 1) := by decide +kernel
theorem dq_M_keptIsLess_35 : decode prog_10_method_8_code 35 = .ok (.getfield 106, 3) := by decide +kernel
theorem dq_M_keptIsLess_38 : decode prog_10_method_8_code 38 = .ok (.iload_n 1, 1) := by decide +kernel
theorem dq_M_keptIsLess_39 : decode prog_10_method_8_code 39 = .ok (.laload, 1) := by decide +kernel
theorem dq_M_keptIsLess_40 : decode prog_10_method_8_code 40 = .ok (.lcmp, 1) := by decide +kernel
theorem dq_M_keptIsLess_41 : decode prog_10_method_8_code 41 = .ok (.ifCond .ge 7, 3) := by decide +kernel
theorem dq_M_keptIsLess_44 : decode prog_10_method_8_code 44 = .ok (.iconst 1, 1) := by decide +kernel
theorem dq_M_keptIsLess_45 : decode prog_10_method_8_code 45 = .ok (.goto 4, 3) := by decide +kernel
theorem dq_M_keptIsLess_48 : decode prog_10_method_8_code 48 = .ok (.iconst 0, 1) := by decide +kernel
theorem dq_M_keptIsLess_49 : decode prog_10_method_8_code 49 = .ok (.ireturn, 1) := by decide +kernel
def fM_keptIsLess_28 (y0 : Nat) (N : qz_N) (x1 : Int32) : Option (Int32 × qz_N) :=
  if x1 < 0 ∨ 6 ≤ x1.toNatClampNeg then none else
  if x1 < 0 ∨ 6 ≤ x1.toNatClampNeg then none else
  if (qz_gl N 52 y0 x1.toNatClampNeg) ≤ (qz_gl N 53 y0 x1.toNatClampNeg) then
    some ((0 : Int32), N)
  else
  some ((1 : Int32), N)
def fM_keptIsLess_2b (y0 : Nat) (k2 : qz_N × Int32 → Option (Int32 × qz_N)) (N : qz_N) (x1 : Int32) : Option (Int32 × qz_N) :=
  if x1 ≤ 0 then
    fM_keptIsLess_28 y0 N x1
  else
  if x1 < 0 ∨ 6 ≤ x1.toNatClampNeg then none else
  if x1 < 0 ∨ 6 ≤ x1.toNatClampNeg then none else
  if (qz_gl N 53 y0 x1.toNatClampNeg) = (qz_gl N 52 y0 x1.toNatClampNeg) then
    qz_let (x1 + (-1 : Int32)) fun v1 =>
    k2 (N, v1)
  else
  fM_keptIsLess_28 y0 N x1
def fM_keptIsLess_2 (y0 : Nat) (n : Nat) (a : qz_N × Int32) : Option (Int32 × qz_N) := qz_loop (fun k a => fM_keptIsLess_2b y0 k a.1 a.2) n a
def fM_keptIsLess (o : Nat) (N : qz_N) : Option (Int32 × qz_N) :=
  fM_keptIsLess_2 o 1100 (N, (5 : Int32))
set_option maxRecDepth 100000 in
set_option maxHeartbeats 4000000 in
theorem sM_keptIsLess_28 {p : Program} {l : Launch} {e : Env} {s : State} {m : MethodId} {args : Array Value} {below : List Frame} {meth : Method} {c : Code} {G : qz_G} (X : qz_X p s m args meth c "ExactCurvesModel" prog_10_method_8_code 2 (some .boolean) G) {r : (Int32 × qz_N)} (y0 : Nat) (hy0 : y0 < 1) (N : qz_N) (x1 : Int32) (h : fM_keptIsLess_28 y0 N x1 = some r) : qz_W p l e (qz_R 0) s m args below meth c 0 0 (MQ below (qz_Q G r.2 (some (.int r.1))) args s 0 0 (qz_A G)) G s.heap 2 N 28 [(1, .int x1), (0, .ref (G.2.2 7 y0))] [] := by
  unfold fM_keptIsLess_28 at h
  refine qz_aload_n X 1 rfl dq_M_keptIsLess_28 ?_
  refine qz_get X (v := .ref (G.2.2 53 y0)) kq_M_109 hy0 rfl dq_M_keptIsLess_29 ?_
  refine qz_iload_n X 0 rfl dq_M_keptIsLess_32 ?_
  refine qz_lald X (c0 := 53) (i := y0) (n := 6) rfl hy0 dq_M_keptIsLess_33 h (fun h => ?_)
  refine qz_aload_n X 1 rfl dq_M_keptIsLess_34 ?_
  refine qz_get X (v := .ref (G.2.2 52 y0)) kq_M_106 hy0 rfl dq_M_keptIsLess_35 ?_
  refine qz_iload_n X 0 rfl dq_M_keptIsLess_38 ?_
  refine qz_lald X (c0 := 52) (i := y0) (n := 6) rfl hy0 dq_M_keptIsLess_39 h (fun h => ?_)
  refine qz_lcmp_ge X (tgt := 48) (by decide) dq_M_keptIsLess_40 dq_M_keptIsLess_41 h (fun _ h => ?_) (fun _ h => ?_)
  · refine qz_iconst X (v := (0 : Int32)) (by decide) dq_M_keptIsLess_48 ?_
    exact qz_zret X (by decide) h dq_M_keptIsLess_49
  · refine qz_iconst X (v := (1 : Int32)) (by decide) dq_M_keptIsLess_44 ?_
    refine qz_goto X (tgt := 49) (by decide) dq_M_keptIsLess_45 ?_
    exact qz_zret X (by decide) h dq_M_keptIsLess_49
set_option maxRecDepth 100000 in
set_option maxHeartbeats 4000000 in
theorem sM_keptIsLess_2b {p : Program} {l : Launch} {e : Env} {s : State} {m : MethodId} {args : Array Value} {below : List Frame} {meth : Method} {c : Code} {G : qz_G} (X : qz_X p s m args meth c "ExactCurvesModel" prog_10_method_8_code 2 (some .boolean) G) {r : (Int32 × qz_N)} (y0 : Nat) (hy0 : y0 < 1) (k2 : qz_N × Int32 → Option (Int32 × qz_N)) (hk2 : ∀ a, k2 a = some r → qz_W p l e (qz_R 0) s m args below meth c 0 0 (MQ below (qz_Q G r.2 (some (.int r.1))) args s 0 0 (qz_A G)) G s.heap 2 a.1 2 [(1, .int a.2), (0, .ref (G.2.2 7 y0))] []) (N : qz_N) (x1 : Int32) (h : fM_keptIsLess_2b y0 k2 N x1 = some r) : qz_W p l e (qz_R 0) s m args below meth c 0 0 (MQ below (qz_Q G r.2 (some (.int r.1))) args s 0 0 (qz_A G)) G s.heap 2 N 2 [(1, .int x1), (0, .ref (G.2.2 7 y0))] [] := by
  unfold fM_keptIsLess_2b at h
  refine qz_iload_n X 0 rfl dq_M_keptIsLess_2 ?_
  refine qz_if_le X (tgt := 28) (by decide) dq_M_keptIsLess_3 h (fun _ h => ?_) (fun _ h => ?_)
  · refine qz_sub [0, 1] rfl ?_
    exact sM_keptIsLess_28 X y0 hy0 N x1 h
  · refine qz_aload_n X 1 rfl dq_M_keptIsLess_6 ?_
    refine qz_get X (v := .ref (G.2.2 53 y0)) kq_M_109 hy0 rfl dq_M_keptIsLess_7 ?_
    refine qz_iload_n X 0 rfl dq_M_keptIsLess_10 ?_
    refine qz_lald X (c0 := 53) (i := y0) (n := 6) rfl hy0 dq_M_keptIsLess_11 h (fun h => ?_)
    refine qz_aload_n X 1 rfl dq_M_keptIsLess_12 ?_
    refine qz_get X (v := .ref (G.2.2 52 y0)) kq_M_106 hy0 rfl dq_M_keptIsLess_13 ?_
    refine qz_iload_n X 0 rfl dq_M_keptIsLess_16 ?_
    refine qz_lald X (c0 := 52) (i := y0) (n := 6) rfl hy0 dq_M_keptIsLess_17 h (fun h => ?_)
    refine qz_lcmp_ne X (tgt := 28) (by decide) dq_M_keptIsLess_18 dq_M_keptIsLess_19 h (fun _ h => ?_) (fun _ h => ?_)
    · refine qz_sub [0, 1] rfl ?_
      exact sM_keptIsLess_28 X y0 hy0 N x1 h
    · refine qz_iinc_l X (u := (-1 : Int32)) (lv' := fun v1 => [(1, .int v1), (0, .ref (G.2.2 7 y0))]) (k := 0) rfl (by decide) (by decide) (fun _ => rfl) dq_M_keptIsLess_22 h (fun v1 h => ?_)
      refine qz_goto X (tgt := 2) (by decide) dq_M_keptIsLess_25 ?_
      refine qz_sub [0, 1] rfl ?_
      exact hk2 (N, v1) h
theorem sM_keptIsLess_2 {p : Program} {l : Launch} {e : Env} {s : State} {m : MethodId} {args : Array Value} {below : List Frame} {meth : Method} {c : Code} {G : qz_G} (X : qz_X p s m args meth c "ExactCurvesModel" prog_10_method_8_code 2 (some .boolean) G) {r : (Int32 × qz_N)} (y0 : Nat) (hy0 : y0 < 1) (n : Nat) (a : qz_N × Int32) (h : fM_keptIsLess_2 y0 n a = some r) : qz_W p l e (qz_R 0) s m args below meth c 0 0 (MQ below (qz_Q G r.2 (some (.int r.1))) args s 0 0 (qz_A G)) G s.heap 2 a.1 2 [(1, .int a.2), (0, .ref (G.2.2 7 y0))] [] :=
  qz_loop_ind (P := fun a => qz_W p l e (qz_R 0) s m args below meth c 0 0 (MQ below (qz_Q G r.2 (some (.int r.1))) args s 0 0 (qz_A G)) G s.heap 2 a.1 2 [(1, .int a.2), (0, .ref (G.2.2 7 y0))] []) (fun k hk a h => sM_keptIsLess_2b X y0 hy0 k hk a.1 a.2 h) n a h
set_option maxRecDepth 100000 in
set_option maxHeartbeats 4000000 in
theorem sM_keptIsLess {p : Program} {l : Launch} {e : Env} {s : State} {m : MethodId} {args : Array Value} {below : List Frame} {meth : Method} {c : Code} {G : qz_G} (X : qz_X p s m args meth c "ExactCurvesModel" prog_10_method_8_code 2 (some .boolean) G) {r : (Int32 × qz_N)} (o : Nat) (ho : o < 1) (N : qz_N) (h : fM_keptIsLess o N = some r) : qz_W p l e (qz_R 0) s m args below meth c 0 0 (MQ below (qz_Q G r.2 (some (.int r.1))) args s 0 0 (qz_A G)) G s.heap 2 N 0 [(0, .ref (G.2.2 7 o))] [] := by
  unfold fM_keptIsLess at h
  refine qz_iconst X (v := (5 : Int32)) (by decide) dq_M_keptIsLess_0 ?_
  refine qz_istore_n X (lv' := [(1, .int (5 : Int32)), (0, .ref (G.2.2 7 o))]) rfl (by decide) rfl dq_M_keptIsLess_1 ?_
  refine qz_sub [0, 1] rfl ?_
  exact sM_keptIsLess_2 X o ho 1100 (N, (5 : Int32)) h
theorem cM_keptIsLess (l : Launch) (G : qz_G) (hD : qz_D G) (o : Nat) (N : qz_N) (ho : o < 1) (r : (Int32 × qz_N)) (h : fM_keptIsLess o N = some r) : qz_M l yM_keptIsLess prog_10_method_8_code 2 (some .boolean) 0 G [.ref (G.2.2 7 o)] N (some (.int r.1)) r.2 :=
  qz_enter (lv := [(0, .ref (G.2.2 7 o))]) rfl hD (Nat.le_of_ble_eq_true rfl) rfl (fun p e s m args below meth c X => sM_keptIsLess X o ho N h)
-- ExactCurvesModel.least(JJ)J
theorem dq_M_least_0 : decode prog_10_method_9_code 0 = .ok (.lload_n 0, 1) := by decide +kernel
theorem dq_M_least_1 : decode prog_10_method_9_code 1 = .ok (.lload_n 2, 1) := by decide +kernel
theorem dq_M_least_2 : decode prog_10_method_9_code 2 = .ok (.lcmp, 1) := by decide +kernel
theorem dq_M_least_3 : decode prog_10_method_9_code 3 = .ok (.ifCond .ge 7, 3) := by decide +kernel
theorem dq_M_least_6 : decode prog_10_method_9_code 6 = .ok (.lload_n 0, 1) := by decide +kernel
theorem dq_M_least_7 : decode prog_10_method_9_code 7 = .ok (.goto 4, 3) := by decide +kernel
theorem dq_M_least_10 : decode prog_10_method_9_code 10 = .ok (.lload_n 2, 1) := by decide +kernel
theorem dq_M_least_11 : decode prog_10_method_9_code 11 = .ok (.lreturn, 1) := by decide +kernel
def fM_least (x0 : Int64) (x2 : Int64) (N : qz_N) : Option (Int64 × qz_N) :=
  if x2 ≤ x0 then
    some (x2, N)
  else
  some (x0, N)
set_option maxRecDepth 100000 in
set_option maxHeartbeats 4000000 in
theorem sM_least {p : Program} {l : Launch} {e : Env} {s : State} {m : MethodId} {args : Array Value} {below : List Frame} {meth : Method} {c : Code} {G : qz_G} (X : qz_X p s m args meth c "ExactCurvesModel" prog_10_method_9_code 4 (some .long) G) {r : (Int64 × qz_N)} (x0 : Int64) (x2 : Int64) (N : qz_N) (h : fM_least x0 x2 N = some r) : qz_W p l e (qz_R 0) s m args below meth c 0 0 (MQ below (qz_Q G r.2 (some (.long r.1))) args s 0 0 (qz_A G)) G s.heap 4 N 0 [(0, .long x0), (2, .long x2)] [] := by
  unfold fM_least at h
  refine qz_lload_n X 0 rfl dq_M_least_0 ?_
  refine qz_lload_n X 1 rfl dq_M_least_1 ?_
  refine qz_lcmp_ge X (tgt := 10) (by decide) dq_M_least_2 dq_M_least_3 h (fun _ h => ?_) (fun _ h => ?_)
  · refine qz_lload_n X 1 rfl dq_M_least_10 ?_
    exact qz_lret X h dq_M_least_11
  · refine qz_lload_n X 0 rfl dq_M_least_6 ?_
    refine qz_goto X (tgt := 11) (by decide) dq_M_least_7 ?_
    exact qz_lret X h dq_M_least_11
theorem cM_least (l : Launch) (G : qz_G) (hD : qz_D G) (x0 : Int64) (x2 : Int64) (N : qz_N) (r : (Int64 × qz_N)) (h : fM_least x0 x2 N = some r) : qz_M l yM_least prog_10_method_9_code 4 (some .long) 0 G [.long x0, .long x2] N (some (.long r.1)) r.2 :=
  qz_enter (lv := [(0, .long x0), (2, .long x2)]) rfl hD (Nat.le_of_ble_eq_true rfl) rfl (fun p e s m args below meth c X => sM_least X x0 x2 N h)
-- ExactCurvesModel.isPlayer(I)Z
theorem dq_M_isPlayer_0 : decode prog_10_method_10_code 0 = .ok (.iload_n 0, 1) := by decide +kernel
theorem dq_M_isPlayer_1 : decode prog_10_method_10_code 1 = .ok (.ifCond .lt 13, 3) := by decide +kernel
theorem dq_M_isPlayer_4 : decode prog_10_method_10_code 4 = .ok (.iload_n 0, 1) := by decide +kernel
theorem dq_M_isPlayer_5 : decode prog_10_method_10_code 5 = .ok (.bipush 6, 2) := by decide +kernel
theorem dq_M_isPlayer_7 : decode prog_10_method_10_code 7 = .ok (.if_icmp .ge 7, 3) := by decide +kernel
theorem dq_M_isPlayer_10 : decode prog_10_method_10_code 10 = .ok (.iconst 1, 1) := by decide +kernel
theorem dq_M_isPlayer_11 : decode prog_10_method_10_code 11 = .ok (.goto 4, 3) := by decide +kernel
theorem dq_M_isPlayer_14 : decode prog_10_method_10_code 14 = .ok (.iconst 0, 1) := by decide +kernel
theorem dq_M_isPlayer_15 : decode prog_10_method_10_code 15 = .ok (.ireturn, 1) := by decide +kernel
def fM_isPlayer (x0 : Int32) (N : qz_N) : Option (Int32 × qz_N) :=
  if x0 < 0 then
    some ((0 : Int32), N)
  else
  if (6 : Int32) ≤ x0 then
    some ((0 : Int32), N)
  else
  some ((1 : Int32), N)
set_option maxRecDepth 100000 in
set_option maxHeartbeats 4000000 in
theorem sM_isPlayer {p : Program} {l : Launch} {e : Env} {s : State} {m : MethodId} {args : Array Value} {below : List Frame} {meth : Method} {c : Code} {G : qz_G} (X : qz_X p s m args meth c "ExactCurvesModel" prog_10_method_10_code 1 (some .boolean) G) {r : (Int32 × qz_N)} (x0 : Int32) (N : qz_N) (h : fM_isPlayer x0 N = some r) : qz_W p l e (qz_R 0) s m args below meth c 0 0 (MQ below (qz_Q G r.2 (some (.int r.1))) args s 0 0 (qz_A G)) G s.heap 1 N 0 [(0, .int x0)] [] := by
  unfold fM_isPlayer at h
  refine qz_iload_n X 0 rfl dq_M_isPlayer_0 ?_
  refine qz_if_lt X (tgt := 14) (by decide) dq_M_isPlayer_1 h (fun _ h => ?_) (fun _ h => ?_)
  · refine qz_iconst X (v := (0 : Int32)) (by decide) dq_M_isPlayer_14 ?_
    exact qz_zret X (by decide) h dq_M_isPlayer_15
  · refine qz_iload_n X 0 rfl dq_M_isPlayer_4 ?_
    refine qz_bipush X (v := (6 : Int32)) (by decide) dq_M_isPlayer_5 ?_
    refine qz_icmp_ge X (tgt := 14) (by decide) dq_M_isPlayer_7 h (fun _ h => ?_) (fun _ h => ?_)
    · refine qz_iconst X (v := (0 : Int32)) (by decide) dq_M_isPlayer_14 ?_
      exact qz_zret X (by decide) h dq_M_isPlayer_15
    · refine qz_iconst X (v := (1 : Int32)) (by decide) dq_M_isPlayer_10 ?_
      refine qz_goto X (tgt := 15) (by decide) dq_M_isPlayer_11 ?_
      exact qz_zret X (by decide) h dq_M_isPlayer_15
theorem cM_isPlayer (l : Launch) (G : qz_G) (hD : qz_D G) (x0 : Int32) (N : qz_N) (r : (Int32 × qz_N)) (h : fM_isPlayer x0 N = some r) : qz_M l yM_isPlayer prog_10_method_10_code 1 (some .boolean) 0 G [.int x0] N (some (.int r.1)) r.2 :=
  qz_enter (lv := [(0, .int x0)]) rfl hD (Nat.le_of_ble_eq_true rfl) rfl (fun p e s m args below meth c X => sM_isPlayer X x0 N h)
-- ExactCurvesModel.isToken(I)Z
theorem dq_M_isToken_0 : decode prog_10_method_11_code 0 = .ok (.iload_n 0, 1) := by decide +kernel
theorem dq_M_isToken_1 : decode prog_10_method_11_code 1 = .ok (.ifCond .lt 12, 3) := by decide +kernel
theorem dq_M_isToken_4 : decode prog_10_method_11_code 4 = .ok (.iload_n 0, 1) := by decide +kernel
theorem dq_M_isToken_5 : decode prog_10_method_11_code 5 = .ok (.iconst 4, 1) := by decide +kernel
theorem dq_M_isToken_6 : decode prog_10_method_11_code 6 = .ok (.if_icmp .ge 7, 3) := by decide +kernel
theorem dq_M_isToken_9 : decode prog_10_method_11_code 9 = .ok (.iconst 1, 1) := by decide +kernel
theorem dq_M_isToken_10 : decode prog_10_method_11_code 10 = .ok (.goto 4, 3) := by decide +kernel
theorem dq_M_isToken_13 : decode prog_10_method_11_code 13 = .ok (.iconst 0, 1) := by decide +kernel
theorem dq_M_isToken_14 : decode prog_10_method_11_code 14 = .ok (.ireturn, 1) := by decide +kernel
def fM_isToken (x0 : Int32) (N : qz_N) : Option (Int32 × qz_N) :=
  if x0 < 0 then
    some ((0 : Int32), N)
  else
  if (4 : Int32) ≤ x0 then
    some ((0 : Int32), N)
  else
  some ((1 : Int32), N)
set_option maxRecDepth 100000 in
set_option maxHeartbeats 4000000 in
theorem sM_isToken {p : Program} {l : Launch} {e : Env} {s : State} {m : MethodId} {args : Array Value} {below : List Frame} {meth : Method} {c : Code} {G : qz_G} (X : qz_X p s m args meth c "ExactCurvesModel" prog_10_method_11_code 1 (some .boolean) G) {r : (Int32 × qz_N)} (x0 : Int32) (N : qz_N) (h : fM_isToken x0 N = some r) : qz_W p l e (qz_R 0) s m args below meth c 0 0 (MQ below (qz_Q G r.2 (some (.int r.1))) args s 0 0 (qz_A G)) G s.heap 1 N 0 [(0, .int x0)] [] := by
  unfold fM_isToken at h
  refine qz_iload_n X 0 rfl dq_M_isToken_0 ?_
  refine qz_if_lt X (tgt := 13) (by decide) dq_M_isToken_1 h (fun _ h => ?_) (fun _ h => ?_)
  · refine qz_iconst X (v := (0 : Int32)) (by decide) dq_M_isToken_13 ?_
    exact qz_zret X (by decide) h dq_M_isToken_14
  · refine qz_iload_n X 0 rfl dq_M_isToken_4 ?_
    refine qz_iconst X (v := (4 : Int32)) (by decide) dq_M_isToken_5 ?_
    refine qz_icmp_ge X (tgt := 13) (by decide) dq_M_isToken_6 h (fun _ h => ?_) (fun _ h => ?_)
    · refine qz_iconst X (v := (0 : Int32)) (by decide) dq_M_isToken_13 ?_
      exact qz_zret X (by decide) h dq_M_isToken_14
    · refine qz_iconst X (v := (1 : Int32)) (by decide) dq_M_isToken_9 ?_
      refine qz_goto X (tgt := 14) (by decide) dq_M_isToken_10 ?_
      exact qz_zret X (by decide) h dq_M_isToken_14
theorem cM_isToken (l : Launch) (G : qz_G) (hD : qz_D G) (x0 : Int32) (N : qz_N) (r : (Int32 × qz_N)) (h : fM_isToken x0 N = some r) : qz_M l yM_isToken prog_10_method_11_code 1 (some .boolean) 0 G [.int x0] N (some (.int r.1)) r.2 :=
  qz_enter (lv := [(0, .int x0)]) rfl hD (Nat.le_of_ble_eq_true rfl) rfl (fun p e s m args below meth c X => sM_isToken X x0 N h)
-- ExactCurvesModel.isPool(I)Z
theorem dq_M_isPool_0 : decode prog_10_method_12_code 0 = .ok (.iload_n 1, 1) := by decide +kernel
theorem dq_M_isPool_1 : decode prog_10_method_12_code 1 = .ok (.ifCond .lt 15, 3) := by decide +kernel
theorem dq_M_isPool_4 : decode prog_10_method_12_code 4 = .ok (.iload_n 1, 1) := by decide +kernel
theorem dq_M_isPool_5 : decode prog_10_method_12_code 5 = .ok (.aload_n 0, 1) := by decide +kernel
theorem dq_M_isPool_6 : decode prog_10_method_12_code 6 = .ok (.getfield 145, 3) := by decide +kernel
theorem dq_M_isPool_9 : decode prog_10_method_12_code 9 = .ok (.if_icmp .ge 7, 3) := by decide +kernel
theorem dq_M_isPool_12 : decode prog_10_method_12_code 12 = .ok (.iconst 1, 1) := by decide +kernel
theorem dq_M_isPool_13 : decode prog_10_method_12_code 13 = .ok (.goto 4, 3) := by decide +kernel
theorem dq_M_isPool_16 : decode prog_10_method_12_code 16 = .ok (.iconst 0, 1) := by decide +kernel
theorem dq_M_isPool_17 : decode prog_10_method_12_code 17 = .ok (.ireturn, 1) := by decide +kernel
def fM_isPool (o : Nat) (x1 : Int32) (N : qz_N) : Option (Int32 × qz_N) :=
  if x1 < 0 then
    some ((0 : Int32), N)
  else
  if (qz_gi N 7 o 3) ≤ x1 then
    some ((0 : Int32), N)
  else
  some ((1 : Int32), N)
set_option maxRecDepth 100000 in
set_option maxHeartbeats 4000000 in
theorem sM_isPool {p : Program} {l : Launch} {e : Env} {s : State} {m : MethodId} {args : Array Value} {below : List Frame} {meth : Method} {c : Code} {G : qz_G} (X : qz_X p s m args meth c "ExactCurvesModel" prog_10_method_12_code 2 (some .boolean) G) {r : (Int32 × qz_N)} (o : Nat) (x1 : Int32) (ho : o < 1) (N : qz_N) (h : fM_isPool o x1 N = some r) : qz_W p l e (qz_R 0) s m args below meth c 0 0 (MQ below (qz_Q G r.2 (some (.int r.1))) args s 0 0 (qz_A G)) G s.heap 2 N 0 [(0, .ref (G.2.2 7 o)), (1, .int x1)] [] := by
  unfold fM_isPool at h
  refine qz_iload_n X 1 rfl dq_M_isPool_0 ?_
  refine qz_if_lt X (tgt := 16) (by decide) dq_M_isPool_1 h (fun _ h => ?_) (fun _ h => ?_)
  · refine qz_iconst X (v := (0 : Int32)) (by decide) dq_M_isPool_16 ?_
    exact qz_zret X (by decide) h dq_M_isPool_17
  · refine qz_iload_n X 1 rfl dq_M_isPool_4 ?_
    refine qz_aload_n X 0 rfl dq_M_isPool_5 ?_
    refine qz_get X (v := .int (qz_gi N 7 o 3)) kq_M_145 ho rfl dq_M_isPool_6 ?_
    refine qz_icmp_ge X (tgt := 16) (by decide) dq_M_isPool_9 h (fun _ h => ?_) (fun _ h => ?_)
    · refine qz_iconst X (v := (0 : Int32)) (by decide) dq_M_isPool_16 ?_
      exact qz_zret X (by decide) h dq_M_isPool_17
    · refine qz_iconst X (v := (1 : Int32)) (by decide) dq_M_isPool_12 ?_
      refine qz_goto X (tgt := 17) (by decide) dq_M_isPool_13 ?_
      exact qz_zret X (by decide) h dq_M_isPool_17
theorem cM_isPool (l : Launch) (G : qz_G) (hD : qz_D G) (o : Nat) (x1 : Int32) (N : qz_N) (ho : o < 1) (r : (Int32 × qz_N)) (h : fM_isPool o x1 N = some r) : qz_M l yM_isPool prog_10_method_12_code 2 (some .boolean) 0 G [.ref (G.2.2 7 o), .int x1] N (some (.int r.1)) r.2 :=
  qz_enter (lv := [(0, .ref (G.2.2 7 o)), (1, .int x1)]) rfl hD (Nat.le_of_ble_eq_true rfl) rfl (fun p e s m args below meth c X => sM_isPool X o x1 ho N h)
-- ExactCurvesModel.isSide(I)Z
theorem dq_M_isSide_0 : decode prog_10_method_13_code 0 = .ok (.iload_n 0, 1) := by decide +kernel
theorem dq_M_isSide_1 : decode prog_10_method_13_code 1 = .ok (.ifCond .eq 8, 3) := by decide +kernel
theorem dq_M_isSide_4 : decode prog_10_method_13_code 4 = .ok (.iload_n 0, 1) := by decide +kernel
theorem dq_M_isSide_5 : decode prog_10_method_13_code 5 = .ok (.iconst 1, 1) := by decide +kernel
theorem dq_M_isSide_6 : decode prog_10_method_13_code 6 = .ok (.if_icmp .ne 7, 3) := by decide +kernel
theorem dq_M_isSide_9 : decode prog_10_method_13_code 9 = .ok (.iconst 1, 1) := by decide +kernel
theorem dq_M_isSide_10 : decode prog_10_method_13_code 10 = .ok (.goto 4, 3) := by decide +kernel
theorem dq_M_isSide_13 : decode prog_10_method_13_code 13 = .ok (.iconst 0, 1) := by decide +kernel
theorem dq_M_isSide_14 : decode prog_10_method_13_code 14 = .ok (.ireturn, 1) := by decide +kernel
def fM_isSide_9 (N : qz_N) : Option (Int32 × qz_N) :=
  some ((1 : Int32), N)
def fM_isSide (x0 : Int32) (N : qz_N) : Option (Int32 × qz_N) :=
  if x0 = 0 then
    fM_isSide_9 N
  else
  if x0 = (1 : Int32) then
    fM_isSide_9 N
  else
  some ((0 : Int32), N)
set_option maxRecDepth 100000 in
set_option maxHeartbeats 4000000 in
theorem sM_isSide_9 {p : Program} {l : Launch} {e : Env} {s : State} {m : MethodId} {args : Array Value} {below : List Frame} {meth : Method} {c : Code} {G : qz_G} (X : qz_X p s m args meth c "ExactCurvesModel" prog_10_method_13_code 1 (some .boolean) G) {r : (Int32 × qz_N)} (N : qz_N) (h : fM_isSide_9 N = some r) : qz_W p l e (qz_R 0) s m args below meth c 0 0 (MQ below (qz_Q G r.2 (some (.int r.1))) args s 0 0 (qz_A G)) G s.heap 1 N 9 [] [] := by
  unfold fM_isSide_9 at h
  refine qz_iconst X (v := (1 : Int32)) (by decide) dq_M_isSide_9 ?_
  refine qz_goto X (tgt := 14) (by decide) dq_M_isSide_10 ?_
  exact qz_zret X (by decide) h dq_M_isSide_14
set_option maxRecDepth 100000 in
set_option maxHeartbeats 4000000 in
theorem sM_isSide {p : Program} {l : Launch} {e : Env} {s : State} {m : MethodId} {args : Array Value} {below : List Frame} {meth : Method} {c : Code} {G : qz_G} (X : qz_X p s m args meth c "ExactCurvesModel" prog_10_method_13_code 1 (some .boolean) G) {r : (Int32 × qz_N)} (x0 : Int32) (N : qz_N) (h : fM_isSide x0 N = some r) : qz_W p l e (qz_R 0) s m args below meth c 0 0 (MQ below (qz_Q G r.2 (some (.int r.1))) args s 0 0 (qz_A G)) G s.heap 1 N 0 [(0, .int x0)] [] := by
  unfold fM_isSide at h
  refine qz_iload_n X 0 rfl dq_M_isSide_0 ?_
  refine qz_if_eq X (tgt := 9) (by decide) dq_M_isSide_1 h (fun _ h => ?_) (fun _ h => ?_)
  · refine qz_sub [] rfl ?_
    exact sM_isSide_9 X N h
  · refine qz_iload_n X 0 rfl dq_M_isSide_4 ?_
    refine qz_iconst X (v := (1 : Int32)) (by decide) dq_M_isSide_5 ?_
    refine qz_icmp_ne X (tgt := 13) (by decide) dq_M_isSide_6 h (fun _ h => ?_) (fun _ h => ?_)
    · refine qz_iconst X (v := (0 : Int32)) (by decide) dq_M_isSide_13 ?_
      exact qz_zret X (by decide) h dq_M_isSide_14
    · refine qz_sub [] rfl ?_
      exact sM_isSide_9 X N h
theorem cM_isSide (l : Launch) (G : qz_G) (hD : qz_D G) (x0 : Int32) (N : qz_N) (r : (Int32 × qz_N)) (h : fM_isSide x0 N = some r) : qz_M l yM_isSide prog_10_method_13_code 1 (some .boolean) 0 G [.int x0] N (some (.int r.1)) r.2 :=
  qz_enter (lv := [(0, .int x0)]) rfl hD (Nat.le_of_ble_eq_true rfl) rfl (fun p e s m args below meth c X => sM_isSide X x0 N h)
-- ExactCurvesModel.has(II)J
theorem dq_M_has_0 : decode prog_10_method_14_code 0 = .ok (.aload_n 0, 1) := by decide +kernel
theorem dq_M_has_1 : decode prog_10_method_14_code 1 = .ok (.getfield 7, 3) := by decide +kernel
theorem dq_M_has_4 : decode prog_10_method_14_code 4 = .ok (.iconst 4, 1) := by decide +kernel
theorem dq_M_has_5 : decode prog_10_method_14_code 5 = .ok (.iload_n 1, 1) := by decide +kernel
theorem dq_M_has_6 : decode prog_10_method_14_code 6 = .ok (.imul, 1) := by decide +kernel
theorem dq_M_has_7 : decode prog_10_method_14_code 7 = .ok (.iload_n 2, 1) := by decide +kernel
theorem dq_M_has_8 : decode prog_10_method_14_code 8 = .ok (.iadd, 1) := by decide +kernel
theorem dq_M_has_9 : decode prog_10_method_14_code 9 = .ok (.laload, 1) := by decide +kernel
theorem dq_M_has_10 : decode prog_10_method_14_code 10 = .ok (.lreturn, 1) := by decide +kernel
def fM_has (o : Nat) (x1 : Int32) (x2 : Int32) (N : qz_N) : Option (Int64 × qz_N) :=
  if (((4 : Int32) * x1) + x2) < 0 ∨ 24 ≤ (((4 : Int32) * x1) + x2).toNatClampNeg then none else
  some (qz_gl N 22 o (((4 : Int32) * x1) + x2).toNatClampNeg, N)
set_option maxRecDepth 100000 in
set_option maxHeartbeats 4000000 in
theorem sM_has {p : Program} {l : Launch} {e : Env} {s : State} {m : MethodId} {args : Array Value} {below : List Frame} {meth : Method} {c : Code} {G : qz_G} (X : qz_X p s m args meth c "ExactCurvesModel" prog_10_method_14_code 3 (some .long) G) {r : (Int64 × qz_N)} (o : Nat) (x1 : Int32) (x2 : Int32) (ho : o < 1) (N : qz_N) (h : fM_has o x1 x2 N = some r) : qz_W p l e (qz_R 0) s m args below meth c 0 0 (MQ below (qz_Q G r.2 (some (.long r.1))) args s 0 0 (qz_A G)) G s.heap 3 N 0 [(0, .ref (G.2.2 7 o)), (1, .int x1), (2, .int x2)] [] := by
  unfold fM_has at h
  refine qz_aload_n X 0 rfl dq_M_has_0 ?_
  refine qz_get X (v := .ref (G.2.2 22 o)) kq_M_7 ho rfl dq_M_has_1 ?_
  refine qz_iconst X (v := (4 : Int32)) (by decide) dq_M_has_4 ?_
  refine qz_iload_n X 1 rfl dq_M_has_5 ?_
  refine qz_imul X dq_M_has_6 ?_
  refine qz_iload_n X 2 rfl dq_M_has_7 ?_
  refine qz_iadd X dq_M_has_8 ?_
  refine qz_lald X (c0 := 22) (i := o) (n := 24) rfl ho dq_M_has_9 h (fun h => ?_)
  exact qz_lret X h dq_M_has_10
theorem cM_has (l : Launch) (G : qz_G) (hD : qz_D G) (o : Nat) (x1 : Int32) (x2 : Int32) (N : qz_N) (ho : o < 1) (r : (Int64 × qz_N)) (h : fM_has o x1 x2 N = some r) : qz_M l yM_has prog_10_method_14_code 3 (some .long) 0 G [.ref (G.2.2 7 o), .int x1, .int x2] N (some (.long r.1)) r.2 :=
  qz_enter (lv := [(0, .ref (G.2.2 7 o)), (1, .int x1), (2, .int x2)]) rfl hD (Nat.le_of_ble_eq_true rfl) rfl (fun p e s m args below meth c X => sM_has X o x1 x2 ho N h)
-- ExactCurvesModel.give(IIJ)V
theorem dq_M_give_0 : decode prog_10_method_15_code 0 = .ok (.aload_n 0, 1) := by decide +kernel
theorem dq_M_give_1 : decode prog_10_method_15_code 1 = .ok (.getfield 7, 3) := by decide +kernel
theorem dq_M_give_4 : decode prog_10_method_15_code 4 = .ok (.iconst 4, 1) := by decide +kernel
theorem dq_M_give_5 : decode prog_10_method_15_code 5 = .ok (.iload_n 1, 1) := by decide +kernel
theorem dq_M_give_6 : decode prog_10_method_15_code 6 = .ok (.imul, 1) := by decide +kernel
theorem dq_M_give_7 : decode prog_10_method_15_code 7 = .ok (.iload_n 2, 1) := by decide +kernel
theorem dq_M_give_8 : decode prog_10_method_15_code 8 = .ok (.iadd, 1) := by decide +kernel
theorem dq_M_give_9 : decode prog_10_method_15_code 9 = .ok (.dup2, 1) := by decide +kernel
theorem dq_M_give_10 : decode prog_10_method_15_code 10 = .ok (.laload, 1) := by decide +kernel
theorem dq_M_give_11 : decode prog_10_method_15_code 11 = .ok (.lload_n 3, 1) := by decide +kernel
theorem dq_M_give_12 : decode prog_10_method_15_code 12 = .ok (.ladd, 1) := by decide +kernel
theorem dq_M_give_13 : decode prog_10_method_15_code 13 = .ok (.lastore, 1) := by decide +kernel
theorem dq_M_give_14 : decode prog_10_method_15_code 14 = .ok (.return_, 1) := by decide +kernel
def fM_give (o : Nat) (x1 : Int32) (x2 : Int32) (x3 : Int64) (N : qz_N) : Option (Unit × qz_N) :=
  if (((4 : Int32) * x1) + x2) < 0 ∨ 24 ≤ (((4 : Int32) * x1) + x2).toNatClampNeg then none else
  if (((4 : Int32) * x1) + x2) < 0 ∨ 24 ≤ (((4 : Int32) * x1) + x2).toNatClampNeg then none else
  qz_let (qz_sl N 22 o (((4 : Int32) * x1) + x2).toNatClampNeg ((qz_gl N 22 o (((4 : Int32) * x1) + x2).toNatClampNeg) + x3)) fun N1 =>
  some ((), N1)
set_option maxRecDepth 100000 in
set_option maxHeartbeats 4000000 in
theorem sM_give {p : Program} {l : Launch} {e : Env} {s : State} {m : MethodId} {args : Array Value} {below : List Frame} {meth : Method} {c : Code} {G : qz_G} (X : qz_X p s m args meth c "ExactCurvesModel" prog_10_method_15_code 5 none G) {r : (Unit × qz_N)} (o : Nat) (x1 : Int32) (x2 : Int32) (x3 : Int64) (ho : o < 1) (N : qz_N) (h : fM_give o x1 x2 x3 N = some r) : qz_W p l e (qz_R 0) s m args below meth c 0 0 (MQ below (qz_Q G r.2 none) args s 0 0 (qz_A G)) G s.heap 5 N 0 [(0, .ref (G.2.2 7 o)), (1, .int x1), (2, .int x2), (3, .long x3)] [] := by
  unfold fM_give at h
  refine qz_aload_n X 0 rfl dq_M_give_0 ?_
  refine qz_get X (v := .ref (G.2.2 22 o)) kq_M_7 ho rfl dq_M_give_1 ?_
  refine qz_iconst X (v := (4 : Int32)) (by decide) dq_M_give_4 ?_
  refine qz_iload_n X 1 rfl dq_M_give_5 ?_
  refine qz_imul X dq_M_give_6 ?_
  refine qz_iload_n X 2 rfl dq_M_give_7 ?_
  refine qz_iadd X dq_M_give_8 ?_
  refine qz_dup2_11 X rfl rfl dq_M_give_9 ?_
  refine qz_lald X (c0 := 22) (i := o) (n := 24) rfl ho dq_M_give_10 h (fun h => ?_)
  refine qz_lload_n X 3 rfl dq_M_give_11 ?_
  refine qz_ladd X dq_M_give_12 ?_
  refine qz_last X (c0 := 22) (i := o) (n := 24) rfl ho dq_M_give_13 h (fun N1 h => ?_)
  exact qz_vret X h dq_M_give_14
theorem cM_give (l : Launch) (G : qz_G) (hD : qz_D G) (o : Nat) (x1 : Int32) (x2 : Int32) (x3 : Int64) (N : qz_N) (ho : o < 1) (r : (Unit × qz_N)) (h : fM_give o x1 x2 x3 N = some r) : qz_M l yM_give prog_10_method_15_code 5 none 0 G [.ref (G.2.2 7 o), .int x1, .int x2, .long x3] N none r.2 :=
  qz_enter (lv := [(0, .ref (G.2.2 7 o)), (1, .int x1), (2, .int x2), (3, .long x3)]) rfl hD (Nat.le_of_ble_eq_true rfl) rfl (fun p e s m args below meth c X => sM_give X o x1 x2 x3 ho N h)
-- ExactCurvesModel.up(JJ)J
theorem dq_M_up_0 : decode prog_10_method_35_code 0 = .ok (.lload_n 0, 1) := by decide +kernel
theorem dq_M_up_1 : decode prog_10_method_35_code 1 = .ok (.lload_n 2, 1) := by decide +kernel
theorem dq_M_up_2 : decode prog_10_method_35_code 2 = .ok (.ladd, 1) := by decide +kernel
theorem dq_M_up_3 : decode prog_10_method_35_code 3 = .ok (.lconst 1, 1) := by decide +kernel
theorem dq_M_up_4 : decode prog_10_method_35_code 4 = .ok (.lsub, 1) := by decide +kernel
theorem dq_M_up_5 : decode prog_10_method_35_code 5 = .ok (.lload_n 2, 1) := by decide +kernel
theorem dq_M_up_6 : decode prog_10_method_35_code 6 = .ok (.ldiv, 1) := by decide +kernel
theorem dq_M_up_7 : decode prog_10_method_35_code 7 = .ok (.lreturn, 1) := by decide +kernel
def fM_up (x0 : Int64) (x2 : Int64) (N : qz_N) : Option (Int64 × qz_N) :=
  if x2 = 0 then none else
  some (((x0 + x2) - (1 : Int64)) / x2, N)
set_option maxRecDepth 100000 in
set_option maxHeartbeats 4000000 in
theorem sM_up {p : Program} {l : Launch} {e : Env} {s : State} {m : MethodId} {args : Array Value} {below : List Frame} {meth : Method} {c : Code} {G : qz_G} (X : qz_X p s m args meth c "ExactCurvesModel" prog_10_method_35_code 4 (some .long) G) {r : (Int64 × qz_N)} (x0 : Int64) (x2 : Int64) (N : qz_N) (h : fM_up x0 x2 N = some r) : qz_W p l e (qz_R 0) s m args below meth c 0 0 (MQ below (qz_Q G r.2 (some (.long r.1))) args s 0 0 (qz_A G)) G s.heap 4 N 0 [(0, .long x0), (2, .long x2)] [] := by
  unfold fM_up at h
  refine qz_lload_n X 0 rfl dq_M_up_0 ?_
  refine qz_lload_n X 1 rfl dq_M_up_1 ?_
  refine qz_ladd X dq_M_up_2 ?_
  refine qz_lconst X (v := (1 : Int64)) (by decide) dq_M_up_3 ?_
  refine qz_lsub X dq_M_up_4 ?_
  refine qz_lload_n X 1 rfl dq_M_up_5 ?_
  refine qz_ldivc X dq_M_up_6 h (fun h => ?_)
  exact qz_lret X h dq_M_up_7
theorem cM_up (l : Launch) (G : qz_G) (hD : qz_D G) (x0 : Int64) (x2 : Int64) (N : qz_N) (r : (Int64 × qz_N)) (h : fM_up x0 x2 N = some r) : qz_M l yM_up prog_10_method_35_code 4 (some .long) 0 G [.long x0, .long x2] N (some (.long r.1)) r.2 :=
  qz_enter (lv := [(0, .long x0), (2, .long x2)]) rfl hD (Nat.le_of_ble_eq_true rfl) rfl (fun p e s m args below meth c X => sM_up X x0 x2 N h)
-- ExactCurvesModel.heldBy(I)J
theorem dq_M_heldBy_0 : decode prog_10_method_36_code 0 = .ok (.aload_n 0, 1) := by decide +kernel
theorem dq_M_heldBy_1 : decode prog_10_method_36_code 1 = .ok (.getfield 57, 3) := by decide +kernel
theorem dq_M_heldBy_4 : decode prog_10_method_36_code 4 = .ok (.iload_n 1, 1) := by decide +kernel
theorem dq_M_heldBy_5 : decode prog_10_method_36_code 5 = .ok (.baload, 1) := by decide +kernel
theorem dq_M_heldBy_6 : decode prog_10_method_36_code 6 = .ok (.ifCond .eq 25, 3) := by decide +kernel
theorem dq_M_heldBy_9 : decode prog_10_method_36_code 9 = .ok (.aload_n 0, 1) := by decide +kernel
theorem dq_M_heldBy_10 : decode prog_10_method_36_code 10 = .ok (.getfield 61, 3) := by decide +kernel
theorem dq_M_heldBy_13 : decode prog_10_method_36_code 13 = .ok (.iload_n 1, 1) := by decide +kernel
theorem dq_M_heldBy_14 : decode prog_10_method_36_code 14 = .ok (.laload, 1) := by decide +kernel
theorem dq_M_heldBy_15 : decode prog_10_method_36_code 15 = .ok (.aload_n 0, 1) := by decide +kernel
theorem dq_M_heldBy_16 : decode prog_10_method_36_code 16 = .ok (.getfield 64, 3) := by decide +kernel
theorem dq_M_heldBy_19 : decode prog_10_method_36_code 19 = .ok (.iload_n 1, 1) := by decide +kernel
theorem dq_M_heldBy_20 : decode prog_10_method_36_code 20 = .ok (.laload, 1) := by decide +kernel
theorem dq_M_heldBy_21 : decode prog_10_method_36_code 21 = .ok (.lmul, 1) := by decide +kernel
theorem dq_M_heldBy_22 : decode prog_10_method_36_code 22 = .ok (.ldc2_w 218, 3) := by decide +kernel
theorem dq_M_heldBy_25 : decode prog_10_method_36_code 25 = .ok (.invokestatic 227, 3) := by decide +kernel
theorem dq_M_heldBy_28 : decode prog_10_method_36_code 28 = .ok (.goto 9, 3) := by decide +kernel
theorem dq_M_heldBy_31 : decode prog_10_method_36_code 31 = .ok (.aload_n 0, 1) := by decide +kernel
theorem dq_M_heldBy_32 : decode prog_10_method_36_code 32 = .ok (.getfield 61, 3) := by decide +kernel
theorem dq_M_heldBy_35 : decode prog_10_method_36_code 35 = .ok (.iload_n 1, 1) := by decide +kernel
theorem dq_M_heldBy_36 : decode prog_10_method_36_code 36 = .ok (.laload, 1) := by decide +kernel
theorem dq_M_heldBy_37 : decode prog_10_method_36_code 37 = .ok (.lreturn, 1) := by decide +kernel
def fM_heldBy (o : Nat) (x1 : Int32) (N : qz_N) : Option (Int64 × qz_N) :=
  if x1 < 0 ∨ 40 ≤ x1.toNatClampNeg then none else
  if (qz_gi N 36 o x1.toNatClampNeg) = 0 then
    if x1 < 0 ∨ 40 ≤ x1.toNatClampNeg then none else
    some (qz_gl N 37 o x1.toNatClampNeg, N)
  else
  if x1 < 0 ∨ 40 ≤ x1.toNatClampNeg then none else
  if x1 < 0 ∨ 40 ≤ x1.toNatClampNeg then none else
  (fM_up ((qz_gl N 37 o x1.toNatClampNeg) * (qz_gl N 38 o x1.toNatClampNeg)) (1000 : Int64) N).bind fun q1 =>
  some (q1.1, q1.2)
set_option maxRecDepth 100000 in
set_option maxHeartbeats 4000000 in
theorem sM_heldBy {p : Program} {l : Launch} {e : Env} {s : State} {m : MethodId} {args : Array Value} {below : List Frame} {meth : Method} {c : Code} {G : qz_G} (X : qz_X p s m args meth c "ExactCurvesModel" prog_10_method_36_code 2 (some .long) G) {r : (Int64 × qz_N)} (o : Nat) (x1 : Int32) (ho : o < 1) (N : qz_N) (h : fM_heldBy o x1 N = some r) : qz_W p l e (qz_R 1) s m args below meth c 0 0 (MQ below (qz_Q G r.2 (some (.long r.1))) args s 0 0 (qz_A G)) G s.heap 2 N 0 [(0, .ref (G.2.2 7 o)), (1, .int x1)] [] := by
  unfold fM_heldBy at h
  refine qz_aload_n X 0 rfl dq_M_heldBy_0 ?_
  refine qz_get X (v := .ref (G.2.2 36 o)) kq_M_57 ho rfl dq_M_heldBy_1 ?_
  refine qz_iload_n X 1 rfl dq_M_heldBy_4 ?_
  refine qz_zald X (c0 := 36) (i := o) (n := 40) rfl ho dq_M_heldBy_5 h (fun h => ?_)
  refine qz_if_eq X (tgt := 31) (by decide) dq_M_heldBy_6 h (fun _ h => ?_) (fun _ h => ?_)
  · refine qz_aload_n X 0 rfl dq_M_heldBy_31 ?_
    refine qz_get X (v := .ref (G.2.2 37 o)) kq_M_61 ho rfl dq_M_heldBy_32 ?_
    refine qz_iload_n X 1 rfl dq_M_heldBy_35 ?_
    refine qz_lald X (c0 := 37) (i := o) (n := 40) rfl ho dq_M_heldBy_36 h (fun h => ?_)
    exact qz_lret X h dq_M_heldBy_37
  · refine qz_aload_n X 0 rfl dq_M_heldBy_9 ?_
    refine qz_get X (v := .ref (G.2.2 37 o)) kq_M_61 ho rfl dq_M_heldBy_10 ?_
    refine qz_iload_n X 1 rfl dq_M_heldBy_13 ?_
    refine qz_lald X (c0 := 37) (i := o) (n := 40) rfl ho dq_M_heldBy_14 h (fun h => ?_)
    refine qz_aload_n X 0 rfl dq_M_heldBy_15 ?_
    refine qz_get X (v := .ref (G.2.2 38 o)) kq_M_64 ho rfl dq_M_heldBy_16 ?_
    refine qz_iload_n X 1 rfl dq_M_heldBy_19 ?_
    refine qz_lald X (c0 := 38) (i := o) (n := 40) rfl ho dq_M_heldBy_20 h (fun h => ?_)
    refine qz_lmul X dq_M_heldBy_21 ?_
    refine qz_ldc2 X (v := (1000 : Int64)) wq_755 dq_M_heldBy_22 ?_
    refine qz_bind h (fun q1 e2 h => ?_)
    refine qz_callS X (as := [.long ((qz_gl N 37 o x1.toNatClampNeg) * (qz_gl N 38 o x1.toNatClampNeg)), .long (1000 : Int64)]) (st := []) (o := some (.long q1.1)) (N' := q1.2) cq_M_227 (cM_up l G X.2.2.2.2.2.2.1 ((qz_gl N 37 o x1.toNatClampNeg) * (qz_gl N 38 o x1.toNatClampNeg)) (1000 : Int64) N _ e2) ⟨by decide, by decide⟩ rfl rfl (Nat.le_of_ble_eq_true rfl) ⟨Nat.zero_le _, Nat.zero_le _⟩ dq_M_heldBy_25 ?_
    refine qz_goto X (tgt := 37) (by decide) dq_M_heldBy_28 ?_
    exact qz_lret X h dq_M_heldBy_37
theorem cM_heldBy (l : Launch) (G : qz_G) (hD : qz_D G) (o : Nat) (x1 : Int32) (N : qz_N) (ho : o < 1) (r : (Int64 × qz_N)) (h : fM_heldBy o x1 N = some r) : qz_M l yM_heldBy prog_10_method_36_code 2 (some .long) 1 G [.ref (G.2.2 7 o), .int x1] N (some (.long r.1)) r.2 :=
  qz_enter (lv := [(0, .ref (G.2.2 7 o)), (1, .int x1)]) rfl hD (Nat.le_of_ble_eq_true rfl) rfl (fun p e s m args below meth c X => sM_heldBy X o x1 ho N h)
-- ExactCurvesModel.coverToken(I)I
theorem dq_M_coverToken_0 : decode prog_10_method_44_code 0 = .ok (.aload_n 0, 1) := by decide +kernel
theorem dq_M_coverToken_1 : decode prog_10_method_44_code 1 = .ok (.getfield 16, 3) := by decide +kernel
theorem dq_M_coverToken_4 : decode prog_10_method_44_code 4 = .ok (.iconst 2, 1) := by decide +kernel
theorem dq_M_coverToken_5 : decode prog_10_method_44_code 5 = .ok (.aload_n 0, 1) := by decide +kernel
theorem dq_M_coverToken_6 : decode prog_10_method_44_code 6 = .ok (.getfield 94, 3) := by decide +kernel
theorem dq_M_coverToken_9 : decode prog_10_method_44_code 9 = .ok (.iload_n 1, 1) := by decide +kernel
theorem dq_M_coverToken_10 : decode prog_10_method_44_code 10 = .ok (.iaload, 1) := by decide +kernel
theorem dq_M_coverToken_11 : decode prog_10_method_44_code 11 = .ok (.imul, 1) := by decide +kernel
theorem dq_M_coverToken_12 : decode prog_10_method_44_code 12 = .ok (.aload_n 0, 1) := by decide +kernel
theorem dq_M_coverToken_13 : decode prog_10_method_44_code 13 = .ok (.getfield 97, 3) := by decide +kernel
theorem dq_M_coverToken_16 : decode prog_10_method_44_code 16 = .ok (.iload_n 1, 1) := by decide +kernel
theorem dq_M_coverToken_17 : decode prog_10_method_44_code 17 = .ok (.iaload, 1) := by decide +kernel
theorem dq_M_coverToken_18 : decode prog_10_method_44_code 18 = .ok (.iadd, 1) := by decide +kernel
theorem dq_M_coverToken_19 : decode prog_10_method_44_code 19 = .ok (.iaload, 1) := by decide +kernel
theorem dq_M_coverToken_20 : decode prog_10_method_44_code 20 = .ok (.ireturn, 1) := by decide +kernel
def fM_coverToken (o : Nat) (x1 : Int32) (N : qz_N) : Option (Int32 × qz_N) :=
  if x1 < 0 ∨ 10 ≤ x1.toNatClampNeg then none else
  if x1 < 0 ∨ 10 ≤ x1.toNatClampNeg then none else
  if (((2 : Int32) * (qz_gi N 48 o x1.toNatClampNeg)) + (qz_gi N 49 o x1.toNatClampNeg)) < 0 ∨ 12 ≤ (((2 : Int32) * (qz_gi N 48 o x1.toNatClampNeg)) + (qz_gi N 49 o x1.toNatClampNeg)).toNatClampNeg then none else
  some (qz_gi N 24 o (((2 : Int32) * (qz_gi N 48 o x1.toNatClampNeg)) + (qz_gi N 49 o x1.toNatClampNeg)).toNatClampNeg, N)
set_option maxRecDepth 100000 in
set_option maxHeartbeats 4000000 in
theorem sM_coverToken {p : Program} {l : Launch} {e : Env} {s : State} {m : MethodId} {args : Array Value} {below : List Frame} {meth : Method} {c : Code} {G : qz_G} (X : qz_X p s m args meth c "ExactCurvesModel" prog_10_method_44_code 2 (some .int) G) {r : (Int32 × qz_N)} (o : Nat) (x1 : Int32) (ho : o < 1) (N : qz_N) (h : fM_coverToken o x1 N = some r) : qz_W p l e (qz_R 0) s m args below meth c 0 0 (MQ below (qz_Q G r.2 (some (.int r.1))) args s 0 0 (qz_A G)) G s.heap 2 N 0 [(0, .ref (G.2.2 7 o)), (1, .int x1)] [] := by
  unfold fM_coverToken at h
  refine qz_aload_n X 0 rfl dq_M_coverToken_0 ?_
  refine qz_get X (v := .ref (G.2.2 24 o)) kq_M_16 ho rfl dq_M_coverToken_1 ?_
  refine qz_iconst X (v := (2 : Int32)) (by decide) dq_M_coverToken_4 ?_
  refine qz_aload_n X 0 rfl dq_M_coverToken_5 ?_
  refine qz_get X (v := .ref (G.2.2 48 o)) kq_M_94 ho rfl dq_M_coverToken_6 ?_
  refine qz_iload_n X 1 rfl dq_M_coverToken_9 ?_
  refine qz_iald X (c0 := 48) (i := o) (n := 10) rfl ho dq_M_coverToken_10 h (fun h => ?_)
  refine qz_imul X dq_M_coverToken_11 ?_
  refine qz_aload_n X 0 rfl dq_M_coverToken_12 ?_
  refine qz_get X (v := .ref (G.2.2 49 o)) kq_M_97 ho rfl dq_M_coverToken_13 ?_
  refine qz_iload_n X 1 rfl dq_M_coverToken_16 ?_
  refine qz_iald X (c0 := 49) (i := o) (n := 10) rfl ho dq_M_coverToken_17 h (fun h => ?_)
  refine qz_iadd X dq_M_coverToken_18 ?_
  refine qz_iald X (c0 := 24) (i := o) (n := 12) rfl ho dq_M_coverToken_19 h (fun h => ?_)
  exact qz_iret X h dq_M_coverToken_20
theorem cM_coverToken (l : Launch) (G : qz_G) (hD : qz_D G) (o : Nat) (x1 : Int32) (N : qz_N) (ho : o < 1) (r : (Int32 × qz_N)) (h : fM_coverToken o x1 N = some r) : qz_M l yM_coverToken prog_10_method_44_code 2 (some .int) 0 G [.ref (G.2.2 7 o), .int x1] N (some (.int r.1)) r.2 :=
  qz_enter (lv := [(0, .ref (G.2.2 7 o)), (1, .int x1)]) rfl hD (Nat.le_of_ble_eq_true rfl) rfl (fun p e s m args below meth c X => sM_coverToken X o x1 ho N h)
-- ExactCurvesModel.allOf(I)J
theorem dq_M_allOf_0 : decode prog_10_method_16_code 0 = .ok (.aload_n 0, 1) := by decide +kernel
theorem dq_M_allOf_1 : decode prog_10_method_16_code 1 = .ok (.getfield 13, 3) := by decide +kernel
theorem dq_M_allOf_4 : decode prog_10_method_16_code 4 = .ok (.iload_n 1, 1) := by decide +kernel
theorem dq_M_allOf_5 : decode prog_10_method_16_code 5 = .ok (.laload, 1) := by decide +kernel
theorem dq_M_allOf_6 : decode prog_10_method_16_code 6 = .ok (.aload_n 0, 1) := by decide +kernel
theorem dq_M_allOf_7 : decode prog_10_method_16_code 7 = .ok (.getfield 73, 3) := by decide +kernel
theorem dq_M_allOf_10 : decode prog_10_method_16_code 10 = .ok (.iload_n 1, 1) := by decide +kernel
theorem dq_M_allOf_11 : decode prog_10_method_16_code 11 = .ok (.laload, 1) := by decide +kernel
theorem dq_M_allOf_12 : decode prog_10_method_16_code 12 = .ok (.ladd, 1) := by decide +kernel
theorem dq_M_allOf_13 : decode prog_10_method_16_code 13 = .ok (.lstore_n 2, 1) := by decide +kernel
theorem dq_M_allOf_14 : decode prog_10_method_16_code 14 = .ok (.iconst 0, 1) := by decide +kernel
theorem dq_M_allOf_15 : decode prog_10_method_16_code 15 = .ok (.istore 4, 2) := by decide +kernel
theorem dq_M_allOf_17 : decode prog_10_method_16_code 17 = .ok (.iload 4, 2) := by decide +kernel
theorem dq_M_allOf_19 : decode prog_10_method_16_code 19 = .ok (.bipush 6, 2) := by decide +kernel
theorem dq_M_allOf_21 : decode prog_10_method_16_code 21 = .ok (.if_icmp .ge 19, 3) := by decide +kernel
theorem dq_M_allOf_24 : decode prog_10_method_16_code 24 = .ok (.lload_n 2, 1) := by decide +kernel
theorem dq_M_allOf_25 : decode prog_10_method_16_code 25 = .ok (.aload_n 0, 1) := by decide +kernel
theorem dq_M_allOf_26 : decode prog_10_method_16_code 26 = .ok (.iload 4, 2) := by decide +kernel
theorem dq_M_allOf_28 : decode prog_10_method_16_code 28 = .ok (.iload_n 1, 1) := by decide +kernel
theorem dq_M_allOf_29 : decode prog_10_method_16_code 29 = .ok (.invokevirtual 148, 3) := by decide +kernel
theorem dq_M_allOf_32 : decode prog_10_method_16_code 32 = .ok (.ladd, 1) := by decide +kernel
theorem dq_M_allOf_33 : decode prog_10_method_16_code 33 = .ok (.lstore_n 2, 1) := by decide +kernel
theorem dq_M_allOf_34 : decode prog_10_method_16_code 34 = .ok (.iinc 4 1, 3) := by decide +kernel
theorem dq_M_allOf_37 : decode prog_10_method_16_code 37 = .ok (.goto (-20), 3) := by decide +kernel
theorem dq_M_allOf_40 : decode prog_10_method_16_code 40 = .ok (.iconst 0, 1) := by decide +kernel
theorem dq_M_allOf_41 : decode prog_10_method_16_code 41 = .ok (.istore 4, 2) := by decide +kernel
theorem dq_M_allOf_43 : decode prog_10_method_16_code 43 = .ok (.iload 4, 2) := by decide +kernel
theorem dq_M_allOf_45 : decode prog_10_method_16_code 45 = .ok (.iconst 2, 1) := by decide +kernel
theorem dq_M_allOf_46 : decode prog_10_method_16_code 46 = .ok (.aload_n 0, 1) := by decide +kernel
theorem dq_M_allOf_47 : decode prog_10_method_16_code 47 = .ok (.getfield 145, 3) := by decide +kernel
theorem dq_M_allOf_50 : decode prog_10_method_16_code 50 = .ok (.imul, 1) := by decide +kernel
theorem dq_M_allOf_51 : decode prog_10_method_16_code 51 = .ok (.if_icmp .ge 34, 3) := by decide +kernel
theorem dq_M_allOf_54 : decode prog_10_method_16_code 54 = .ok (.lload_n 2, 1) := by decide +kernel
theorem dq_M_allOf_55 : decode prog_10_method_16_code 55 = .ok (.aload_n 0, 1) := by decide +kernel
theorem dq_M_allOf_56 : decode prog_10_method_16_code 56 = .ok (.getfield 16, 3) := by decide +kernel
theorem dq_M_allOf_59 : decode prog_10_method_16_code 59 = .ok (.iload 4, 2) := by decide +kernel
theorem dq_M_allOf_61 : decode prog_10_method_16_code 61 = .ok (.iaload, 1) := by decide +kernel
theorem dq_M_allOf_62 : decode prog_10_method_16_code 62 = .ok (.iload_n 1, 1) := by decide +kernel
theorem dq_M_allOf_63 : decode prog_10_method_16_code 63 = .ok (.if_icmp .ne 13, 3) := by decide +kernel
theorem dq_M_allOf_66 : decode prog_10_method_16_code 66 = .ok (.aload_n 0, 1) := by decide +kernel
theorem dq_M_allOf_67 : decode prog_10_method_16_code 67 = .ok (.getfield 26, 3) := by decide +kernel
theorem dq_M_allOf_70 : decode prog_10_method_16_code 70 = .ok (.iload 4, 2) := by decide +kernel
theorem dq_M_allOf_72 : decode prog_10_method_16_code 72 = .ok (.laload, 1) := by decide +kernel
theorem dq_M_allOf_73 : decode prog_10_method_16_code 73 = .ok (.goto 4, 3) := by decide +kernel
theorem dq_M_allOf_76 : decode prog_10_method_16_code 76 = .ok (.lconst 0, 1) := by decide +kernel
theorem dq_M_allOf_77 : decode prog_10_method_16_code 77 = .ok (.ladd, 1) := by decide +kernel
theorem dq_M_allOf_78 : decode prog_10_method_16_code 78 = .ok (.lstore_n 2, 1) := by decide +kernel
theorem dq_M_allOf_79 : decode prog_10_method_16_code 79 = .ok (.iinc 4 1, 3) := by decide +kernel
theorem dq_M_allOf_82 : decode prog_10_method_16_code 82 = .ok (.goto (-39), 3) := by decide +kernel
theorem dq_M_allOf_85 : decode prog_10_method_16_code 85 = .ok (.iconst 0, 1) := by decide +kernel
theorem dq_M_allOf_86 : decode prog_10_method_16_code 86 = .ok (.istore 4, 2) := by decide +kernel
theorem dq_M_allOf_88 : decode prog_10_method_16_code 88 = .ok (.iload 4, 2) := by decide +kernel
theorem dq_M_allOf_90 : decode prog_10_method_16_code 90 = .ok (.aload_n 0, 1) := by decide +kernel
theorem dq_M_allOf_91 : decode prog_10_method_16_code 91 = .ok (.getfield 152, 3) := by decide +kernel
theorem dq_M_allOf_94 : decode prog_10_method_16_code 94 = .ok (.if_icmp .ge 51, 3) := by decide +kernel
theorem dq_M_allOf_97 : decode prog_10_method_16_code 97 = .ok (.aload_n 0, 1) := by decide +kernel
theorem dq_M_allOf_98 : decode prog_10_method_16_code 98 = .ok (.getfield 57, 3) := by decide +kernel
theorem dq_M_allOf_101 : decode prog_10_method_16_code 101 = .ok (.iload 4, 2) := by decide +kernel
theorem dq_M_allOf_103 : decode prog_10_method_16_code 103 = .ok (.baload, 1) := by decide +kernel
theorem dq_M_allOf_104 : decode prog_10_method_16_code 104 = .ok (.ifCond .eq 10, 3) := by decide +kernel
theorem dq_M_allOf_107 : decode prog_10_method_16_code 107 = .ok (.aload_n 0, 1) := by decide +kernel
theorem dq_M_allOf_108 : decode prog_10_method_16_code 108 = .ok (.getfield 50, 3) := by decide +kernel
theorem dq_M_allOf_111 : decode prog_10_method_16_code 111 = .ok (.goto 7, 3) := by decide +kernel
theorem dq_M_allOf_114 : decode prog_10_method_16_code 114 = .ok (.aload_n 0, 1) := by decide +kernel
theorem dq_M_allOf_115 : decode prog_10_method_16_code 115 = .ok (.getfield 155, 3) := by decide +kernel
theorem dq_M_allOf_118 : decode prog_10_method_16_code 118 = .ok (.istore 5, 2) := by decide +kernel
theorem dq_M_allOf_120 : decode prog_10_method_16_code 120 = .ok (.lload_n 2, 1) := by decide +kernel
theorem dq_M_allOf_121 : decode prog_10_method_16_code 121 = .ok (.iload 5, 2) := by decide +kernel
theorem dq_M_allOf_123 : decode prog_10_method_16_code 123 = .ok (.iload_n 1, 1) := by decide +kernel
theorem dq_M_allOf_124 : decode prog_10_method_16_code 124 = .ok (.if_icmp .ne 12, 3) := by decide +kernel
theorem dq_M_allOf_127 : decode prog_10_method_16_code 127 = .ok (.aload_n 0, 1) := by decide +kernel
theorem dq_M_allOf_128 : decode prog_10_method_16_code 128 = .ok (.iload 4, 2) := by decide +kernel
theorem dq_M_allOf_130 : decode prog_10_method_16_code 130 = .ok (.invokevirtual 158, 3) := by decide +kernel
theorem dq_M_allOf_133 : decode prog_10_method_16_code 133 = .ok (.goto 4, 3) := by decide +kernel
theorem dq_M_allOf_136 : decode prog_10_method_16_code 136 = .ok (.lconst 0, 1) := by decide +kernel
theorem dq_M_allOf_137 : decode prog_10_method_16_code 137 = .ok (.ladd, 1) := by decide +kernel
theorem dq_M_allOf_138 : decode prog_10_method_16_code 138 = .ok (.lstore_n 2, 1) := by decide +kernel
theorem dq_M_allOf_139 : decode prog_10_method_16_code 139 = .ok (.iinc 4 1, 3) := by decide +kernel
theorem dq_M_allOf_142 : decode prog_10_method_16_code 142 = .ok (.goto (-54), 3) := by decide +kernel
theorem dq_M_allOf_145 : decode prog_10_method_16_code 145 = .ok (.iconst 0, 1) := by decide +kernel
theorem dq_M_allOf_146 : decode prog_10_method_16_code 146 = .ok (.istore 4, 2) := by decide +kernel
theorem dq_M_allOf_148 : decode prog_10_method_16_code 148 = .ok (.iload 4, 2) := by decide +kernel
theorem dq_M_allOf_150 : decode prog_10_method_16_code 150 = .ok (.bipush 10, 2) := by decide +kernel
theorem dq_M_allOf_152 : decode prog_10_method_16_code 152 = .ok (.if_icmp .ge 43, 3) := by decide +kernel
theorem dq_M_allOf_155 : decode prog_10_method_16_code 155 = .ok (.lload_n 2, 1) := by decide +kernel
theorem dq_M_allOf_156 : decode prog_10_method_16_code 156 = .ok (.aload_n 0, 1) := by decide +kernel
theorem dq_M_allOf_157 : decode prog_10_method_16_code 157 = .ok (.getfield 88, 3) := by decide +kernel
theorem dq_M_allOf_160 : decode prog_10_method_16_code 160 = .ok (.iload 4, 2) := by decide +kernel
theorem dq_M_allOf_162 : decode prog_10_method_16_code 162 = .ok (.baload, 1) := by decide +kernel
theorem dq_M_allOf_163 : decode prog_10_method_16_code 163 = .ok (.ifCond .eq 23, 3) := by decide +kernel
theorem dq_M_allOf_166 : decode prog_10_method_16_code 166 = .ok (.aload_n 0, 1) := by decide +kernel
theorem dq_M_allOf_167 : decode prog_10_method_16_code 167 = .ok (.iload 4, 2) := by decide +kernel
theorem dq_M_allOf_169 : decode prog_10_method_16_code 169 = .ok (.invokevirtual 162, 3) := by decide +kernel
theorem dq_M_allOf_172 : decode prog_10_method_16_code 172 = .ok (.iload_n 1, 1) := by decide +kernel
theorem dq_M_allOf_173 : decode prog_10_method_16_code 173 = .ok (.if_icmp .ne 13, 3) := by decide +kernel
theorem dq_M_allOf_176 : decode prog_10_method_16_code 176 = .ok (.aload_n 0, 1) := by decide +kernel
theorem dq_M_allOf_177 : decode prog_10_method_16_code 177 = .ok (.getfield 100, 3) := by decide +kernel
theorem dq_M_allOf_180 : decode prog_10_method_16_code 180 = .ok (.iload 4, 2) := by decide +kernel
theorem dq_M_allOf_182 : decode prog_10_method_16_code 182 = .ok (.laload, 1) := by decide +kernel
theorem dq_M_allOf_183 : decode prog_10_method_16_code 183 = .ok (.goto 4, 3) := by decide +kernel
theorem dq_M_allOf_186 : decode prog_10_method_16_code 186 = .ok (.lconst 0, 1) := by decide +kernel
theorem dq_M_allOf_187 : decode prog_10_method_16_code 187 = .ok (.ladd, 1) := by decide +kernel
theorem dq_M_allOf_188 : decode prog_10_method_16_code 188 = .ok (.lstore_n 2, 1) := by decide +kernel
theorem dq_M_allOf_189 : decode prog_10_method_16_code 189 = .ok (.iinc 4 1, 3) := by decide +kernel
theorem dq_M_allOf_192 : decode prog_10_method_16_code 192 = .ok (.goto (-44), 3) := by decide +kernel
theorem dq_M_allOf_195 : decode prog_10_method_16_code 195 = .ok (.lload_n 2, 1) := by decide +kernel
theorem dq_M_allOf_196 : decode prog_10_method_16_code 196 = .ok (.lreturn, 1) := by decide +kernel
def fM_allOf_187 (y0 : Nat) (k148 : qz_N × Int32 × Int64 × Int32 → Option (Int64 × qz_N)) (N : qz_N) (x1 : Int32) (x4 : Int32) (s0 : Int64) (s1 : Int64) : Option (Int64 × qz_N) :=
  qz_let (s1 + s0) fun v2 =>
  qz_let (x4 + (1 : Int32)) fun v3 =>
  k148 (N, x1, v2, v3)
def fM_allOf_186 (y0 : Nat) (k148 : qz_N × Int32 × Int64 × Int32 → Option (Int64 × qz_N)) (N : qz_N) (x1 : Int32) (x4 : Int32) (s0 : Int64) : Option (Int64 × qz_N) :=
  fM_allOf_187 y0 k148 N x1 x4 (0 : Int64) s0
def fM_allOf_148b (y0 : Nat) (k148 : qz_N × Int32 × Int64 × Int32 → Option (Int64 × qz_N)) (N : qz_N) (x1 : Int32) (x2 : Int64) (x4 : Int32) : Option (Int64 × qz_N) :=
  if (10 : Int32) ≤ x4 then
    some (x2, N)
  else
  if x4 < 0 ∨ 10 ≤ x4.toNatClampNeg then none else
  if (qz_gi N 46 y0 x4.toNatClampNeg) = 0 then
    fM_allOf_186 y0 k148 N x1 x4 x2
  else
  (fM_coverToken y0 x4 N).bind fun q4 =>
  if q4.1 = x1 then
    if x4 < 0 ∨ 10 ≤ x4.toNatClampNeg then none else
    fM_allOf_187 y0 k148 q4.2 x1 x4 (qz_gl q4.2 50 y0 x4.toNatClampNeg) x2
  else
  fM_allOf_186 y0 k148 q4.2 x1 x4 x2
def fM_allOf_148 (y0 : Nat) (n : Nat) (a : qz_N × Int32 × Int64 × Int32) : Option (Int64 × qz_N) := qz_loop (fun k a => fM_allOf_148b y0 k a.1 a.2.1 a.2.2.1 a.2.2.2) n a
def fM_allOf_137 (y0 : Nat) (k88 : qz_N × Int32 × Int64 × Int32 → Option (Int64 × qz_N)) (N : qz_N) (x1 : Int32) (x4 : Int32) (s0 : Int64) (s1 : Int64) : Option (Int64 × qz_N) :=
  qz_let (s1 + s0) fun v6 =>
  qz_let (x4 + (1 : Int32)) fun v7 =>
  k88 (N, x1, v6, v7)
def fM_allOf_118 (y0 : Nat) (k88 : qz_N × Int32 × Int64 × Int32 → Option (Int64 × qz_N)) (N : qz_N) (x1 : Int32) (x2 : Int64) (x4 : Int32) (s0 : Int32) : Option (Int64 × qz_N) :=
  if s0 = x1 then
    (fM_heldBy y0 x4 N).bind fun q8 =>
    fM_allOf_137 y0 k88 q8.2 x1 x4 q8.1 x2
  else
  fM_allOf_137 y0 k88 N x1 x4 (0 : Int64) x2
def fM_allOf_88b (y0 : Nat) (k88 : qz_N × Int32 × Int64 × Int32 → Option (Int64 × qz_N)) (N : qz_N) (x1 : Int32) (x2 : Int64) (x4 : Int32) : Option (Int64 × qz_N) :=
  if (qz_gi N 7 y0 17) ≤ x4 then
    fM_allOf_148 y0 1100 (N, x1, x2, (0 : Int32))
  else
  if x4 < 0 ∨ 40 ≤ x4.toNatClampNeg then none else
  if (qz_gi N 36 y0 x4.toNatClampNeg) = 0 then
    fM_allOf_118 y0 k88 N x1 x2 x4 (qz_gi N 7 y0 15)
  else
  fM_allOf_118 y0 k88 N x1 x2 x4 (qz_gi N 7 y0 16)
def fM_allOf_88 (y0 : Nat) (n : Nat) (a : qz_N × Int32 × Int64 × Int32) : Option (Int64 × qz_N) := qz_loop (fun k a => fM_allOf_88b y0 k a.1 a.2.1 a.2.2.1 a.2.2.2) n a
def fM_allOf_77 (y0 : Nat) (k43 : qz_N × Int32 × Int64 × Int32 → Option (Int64 × qz_N)) (N : qz_N) (x1 : Int32) (x4 : Int32) (s0 : Int64) (s1 : Int64) : Option (Int64 × qz_N) :=
  qz_let (s1 + s0) fun v10 =>
  qz_let (x4 + (1 : Int32)) fun v11 =>
  k43 (N, x1, v10, v11)
def fM_allOf_43b (y0 : Nat) (k43 : qz_N × Int32 × Int64 × Int32 → Option (Int64 × qz_N)) (N : qz_N) (x1 : Int32) (x2 : Int64) (x4 : Int32) : Option (Int64 × qz_N) :=
  if ((2 : Int32) * (qz_gi N 7 y0 3)) ≤ x4 then
    fM_allOf_88 y0 1100 (N, x1, x2, (0 : Int32))
  else
  if x4 < 0 ∨ 12 ≤ x4.toNatClampNeg then none else
  if (qz_gi N 24 y0 x4.toNatClampNeg) = x1 then
    if x4 < 0 ∨ 12 ≤ x4.toNatClampNeg then none else
    fM_allOf_77 y0 k43 N x1 x4 (qz_gl N 27 y0 x4.toNatClampNeg) x2
  else
  fM_allOf_77 y0 k43 N x1 x4 (0 : Int64) x2
def fM_allOf_43 (y0 : Nat) (n : Nat) (a : qz_N × Int32 × Int64 × Int32) : Option (Int64 × qz_N) := qz_loop (fun k a => fM_allOf_43b y0 k a.1 a.2.1 a.2.2.1 a.2.2.2) n a
def fM_allOf_17b (y0 : Nat) (k17 : qz_N × Int32 × Int64 × Int32 → Option (Int64 × qz_N)) (N : qz_N) (x1 : Int32) (x2 : Int64) (x4 : Int32) : Option (Int64 × qz_N) :=
  if (6 : Int32) ≤ x4 then
    fM_allOf_43 y0 1100 (N, x1, x2, (0 : Int32))
  else
  (fM_has y0 x4 x1 N).bind fun q12 =>
  qz_let (x2 + q12.1) fun v14 =>
  qz_let (x4 + (1 : Int32)) fun v15 =>
  k17 (q12.2, x1, v14, v15)
def fM_allOf_17 (y0 : Nat) (n : Nat) (a : qz_N × Int32 × Int64 × Int32) : Option (Int64 × qz_N) := qz_loop (fun k a => fM_allOf_17b y0 k a.1 a.2.1 a.2.2.1 a.2.2.2) n a
def fM_allOf (o : Nat) (x1 : Int32) (N : qz_N) : Option (Int64 × qz_N) :=
  if x1 < 0 ∨ 4 ≤ x1.toNatClampNeg then none else
  if x1 < 0 ∨ 4 ≤ x1.toNatClampNeg then none else
  qz_let ((qz_gl N 23 o x1.toNatClampNeg) + (qz_gl N 41 o x1.toNatClampNeg)) fun v1 =>
  fM_allOf_17 o 1100 (N, x1, v1, (0 : Int32))
set_option maxRecDepth 100000 in
set_option maxHeartbeats 4000000 in
theorem sM_allOf_187 {p : Program} {l : Launch} {e : Env} {s : State} {m : MethodId} {args : Array Value} {below : List Frame} {meth : Method} {c : Code} {G : qz_G} (X : qz_X p s m args meth c "ExactCurvesModel" prog_10_method_16_code 6 (some .long) G) {r : (Int64 × qz_N)} (y0 : Nat) (hy0 : y0 < 1) (k148 : qz_N × Int32 × Int64 × Int32 → Option (Int64 × qz_N)) (hk148 : ∀ a, k148 a = some r → qz_W p l e (qz_R 2) s m args below meth c 0 0 (MQ below (qz_Q G r.2 (some (.long r.1))) args s 0 0 (qz_A G)) G s.heap 6 a.1 148 [(1, .int a.2.1), (2, .long a.2.2.1), (4, .int a.2.2.2), (0, .ref (G.2.2 7 y0))] []) (N : qz_N) (x1 : Int32) (x4 : Int32) (s0 : Int64) (s1 : Int64) (h : fM_allOf_187 y0 k148 N x1 x4 s0 s1 = some r) : qz_W p l e (qz_R 2) s m args below meth c 0 0 (MQ below (qz_Q G r.2 (some (.long r.1))) args s 0 0 (qz_A G)) G s.heap 6 N 187 [(1, .int x1), (4, .int x4), (0, .ref (G.2.2 7 y0))] [.long s0, .long s1] := by
  unfold fM_allOf_187 at h
  refine qz_ladd X dq_M_allOf_187 ?_
  refine qz_letj h (fun v2 h => ?_)
  refine qz_lstore_n X (lv' := [(2, .long v2), (1, .int x1), (4, .int x4), (0, .ref (G.2.2 7 y0))]) rfl (by decide) rfl dq_M_allOf_188 ?_
  refine qz_iinc_l X (u := (1 : Int32)) (lv' := fun v3 => [(4, .int v3), (2, .long v2), (1, .int x1), (0, .ref (G.2.2 7 y0))]) (k := 2) rfl (by decide) (by decide) (fun _ => rfl) dq_M_allOf_189 h (fun v3 h => ?_)
  refine qz_goto X (tgt := 148) (by decide) dq_M_allOf_192 ?_
  refine qz_sub [2, 1, 0, 3] rfl ?_
  exact hk148 (N, x1, v2, v3) h
set_option maxRecDepth 100000 in
set_option maxHeartbeats 4000000 in
theorem sM_allOf_186 {p : Program} {l : Launch} {e : Env} {s : State} {m : MethodId} {args : Array Value} {below : List Frame} {meth : Method} {c : Code} {G : qz_G} (X : qz_X p s m args meth c "ExactCurvesModel" prog_10_method_16_code 6 (some .long) G) {r : (Int64 × qz_N)} (y0 : Nat) (hy0 : y0 < 1) (k148 : qz_N × Int32 × Int64 × Int32 → Option (Int64 × qz_N)) (hk148 : ∀ a, k148 a = some r → qz_W p l e (qz_R 2) s m args below meth c 0 0 (MQ below (qz_Q G r.2 (some (.long r.1))) args s 0 0 (qz_A G)) G s.heap 6 a.1 148 [(1, .int a.2.1), (2, .long a.2.2.1), (4, .int a.2.2.2), (0, .ref (G.2.2 7 y0))] []) (N : qz_N) (x1 : Int32) (x4 : Int32) (s0 : Int64) (h : fM_allOf_186 y0 k148 N x1 x4 s0 = some r) : qz_W p l e (qz_R 2) s m args below meth c 0 0 (MQ below (qz_Q G r.2 (some (.long r.1))) args s 0 0 (qz_A G)) G s.heap 6 N 186 [(1, .int x1), (4, .int x4), (0, .ref (G.2.2 7 y0))] [.long s0] := by
  unfold fM_allOf_186 at h
  refine qz_lconst X (v := (0 : Int64)) (by decide) dq_M_allOf_186 ?_
  refine qz_sub [0, 1, 2] rfl ?_
  exact sM_allOf_187 X y0 hy0 k148 hk148 N x1 x4 (0 : Int64) s0 h
set_option maxRecDepth 100000 in
set_option maxHeartbeats 4000000 in
theorem sM_allOf_148b {p : Program} {l : Launch} {e : Env} {s : State} {m : MethodId} {args : Array Value} {below : List Frame} {meth : Method} {c : Code} {G : qz_G} (X : qz_X p s m args meth c "ExactCurvesModel" prog_10_method_16_code 6 (some .long) G) {r : (Int64 × qz_N)} (y0 : Nat) (hy0 : y0 < 1) (k148 : qz_N × Int32 × Int64 × Int32 → Option (Int64 × qz_N)) (hk148 : ∀ a, k148 a = some r → qz_W p l e (qz_R 2) s m args below meth c 0 0 (MQ below (qz_Q G r.2 (some (.long r.1))) args s 0 0 (qz_A G)) G s.heap 6 a.1 148 [(1, .int a.2.1), (2, .long a.2.2.1), (4, .int a.2.2.2), (0, .ref (G.2.2 7 y0))] []) (N : qz_N) (x1 : Int32) (x2 : Int64) (x4 : Int32) (h : fM_allOf_148b y0 k148 N x1 x2 x4 = some r) : qz_W p l e (qz_R 2) s m args below meth c 0 0 (MQ below (qz_Q G r.2 (some (.long r.1))) args s 0 0 (qz_A G)) G s.heap 6 N 148 [(1, .int x1), (2, .long x2), (4, .int x4), (0, .ref (G.2.2 7 y0))] [] := by
  unfold fM_allOf_148b at h
  refine qz_iload X 2 rfl dq_M_allOf_148 ?_
  refine qz_bipush X (v := (10 : Int32)) (by decide) dq_M_allOf_150 ?_
  refine qz_icmp_ge X (tgt := 195) (by decide) dq_M_allOf_152 h (fun _ h => ?_) (fun _ h => ?_)
  · refine qz_lload_n X 1 rfl dq_M_allOf_195 ?_
    exact qz_lret X h dq_M_allOf_196
  · refine qz_lload_n X 1 rfl dq_M_allOf_155 ?_
    refine qz_aload_n X 3 rfl dq_M_allOf_156 ?_
    refine qz_get X (v := .ref (G.2.2 46 y0)) kq_M_88 hy0 rfl dq_M_allOf_157 ?_
    refine qz_iload X 2 rfl dq_M_allOf_160 ?_
    refine qz_zald X (c0 := 46) (i := y0) (n := 10) rfl hy0 dq_M_allOf_162 h (fun h => ?_)
    refine qz_if_eq X (tgt := 186) (by decide) dq_M_allOf_163 h (fun _ h => ?_) (fun _ h => ?_)
    · refine qz_sub [0, 2, 3] rfl ?_
      exact sM_allOf_186 X y0 hy0 k148 hk148 N x1 x4 x2 h
    · refine qz_aload_n X 3 rfl dq_M_allOf_166 ?_
      refine qz_iload X 2 rfl dq_M_allOf_167 ?_
      refine qz_bind h (fun q4 e5 h => ?_)
      refine qz_callV X (as := [.int x4]) (st := [.long x2]) (o := some (.int q4.1)) (N' := q4.2) cq_M_162 hy0 (cM_coverToken l G X.2.2.2.2.2.2.1 y0 x4 N hy0 _ e5) ⟨by decide, by decide⟩ rfl rfl (Nat.le_of_ble_eq_true rfl) ⟨Nat.zero_le _, Nat.zero_le _⟩ dq_M_allOf_169 ?_
      refine qz_iload_n X 0 rfl dq_M_allOf_172 ?_
      refine qz_icmp_ne X (tgt := 186) (by decide) dq_M_allOf_173 h (fun _ h => ?_) (fun _ h => ?_)
      · refine qz_sub [0, 2, 3] rfl ?_
        exact sM_allOf_186 X y0 hy0 k148 hk148 q4.2 x1 x4 x2 h
      · refine qz_aload_n X 3 rfl dq_M_allOf_176 ?_
        refine qz_get X (v := .ref (G.2.2 50 y0)) kq_M_100 hy0 rfl dq_M_allOf_177 ?_
        refine qz_iload X 2 rfl dq_M_allOf_180 ?_
        refine qz_lald X (c0 := 50) (i := y0) (n := 10) rfl hy0 dq_M_allOf_182 h (fun h => ?_)
        refine qz_goto X (tgt := 187) (by decide) dq_M_allOf_183 ?_
        refine qz_sub [0, 2, 3] rfl ?_
        exact sM_allOf_187 X y0 hy0 k148 hk148 q4.2 x1 x4 (qz_gl q4.2 50 y0 x4.toNatClampNeg) x2 h
theorem sM_allOf_148 {p : Program} {l : Launch} {e : Env} {s : State} {m : MethodId} {args : Array Value} {below : List Frame} {meth : Method} {c : Code} {G : qz_G} (X : qz_X p s m args meth c "ExactCurvesModel" prog_10_method_16_code 6 (some .long) G) {r : (Int64 × qz_N)} (y0 : Nat) (hy0 : y0 < 1) (n : Nat) (a : qz_N × Int32 × Int64 × Int32) (h : fM_allOf_148 y0 n a = some r) : qz_W p l e (qz_R 2) s m args below meth c 0 0 (MQ below (qz_Q G r.2 (some (.long r.1))) args s 0 0 (qz_A G)) G s.heap 6 a.1 148 [(1, .int a.2.1), (2, .long a.2.2.1), (4, .int a.2.2.2), (0, .ref (G.2.2 7 y0))] [] :=
  qz_loop_ind (P := fun a => qz_W p l e (qz_R 2) s m args below meth c 0 0 (MQ below (qz_Q G r.2 (some (.long r.1))) args s 0 0 (qz_A G)) G s.heap 6 a.1 148 [(1, .int a.2.1), (2, .long a.2.2.1), (4, .int a.2.2.2), (0, .ref (G.2.2 7 y0))] []) (fun k hk a h => sM_allOf_148b X y0 hy0 k hk a.1 a.2.1 a.2.2.1 a.2.2.2 h) n a h
set_option maxRecDepth 100000 in
set_option maxHeartbeats 4000000 in
theorem sM_allOf_137 {p : Program} {l : Launch} {e : Env} {s : State} {m : MethodId} {args : Array Value} {below : List Frame} {meth : Method} {c : Code} {G : qz_G} (X : qz_X p s m args meth c "ExactCurvesModel" prog_10_method_16_code 6 (some .long) G) {r : (Int64 × qz_N)} (y0 : Nat) (hy0 : y0 < 1) (k88 : qz_N × Int32 × Int64 × Int32 → Option (Int64 × qz_N)) (hk88 : ∀ a, k88 a = some r → qz_W p l e (qz_R 2) s m args below meth c 0 0 (MQ below (qz_Q G r.2 (some (.long r.1))) args s 0 0 (qz_A G)) G s.heap 6 a.1 88 [(1, .int a.2.1), (2, .long a.2.2.1), (4, .int a.2.2.2), (0, .ref (G.2.2 7 y0))] []) (N : qz_N) (x1 : Int32) (x4 : Int32) (s0 : Int64) (s1 : Int64) (h : fM_allOf_137 y0 k88 N x1 x4 s0 s1 = some r) : qz_W p l e (qz_R 2) s m args below meth c 0 0 (MQ below (qz_Q G r.2 (some (.long r.1))) args s 0 0 (qz_A G)) G s.heap 6 N 137 [(1, .int x1), (4, .int x4), (0, .ref (G.2.2 7 y0))] [.long s0, .long s1] := by
  unfold fM_allOf_137 at h
  refine qz_ladd X dq_M_allOf_137 ?_
  refine qz_letj h (fun v6 h => ?_)
  refine qz_lstore_n X (lv' := [(2, .long v6), (1, .int x1), (4, .int x4), (0, .ref (G.2.2 7 y0))]) rfl (by decide) rfl dq_M_allOf_138 ?_
  refine qz_iinc_l X (u := (1 : Int32)) (lv' := fun v7 => [(4, .int v7), (2, .long v6), (1, .int x1), (0, .ref (G.2.2 7 y0))]) (k := 2) rfl (by decide) (by decide) (fun _ => rfl) dq_M_allOf_139 h (fun v7 h => ?_)
  refine qz_goto X (tgt := 88) (by decide) dq_M_allOf_142 ?_
  refine qz_sub [2, 1, 0, 3] rfl ?_
  exact hk88 (N, x1, v6, v7) h
set_option maxRecDepth 100000 in
set_option maxHeartbeats 4000000 in
theorem sM_allOf_118 {p : Program} {l : Launch} {e : Env} {s : State} {m : MethodId} {args : Array Value} {below : List Frame} {meth : Method} {c : Code} {G : qz_G} (X : qz_X p s m args meth c "ExactCurvesModel" prog_10_method_16_code 6 (some .long) G) {r : (Int64 × qz_N)} (y0 : Nat) (hy0 : y0 < 1) (k88 : qz_N × Int32 × Int64 × Int32 → Option (Int64 × qz_N)) (hk88 : ∀ a, k88 a = some r → qz_W p l e (qz_R 2) s m args below meth c 0 0 (MQ below (qz_Q G r.2 (some (.long r.1))) args s 0 0 (qz_A G)) G s.heap 6 a.1 88 [(1, .int a.2.1), (2, .long a.2.2.1), (4, .int a.2.2.2), (0, .ref (G.2.2 7 y0))] []) (N : qz_N) (x1 : Int32) (x2 : Int64) (x4 : Int32) (s0 : Int32) (h : fM_allOf_118 y0 k88 N x1 x2 x4 s0 = some r) : qz_W p l e (qz_R 2) s m args below meth c 0 0 (MQ below (qz_Q G r.2 (some (.long r.1))) args s 0 0 (qz_A G)) G s.heap 6 N 118 [(1, .int x1), (2, .long x2), (4, .int x4), (0, .ref (G.2.2 7 y0))] [.int s0] := by
  unfold fM_allOf_118 at h
  refine qz_istore X (lv' := [(5, .int s0), (1, .int x1), (2, .long x2), (4, .int x4), (0, .ref (G.2.2 7 y0))]) (by decide) rfl dq_M_allOf_118 ?_
  refine qz_lload_n X 2 rfl dq_M_allOf_120 ?_
  refine qz_iload X 0 rfl dq_M_allOf_121 ?_
  refine qz_iload_n X 1 rfl dq_M_allOf_123 ?_
  refine qz_icmp_ne X (tgt := 136) (by decide) dq_M_allOf_124 h (fun _ h => ?_) (fun _ h => ?_)
  · refine qz_lconst X (v := (0 : Int64)) (by decide) dq_M_allOf_136 ?_
    refine qz_sub [1, 3, 4] rfl ?_
    exact sM_allOf_137 X y0 hy0 k88 hk88 N x1 x4 (0 : Int64) x2 h
  · refine qz_aload_n X 4 rfl dq_M_allOf_127 ?_
    refine qz_iload X 3 rfl dq_M_allOf_128 ?_
    refine qz_bind h (fun q8 e9 h => ?_)
    refine qz_callV X (as := [.int x4]) (st := [.long x2]) (o := some (.long q8.1)) (N' := q8.2) cq_M_158 hy0 (cM_heldBy l G X.2.2.2.2.2.2.1 y0 x4 N hy0 _ e9) ⟨by decide, by decide⟩ rfl rfl (Nat.le_of_ble_eq_true rfl) ⟨Nat.zero_le _, Nat.zero_le _⟩ dq_M_allOf_130 ?_
    refine qz_goto X (tgt := 137) (by decide) dq_M_allOf_133 ?_
    refine qz_sub [1, 3, 4] rfl ?_
    exact sM_allOf_137 X y0 hy0 k88 hk88 q8.2 x1 x4 q8.1 x2 h
set_option maxRecDepth 100000 in
set_option maxHeartbeats 4000000 in
theorem sM_allOf_88b {p : Program} {l : Launch} {e : Env} {s : State} {m : MethodId} {args : Array Value} {below : List Frame} {meth : Method} {c : Code} {G : qz_G} (X : qz_X p s m args meth c "ExactCurvesModel" prog_10_method_16_code 6 (some .long) G) {r : (Int64 × qz_N)} (y0 : Nat) (hy0 : y0 < 1) (k88 : qz_N × Int32 × Int64 × Int32 → Option (Int64 × qz_N)) (hk88 : ∀ a, k88 a = some r → qz_W p l e (qz_R 2) s m args below meth c 0 0 (MQ below (qz_Q G r.2 (some (.long r.1))) args s 0 0 (qz_A G)) G s.heap 6 a.1 88 [(1, .int a.2.1), (2, .long a.2.2.1), (4, .int a.2.2.2), (0, .ref (G.2.2 7 y0))] []) (N : qz_N) (x1 : Int32) (x2 : Int64) (x4 : Int32) (h : fM_allOf_88b y0 k88 N x1 x2 x4 = some r) : qz_W p l e (qz_R 2) s m args below meth c 0 0 (MQ below (qz_Q G r.2 (some (.long r.1))) args s 0 0 (qz_A G)) G s.heap 6 N 88 [(1, .int x1), (2, .long x2), (4, .int x4), (0, .ref (G.2.2 7 y0))] [] := by
  unfold fM_allOf_88b at h
  refine qz_iload X 2 rfl dq_M_allOf_88 ?_
  refine qz_aload_n X 3 rfl dq_M_allOf_90 ?_
  refine qz_get X (v := .int (qz_gi N 7 y0 17)) kq_M_152 hy0 rfl dq_M_allOf_91 ?_
  refine qz_icmp_ge X (tgt := 145) (by decide) dq_M_allOf_94 h (fun _ h => ?_) (fun _ h => ?_)
  · refine qz_iconst X (v := (0 : Int32)) (by decide) dq_M_allOf_145 ?_
    refine qz_istore X (lv' := [(4, .int (0 : Int32)), (1, .int x1), (2, .long x2), (0, .ref (G.2.2 7 y0))]) (by decide) rfl dq_M_allOf_146 ?_
    refine qz_sub [1, 2, 0, 3] rfl ?_
    exact sM_allOf_148 X y0 hy0 1100 (N, x1, x2, (0 : Int32)) h
  · refine qz_aload_n X 3 rfl dq_M_allOf_97 ?_
    refine qz_get X (v := .ref (G.2.2 36 y0)) kq_M_57 hy0 rfl dq_M_allOf_98 ?_
    refine qz_iload X 2 rfl dq_M_allOf_101 ?_
    refine qz_zald X (c0 := 36) (i := y0) (n := 40) rfl hy0 dq_M_allOf_103 h (fun h => ?_)
    refine qz_if_eq X (tgt := 114) (by decide) dq_M_allOf_104 h (fun _ h => ?_) (fun _ h => ?_)
    · refine qz_aload_n X 3 rfl dq_M_allOf_114 ?_
      refine qz_get X (v := .int (qz_gi N 7 y0 15)) kq_M_155 hy0 rfl dq_M_allOf_115 ?_
      refine qz_sub [0, 1, 2, 3] rfl ?_
      exact sM_allOf_118 X y0 hy0 k88 hk88 N x1 x2 x4 (qz_gi N 7 y0 15) h
    · refine qz_aload_n X 3 rfl dq_M_allOf_107 ?_
      refine qz_get X (v := .int (qz_gi N 7 y0 16)) kq_M_50 hy0 rfl dq_M_allOf_108 ?_
      refine qz_goto X (tgt := 118) (by decide) dq_M_allOf_111 ?_
      refine qz_sub [0, 1, 2, 3] rfl ?_
      exact sM_allOf_118 X y0 hy0 k88 hk88 N x1 x2 x4 (qz_gi N 7 y0 16) h
theorem sM_allOf_88 {p : Program} {l : Launch} {e : Env} {s : State} {m : MethodId} {args : Array Value} {below : List Frame} {meth : Method} {c : Code} {G : qz_G} (X : qz_X p s m args meth c "ExactCurvesModel" prog_10_method_16_code 6 (some .long) G) {r : (Int64 × qz_N)} (y0 : Nat) (hy0 : y0 < 1) (n : Nat) (a : qz_N × Int32 × Int64 × Int32) (h : fM_allOf_88 y0 n a = some r) : qz_W p l e (qz_R 2) s m args below meth c 0 0 (MQ below (qz_Q G r.2 (some (.long r.1))) args s 0 0 (qz_A G)) G s.heap 6 a.1 88 [(1, .int a.2.1), (2, .long a.2.2.1), (4, .int a.2.2.2), (0, .ref (G.2.2 7 y0))] [] :=
  qz_loop_ind (P := fun a => qz_W p l e (qz_R 2) s m args below meth c 0 0 (MQ below (qz_Q G r.2 (some (.long r.1))) args s 0 0 (qz_A G)) G s.heap 6 a.1 88 [(1, .int a.2.1), (2, .long a.2.2.1), (4, .int a.2.2.2), (0, .ref (G.2.2 7 y0))] []) (fun k hk a h => sM_allOf_88b X y0 hy0 k hk a.1 a.2.1 a.2.2.1 a.2.2.2 h) n a h
set_option maxRecDepth 100000 in
set_option maxHeartbeats 4000000 in
theorem sM_allOf_77 {p : Program} {l : Launch} {e : Env} {s : State} {m : MethodId} {args : Array Value} {below : List Frame} {meth : Method} {c : Code} {G : qz_G} (X : qz_X p s m args meth c "ExactCurvesModel" prog_10_method_16_code 6 (some .long) G) {r : (Int64 × qz_N)} (y0 : Nat) (hy0 : y0 < 1) (k43 : qz_N × Int32 × Int64 × Int32 → Option (Int64 × qz_N)) (hk43 : ∀ a, k43 a = some r → qz_W p l e (qz_R 2) s m args below meth c 0 0 (MQ below (qz_Q G r.2 (some (.long r.1))) args s 0 0 (qz_A G)) G s.heap 6 a.1 43 [(1, .int a.2.1), (2, .long a.2.2.1), (4, .int a.2.2.2), (0, .ref (G.2.2 7 y0))] []) (N : qz_N) (x1 : Int32) (x4 : Int32) (s0 : Int64) (s1 : Int64) (h : fM_allOf_77 y0 k43 N x1 x4 s0 s1 = some r) : qz_W p l e (qz_R 2) s m args below meth c 0 0 (MQ below (qz_Q G r.2 (some (.long r.1))) args s 0 0 (qz_A G)) G s.heap 6 N 77 [(1, .int x1), (4, .int x4), (0, .ref (G.2.2 7 y0))] [.long s0, .long s1] := by
  unfold fM_allOf_77 at h
  refine qz_ladd X dq_M_allOf_77 ?_
  refine qz_letj h (fun v10 h => ?_)
  refine qz_lstore_n X (lv' := [(2, .long v10), (1, .int x1), (4, .int x4), (0, .ref (G.2.2 7 y0))]) rfl (by decide) rfl dq_M_allOf_78 ?_
  refine qz_iinc_l X (u := (1 : Int32)) (lv' := fun v11 => [(4, .int v11), (2, .long v10), (1, .int x1), (0, .ref (G.2.2 7 y0))]) (k := 2) rfl (by decide) (by decide) (fun _ => rfl) dq_M_allOf_79 h (fun v11 h => ?_)
  refine qz_goto X (tgt := 43) (by decide) dq_M_allOf_82 ?_
  refine qz_sub [2, 1, 0, 3] rfl ?_
  exact hk43 (N, x1, v10, v11) h
set_option maxRecDepth 100000 in
set_option maxHeartbeats 4000000 in
theorem sM_allOf_43b {p : Program} {l : Launch} {e : Env} {s : State} {m : MethodId} {args : Array Value} {below : List Frame} {meth : Method} {c : Code} {G : qz_G} (X : qz_X p s m args meth c "ExactCurvesModel" prog_10_method_16_code 6 (some .long) G) {r : (Int64 × qz_N)} (y0 : Nat) (hy0 : y0 < 1) (k43 : qz_N × Int32 × Int64 × Int32 → Option (Int64 × qz_N)) (hk43 : ∀ a, k43 a = some r → qz_W p l e (qz_R 2) s m args below meth c 0 0 (MQ below (qz_Q G r.2 (some (.long r.1))) args s 0 0 (qz_A G)) G s.heap 6 a.1 43 [(1, .int a.2.1), (2, .long a.2.2.1), (4, .int a.2.2.2), (0, .ref (G.2.2 7 y0))] []) (N : qz_N) (x1 : Int32) (x2 : Int64) (x4 : Int32) (h : fM_allOf_43b y0 k43 N x1 x2 x4 = some r) : qz_W p l e (qz_R 2) s m args below meth c 0 0 (MQ below (qz_Q G r.2 (some (.long r.1))) args s 0 0 (qz_A G)) G s.heap 6 N 43 [(1, .int x1), (2, .long x2), (4, .int x4), (0, .ref (G.2.2 7 y0))] [] := by
  unfold fM_allOf_43b at h
  refine qz_iload X 2 rfl dq_M_allOf_43 ?_
  refine qz_iconst X (v := (2 : Int32)) (by decide) dq_M_allOf_45 ?_
  refine qz_aload_n X 3 rfl dq_M_allOf_46 ?_
  refine qz_get X (v := .int (qz_gi N 7 y0 3)) kq_M_145 hy0 rfl dq_M_allOf_47 ?_
  refine qz_imul X dq_M_allOf_50 ?_
  refine qz_icmp_ge X (tgt := 85) (by decide) dq_M_allOf_51 h (fun _ h => ?_) (fun _ h => ?_)
  · refine qz_iconst X (v := (0 : Int32)) (by decide) dq_M_allOf_85 ?_
    refine qz_istore X (lv' := [(4, .int (0 : Int32)), (1, .int x1), (2, .long x2), (0, .ref (G.2.2 7 y0))]) (by decide) rfl dq_M_allOf_86 ?_
    refine qz_sub [1, 2, 0, 3] rfl ?_
    exact sM_allOf_88 X y0 hy0 1100 (N, x1, x2, (0 : Int32)) h
  · refine qz_lload_n X 1 rfl dq_M_allOf_54 ?_
    refine qz_aload_n X 3 rfl dq_M_allOf_55 ?_
    refine qz_get X (v := .ref (G.2.2 24 y0)) kq_M_16 hy0 rfl dq_M_allOf_56 ?_
    refine qz_iload X 2 rfl dq_M_allOf_59 ?_
    refine qz_iald X (c0 := 24) (i := y0) (n := 12) rfl hy0 dq_M_allOf_61 h (fun h => ?_)
    refine qz_iload_n X 0 rfl dq_M_allOf_62 ?_
    refine qz_icmp_ne X (tgt := 76) (by decide) dq_M_allOf_63 h (fun _ h => ?_) (fun _ h => ?_)
    · refine qz_lconst X (v := (0 : Int64)) (by decide) dq_M_allOf_76 ?_
      refine qz_sub [0, 2, 3] rfl ?_
      exact sM_allOf_77 X y0 hy0 k43 hk43 N x1 x4 (0 : Int64) x2 h
    · refine qz_aload_n X 3 rfl dq_M_allOf_66 ?_
      refine qz_get X (v := .ref (G.2.2 27 y0)) kq_M_26 hy0 rfl dq_M_allOf_67 ?_
      refine qz_iload X 2 rfl dq_M_allOf_70 ?_
      refine qz_lald X (c0 := 27) (i := y0) (n := 12) rfl hy0 dq_M_allOf_72 h (fun h => ?_)
      refine qz_goto X (tgt := 77) (by decide) dq_M_allOf_73 ?_
      refine qz_sub [0, 2, 3] rfl ?_
      exact sM_allOf_77 X y0 hy0 k43 hk43 N x1 x4 (qz_gl N 27 y0 x4.toNatClampNeg) x2 h
theorem sM_allOf_43 {p : Program} {l : Launch} {e : Env} {s : State} {m : MethodId} {args : Array Value} {below : List Frame} {meth : Method} {c : Code} {G : qz_G} (X : qz_X p s m args meth c "ExactCurvesModel" prog_10_method_16_code 6 (some .long) G) {r : (Int64 × qz_N)} (y0 : Nat) (hy0 : y0 < 1) (n : Nat) (a : qz_N × Int32 × Int64 × Int32) (h : fM_allOf_43 y0 n a = some r) : qz_W p l e (qz_R 2) s m args below meth c 0 0 (MQ below (qz_Q G r.2 (some (.long r.1))) args s 0 0 (qz_A G)) G s.heap 6 a.1 43 [(1, .int a.2.1), (2, .long a.2.2.1), (4, .int a.2.2.2), (0, .ref (G.2.2 7 y0))] [] :=
  qz_loop_ind (P := fun a => qz_W p l e (qz_R 2) s m args below meth c 0 0 (MQ below (qz_Q G r.2 (some (.long r.1))) args s 0 0 (qz_A G)) G s.heap 6 a.1 43 [(1, .int a.2.1), (2, .long a.2.2.1), (4, .int a.2.2.2), (0, .ref (G.2.2 7 y0))] []) (fun k hk a h => sM_allOf_43b X y0 hy0 k hk a.1 a.2.1 a.2.2.1 a.2.2.2 h) n a h
set_option maxRecDepth 100000 in
set_option maxHeartbeats 4000000 in
theorem sM_allOf_17b {p : Program} {l : Launch} {e : Env} {s : State} {m : MethodId} {args : Array Value} {below : List Frame} {meth : Method} {c : Code} {G : qz_G} (X : qz_X p s m args meth c "ExactCurvesModel" prog_10_method_16_code 6 (some .long) G) {r : (Int64 × qz_N)} (y0 : Nat) (hy0 : y0 < 1) (k17 : qz_N × Int32 × Int64 × Int32 → Option (Int64 × qz_N)) (hk17 : ∀ a, k17 a = some r → qz_W p l e (qz_R 2) s m args below meth c 0 0 (MQ below (qz_Q G r.2 (some (.long r.1))) args s 0 0 (qz_A G)) G s.heap 6 a.1 17 [(1, .int a.2.1), (2, .long a.2.2.1), (4, .int a.2.2.2), (0, .ref (G.2.2 7 y0))] []) (N : qz_N) (x1 : Int32) (x2 : Int64) (x4 : Int32) (h : fM_allOf_17b y0 k17 N x1 x2 x4 = some r) : qz_W p l e (qz_R 2) s m args below meth c 0 0 (MQ below (qz_Q G r.2 (some (.long r.1))) args s 0 0 (qz_A G)) G s.heap 6 N 17 [(1, .int x1), (2, .long x2), (4, .int x4), (0, .ref (G.2.2 7 y0))] [] := by
  unfold fM_allOf_17b at h
  refine qz_iload X 2 rfl dq_M_allOf_17 ?_
  refine qz_bipush X (v := (6 : Int32)) (by decide) dq_M_allOf_19 ?_
  refine qz_icmp_ge X (tgt := 40) (by decide) dq_M_allOf_21 h (fun _ h => ?_) (fun _ h => ?_)
  · refine qz_iconst X (v := (0 : Int32)) (by decide) dq_M_allOf_40 ?_
    refine qz_istore X (lv' := [(4, .int (0 : Int32)), (1, .int x1), (2, .long x2), (0, .ref (G.2.2 7 y0))]) (by decide) rfl dq_M_allOf_41 ?_
    refine qz_sub [1, 2, 0, 3] rfl ?_
    exact sM_allOf_43 X y0 hy0 1100 (N, x1, x2, (0 : Int32)) h
  · refine qz_lload_n X 1 rfl dq_M_allOf_24 ?_
    refine qz_aload_n X 3 rfl dq_M_allOf_25 ?_
    refine qz_iload X 2 rfl dq_M_allOf_26 ?_
    refine qz_iload_n X 0 rfl dq_M_allOf_28 ?_
    refine qz_bind h (fun q12 e13 h => ?_)
    refine qz_callV X (as := [.int x4, .int x1]) (st := [.long x2]) (o := some (.long q12.1)) (N' := q12.2) cq_M_148 hy0 (cM_has l G X.2.2.2.2.2.2.1 y0 x4 x1 N hy0 _ e13) ⟨by decide, by decide⟩ rfl rfl (Nat.le_of_ble_eq_true rfl) ⟨Nat.zero_le _, Nat.zero_le _⟩ dq_M_allOf_29 ?_
    refine qz_ladd X dq_M_allOf_32 ?_
    refine qz_letj h (fun v14 h => ?_)
    refine qz_lstore_n X (lv' := [(2, .long v14), (1, .int x1), (4, .int x4), (0, .ref (G.2.2 7 y0))]) rfl (by decide) rfl dq_M_allOf_33 ?_
    refine qz_iinc_l X (u := (1 : Int32)) (lv' := fun v15 => [(4, .int v15), (2, .long v14), (1, .int x1), (0, .ref (G.2.2 7 y0))]) (k := 2) rfl (by decide) (by decide) (fun _ => rfl) dq_M_allOf_34 h (fun v15 h => ?_)
    refine qz_goto X (tgt := 17) (by decide) dq_M_allOf_37 ?_
    refine qz_sub [2, 1, 0, 3] rfl ?_
    exact hk17 (q12.2, x1, v14, v15) h
theorem sM_allOf_17 {p : Program} {l : Launch} {e : Env} {s : State} {m : MethodId} {args : Array Value} {below : List Frame} {meth : Method} {c : Code} {G : qz_G} (X : qz_X p s m args meth c "ExactCurvesModel" prog_10_method_16_code 6 (some .long) G) {r : (Int64 × qz_N)} (y0 : Nat) (hy0 : y0 < 1) (n : Nat) (a : qz_N × Int32 × Int64 × Int32) (h : fM_allOf_17 y0 n a = some r) : qz_W p l e (qz_R 2) s m args below meth c 0 0 (MQ below (qz_Q G r.2 (some (.long r.1))) args s 0 0 (qz_A G)) G s.heap 6 a.1 17 [(1, .int a.2.1), (2, .long a.2.2.1), (4, .int a.2.2.2), (0, .ref (G.2.2 7 y0))] [] :=
  qz_loop_ind (P := fun a => qz_W p l e (qz_R 2) s m args below meth c 0 0 (MQ below (qz_Q G r.2 (some (.long r.1))) args s 0 0 (qz_A G)) G s.heap 6 a.1 17 [(1, .int a.2.1), (2, .long a.2.2.1), (4, .int a.2.2.2), (0, .ref (G.2.2 7 y0))] []) (fun k hk a h => sM_allOf_17b X y0 hy0 k hk a.1 a.2.1 a.2.2.1 a.2.2.2 h) n a h
set_option maxRecDepth 100000 in
set_option maxHeartbeats 4000000 in
theorem sM_allOf {p : Program} {l : Launch} {e : Env} {s : State} {m : MethodId} {args : Array Value} {below : List Frame} {meth : Method} {c : Code} {G : qz_G} (X : qz_X p s m args meth c "ExactCurvesModel" prog_10_method_16_code 6 (some .long) G) {r : (Int64 × qz_N)} (o : Nat) (x1 : Int32) (ho : o < 1) (N : qz_N) (h : fM_allOf o x1 N = some r) : qz_W p l e (qz_R 2) s m args below meth c 0 0 (MQ below (qz_Q G r.2 (some (.long r.1))) args s 0 0 (qz_A G)) G s.heap 6 N 0 [(0, .ref (G.2.2 7 o)), (1, .int x1)] [] := by
  unfold fM_allOf at h
  refine qz_aload_n X 0 rfl dq_M_allOf_0 ?_
  refine qz_get X (v := .ref (G.2.2 23 o)) kq_M_13 ho rfl dq_M_allOf_1 ?_
  refine qz_iload_n X 1 rfl dq_M_allOf_4 ?_
  refine qz_lald X (c0 := 23) (i := o) (n := 4) rfl ho dq_M_allOf_5 h (fun h => ?_)
  refine qz_aload_n X 0 rfl dq_M_allOf_6 ?_
  refine qz_get X (v := .ref (G.2.2 41 o)) kq_M_73 ho rfl dq_M_allOf_7 ?_
  refine qz_iload_n X 1 rfl dq_M_allOf_10 ?_
  refine qz_lald X (c0 := 41) (i := o) (n := 4) rfl ho dq_M_allOf_11 h (fun h => ?_)
  refine qz_ladd X dq_M_allOf_12 ?_
  refine qz_letj h (fun v1 h => ?_)
  refine qz_lstore_n X (lv' := [(2, .long v1), (0, .ref (G.2.2 7 o)), (1, .int x1)]) rfl (by decide) rfl dq_M_allOf_13 ?_
  refine qz_iconst X (v := (0 : Int32)) (by decide) dq_M_allOf_14 ?_
  refine qz_istore X (lv' := [(4, .int (0 : Int32)), (2, .long v1), (0, .ref (G.2.2 7 o)), (1, .int x1)]) (by decide) rfl dq_M_allOf_15 ?_
  refine qz_sub [3, 1, 0, 2] rfl ?_
  exact sM_allOf_17 X o ho 1100 (N, x1, v1, (0 : Int32)) h
theorem cM_allOf (l : Launch) (G : qz_G) (hD : qz_D G) (o : Nat) (x1 : Int32) (N : qz_N) (ho : o < 1) (r : (Int64 × qz_N)) (h : fM_allOf o x1 N = some r) : qz_M l yM_allOf prog_10_method_16_code 6 (some .long) 2 G [.ref (G.2.2 7 o), .int x1] N (some (.long r.1)) r.2 :=
  qz_enter (lv := [(0, .ref (G.2.2 7 o)), (1, .int x1)]) rfl hD (Nat.le_of_ble_eq_true rfl) rfl (fun p e s m args below meth c X => sM_allOf X o x1 ho N h)
