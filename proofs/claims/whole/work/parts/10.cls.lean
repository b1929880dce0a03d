-- ExactCurves.isPlayer(I)Z
theorem dq_E_isPlayer_0 : decode prog_1_method_29_code 0 = .ok (.iload_n 0, 1) := by decide +kernel
theorem dq_E_isPlayer_1 : decode prog_1_method_29_code 1 = .ok (.ifCond .lt 13, 3) := by decide +kernel
theorem dq_E_isPlayer_4 : decode prog_1_method_29_code 4 = .ok (.iload_n 0, 1) := by decide +kernel
theorem dq_E_isPlayer_5 : decode prog_1_method_29_code 5 = .ok (.bipush 6, 2) := by decide +kernel
theorem dq_E_isPlayer_7 : decode prog_1_method_29_code 7 = .ok (.if_icmp .ge 7, 3) := by decide +kernel
theorem dq_E_isPlayer_10 : decode prog_1_method_29_code 10 = .ok (.iconst 1, 1) := by decide +kernel
theorem dq_E_isPlayer_11 : decode prog_1_method_29_code 11 = .ok (.goto 4, 3) := by decide +kernel
theorem dq_E_isPlayer_14 : decode prog_1_method_29_code 14 = .ok (.iconst 0, 1) := by decide +kernel
theorem dq_E_isPlayer_15 : decode prog_1_method_29_code 15 = .ok (.ireturn, 1) := by decide +kernel
def fE_isPlayer (x0 : Int32) (N : qz_N) : Option (Int32 × qz_N) :=
  if x0 < 0 then
    some ((0 : Int32), N)
  else
  if (6 : Int32) ≤ x0 then
    some ((0 : Int32), N)
  else
  some ((1 : Int32), N)
set_option maxRecDepth 100000 in
set_option maxHeartbeats 4000000 in
theorem sE_isPlayer {p : Program} {l : Launch} {e : Env} {s : State} {m : MethodId} {args : Array Value} {below : List Frame} {meth : Method} {c : Code} {G : qz_G} (X : qz_X p s m args meth c "ExactCurves" prog_1_method_29_code 1 (some .boolean) G) {r : (Int32 × qz_N)} (x0 : Int32) (N : qz_N) (h : fE_isPlayer x0 N = some r) : qz_W p l e (qz_R 0) s m args below meth c 0 0 (MQ below (qz_Q G r.2 (some (.int r.1))) args s 0 0 (qz_A G)) G s.heap 1 N 0 [(0, .int x0)] [] := by
  unfold fE_isPlayer at h
  refine qz_iload_n X 0 rfl dq_E_isPlayer_0 ?_
  refine qz_if_lt X (tgt := 14) (by decide) dq_E_isPlayer_1 h (fun _ h => ?_) (fun _ h => ?_)
  · refine qz_iconst X (v := (0 : Int32)) (by decide) dq_E_isPlayer_14 ?_
    exact qz_zret X (by decide) h dq_E_isPlayer_15
  · refine qz_iload_n X 0 rfl dq_E_isPlayer_4 ?_
    refine qz_bipush X (v := (6 : Int32)) (by decide) dq_E_isPlayer_5 ?_
    refine qz_icmp_ge X (tgt := 14) (by decide) dq_E_isPlayer_7 h (fun _ h => ?_) (fun _ h => ?_)
    · refine qz_iconst X (v := (0 : Int32)) (by decide) dq_E_isPlayer_14 ?_
      exact qz_zret X (by decide) h dq_E_isPlayer_15
    · refine qz_iconst X (v := (1 : Int32)) (by decide) dq_E_isPlayer_10 ?_
      refine qz_goto X (tgt := 15) (by decide) dq_E_isPlayer_11 ?_
      exact qz_zret X (by decide) h dq_E_isPlayer_15
theorem cE_isPlayer (l : Launch) (G : qz_G) (hD : qz_D G) (x0 : Int32) (N : qz_N) (r : (Int32 × qz_N)) (h : fE_isPlayer x0 N = some r) : qz_M l yE_isPlayer prog_1_method_29_code 1 (some .boolean) 0 G [.int x0] N (some (.int r.1)) r.2 :=
  qz_enter (lv := [(0, .int x0)]) rfl hD (Nat.le_of_ble_eq_true rfl) rfl (fun p e s m args below meth c X => sE_isPlayer X x0 N h)
-- ExactCurves.isToken(I)Z
theorem dq_E_isToken_0 : decode prog_1_method_30_code 0 = .ok (.iload_n 0, 1) := by decide +kernel
theorem dq_E_isToken_1 : decode prog_1_method_30_code 1 = .ok (.ifCond .lt 12, 3) := by decide +kernel
theorem dq_E_isToken_4 : decode prog_1_method_30_code 4 = .ok (.iload_n 0, 1) := by decide +kernel
theorem dq_E_isToken_5 : decode prog_1_method_30_code 5 = .ok (.iconst 4, 1) := by decide +kernel
theorem dq_E_isToken_6 : decode prog_1_method_30_code 6 = .ok (.if_icmp .ge 7, 3) := by decide +kernel
theorem dq_E_isToken_9 : decode prog_1_method_30_code 9 = .ok (.iconst 1, 1) := by decide +kernel
theorem dq_E_isToken_10 : decode prog_1_method_30_code 10 = .ok (.goto 4, 3) := by decide +kernel
theorem dq_E_isToken_13 : decode prog_1_method_30_code 13 = .ok (.iconst 0, 1) := by decide +kernel
theorem dq_E_isToken_14 : decode prog_1_method_30_code 14 = .ok (.ireturn, 1) := by decide +kernel
def fE_isToken (x0 : Int32) (N : qz_N) : Option (Int32 × qz_N) :=
  if x0 < 0 then
    some ((0 : Int32), N)
  else
  if (4 : Int32) ≤ x0 then
    some ((0 : Int32), N)
  else
  some ((1 : Int32), N)
set_option maxRecDepth 100000 in
set_option maxHeartbeats 4000000 in
theorem sE_isToken {p : Program} {l : Launch} {e : Env} {s : State} {m : MethodId} {args : Array Value} {below : List Frame} {meth : Method} {c : Code} {G : qz_G} (X : qz_X p s m args meth c "ExactCurves" prog_1_method_30_code 1 (some .boolean) G) {r : (Int32 × qz_N)} (x0 : Int32) (N : qz_N) (h : fE_isToken x0 N = some r) : qz_W p l e (qz_R 0) s m args below meth c 0 0 (MQ below (qz_Q G r.2 (some (.int r.1))) args s 0 0 (qz_A G)) G s.heap 1 N 0 [(0, .int x0)] [] := by
  unfold fE_isToken at h
  refine qz_iload_n X 0 rfl dq_E_isToken_0 ?_
  refine qz_if_lt X (tgt := 13) (by decide) dq_E_isToken_1 h (fun _ h => ?_) (fun _ h => ?_)
  · refine qz_iconst X (v := (0 : Int32)) (by decide) dq_E_isToken_13 ?_
    exact qz_zret X (by decide) h dq_E_isToken_14
  · refine qz_iload_n X 0 rfl dq_E_isToken_4 ?_
    refine qz_iconst X (v := (4 : Int32)) (by decide) dq_E_isToken_5 ?_
    refine qz_icmp_ge X (tgt := 13) (by decide) dq_E_isToken_6 h (fun _ h => ?_) (fun _ h => ?_)
    · refine qz_iconst X (v := (0 : Int32)) (by decide) dq_E_isToken_13 ?_
      exact qz_zret X (by decide) h dq_E_isToken_14
    · refine qz_iconst X (v := (1 : Int32)) (by decide) dq_E_isToken_9 ?_
      refine qz_goto X (tgt := 14) (by decide) dq_E_isToken_10 ?_
      exact qz_zret X (by decide) h dq_E_isToken_14
theorem cE_isToken (l : Launch) (G : qz_G) (hD : qz_D G) (x0 : Int32) (N : qz_N) (r : (Int32 × qz_N)) (h : fE_isToken x0 N = some r) : qz_M l yE_isToken prog_1_method_30_code 1 (some .boolean) 0 G [.int x0] N (some (.int r.1)) r.2 :=
  qz_enter (lv := [(0, .int x0)]) rfl hD (Nat.le_of_ble_eq_true rfl) rfl (fun p e s m args below meth c X => sE_isToken X x0 N h)
-- ExactCurves$Purses.give(IIJ)V
theorem dq_U_give_0 : decode prog_7_method_3_code 0 = .ok (.aload_n 0, 1) := by decide +kernel
theorem dq_U_give_1 : decode prog_7_method_3_code 1 = .ok (.getfield 9, 3) := by decide +kernel
theorem dq_U_give_4 : decode prog_7_method_3_code 4 = .ok (.iload_n 1, 1) := by decide +kernel
theorem dq_U_give_5 : decode prog_7_method_3_code 5 = .ok (.iconst 4, 1) := by decide +kernel
theorem dq_U_give_6 : decode prog_7_method_3_code 6 = .ok (.imul, 1) := by decide +kernel
theorem dq_U_give_7 : decode prog_7_method_3_code 7 = .ok (.iload_n 2, 1) := by decide +kernel
theorem dq_U_give_8 : decode prog_7_method_3_code 8 = .ok (.iadd, 1) := by decide +kernel
theorem dq_U_give_9 : decode prog_7_method_3_code 9 = .ok (.dup2, 1) := by decide +kernel
theorem dq_U_give_10 : decode prog_7_method_3_code 10 = .ok (.laload, 1) := by decide +kernel
theorem dq_U_give_11 : decode prog_7_method_3_code 11 = .ok (.lload_n 3, 1) := by decide +kernel
theorem dq_U_give_12 : decode prog_7_method_3_code 12 = .ok (.ladd, 1) := by decide +kernel
theorem dq_U_give_13 : decode prog_7_method_3_code 13 = .ok (.lastore, 1) := by decide +kernel
theorem dq_U_give_14 : decode prog_7_method_3_code 14 = .ok (.return_, 1) := by decide +kernel
def fU_give (o : Nat) (x1 : Int32) (x2 : Int32) (x3 : Int64) (N : qz_N) : Option (Unit × qz_N) :=
  if ((x1 * (4 : Int32)) + x2) < 0 ∨ 24 ≤ ((x1 * (4 : Int32)) + x2).toNatClampNeg then none else
  if ((x1 * (4 : Int32)) + x2) < 0 ∨ 24 ≤ ((x1 * (4 : Int32)) + x2).toNatClampNeg then none else
  qz_let (qz_sl N 12 o ((x1 * (4 : Int32)) + x2).toNatClampNeg ((qz_gl N 12 o ((x1 * (4 : Int32)) + x2).toNatClampNeg) + x3)) fun N1 =>
  some ((), N1)
set_option maxRecDepth 100000 in
set_option maxHeartbeats 4000000 in
theorem sU_give {p : Program} {l : Launch} {e : Env} {s : State} {m : MethodId} {args : Array Value} {below : List Frame} {meth : Method} {c : Code} {G : qz_G} (X : qz_X p s m args meth c "ExactCurves$Purses" prog_7_method_3_code 5 none G) {r : (Unit × qz_N)} (o : Nat) (x1 : Int32) (x2 : Int32) (x3 : Int64) (ho : o < 1) (N : qz_N) (h : fU_give o x1 x2 x3 N = some r) : qz_W p l e (qz_R 0) s m args below meth c 0 0 (MQ below (qz_Q G r.2 none) args s 0 0 (qz_A G)) G s.heap 5 N 0 [(0, .ref (G.2.2 1 o)), (1, .int x1), (2, .int x2), (3, .long x3)] [] := by
  unfold fU_give at h
  refine qz_aload_n X 0 rfl dq_U_give_0 ?_
  refine qz_get X (v := .ref (G.2.2 12 o)) kq_U_9 ho rfl dq_U_give_1 ?_
  refine qz_iload_n X 1 rfl dq_U_give_4 ?_
  refine qz_iconst X (v := (4 : Int32)) (by decide) dq_U_give_5 ?_
  refine qz_imul X dq_U_give_6 ?_
  refine qz_iload_n X 2 rfl dq_U_give_7 ?_
  refine qz_iadd X dq_U_give_8 ?_
  refine qz_dup2_11 X rfl rfl dq_U_give_9 ?_
  refine qz_lald X (c0 := 12) (i := o) (n := 24) rfl ho dq_U_give_10 h (fun h => ?_)
  refine qz_lload_n X 3 rfl dq_U_give_11 ?_
  refine qz_ladd X dq_U_give_12 ?_
  refine qz_last X (c0 := 12) (i := o) (n := 24) rfl ho dq_U_give_13 h (fun N1 h => ?_)
  exact qz_vret X h dq_U_give_14
theorem cU_give (l : Launch) (G : qz_G) (hD : qz_D G) (o : Nat) (x1 : Int32) (x2 : Int32) (x3 : Int64) (N : qz_N) (ho : o < 1) (r : (Unit × qz_N)) (h : fU_give o x1 x2 x3 N = some r) : qz_M l yU_give prog_7_method_3_code 5 none 0 G [.ref (G.2.2 1 o), .int x1, .int x2, .long x3] N none r.2 :=
  qz_enter (lv := [(0, .ref (G.2.2 1 o)), (1, .int x1), (2, .int x2), (3, .long x3)]) rfl hD (Nat.le_of_ble_eq_true rfl) rfl (fun p e s m args below meth c X => sU_give X o x1 x2 x3 ho N h)
-- ExactCurves$Purses.held(II)J
theorem dq_U_held_0 : decode prog_7_method_2_code 0 = .ok (.aload_n 0, 1) := by decide +kernel
theorem dq_U_held_1 : decode prog_7_method_2_code 1 = .ok (.getfield 9, 3) := by decide +kernel
theorem dq_U_held_4 : decode prog_7_method_2_code 4 = .ok (.iload_n 1, 1) := by decide +kernel
theorem dq_U_held_5 : decode prog_7_method_2_code 5 = .ok (.iconst 4, 1) := by decide +kernel
theorem dq_U_held_6 : decode prog_7_method_2_code 6 = .ok (.imul, 1) := by decide +kernel
theorem dq_U_held_7 : decode prog_7_method_2_code 7 = .ok (.iload_n 2, 1) := by decide +kernel
theorem dq_U_held_8 : decode prog_7_method_2_code 8 = .ok (.iadd, 1) := by decide +kernel
theorem dq_U_held_9 : decode prog_7_method_2_code 9 = .ok (.laload, 1) := by decide +kernel
theorem dq_U_held_10 : decode prog_7_method_2_code 10 = .ok (.lreturn, 1) := by decide +kernel
def fU_held (o : Nat) (x1 : Int32) (x2 : Int32) (N : qz_N) : Option (Int64 × qz_N) :=
  if ((x1 * (4 : Int32)) + x2) < 0 ∨ 24 ≤ ((x1 * (4 : Int32)) + x2).toNatClampNeg then none else
  some (qz_gl N 12 o ((x1 * (4 : Int32)) + x2).toNatClampNeg, N)
set_option maxRecDepth 100000 in
set_option maxHeartbeats 4000000 in
theorem sU_held {p : Program} {l : Launch} {e : Env} {s : State} {m : MethodId} {args : Array Value} {below : List Frame} {meth : Method} {c : Code} {G : qz_G} (X : qz_X p s m args meth c "ExactCurves$Purses" prog_7_method_2_code 3 (some .long) G) {r : (Int64 × qz_N)} (o : Nat) (x1 : Int32) (x2 : Int32) (ho : o < 1) (N : qz_N) (h : fU_held o x1 x2 N = some r) : qz_W p l e (qz_R 0) s m args below meth c 0 0 (MQ below (qz_Q G r.2 (some (.long r.1))) args s 0 0 (qz_A G)) G s.heap 3 N 0 [(0, .ref (G.2.2 1 o)), (1, .int x1), (2, .int x2)] [] := by
  unfold fU_held at h
  refine qz_aload_n X 0 rfl dq_U_held_0 ?_
  refine qz_get X (v := .ref (G.2.2 12 o)) kq_U_9 ho rfl dq_U_held_1 ?_
  refine qz_iload_n X 1 rfl dq_U_held_4 ?_
  refine qz_iconst X (v := (4 : Int32)) (by decide) dq_U_held_5 ?_
  refine qz_imul X dq_U_held_6 ?_
  refine qz_iload_n X 2 rfl dq_U_held_7 ?_
  refine qz_iadd X dq_U_held_8 ?_
  refine qz_lald X (c0 := 12) (i := o) (n := 24) rfl ho dq_U_held_9 h (fun h => ?_)
  exact qz_lret X h dq_U_held_10
theorem cU_held (l : Launch) (G : qz_G) (hD : qz_D G) (o : Nat) (x1 : Int32) (x2 : Int32) (N : qz_N) (ho : o < 1) (r : (Int64 × qz_N)) (h : fU_held o x1 x2 N = some r) : qz_M l yU_held prog_7_method_2_code 3 (some .long) 0 G [.ref (G.2.2 1 o), .int x1, .int x2] N (some (.long r.1)) r.2 :=
  qz_enter (lv := [(0, .ref (G.2.2 1 o)), (1, .int x1), (2, .int x2)]) rfl hD (Nat.le_of_ble_eq_true rfl) rfl (fun p e s m args below meth c X => sU_held X o x1 x2 ho N h)
-- ExactCurves.mint(IIJ)J
theorem dq_E_mint_0 : decode prog_1_method_2_code 0 = .ok (.iload_n 1, 1) := by decide +kernel
theorem dq_E_mint_1 : decode prog_1_method_2_code 1 = .ok (.invokestatic 51, 3) := by decide +kernel
theorem dq_E_mint_4 : decode prog_1_method_2_code 4 = .ok (.ifCond .eq 24, 3) := by decide +kernel
theorem dq_E_mint_7 : decode prog_1_method_2_code 7 = .ok (.iload_n 2, 1) := by decide +kernel
theorem dq_E_mint_8 : decode prog_1_method_2_code 8 = .ok (.invokestatic 55, 3) := by decide +kernel
theorem dq_E_mint_11 : decode prog_1_method_2_code 11 = .ok (.ifCond .eq 17, 3) := by decide +kernel
theorem dq_E_mint_14 : decode prog_1_method_2_code 14 = .ok (.lload_n 3, 1) := by decide +kernel
theorem dq_E_mint_15 : decode prog_1_method_2_code 15 = .ok (.lconst 1, 1) := by decide +kernel
theorem dq_E_mint_16 : decode prog_1_method_2_code 16 = .ok (.lcmp, 1) := by decide +kernel
theorem dq_E_mint_17 : decode prog_1_method_2_code 17 = .ok (.ifCond .lt 11, 3) := by decide +kernel
theorem dq_E_mint_20 : decode prog_1_method_2_code 20 = .ok (.lload_n 3, 1) := by decide +kernel
theorem dq_E_mint_21 : decode prog_1_method_2_code 21 = .ok (.ldc2_w 58, 3) := by decide +kernel
theorem dq_E_mint_24 : decode prog_1_method_2_code 24 = .ok (.lcmp, 1) := by decide +kernel
theorem dq_E_mint_25 : decode prog_1_method_2_code 25 = .ok (.ifCond .le 7, 3) := by decide +kernel
theorem dq_E_mint_28 : decode prog_1_method_2_code 28 = .ok (.ldc2_w 60, 3) := by decide +kernel
theorem dq_E_mint_31 : decode prog_1_method_2_code 31 = .ok (.lreturn, 1) := by decide +kernel
theorem dq_E_mint_32 : decode prog_1_method_2_code 32 = .ok (.lload_n 3, 1) := by decide +kernel
theorem dq_E_mint_33 : decode prog_1_method_2_code 33 = .ok (.ldc2_w 58, 3) := by decide +kernel
theorem dq_E_mint_36 : decode prog_1_method_2_code 36 = .ok (.aload_n 0, 1) := by decide +kernel
theorem dq_E_mint_37 : decode prog_1_method_2_code 37 = .ok (.getfield 10, 3) := by decide +kernel
theorem dq_E_mint_40 : decode prog_1_method_2_code 40 = .ok (.getfield 62, 3) := by decide +kernel
theorem dq_E_mint_43 : decode prog_1_method_2_code 43 = .ok (.iload_n 2, 1) := by decide +kernel
theorem dq_E_mint_44 : decode prog_1_method_2_code 44 = .ok (.laload, 1) := by decide +kernel
theorem dq_E_mint_45 : decode prog_1_method_2_code 45 = .ok (.lsub, 1) := by decide +kernel
theorem dq_E_mint_46 : decode prog_1_method_2_code 46 = .ok (.lcmp, 1) := by decide +kernel
theorem dq_E_mint_47 : decode prog_1_method_2_code 47 = .ok (.ifCond .le 7, 3) := by decide +kernel
theorem dq_E_mint_50 : decode prog_1_method_2_code 50 = .ok (.ldc2_w 66, 3) := by decide +kernel
theorem dq_E_mint_53 : decode prog_1_method_2_code 53 = .ok (.lreturn, 1) := by decide +kernel
theorem dq_E_mint_54 : decode prog_1_method_2_code 54 = .ok (.aload_n 0, 1) := by decide +kernel
theorem dq_E_mint_55 : decode prog_1_method_2_code 55 = .ok (.getfield 10, 3) := by decide +kernel
theorem dq_E_mint_58 : decode prog_1_method_2_code 58 = .ok (.getfield 62, 3) := by decide +kernel
theorem dq_E_mint_61 : decode prog_1_method_2_code 61 = .ok (.iload_n 2, 1) := by decide +kernel
theorem dq_E_mint_62 : decode prog_1_method_2_code 62 = .ok (.dup2, 1) := by decide +kernel
theorem dq_E_mint_63 : decode prog_1_method_2_code 63 = .ok (.laload, 1) := by decide +kernel
theorem dq_E_mint_64 : decode prog_1_method_2_code 64 = .ok (.lload_n 3, 1) := by decide +kernel
theorem dq_E_mint_65 : decode prog_1_method_2_code 65 = .ok (.ladd, 1) := by decide +kernel
theorem dq_E_mint_66 : decode prog_1_method_2_code 66 = .ok (.lastore, 1) := by decide +kernel
theorem dq_E_mint_67 : decode prog_1_method_2_code 67 = .ok (.aload_n 0, 1) := by decide +kernel
theorem dq_E_mint_68 : decode prog_1_method_2_code 68 = .ok (.getfield 10, 3) := by decide +kernel
theorem dq_E_mint_71 : decode prog_1_method_2_code 71 = .ok (.iload_n 1, 1) := by decide +kernel
theorem dq_E_mint_72 : decode prog_1_method_2_code 72 = .ok (.iload_n 2, 1) := by decide +kernel
theorem dq_E_mint_73 : decode prog_1_method_2_code 73 = .ok (.lload_n 3, 1) := by decide +kernel
theorem dq_E_mint_74 : decode prog_1_method_2_code 74 = .ok (.invokevirtual 68, 3) := by decide +kernel
theorem dq_E_mint_77 : decode prog_1_method_2_code 77 = .ok (.aload_n 0, 1) := by decide +kernel
theorem dq_E_mint_78 : decode prog_1_method_2_code 78 = .ok (.getfield 10, 3) := by decide +kernel
theorem dq_E_mint_81 : decode prog_1_method_2_code 81 = .ok (.iload_n 1, 1) := by decide +kernel
theorem dq_E_mint_82 : decode prog_1_method_2_code 82 = .ok (.iload_n 2, 1) := by decide +kernel
theorem dq_E_mint_83 : decode prog_1_method_2_code 83 = .ok (.invokevirtual 72, 3) := by decide +kernel
theorem dq_E_mint_86 : decode prog_1_method_2_code 86 = .ok (.lreturn, 1) := by decide +kernel
def fE_mint (o : Nat) (x1 : Int32) (x2 : Int32) (x3 : Int64) (N : qz_N) : Option (Int64 × qz_N) :=
  (fE_isPlayer x1 N).bind fun q1 =>
  if q1.1 = 0 then
    some ((-2 : Int64), q1.2)
  else
  (fE_isToken x2 q1.2).bind fun q3 =>
  if q3.1 = 0 then
    some ((-2 : Int64), q3.2)
  else
  if x3 < (1 : Int64) then
    some ((-2 : Int64), q3.2)
  else
  if x3 ≤ (100000000000000 : Int64) then
    if x2 < 0 ∨ 4 ≤ x2.toNatClampNeg then none else
    if x3 ≤ ((100000000000000 : Int64) - (qz_gl q3.2 13 o x2.toNatClampNeg)) then
      if x2 < 0 ∨ 4 ≤ x2.toNatClampNeg then none else
      if x2 < 0 ∨ 4 ≤ x2.toNatClampNeg then none else
      qz_let (qz_sl q3.2 13 o x2.toNatClampNeg ((qz_gl q3.2 13 o x2.toNatClampNeg) + x3)) fun N5 =>
      (fU_give o x1 x2 x3 N5).bind fun q6 =>
      (fU_held o x1 x2 q6.2).bind fun q8 =>
      some (q8.1, q8.2)
    else
    some ((-3 : Int64), q3.2)
  else
  some ((-2 : Int64), q3.2)
set_option maxRecDepth 100000 in
set_option maxHeartbeats 4000000 in
theorem sE_mint {p : Program} {l : Launch} {e : Env} {s : State} {m : MethodId} {args : Array Value} {below : List Frame} {meth : Method} {c : Code} {G : qz_G} (X : qz_X p s m args meth c "ExactCurves" prog_1_method_2_code 5 (some .long) G) {r : (Int64 × qz_N)} (o : Nat) (x1 : Int32) (x2 : Int32) (x3 : Int64) (ho : o < 1) (N : qz_N) (h : fE_mint o x1 x2 x3 N = some r) : qz_W p l e (qz_R 1) s m args below meth c 0 0 (MQ below (qz_Q G r.2 (some (.long r.1))) args s 0 0 (qz_A G)) G s.heap 5 N 0 [(0, .ref (G.2.2 0 o)), (1, .int x1), (2, .int x2), (3, .long x3)] [] := by
  unfold fE_mint at h
  refine qz_iload_n X 1 rfl dq_E_mint_0 ?_
  refine qz_bind h (fun q1 e2 h => ?_)
  refine qz_callS X (as := [.int x1]) (st := []) (o := some (.int q1.1)) (N' := q1.2) cq_E_51 (cE_isPlayer l G X.2.2.2.2.2.2.1 x1 N _ e2) ⟨by decide, by decide⟩ rfl rfl (Nat.le_of_ble_eq_true rfl) ⟨Nat.zero_le _, Nat.zero_le _⟩ dq_E_mint_1 ?_
  refine qz_if_eq X (tgt := 28) (by decide) dq_E_mint_4 h (fun _ h => ?_) (fun _ h => ?_)
  · refine qz_ldc2 X (v := (-2 : Int64)) wq_252 dq_E_mint_28 ?_
    exact qz_lret X h dq_E_mint_31
  · refine qz_iload_n X 2 rfl dq_E_mint_7 ?_
    refine qz_bind h (fun q3 e4 h => ?_)
    refine qz_callS X (as := [.int x2]) (st := []) (o := some (.int q3.1)) (N' := q3.2) cq_E_55 (cE_isToken l G X.2.2.2.2.2.2.1 x2 q1.2 _ e4) ⟨by decide, by decide⟩ rfl rfl (Nat.le_of_ble_eq_true rfl) ⟨Nat.zero_le _, Nat.zero_le _⟩ dq_E_mint_8 ?_
    refine qz_if_eq X (tgt := 28) (by decide) dq_E_mint_11 h (fun _ h => ?_) (fun _ h => ?_)
    · refine qz_ldc2 X (v := (-2 : Int64)) wq_252 dq_E_mint_28 ?_
      exact qz_lret X h dq_E_mint_31
    · refine qz_lload_n X 3 rfl dq_E_mint_14 ?_
      refine qz_lconst X (v := (1 : Int64)) (by decide) dq_E_mint_15 ?_
      refine qz_lcmp_lt X (tgt := 28) (by decide) dq_E_mint_16 dq_E_mint_17 h (fun _ h => ?_) (fun _ h => ?_)
      · refine qz_ldc2 X (v := (-2 : Int64)) wq_252 dq_E_mint_28 ?_
        exact qz_lret X h dq_E_mint_31
      · refine qz_lload_n X 3 rfl dq_E_mint_20 ?_
        refine qz_ldc2 X (v := (100000000000000 : Int64)) wq_251 dq_E_mint_21 ?_
        refine qz_lcmp_le X (tgt := 32) (by decide) dq_E_mint_24 dq_E_mint_25 h (fun _ h => ?_) (fun _ h => ?_)
        · refine qz_lload_n X 3 rfl dq_E_mint_32 ?_
          refine qz_ldc2 X (v := (100000000000000 : Int64)) wq_251 dq_E_mint_33 ?_
          refine qz_aload_n X 0 rfl dq_E_mint_36 ?_
          refine qz_get X (v := .ref (G.2.2 1 o)) kq_E_10 ho rfl dq_E_mint_37 ?_
          refine qz_get X (v := .ref (G.2.2 13 o)) kq_E_62 ho rfl dq_E_mint_40 ?_
          refine qz_iload_n X 2 rfl dq_E_mint_43 ?_
          refine qz_lald X (c0 := 13) (i := o) (n := 4) rfl ho dq_E_mint_44 h (fun h => ?_)
          refine qz_lsub X dq_E_mint_45 ?_
          refine qz_lcmp_le X (tgt := 54) (by decide) dq_E_mint_46 dq_E_mint_47 h (fun _ h => ?_) (fun _ h => ?_)
          · refine qz_aload_n X 0 rfl dq_E_mint_54 ?_
            refine qz_get X (v := .ref (G.2.2 1 o)) kq_E_10 ho rfl dq_E_mint_55 ?_
            refine qz_get X (v := .ref (G.2.2 13 o)) kq_E_62 ho rfl dq_E_mint_58 ?_
            refine qz_iload_n X 2 rfl dq_E_mint_61 ?_
            refine qz_dup2_11 X rfl rfl dq_E_mint_62 ?_
            refine qz_lald X (c0 := 13) (i := o) (n := 4) rfl ho dq_E_mint_63 h (fun h => ?_)
            refine qz_lload_n X 3 rfl dq_E_mint_64 ?_
            refine qz_ladd X dq_E_mint_65 ?_
            refine qz_last X (c0 := 13) (i := o) (n := 4) rfl ho dq_E_mint_66 h (fun N5 h => ?_)
            refine qz_aload_n X 0 rfl dq_E_mint_67 ?_
            refine qz_get X (v := .ref (G.2.2 1 o)) kq_E_10 ho rfl dq_E_mint_68 ?_
            refine qz_iload_n X 1 rfl dq_E_mint_71 ?_
            refine qz_iload_n X 2 rfl dq_E_mint_72 ?_
            refine qz_lload_n X 3 rfl dq_E_mint_73 ?_
            refine qz_bind h (fun q6 e7 h => ?_)
            refine qz_callV X (as := [.int x1, .int x2, .long x3]) (st := []) (o := none) (N' := q6.2) cq_E_68 ho (cU_give l G X.2.2.2.2.2.2.1 o x1 x2 x3 N5 ho _ e7) ⟨by decide, by decide⟩ rfl rfl (Nat.le_of_ble_eq_true rfl) ⟨Nat.zero_le _, Nat.zero_le _⟩ dq_E_mint_74 ?_
            refine qz_aload_n X 0 rfl dq_E_mint_77 ?_
            refine qz_get X (v := .ref (G.2.2 1 o)) kq_E_10 ho rfl dq_E_mint_78 ?_
            refine qz_iload_n X 1 rfl dq_E_mint_81 ?_
            refine qz_iload_n X 2 rfl dq_E_mint_82 ?_
            refine qz_bind h (fun q8 e9 h => ?_)
            refine qz_callV X (as := [.int x1, .int x2]) (st := []) (o := some (.long q8.1)) (N' := q8.2) cq_E_72 ho (cU_held l G X.2.2.2.2.2.2.1 o x1 x2 q6.2 ho _ e9) ⟨by decide, by decide⟩ rfl rfl (Nat.le_of_ble_eq_true rfl) ⟨Nat.zero_le _, Nat.zero_le _⟩ dq_E_mint_83 ?_
            exact qz_lret X h dq_E_mint_86
          · refine qz_ldc2 X (v := (-3 : Int64)) wq_253 dq_E_mint_50 ?_
            exact qz_lret X h dq_E_mint_53
        · refine qz_ldc2 X (v := (-2 : Int64)) wq_252 dq_E_mint_28 ?_
          exact qz_lret X h dq_E_mint_31
theorem cE_mint (l : Launch) (G : qz_G) (hD : qz_D G) (o : Nat) (x1 : Int32) (x2 : Int32) (x3 : Int64) (N : qz_N) (ho : o < 1) (r : (Int64 × qz_N)) (h : fE_mint o x1 x2 x3 N = some r) : qz_M l yE_mint prog_1_method_2_code 5 (some .long) 1 G [.ref (G.2.2 0 o), .int x1, .int x2, .long x3] N (some (.long r.1)) r.2 :=
  qz_enter (lv := [(0, .ref (G.2.2 0 o)), (1, .int x1), (2, .int x2), (3, .long x3)]) rfl hD (Nat.le_of_ble_eq_true rfl) rfl (fun p e s m args below meth c X => sE_mint X o x1 x2 x3 ho N h)
-- ExactCurves.balance(II)J
theorem dq_E_balance_0 : decode prog_1_method_3_code 0 = .ok (.iload_n 1, 1) := by decide +kernel
theorem dq_E_balance_1 : decode prog_1_method_3_code 1 = .ok (.invokestatic 51, 3) := by decide +kernel
theorem dq_E_balance_4 : decode prog_1_method_3_code 4 = .ok (.ifCond .eq 22, 3) := by decide +kernel
theorem dq_E_balance_7 : decode prog_1_method_3_code 7 = .ok (.iload_n 2, 1) := by decide +kernel
theorem dq_E_balance_8 : decode prog_1_method_3_code 8 = .ok (.invokestatic 55, 3) := by decide +kernel
theorem dq_E_balance_11 : decode prog_1_method_3_code 11 = .ok (.ifCond .eq 15, 3) := by decide +kernel
theorem dq_E_balance_14 : decode prog_1_method_3_code 14 = .ok (.aload_n 0, 1) := by decide +kernel
theorem dq_E_balance_15 : decode prog_1_method_3_code 15 = .ok (.getfield 10, 3) := by decide +kernel
theorem dq_E_balance_18 : decode prog_1_method_3_code 18 = .ok (.iload_n 1, 1) := by decide +kernel
theorem dq_E_balance_19 : decode prog_1_method_3_code 19 = .ok (.iload_n 2, 1) := by decide +kernel
theorem dq_E_balance_20 : decode prog_1_method_3_code 20 = .ok (.invokevirtual 72, 3) := by decide +kernel
theorem dq_E_balance_23 : decode prog_1_method_3_code 23 = .ok (.goto 6, 3) := by decide +kernel
theorem dq_E_balance_26 : decode prog_1_method_3_code 26 = .ok (.ldc2_w 60, 3) := by decide +kernel
theorem dq_E_balance_29 : decode prog_1_method_3_code 29 = .ok (.lreturn, 1) := by decide +kernel
def fE_balance (o : Nat) (x1 : Int32) (x2 : Int32) (N : qz_N) : Option (Int64 × qz_N) :=
  (fE_isPlayer x1 N).bind fun q1 =>
  if q1.1 = 0 then
    some ((-2 : Int64), q1.2)
  else
  (fE_isToken x2 q1.2).bind fun q3 =>
  if q3.1 = 0 then
    some ((-2 : Int64), q3.2)
  else
  (fU_held o x1 x2 q3.2).bind fun q5 =>
  some (q5.1, q5.2)
set_option maxRecDepth 100000 in
set_option maxHeartbeats 4000000 in
theorem sE_balance {p : Program} {l : Launch} {e : Env} {s : State} {m : MethodId} {args : Array Value} {below : List Frame} {meth : Method} {c : Code} {G : qz_G} (X : qz_X p s m args meth c "ExactCurves" prog_1_method_3_code 3 (some .long) G) {r : (Int64 × qz_N)} (o : Nat) (x1 : Int32) (x2 : Int32) (ho : o < 1) (N : qz_N) (h : fE_balance o x1 x2 N = some r) : qz_W p l e (qz_R 1) s m args below meth c 0 0 (MQ below (qz_Q G r.2 (some (.long r.1))) args s 0 0 (qz_A G)) G s.heap 3 N 0 [(0, .ref (G.2.2 0 o)), (1, .int x1), (2, .int x2)] [] := by
  unfold fE_balance at h
  refine qz_iload_n X 1 rfl dq_E_balance_0 ?_
  refine qz_bind h (fun q1 e2 h => ?_)
  refine qz_callS X (as := [.int x1]) (st := []) (o := some (.int q1.1)) (N' := q1.2) cq_E_51 (cE_isPlayer l G X.2.2.2.2.2.2.1 x1 N _ e2) ⟨by decide, by decide⟩ rfl rfl (Nat.le_of_ble_eq_true rfl) ⟨Nat.zero_le _, Nat.zero_le _⟩ dq_E_balance_1 ?_
  refine qz_if_eq X (tgt := 26) (by decide) dq_E_balance_4 h (fun _ h => ?_) (fun _ h => ?_)
  · refine qz_ldc2 X (v := (-2 : Int64)) wq_252 dq_E_balance_26 ?_
    exact qz_lret X h dq_E_balance_29
  · refine qz_iload_n X 2 rfl dq_E_balance_7 ?_
    refine qz_bind h (fun q3 e4 h => ?_)
    refine qz_callS X (as := [.int x2]) (st := []) (o := some (.int q3.1)) (N' := q3.2) cq_E_55 (cE_isToken l G X.2.2.2.2.2.2.1 x2 q1.2 _ e4) ⟨by decide, by decide⟩ rfl rfl (Nat.le_of_ble_eq_true rfl) ⟨Nat.zero_le _, Nat.zero_le _⟩ dq_E_balance_8 ?_
    refine qz_if_eq X (tgt := 26) (by decide) dq_E_balance_11 h (fun _ h => ?_) (fun _ h => ?_)
    · refine qz_ldc2 X (v := (-2 : Int64)) wq_252 dq_E_balance_26 ?_
      exact qz_lret X h dq_E_balance_29
    · refine qz_aload_n X 0 rfl dq_E_balance_14 ?_
      refine qz_get X (v := .ref (G.2.2 1 o)) kq_E_10 ho rfl dq_E_balance_15 ?_
      refine qz_iload_n X 1 rfl dq_E_balance_18 ?_
      refine qz_iload_n X 2 rfl dq_E_balance_19 ?_
      refine qz_bind h (fun q5 e6 h => ?_)
      refine qz_callV X (as := [.int x1, .int x2]) (st := []) (o := some (.long q5.1)) (N' := q5.2) cq_E_72 ho (cU_held l G X.2.2.2.2.2.2.1 o x1 x2 q3.2 ho _ e6) ⟨by decide, by decide⟩ rfl rfl (Nat.le_of_ble_eq_true rfl) ⟨Nat.zero_le _, Nat.zero_le _⟩ dq_E_balance_20 ?_
      refine qz_goto X (tgt := 29) (by decide) dq_E_balance_23 ?_
      exact qz_lret X h dq_E_balance_29
theorem cE_balance (l : Launch) (G : qz_G) (hD : qz_D G) (o : Nat) (x1 : Int32) (x2 : Int32) (N : qz_N) (ho : o < 1) (r : (Int64 × qz_N)) (h : fE_balance o x1 x2 N = some r) : qz_M l yE_balance prog_1_method_3_code 3 (some .long) 1 G [.ref (G.2.2 0 o), .int x1, .int x2] N (some (.long r.1)) r.2 :=
  qz_enter (lv := [(0, .ref (G.2.2 0 o)), (1, .int x1), (2, .int x2)]) rfl hD (Nat.le_of_ble_eq_true rfl) rfl (fun p e s m args below meth c X => sE_balance X o x1 x2 ho N h)
-- ExactCurves.total(I)J
theorem dq_E_total_0 : decode prog_1_method_4_code 0 = .ok (.iload_n 1, 1) := by decide +kernel
theorem dq_E_total_1 : decode prog_1_method_4_code 1 = .ok (.invokestatic 55, 3) := by decide +kernel
theorem dq_E_total_4 : decode prog_1_method_4_code 4 = .ok (.ifCond .eq 15, 3) := by decide +kernel
theorem dq_E_total_7 : decode prog_1_method_4_code 7 = .ok (.aload_n 0, 1) := by decide +kernel
theorem dq_E_total_8 : decode prog_1_method_4_code 8 = .ok (.getfield 10, 3) := by decide +kernel
theorem dq_E_total_11 : decode prog_1_method_4_code 11 = .ok (.getfield 62, 3) := by decide +kernel
theorem dq_E_total_14 : decode prog_1_method_4_code 14 = .ok (.iload_n 1, 1) := by decide +kernel
theorem dq_E_total_15 : decode prog_1_method_4_code 15 = .ok (.laload, 1) := by decide +kernel
theorem dq_E_total_16 : decode prog_1_method_4_code 16 = .ok (.goto 6, 3) := by decide +kernel
theorem dq_E_total_19 : decode prog_1_method_4_code 19 = .ok (.ldc2_w 60, 3) := by decide +kernel
theorem dq_E_total_22 : decode prog_1_method_4_code 22 = .ok (.lreturn, 1) := by decide +kernel
def fE_total (o : Nat) (x1 : Int32) (N : qz_N) : Option (Int64 × qz_N) :=
  (fE_isToken x1 N).bind fun q1 =>
  if q1.1 = 0 then
    some ((-2 : Int64), q1.2)
  else
  if x1 < 0 ∨ 4 ≤ x1.toNatClampNeg then none else
  some (qz_gl q1.2 13 o x1.toNatClampNeg, q1.2)
set_option maxRecDepth 100000 in
set_option maxHeartbeats 4000000 in
theorem sE_total {p : Program} {l : Launch} {e : Env} {s : State} {m : MethodId} {args : Array Value} {below : List Frame} {meth : Method} {c : Code} {G : qz_G} (X : qz_X p s m args meth c "ExactCurves" prog_1_method_4_code 2 (some .long) G) {r : (Int64 × qz_N)} (o : Nat) (x1 : Int32) (ho : o < 1) (N : qz_N) (h : fE_total o x1 N = some r) : qz_W p l e (qz_R 1) s m args below meth c 0 0 (MQ below (qz_Q G r.2 (some (.long r.1))) args s 0 0 (qz_A G)) G s.heap 2 N 0 [(0, .ref (G.2.2 0 o)), (1, .int x1)] [] := by
  unfold fE_total at h
  refine qz_iload_n X 1 rfl dq_E_total_0 ?_
  refine qz_bind h (fun q1 e2 h => ?_)
  refine qz_callS X (as := [.int x1]) (st := []) (o := some (.int q1.1)) (N' := q1.2) cq_E_55 (cE_isToken l G X.2.2.2.2.2.2.1 x1 N _ e2) ⟨by decide, by decide⟩ rfl rfl (Nat.le_of_ble_eq_true rfl) ⟨Nat.zero_le _, Nat.zero_le _⟩ dq_E_total_1 ?_
  refine qz_if_eq X (tgt := 19) (by decide) dq_E_total_4 h (fun _ h => ?_) (fun _ h => ?_)
  · refine qz_ldc2 X (v := (-2 : Int64)) wq_252 dq_E_total_19 ?_
    exact qz_lret X h dq_E_total_22
  · refine qz_aload_n X 0 rfl dq_E_total_7 ?_
    refine qz_get X (v := .ref (G.2.2 1 o)) kq_E_10 ho rfl dq_E_total_8 ?_
    refine qz_get X (v := .ref (G.2.2 13 o)) kq_E_62 ho rfl dq_E_total_11 ?_
    refine qz_iload_n X 1 rfl dq_E_total_14 ?_
    refine qz_lald X (c0 := 13) (i := o) (n := 4) rfl ho dq_E_total_15 h (fun h => ?_)
    refine qz_goto X (tgt := 22) (by decide) dq_E_total_16 ?_
    exact qz_lret X h dq_E_total_22
theorem cE_total (l : Launch) (G : qz_G) (hD : qz_D G) (o : Nat) (x1 : Int32) (N : qz_N) (ho : o < 1) (r : (Int64 × qz_N)) (h : fE_total o x1 N = some r) : qz_M l yE_total prog_1_method_4_code 2 (some .long) 1 G [.ref (G.2.2 0 o), .int x1] N (some (.long r.1)) r.2 :=
  qz_enter (lv := [(0, .ref (G.2.2 0 o)), (1, .int x1)]) rfl hD (Nat.le_of_ble_eq_true rfl) rfl (fun p e s m args below meth c X => sE_total X o x1 ho N h)
-- ExactCurves.house(I)J
theorem dq_E_house_0 : decode prog_1_method_5_code 0 = .ok (.iload_n 1, 1) := by decide +kernel
theorem dq_E_house_1 : decode prog_1_method_5_code 1 = .ok (.invokestatic 55, 3) := by decide +kernel
theorem dq_E_house_4 : decode prog_1_method_5_code 4 = .ok (.ifCond .eq 15, 3) := by decide +kernel
theorem dq_E_house_7 : decode prog_1_method_5_code 7 = .ok (.aload_n 0, 1) := by decide +kernel
theorem dq_E_house_8 : decode prog_1_method_5_code 8 = .ok (.getfield 10, 3) := by decide +kernel
theorem dq_E_house_11 : decode prog_1_method_5_code 11 = .ok (.getfield 76, 3) := by decide +kernel
theorem dq_E_house_14 : decode prog_1_method_5_code 14 = .ok (.iload_n 1, 1) := by decide +kernel
theorem dq_E_house_15 : decode prog_1_method_5_code 15 = .ok (.laload, 1) := by decide +kernel
theorem dq_E_house_16 : decode prog_1_method_5_code 16 = .ok (.goto 6, 3) := by decide +kernel
theorem dq_E_house_19 : decode prog_1_method_5_code 19 = .ok (.ldc2_w 60, 3) := by decide +kernel
theorem dq_E_house_22 : decode prog_1_method_5_code 22 = .ok (.lreturn, 1) := by decide +kernel
def fE_house (o : Nat) (x1 : Int32) (N : qz_N) : Option (Int64 × qz_N) :=
  (fE_isToken x1 N).bind fun q1 =>
  if q1.1 = 0 then
    some ((-2 : Int64), q1.2)
  else
  if x1 < 0 ∨ 4 ≤ x1.toNatClampNeg then none else
  some (qz_gl q1.2 14 o x1.toNatClampNeg, q1.2)
set_option maxRecDepth 100000 in
set_option maxHeartbeats 4000000 in
theorem sE_house {p : Program} {l : Launch} {e : Env} {s : State} {m : MethodId} {args : Array Value} {below : List Frame} {meth : Method} {c : Code} {G : qz_G} (X : qz_X p s m args meth c "ExactCurves" prog_1_method_5_code 2 (some .long) G) {r : (Int64 × qz_N)} (o : Nat) (x1 : Int32) (ho : o < 1) (N : qz_N) (h : fE_house o x1 N = some r) : qz_W p l e (qz_R 1) s m args below meth c 0 0 (MQ below (qz_Q G r.2 (some (.long r.1))) args s 0 0 (qz_A G)) G s.heap 2 N 0 [(0, .ref (G.2.2 0 o)), (1, .int x1)] [] := by
  unfold fE_house at h
  refine qz_iload_n X 1 rfl dq_E_house_0 ?_
  refine qz_bind h (fun q1 e2 h => ?_)
  refine qz_callS X (as := [.int x1]) (st := []) (o := some (.int q1.1)) (N' := q1.2) cq_E_55 (cE_isToken l G X.2.2.2.2.2.2.1 x1 N _ e2) ⟨by decide, by decide⟩ rfl rfl (Nat.le_of_ble_eq_true rfl) ⟨Nat.zero_le _, Nat.zero_le _⟩ dq_E_house_1 ?_
  refine qz_if_eq X (tgt := 19) (by decide) dq_E_house_4 h (fun _ h => ?_) (fun _ h => ?_)
  · refine qz_ldc2 X (v := (-2 : Int64)) wq_252 dq_E_house_19 ?_
    exact qz_lret X h dq_E_house_22
  · refine qz_aload_n X 0 rfl dq_E_house_7 ?_
    refine qz_get X (v := .ref (G.2.2 1 o)) kq_E_10 ho rfl dq_E_house_8 ?_
    refine qz_get X (v := .ref (G.2.2 14 o)) kq_E_76 ho rfl dq_E_house_11 ?_
    refine qz_iload_n X 1 rfl dq_E_house_14 ?_
    refine qz_lald X (c0 := 14) (i := o) (n := 4) rfl ho dq_E_house_15 h (fun h => ?_)
    refine qz_goto X (tgt := 22) (by decide) dq_E_house_16 ?_
    exact qz_lret X h dq_E_house_22
theorem cE_house (l : Launch) (G : qz_G) (hD : qz_D G) (o : Nat) (x1 : Int32) (N : qz_N) (ho : o < 1) (r : (Int64 × qz_N)) (h : fE_house o x1 N = some r) : qz_M l yE_house prog_1_method_5_code 2 (some .long) 1 G [.ref (G.2.2 0 o), .int x1] N (some (.long r.1)) r.2 :=
  qz_enter (lv := [(0, .ref (G.2.2 0 o)), (1, .int x1)]) rfl hD (Nat.le_of_ble_eq_true rfl) rfl (fun p e s m args below meth c X => sE_house X o x1 ho N h)
-- ExactCurves.pool(IIII)I
theorem dq_E_pool_0 : decode prog_1_method_6_code 0 = .ok (.iload_n 1, 1) := by decide +kernel
theorem dq_E_pool_1 : decode prog_1_method_6_code 1 = .ok (.invokestatic 55, 3) := by decide +kernel
theorem dq_E_pool_4 : decode prog_1_method_6_code 4 = .ok (.ifCond .eq 24, 3) := by decide +kernel
theorem dq_E_pool_7 : decode prog_1_method_6_code 7 = .ok (.iload_n 2, 1) := by decide +kernel
theorem dq_E_pool_8 : decode prog_1_method_6_code 8 = .ok (.invokestatic 55, 3) := by decide +kernel
theorem dq_E_pool_11 : decode prog_1_method_6_code 11 = .ok (.ifCond .eq 17, 3) := by decide +kernel
theorem dq_E_pool_14 : decode prog_1_method_6_code 14 = .ok (.iload_n 1, 1) := by decide +kernel
theorem dq_E_pool_15 : decode prog_1_method_6_code 15 = .ok (.iload_n 2, 1) := by decide +kernel
theorem dq_E_pool_16 : decode prog_1_method_6_code 16 = .ok (.if_icmp .eq 12, 3) := by decide +kernel
theorem dq_E_pool_19 : decode prog_1_method_6_code 19 = .ok (.aload_n 0, 1) := by decide +kernel
theorem dq_E_pool_20 : decode prog_1_method_6_code 20 = .ok (.getfield 79, 3) := by decide +kernel
theorem dq_E_pool_23 : decode prog_1_method_6_code 23 = .ok (.bipush 6, 2) := by decide +kernel
theorem dq_E_pool_25 : decode prog_1_method_6_code 25 = .ok (.if_icmp .lt 6, 3) := by decide +kernel
theorem dq_E_pool_28 : decode prog_1_method_6_code 28 = .ok (.bipush (-2), 2) := by decide +kernel
theorem dq_E_pool_30 : decode prog_1_method_6_code 30 = .ok (.ireturn, 1) := by decide +kernel
theorem dq_E_pool_31 : decode prog_1_method_6_code 31 = .ok (.iload_n 3, 1) := by decide +kernel
theorem dq_E_pool_32 : decode prog_1_method_6_code 32 = .ok (.ifCond .eq 8, 3) := by decide +kernel
theorem dq_E_pool_35 : decode prog_1_method_6_code 35 = .ok (.iload_n 3, 1) := by decide +kernel
theorem dq_E_pool_36 : decode prog_1_method_6_code 36 = .ok (.iconst 1, 1) := by decide +kernel
theorem dq_E_pool_37 : decode prog_1_method_6_code 37 = .ok (.if_icmp .ne 16, 3) := by decide +kernel
theorem dq_E_pool_40 : decode prog_1_method_6_code 40 = .ok (.iload 4, 2) := by decide +kernel
theorem dq_E_pool_42 : decode prog_1_method_6_code 42 = .ok (.ifCond .lt 11, 3) := by decide +kernel
theorem dq_E_pool_45 : decode prog_1_method_6_code 45 = .ok (.iload 4, 2) := by decide +kernel
theorem dq_E_pool_47 : decode prog_1_method_6_code 47 = .ok (.sipush 1000, 3) := by decide +kernel
theorem dq_E_pool_50 : decode prog_1_method_6_code 50 = .ok (.if_icmp .le 6, 3) := by decide +kernel
theorem dq_E_pool_53 : decode prog_1_method_6_code 53 = .ok (.bipush (-2), 2) := by decide +kernel
theorem dq_E_pool_55 : decode prog_1_method_6_code 55 = .ok (.ireturn, 1) := by decide +kernel
theorem dq_E_pool_56 : decode prog_1_method_6_code 56 = .ok (.aload_n 0, 1) := by decide +kernel
theorem dq_E_pool_57 : decode prog_1_method_6_code 57 = .ok (.getfield 18, 3) := by decide +kernel
theorem dq_E_pool_60 : decode prog_1_method_6_code 60 = .ok (.aload_n 0, 1) := by decide +kernel
theorem dq_E_pool_61 : decode prog_1_method_6_code 61 = .ok (.getfield 79, 3) := by decide +kernel
theorem dq_E_pool_64 : decode prog_1_method_6_code 64 = .ok (.aaload, 1) := by decide +kernel
theorem dq_E_pool_65 : decode prog_1_method_6_code 65 = .ok (.astore 5, 2) := by decide +kernel
theorem dq_E_pool_67 : decode prog_1_method_6_code 67 = .ok (.aload 5, 2) := by decide +kernel
theorem dq_E_pool_69 : decode prog_1_method_6_code 69 = .ok (.iload_n 1, 1) := by decide +kernel
theorem dq_E_pool_70 : decode prog_1_method_6_code 70 = .ok (.putfield 83, 3) := by decide +kernel
theorem dq_E_pool_73 : decode prog_1_method_6_code 73 = .ok (.aload 5, 2) := by decide +kernel
theorem dq_E_pool_75 : decode prog_1_method_6_code 75 = .ok (.iload_n 2, 1) := by decide +kernel
theorem dq_E_pool_76 : decode prog_1_method_6_code 76 = .ok (.putfield 86, 3) := by decide +kernel
theorem dq_E_pool_79 : decode prog_1_method_6_code 79 = .ok (.aload 5, 2) := by decide +kernel
theorem dq_E_pool_81 : decode prog_1_method_6_code 81 = .ok (.iload_n 3, 1) := by decide +kernel
theorem dq_E_pool_82 : decode prog_1_method_6_code 82 = .ok (.putfield 89, 3) := by decide +kernel
theorem dq_E_pool_85 : decode prog_1_method_6_code 85 = .ok (.aload 5, 2) := by decide +kernel
theorem dq_E_pool_87 : decode prog_1_method_6_code 87 = .ok (.iload 4, 2) := by decide +kernel
theorem dq_E_pool_89 : decode prog_1_method_6_code 89 = .ok (.putfield 92, 3) := by decide +kernel
theorem dq_E_pool_92 : decode prog_1_method_6_code 92 = .ok (.aload_n 0, 1) := by decide +kernel
theorem dq_E_pool_93 : decode prog_1_method_6_code 93 = .ok (.dup, 1) := by decide +kernel
theorem dq_E_pool_94 : decode prog_1_method_6_code 94 = .ok (.getfield 79, 3) := by decide +kernel
theorem dq_E_pool_97 : decode prog_1_method_6_code 97 = .ok (.iconst 1, 1) := by decide +kernel
theorem dq_E_pool_98 : decode prog_1_method_6_code 98 = .ok (.iadd, 1) := by decide +kernel
theorem dq_E_pool_99 : decode prog_1_method_6_code 99 = .ok (.putfield 79, 3) := by decide +kernel
theorem dq_E_pool_102 : decode prog_1_method_6_code 102 = .ok (.aload_n 0, 1) := by decide +kernel
theorem dq_E_pool_103 : decode prog_1_method_6_code 103 = .ok (.getfield 79, 3) := by decide +kernel
theorem dq_E_pool_106 : decode prog_1_method_6_code 106 = .ok (.iconst 1, 1) := by decide +kernel
theorem dq_E_pool_107 : decode prog_1_method_6_code 107 = .ok (.isub, 1) := by decide +kernel
theorem dq_E_pool_108 : decode prog_1_method_6_code 108 = .ok (.ireturn, 1) := by decide +kernel
def fE_pool_40 (y0 : Nat) (N : qz_N) (x1 : Int32) (x2 : Int32) (x3 : Int32) (x4 : Int32) : Option (Int32 × qz_N) :=
  if x4 < 0 then
    some ((-2 : Int32), N)
  else
  if x4 ≤ (1000 : Int32) then
    if (qz_gi N 0 y0 6) < 0 ∨ 6 ≤ (qz_gi N 0 y0 6).toNatClampNeg then none else
    qz_let (qz_si N 2 ((qz_gi N 0 y0 6).toNatClampNeg) 1 x1) fun N6 =>
    qz_let (qz_si N6 2 ((qz_gi N 0 y0 6).toNatClampNeg) 2 x2) fun N7 =>
    qz_let (qz_si N7 2 ((qz_gi N 0 y0 6).toNatClampNeg) 3 x3) fun N8 =>
    qz_let (qz_si N8 2 ((qz_gi N 0 y0 6).toNatClampNeg) 4 x4) fun N9 =>
    qz_let (qz_si N9 0 y0 6 ((qz_gi N9 0 y0 6) + (1 : Int32))) fun N10 =>
    some ((qz_gi N10 0 y0 6) - (1 : Int32), N10)
  else
  some ((-2 : Int32), N)
def fE_pool (o : Nat) (x1 : Int32) (x2 : Int32) (x3 : Int32) (x4 : Int32) (N : qz_N) : Option (Int32 × qz_N) :=
  (fE_isToken x1 N).bind fun q1 =>
  if q1.1 = 0 then
    some ((-2 : Int32), q1.2)
  else
  (fE_isToken x2 q1.2).bind fun q3 =>
  if q3.1 = 0 then
    some ((-2 : Int32), q3.2)
  else
  if x1 = x2 then
    some ((-2 : Int32), q3.2)
  else
  if (qz_gi q3.2 0 o 6) < (6 : Int32) then
    if x3 = 0 then
      fE_pool_40 o q3.2 x1 x2 x3 x4
    else
    if x3 = (1 : Int32) then
      fE_pool_40 o q3.2 x1 x2 x3 x4
    else
    some ((-2 : Int32), q3.2)
  else
  some ((-2 : Int32), q3.2)
set_option maxRecDepth 100000 in
set_option maxHeartbeats 4000000 in
theorem sE_pool_40 {p : Program} {l : Launch} {e : Env} {s : State} {m : MethodId} {args : Array Value} {below : List Frame} {meth : Method} {c : Code} {G : qz_G} (X : qz_X p s m args meth c "ExactCurves" prog_1_method_6_code 6 (some .int) G) {r : (Int32 × qz_N)} (y0 : Nat) (hy0 : y0 < 1) (N : qz_N) (x1 : Int32) (x2 : Int32) (x3 : Int32) (x4 : Int32) (h : fE_pool_40 y0 N x1 x2 x3 x4 = some r) : qz_W p l e (qz_R 1) s m args below meth c 0 0 (MQ below (qz_Q G r.2 (some (.int r.1))) args s 0 0 (qz_A G)) G s.heap 6 N 40 [(1, .int x1), (2, .int x2), (3, .int x3), (4, .int x4), (0, .ref (G.2.2 0 y0))] [] := by
  unfold fE_pool_40 at h
  refine qz_iload X 3 rfl dq_E_pool_40 ?_
  refine qz_if_lt X (tgt := 53) (by decide) dq_E_pool_42 h (fun _ h => ?_) (fun _ h => ?_)
  · refine qz_bipush X (v := (-2 : Int32)) (by decide) dq_E_pool_53 ?_
    exact qz_iret X h dq_E_pool_55
  · refine qz_iload X 3 rfl dq_E_pool_45 ?_
    refine qz_sipush X (v := (1000 : Int32)) (by decide) dq_E_pool_47 ?_
    refine qz_icmp_le X (tgt := 56) (by decide) dq_E_pool_50 h (fun _ h => ?_) (fun _ h => ?_)
    · refine qz_aload_n X 4 rfl dq_E_pool_56 ?_
      refine qz_get X (v := .ref (G.2.2 8 y0)) kq_E_18 hy0 rfl dq_E_pool_57 ?_
      refine qz_aload_n X 4 rfl dq_E_pool_60 ?_
      refine qz_get X (v := .int (qz_gi N 0 y0 6)) kq_E_79 hy0 rfl dq_E_pool_61 ?_
      refine qz_aald X (c0 := 8) (i := y0) (tg := 2) (n := 6) rfl rfl hy0 dq_E_pool_64 h (fun hb5 h => ?_)
      refine qz_astore X (lv' := [(5, .ref (G.2.2 2 ((qz_gi N 0 y0 6).toNatClampNeg))), (1, .int x1), (2, .int x2), (3, .int x3), (4, .int x4), (0, .ref (G.2.2 0 y0))]) (by decide) rfl dq_E_pool_65 ?_
      refine qz_aload X 0 rfl dq_E_pool_67 ?_
      refine qz_iload_n X 1 rfl dq_E_pool_69 ?_
      refine qz_putI X kq_E_83 hb5 dq_E_pool_70 h (fun N6 h => ?_)
      refine qz_aload X 0 rfl dq_E_pool_73 ?_
      refine qz_iload_n X 2 rfl dq_E_pool_75 ?_
      refine qz_putI X kq_E_86 hb5 dq_E_pool_76 h (fun N7 h => ?_)
      refine qz_aload X 0 rfl dq_E_pool_79 ?_
      refine qz_iload_n X 3 rfl dq_E_pool_81 ?_
      refine qz_putI X kq_E_89 hb5 dq_E_pool_82 h (fun N8 h => ?_)
      refine qz_aload X 0 rfl dq_E_pool_85 ?_
      refine qz_iload X 4 rfl dq_E_pool_87 ?_
      refine qz_putI X kq_E_92 hb5 dq_E_pool_89 h (fun N9 h => ?_)
      refine qz_aload_n X 5 rfl dq_E_pool_92 ?_
      refine qz_dup X rfl dq_E_pool_93 ?_
      refine qz_get X (v := .int (qz_gi N9 0 y0 6)) kq_E_79 hy0 rfl dq_E_pool_94 ?_
      refine qz_iconst X (v := (1 : Int32)) (by decide) dq_E_pool_97 ?_
      refine qz_iadd X dq_E_pool_98 ?_
      refine qz_putI X kq_E_79 hy0 dq_E_pool_99 h (fun N10 h => ?_)
      refine qz_aload_n X 5 rfl dq_E_pool_102 ?_
      refine qz_get X (v := .int (qz_gi N10 0 y0 6)) kq_E_79 hy0 rfl dq_E_pool_103 ?_
      refine qz_iconst X (v := (1 : Int32)) (by decide) dq_E_pool_106 ?_
      refine qz_isub X dq_E_pool_107 ?_
      exact qz_iret X h dq_E_pool_108
    · refine qz_bipush X (v := (-2 : Int32)) (by decide) dq_E_pool_53 ?_
      exact qz_iret X h dq_E_pool_55
set_option maxRecDepth 100000 in
set_option maxHeartbeats 4000000 in
theorem sE_pool {p : Program} {l : Launch} {e : Env} {s : State} {m : MethodId} {args : Array Value} {below : List Frame} {meth : Method} {c : Code} {G : qz_G} (X : qz_X p s m args meth c "ExactCurves" prog_1_method_6_code 6 (some .int) G) {r : (Int32 × qz_N)} (o : Nat) (x1 : Int32) (x2 : Int32) (x3 : Int32) (x4 : Int32) (ho : o < 1) (N : qz_N) (h : fE_pool o x1 x2 x3 x4 N = some r) : qz_W p l e (qz_R 1) s m args below meth c 0 0 (MQ below (qz_Q G r.2 (some (.int r.1))) args s 0 0 (qz_A G)) G s.heap 6 N 0 [(0, .ref (G.2.2 0 o)), (1, .int x1), (2, .int x2), (3, .int x3), (4, .int x4)] [] := by
  unfold fE_pool at h
  refine qz_iload_n X 1 rfl dq_E_pool_0 ?_
  refine qz_bind h (fun q1 e2 h => ?_)
  refine qz_callS X (as := [.int x1]) (st := []) (o := some (.int q1.1)) (N' := q1.2) cq_E_55 (cE_isToken l G X.2.2.2.2.2.2.1 x1 N _ e2) ⟨by decide, by decide⟩ rfl rfl (Nat.le_of_ble_eq_true rfl) ⟨Nat.zero_le _, Nat.zero_le _⟩ dq_E_pool_1 ?_
  refine qz_if_eq X (tgt := 28) (by decide) dq_E_pool_4 h (fun _ h => ?_) (fun _ h => ?_)
  · refine qz_bipush X (v := (-2 : Int32)) (by decide) dq_E_pool_28 ?_
    exact qz_iret X h dq_E_pool_30
  · refine qz_iload_n X 2 rfl dq_E_pool_7 ?_
    refine qz_bind h (fun q3 e4 h => ?_)
    refine qz_callS X (as := [.int x2]) (st := []) (o := some (.int q3.1)) (N' := q3.2) cq_E_55 (cE_isToken l G X.2.2.2.2.2.2.1 x2 q1.2 _ e4) ⟨by decide, by decide⟩ rfl rfl (Nat.le_of_ble_eq_true rfl) ⟨Nat.zero_le _, Nat.zero_le _⟩ dq_E_pool_8 ?_
    refine qz_if_eq X (tgt := 28) (by decide) dq_E_pool_11 h (fun _ h => ?_) (fun _ h => ?_)
    · refine qz_bipush X (v := (-2 : Int32)) (by decide) dq_E_pool_28 ?_
      exact qz_iret X h dq_E_pool_30
    · refine qz_iload_n X 1 rfl dq_E_pool_14 ?_
      refine qz_iload_n X 2 rfl dq_E_pool_15 ?_
      refine qz_icmp_eq X (tgt := 28) (by decide) dq_E_pool_16 h (fun _ h => ?_) (fun _ h => ?_)
      · refine qz_bipush X (v := (-2 : Int32)) (by decide) dq_E_pool_28 ?_
        exact qz_iret X h dq_E_pool_30
      · refine qz_aload_n X 0 rfl dq_E_pool_19 ?_
        refine qz_get X (v := .int (qz_gi q3.2 0 o 6)) kq_E_79 ho rfl dq_E_pool_20 ?_
        refine qz_bipush X (v := (6 : Int32)) (by decide) dq_E_pool_23 ?_
        refine qz_icmp_lt X (tgt := 31) (by decide) dq_E_pool_25 h (fun _ h => ?_) (fun _ h => ?_)
        · refine qz_iload_n X 3 rfl dq_E_pool_31 ?_
          refine qz_if_eq X (tgt := 40) (by decide) dq_E_pool_32 h (fun _ h => ?_) (fun _ h => ?_)
          · refine qz_sub [1, 2, 3, 4, 0] rfl ?_
            exact sE_pool_40 X o ho q3.2 x1 x2 x3 x4 h
          · refine qz_iload_n X 3 rfl dq_E_pool_35 ?_
            refine qz_iconst X (v := (1 : Int32)) (by decide) dq_E_pool_36 ?_
            refine qz_icmp_ne X (tgt := 53) (by decide) dq_E_pool_37 h (fun _ h => ?_) (fun _ h => ?_)
            · refine qz_bipush X (v := (-2 : Int32)) (by decide) dq_E_pool_53 ?_
              exact qz_iret X h dq_E_pool_55
            · refine qz_sub [1, 2, 3, 4, 0] rfl ?_
              exact sE_pool_40 X o ho q3.2 x1 x2 x3 x4 h
        · refine qz_bipush X (v := (-2 : Int32)) (by decide) dq_E_pool_28 ?_
          exact qz_iret X h dq_E_pool_30
theorem cE_pool (l : Launch) (G : qz_G) (hD : qz_D G) (o : Nat) (x1 : Int32) (x2 : Int32) (x3 : Int32) (x4 : Int32) (N : qz_N) (ho : o < 1) (r : (Int32 × qz_N)) (h : fE_pool o x1 x2 x3 x4 N = some r) : qz_M l yE_pool prog_1_method_6_code 6 (some .int) 1 G [.ref (G.2.2 0 o), .int x1, .int x2, .int x3, .int x4] N (some (.int r.1)) r.2 :=
  qz_enter (lv := [(0, .ref (G.2.2 0 o)), (1, .int x1), (2, .int x2), (3, .int x3), (4, .int x4)]) rfl hD (Nat.le_of_ble_eq_true rfl) rfl (fun p e s m args below meth c X => sE_pool X o x1 x2 x3 x4 ho N h)
-- ExactCurves.poolAt(I)LExactCurves$Pool;
theorem dq_E_poolAt_0 : decode prog_1_method_32_code 0 = .ok (.iload_n 1, 1) := by decide +kernel
theorem dq_E_poolAt_1 : decode prog_1_method_32_code 1 = .ok (.ifCond .lt 20, 3) := by decide +kernel
theorem dq_E_poolAt_4 : decode prog_1_method_32_code 4 = .ok (.iload_n 1, 1) := by decide +kernel
theorem dq_E_poolAt_5 : decode prog_1_method_32_code 5 = .ok (.aload_n 0, 1) := by decide +kernel
theorem dq_E_poolAt_6 : decode prog_1_method_32_code 6 = .ok (.getfield 79, 3) := by decide +kernel
theorem dq_E_poolAt_9 : decode prog_1_method_32_code 9 = .ok (.if_icmp .ge 12, 3) := by decide +kernel
theorem dq_E_poolAt_12 : decode prog_1_method_32_code 12 = .ok (.aload_n 0, 1) := by decide +kernel
theorem dq_E_poolAt_13 : decode prog_1_method_32_code 13 = .ok (.getfield 18, 3) := by decide +kernel
theorem dq_E_poolAt_16 : decode prog_1_method_32_code 16 = .ok (.iload_n 1, 1) := by decide +kernel
theorem dq_E_poolAt_17 : decode prog_1_method_32_code 17 = .ok (.aaload, 1) := by decide +kernel
theorem dq_E_poolAt_18 : decode prog_1_method_32_code 18 = .ok (.goto 4, 3) := by decide +kernel
theorem dq_E_poolAt_21 : decode prog_1_method_32_code 21 = .ok (.aconst_null, 1) := by decide +kernel
theorem dq_E_poolAt_22 : decode prog_1_method_32_code 22 = .ok (.areturn, 1) := by decide +kernel
def fE_poolAt (o : Nat) (x1 : Int32) (N : qz_N) : Option (Option Nat × qz_N) :=
  if x1 < 0 then
    some (none, N)
  else
  if (qz_gi N 0 o 6) ≤ x1 then
    some (none, N)
  else
  if x1 < 0 ∨ 6 ≤ x1.toNatClampNeg then none else
  some (some x1.toNatClampNeg, N)
set_option maxRecDepth 100000 in
set_option maxHeartbeats 4000000 in
theorem sE_poolAt {p : Program} {l : Launch} {e : Env} {s : State} {m : MethodId} {args : Array Value} {below : List Frame} {meth : Method} {c : Code} {G : qz_G} (X : qz_X p s m args meth c "ExactCurves" prog_1_method_32_code 2 (some (.object "ExactCurves$Pool")) G) {r : (Option Nat × qz_N)} (o : Nat) (x1 : Int32) (ho : o < 1) (N : qz_N) (h : fE_poolAt o x1 N = some r) : qz_W p l e (qz_R 0) s m args below meth c 0 0 (MQ below (qz_Q G r.2 (some (va_rf (Option.map (G.2.2 2) r.1)))) args s 0 0 (qz_A G)) G s.heap 2 N 0 [(0, .ref (G.2.2 0 o)), (1, .int x1)] [] := by
  unfold fE_poolAt at h
  refine qz_iload_n X 1 rfl dq_E_poolAt_0 ?_
  refine qz_if_lt X (tgt := 21) (by decide) dq_E_poolAt_1 h (fun _ h => ?_) (fun _ h => ?_)
  · refine qz_null X dq_E_poolAt_21 ?_
    exact qz_aretN X h dq_E_poolAt_22
  · refine qz_iload_n X 1 rfl dq_E_poolAt_4 ?_
    refine qz_aload_n X 0 rfl dq_E_poolAt_5 ?_
    refine qz_get X (v := .int (qz_gi N 0 o 6)) kq_E_79 ho rfl dq_E_poolAt_6 ?_
    refine qz_icmp_ge X (tgt := 21) (by decide) dq_E_poolAt_9 h (fun _ h => ?_) (fun _ h => ?_)
    · refine qz_null X dq_E_poolAt_21 ?_
      exact qz_aretN X h dq_E_poolAt_22
    · refine qz_aload_n X 0 rfl dq_E_poolAt_12 ?_
      refine qz_get X (v := .ref (G.2.2 8 o)) kq_E_18 ho rfl dq_E_poolAt_13 ?_
      refine qz_iload_n X 1 rfl dq_E_poolAt_16 ?_
      refine qz_aald X (c0 := 8) (i := o) (tg := 2) (n := 6) rfl rfl ho dq_E_poolAt_17 h (fun hb1 h => ?_)
      refine qz_goto X (tgt := 22) (by decide) dq_E_poolAt_18 ?_
      exact qz_aret X h dq_E_poolAt_22
theorem cE_poolAt (l : Launch) (G : qz_G) (hD : qz_D G) (o : Nat) (x1 : Int32) (N : qz_N) (ho : o < 1) (r : (Option Nat × qz_N)) (h : fE_poolAt o x1 N = some r) : qz_M l yE_poolAt prog_1_method_32_code 2 (some (.object "ExactCurves$Pool")) 0 G [.ref (G.2.2 0 o), .int x1] N (some (va_rf (Option.map (G.2.2 2) r.1))) r.2 :=
  qz_enter (lv := [(0, .ref (G.2.2 0 o)), (1, .int x1)]) rfl hD (Nat.le_of_ble_eq_true rfl) rfl (fun p e s m args below meth c X => sE_poolAt X o x1 ho N h)
theorem vE_poolAt {o : Nat} {x1 : Int32} {N : qz_N} {r : Option Nat × qz_N} (e : fE_poolAt o x1 N = some r) (j : Nat) (hj : r.1 = some j) : j < 6 := by
  unfold fE_poolAt at e
  repeat' split at e
  all_goals first
    | (cases e; done)
    | (cases e; cases hj; done)
    | (cases e; cases hj; omega)
-- ExactCurves$Pool.told(I)J
theorem dq_P_told_0 : decode prog_6_method_6_code 0 = .ok (.iload_n 1, 1) := by decide +kernel
theorem dq_P_told_1 : decode prog_6_method_6_code 1 = .ok (.tableswitch 100 0 8 #[51, 56, 61, 66, 71, 76, 82, 88, 94], 51) := by decide +kernel
theorem dq_P_told_52 : decode prog_6_method_6_code 52 = .ok (.aload_n 0, 1) := by decide +kernel
theorem dq_P_told_53 : decode prog_6_method_6_code 53 = .ok (.getfield 22, 3) := by decide +kernel
theorem dq_P_told_56 : decode prog_6_method_6_code 56 = .ok (.lreturn, 1) := by decide +kernel
theorem dq_P_told_57 : decode prog_6_method_6_code 57 = .ok (.aload_n 0, 1) := by decide +kernel
theorem dq_P_told_58 : decode prog_6_method_6_code 58 = .ok (.getfield 26, 3) := by decide +kernel
theorem dq_P_told_61 : decode prog_6_method_6_code 61 = .ok (.lreturn, 1) := by decide +kernel
theorem dq_P_told_62 : decode prog_6_method_6_code 62 = .ok (.aload_n 0, 1) := by decide +kernel
theorem dq_P_told_63 : decode prog_6_method_6_code 63 = .ok (.getfield 29, 3) := by decide +kernel
theorem dq_P_told_66 : decode prog_6_method_6_code 66 = .ok (.lreturn, 1) := by decide +kernel
theorem dq_P_told_67 : decode prog_6_method_6_code 67 = .ok (.aload_n 0, 1) := by decide +kernel
theorem dq_P_told_68 : decode prog_6_method_6_code 68 = .ok (.getfield 32, 3) := by decide +kernel
theorem dq_P_told_71 : decode prog_6_method_6_code 71 = .ok (.lreturn, 1) := by decide +kernel
theorem dq_P_told_72 : decode prog_6_method_6_code 72 = .ok (.aload_n 0, 1) := by decide +kernel
theorem dq_P_told_73 : decode prog_6_method_6_code 73 = .ok (.getfield 35, 3) := by decide +kernel
theorem dq_P_told_76 : decode prog_6_method_6_code 76 = .ok (.lreturn, 1) := by decide +kernel
theorem dq_P_told_77 : decode prog_6_method_6_code 77 = .ok (.aload_n 0, 1) := by decide +kernel
theorem dq_P_told_78 : decode prog_6_method_6_code 78 = .ok (.getfield 38, 3) := by decide +kernel
theorem dq_P_told_81 : decode prog_6_method_6_code 81 = .ok (.i2l, 1) := by decide +kernel
theorem dq_P_told_82 : decode prog_6_method_6_code 82 = .ok (.lreturn, 1) := by decide +kernel
theorem dq_P_told_83 : decode prog_6_method_6_code 83 = .ok (.aload_n 0, 1) := by decide +kernel
theorem dq_P_told_84 : decode prog_6_method_6_code 84 = .ok (.getfield 41, 3) := by decide +kernel
theorem dq_P_told_87 : decode prog_6_method_6_code 87 = .ok (.i2l, 1) := by decide +kernel
theorem dq_P_told_88 : decode prog_6_method_6_code 88 = .ok (.lreturn, 1) := by decide +kernel
theorem dq_P_told_89 : decode prog_6_method_6_code 89 = .ok (.aload_n 0, 1) := by decide +kernel
theorem dq_P_told_90 : decode prog_6_method_6_code 90 = .ok (.getfield 15, 3) := by decide +kernel
theorem dq_P_told_93 : decode prog_6_method_6_code 93 = .ok (.i2l, 1) := by decide +kernel
theorem dq_P_told_94 : decode prog_6_method_6_code 94 = .ok (.lreturn, 1) := by decide +kernel
theorem dq_P_told_95 : decode prog_6_method_6_code 95 = .ok (.aload_n 0, 1) := by decide +kernel
theorem dq_P_told_96 : decode prog_6_method_6_code 96 = .ok (.getfield 19, 3) := by decide +kernel
theorem dq_P_told_99 : decode prog_6_method_6_code 99 = .ok (.i2l, 1) := by decide +kernel
theorem dq_P_told_100 : decode prog_6_method_6_code 100 = .ok (.lreturn, 1) := by decide +kernel
theorem dq_P_told_101 : decode prog_6_method_6_code 101 = .ok (.iload_n 1, 1) := by decide +kernel
theorem dq_P_told_102 : decode prog_6_method_6_code 102 = .ok (.bipush 9, 2) := by decide +kernel
theorem dq_P_told_104 : decode prog_6_method_6_code 104 = .ok (.if_icmp .lt 21, 3) := by decide +kernel
theorem dq_P_told_107 : decode prog_6_method_6_code 107 = .ok (.iload_n 1, 1) := by decide +kernel
theorem dq_P_told_108 : decode prog_6_method_6_code 108 = .ok (.bipush 15, 2) := by decide +kernel
theorem dq_P_told_110 : decode prog_6_method_6_code 110 = .ok (.if_icmp .ge 15, 3) := by decide +kernel
theorem dq_P_told_113 : decode prog_6_method_6_code 113 = .ok (.aload_n 0, 1) := by decide +kernel
theorem dq_P_told_114 : decode prog_6_method_6_code 114 = .ok (.getfield 9, 3) := by decide +kernel
theorem dq_P_told_117 : decode prog_6_method_6_code 117 = .ok (.iload_n 1, 1) := by decide +kernel
theorem dq_P_told_118 : decode prog_6_method_6_code 118 = .ok (.bipush 9, 2) := by decide +kernel
theorem dq_P_told_120 : decode prog_6_method_6_code 120 = .ok (.isub, 1) := by decide +kernel
theorem dq_P_told_121 : decode prog_6_method_6_code 121 = .ok (.laload, 1) := by decide +kernel
theorem dq_P_told_122 : decode prog_6_method_6_code 122 = .ok (.goto 6, 3) := by decide +kernel
theorem dq_P_told_125 : decode prog_6_method_6_code 125 = .ok (.ldc2_w 44, 3) := by decide +kernel
theorem dq_P_told_128 : decode prog_6_method_6_code 128 = .ok (.lreturn, 1) := by decide +kernel
def fP_told (o : Nat) (x1 : Int32) (N : qz_N) : Option (Int64 × qz_N) :=
  if x1 = (0 : Int32) then
    some (qz_gl N 2 o 5, N)
  else
  if x1 = (1 : Int32) then
    some (qz_gl N 2 o 6, N)
  else
  if x1 = (2 : Int32) then
    some (qz_gl N 2 o 7, N)
  else
  if x1 = (3 : Int32) then
    some (qz_gl N 2 o 8, N)
  else
  if x1 = (4 : Int32) then
    some (qz_gl N 2 o 9, N)
  else
  if x1 = (5 : Int32) then
    some ((qz_gi N 2 o 3).toInt64, N)
  else
  if x1 = (6 : Int32) then
    some ((qz_gi N 2 o 4).toInt64, N)
  else
  if x1 = (7 : Int32) then
    some ((qz_gi N 2 o 1).toInt64, N)
  else
  if x1 = (8 : Int32) then
    some ((qz_gi N 2 o 2).toInt64, N)
  else
  if x1 < (9 : Int32) then
    some ((-2 : Int64), N)
  else
  if (15 : Int32) ≤ x1 then
    some ((-2 : Int64), N)
  else
  if (x1 - (9 : Int32)) < 0 ∨ 6 ≤ (x1 - (9 : Int32)).toNatClampNeg then none else
  some (qz_gl N 15 o (x1 - (9 : Int32)).toNatClampNeg, N)
set_option maxRecDepth 100000 in
set_option maxHeartbeats 4000000 in
theorem sP_told {p : Program} {l : Launch} {e : Env} {s : State} {m : MethodId} {args : Array Value} {below : List Frame} {meth : Method} {c : Code} {G : qz_G} (X : qz_X p s m args meth c "ExactCurves$Pool" prog_6_method_6_code 2 (some .long) G) {r : (Int64 × qz_N)} (o : Nat) (x1 : Int32) (ho : o < 6) (N : qz_N) (h : fP_told o x1 N = some r) : qz_W p l e (qz_R 0) s m args below meth c 0 0 (MQ below (qz_Q G r.2 (some (.long r.1))) args s 0 0 (qz_A G)) G s.heap 2 N 0 [(0, .ref (G.2.2 2 o)), (1, .int x1)] [] := by
  unfold fP_told at h
  refine qz_iload_n X 1 rfl dq_P_told_0 ?_
  refine qz_ite h (fun c0_1 h => ?_) (fun c0_1 h => ?_)
  · refine qz_tabIn X (tgt := 52) c0_1 (by decide) (by decide) rfl (by decide) dq_P_told_1 ?_
    refine qz_aload_n X 0 rfl dq_P_told_52 ?_
    refine qz_get X (v := .long (qz_gl N 2 o 5)) kq_P_22 ho rfl dq_P_told_53 ?_
    exact qz_lret X h dq_P_told_56
  · refine qz_ite h (fun c1_1 h => ?_) (fun c1_1 h => ?_)
    · refine qz_tabIn X (tgt := 57) c1_1 (by decide) (by decide) rfl (by decide) dq_P_told_1 ?_
      refine qz_aload_n X 0 rfl dq_P_told_57 ?_
      refine qz_get X (v := .long (qz_gl N 2 o 6)) kq_P_26 ho rfl dq_P_told_58 ?_
      exact qz_lret X h dq_P_told_61
    · refine qz_ite h (fun c2_1 h => ?_) (fun c2_1 h => ?_)
      · refine qz_tabIn X (tgt := 62) c2_1 (by decide) (by decide) rfl (by decide) dq_P_told_1 ?_
        refine qz_aload_n X 0 rfl dq_P_told_62 ?_
        refine qz_get X (v := .long (qz_gl N 2 o 7)) kq_P_29 ho rfl dq_P_told_63 ?_
        exact qz_lret X h dq_P_told_66
      · refine qz_ite h (fun c3_1 h => ?_) (fun c3_1 h => ?_)
        · refine qz_tabIn X (tgt := 67) c3_1 (by decide) (by decide) rfl (by decide) dq_P_told_1 ?_
          refine qz_aload_n X 0 rfl dq_P_told_67 ?_
          refine qz_get X (v := .long (qz_gl N 2 o 8)) kq_P_32 ho rfl dq_P_told_68 ?_
          exact qz_lret X h dq_P_told_71
        · refine qz_ite h (fun c4_1 h => ?_) (fun c4_1 h => ?_)
          · refine qz_tabIn X (tgt := 72) c4_1 (by decide) (by decide) rfl (by decide) dq_P_told_1 ?_
            refine qz_aload_n X 0 rfl dq_P_told_72 ?_
            refine qz_get X (v := .long (qz_gl N 2 o 9)) kq_P_35 ho rfl dq_P_told_73 ?_
            exact qz_lret X h dq_P_told_76
          · refine qz_ite h (fun c5_1 h => ?_) (fun c5_1 h => ?_)
            · refine qz_tabIn X (tgt := 77) c5_1 (by decide) (by decide) rfl (by decide) dq_P_told_1 ?_
              refine qz_aload_n X 0 rfl dq_P_told_77 ?_
              refine qz_get X (v := .int (qz_gi N 2 o 3)) kq_P_38 ho rfl dq_P_told_78 ?_
              refine qz_i2l X dq_P_told_81 ?_
              exact qz_lret X h dq_P_told_82
            · refine qz_ite h (fun c6_1 h => ?_) (fun c6_1 h => ?_)
              · refine qz_tabIn X (tgt := 83) c6_1 (by decide) (by decide) rfl (by decide) dq_P_told_1 ?_
                refine qz_aload_n X 0 rfl dq_P_told_83 ?_
                refine qz_get X (v := .int (qz_gi N 2 o 4)) kq_P_41 ho rfl dq_P_told_84 ?_
                refine qz_i2l X dq_P_told_87 ?_
                exact qz_lret X h dq_P_told_88
              · refine qz_ite h (fun c7_1 h => ?_) (fun c7_1 h => ?_)
                · refine qz_tabIn X (tgt := 89) c7_1 (by decide) (by decide) rfl (by decide) dq_P_told_1 ?_
                  refine qz_aload_n X 0 rfl dq_P_told_89 ?_
                  refine qz_get X (v := .int (qz_gi N 2 o 1)) kq_P_15 ho rfl dq_P_told_90 ?_
                  refine qz_i2l X dq_P_told_93 ?_
                  exact qz_lret X h dq_P_told_94
                · refine qz_ite h (fun c8_1 h => ?_) (fun c8_1 h => ?_)
                  · refine qz_tabIn X (tgt := 95) c8_1 (by decide) (by decide) rfl (by decide) dq_P_told_1 ?_
                    refine qz_aload_n X 0 rfl dq_P_told_95 ?_
                    refine qz_get X (v := .int (qz_gi N 2 o 2)) kq_P_19 ho rfl dq_P_told_96 ?_
                    refine qz_i2l X dq_P_told_99 ?_
                    exact qz_lret X h dq_P_told_100
                  · refine qz_tabOut X (tgt := 101) (by decide) (qz_out9 0 c0_1 c1_1 c2_1 c3_1 c4_1 c5_1 c6_1 c7_1 c8_1) dq_P_told_1 ?_
                    refine qz_iload_n X 1 rfl dq_P_told_101 ?_
                    refine qz_bipush X (v := (9 : Int32)) (by decide) dq_P_told_102 ?_
                    refine qz_icmp_lt X (tgt := 125) (by decide) dq_P_told_104 h (fun _ h => ?_) (fun _ h => ?_)
                    · refine qz_ldc2 X (v := (-2 : Int64)) wq_290 dq_P_told_125 ?_
                      exact qz_lret X h dq_P_told_128
                    · refine qz_iload_n X 1 rfl dq_P_told_107 ?_
                      refine qz_bipush X (v := (15 : Int32)) (by decide) dq_P_told_108 ?_
                      refine qz_icmp_ge X (tgt := 125) (by decide) dq_P_told_110 h (fun _ h => ?_) (fun _ h => ?_)
                      · refine qz_ldc2 X (v := (-2 : Int64)) wq_290 dq_P_told_125 ?_
                        exact qz_lret X h dq_P_told_128
                      · refine qz_aload_n X 0 rfl dq_P_told_113 ?_
                        refine qz_get X (v := .ref (G.2.2 15 o)) kq_P_9 ho rfl dq_P_told_114 ?_
                        refine qz_iload_n X 1 rfl dq_P_told_117 ?_
                        refine qz_bipush X (v := (9 : Int32)) (by decide) dq_P_told_118 ?_
                        refine qz_isub X dq_P_told_120 ?_
                        refine qz_lald X (c0 := 15) (i := o) (n := 6) rfl ho dq_P_told_121 h (fun h => ?_)
                        refine qz_goto X (tgt := 128) (by decide) dq_P_told_122 ?_
                        exact qz_lret X h dq_P_told_128
theorem cP_told (l : Launch) (G : qz_G) (hD : qz_D G) (o : Nat) (x1 : Int32) (N : qz_N) (ho : o < 6) (r : (Int64 × qz_N)) (h : fP_told o x1 N = some r) : qz_M l yP_told prog_6_method_6_code 2 (some .long) 0 G [.ref (G.2.2 2 o), .int x1] N (some (.long r.1)) r.2 :=
  qz_enter (lv := [(0, .ref (G.2.2 2 o)), (1, .int x1)]) rfl hD (Nat.le_of_ble_eq_true rfl) rfl (fun p e s m args below meth c X => sP_told X o x1 ho N h)
