-- ExactCurves.debtToken(LExactCurves$Loan;)I
theorem dq_E_debtToken_0 : decode prog_1_method_42_code 0 = .ok (.aload_n 0, 1) := by decide +kernel
theorem dq_E_debtToken_1 : decode prog_1_method_42_code 1 = .ok (.getfield 18, 3) := by decide +kernel
theorem dq_E_debtToken_4 : decode prog_1_method_42_code 4 = .ok (.aload_n 1, 1) := by decide +kernel
theorem dq_E_debtToken_5 : decode prog_1_method_42_code 5 = .ok (.getfield 281, 3) := by decide +kernel
theorem dq_E_debtToken_8 : decode prog_1_method_42_code 8 = .ok (.aaload, 1) := by decide +kernel
theorem dq_E_debtToken_9 : decode prog_1_method_42_code 9 = .ok (.iconst 1, 1) := by decide +kernel
theorem dq_E_debtToken_10 : decode prog_1_method_42_code 10 = .ok (.aload_n 1, 1) := by decide +kernel
theorem dq_E_debtToken_11 : decode prog_1_method_42_code 11 = .ok (.getfield 282, 3) := by decide +kernel
theorem dq_E_debtToken_14 : decode prog_1_method_42_code 14 = .ok (.isub, 1) := by decide +kernel
theorem dq_E_debtToken_15 : decode prog_1_method_42_code 15 = .ok (.invokevirtual 135, 3) := by decide +kernel
theorem dq_E_debtToken_18 : decode prog_1_method_42_code 18 = .ok (.ireturn, 1) := by decide +kernel
def fE_debtToken (o : Nat) (x1 : Nat) (N : qz_N) : Option (Int32 × qz_N) :=
  if (qz_gi N 6 x1 2) < 0 ∨ 6 ≤ (qz_gi N 6 x1 2).toNatClampNeg then none else
  (fP_tokenAt ((qz_gi N 6 x1 2).toNatClampNeg) ((1 : Int32) - (qz_gi N 6 x1 3)) N).bind fun q2 =>
  some (q2.1, q2.2)
set_option maxRecDepth 100000 in
set_option maxHeartbeats 4000000 in
theorem sE_debtToken {p : Program} {l : Launch} {e : Env} {s : State} {m : MethodId} {args : Array Value} {below : List Frame} {meth : Method} {c : Code} {G : qz_G} (X : qz_X p s m args meth c "ExactCurves" prog_1_method_42_code 2 (some .int) G) {r : (Int32 × qz_N)} (o : Nat) (x1 : Nat) (ho : o < 1) (hx1 : x1 < 10) (N : qz_N) (h : fE_debtToken o x1 N = some r) : qz_W p l e (qz_R 1) s m args below meth c 0 0 (MQ below (qz_Q G r.2 (some (.int r.1))) args s 0 0 (qz_A G)) G s.heap 2 N 0 [(0, .ref (G.2.2 0 o)), (1, .ref (G.2.2 6 x1))] [] := by
  unfold fE_debtToken at h
  refine qz_aload_n X 0 rfl dq_E_debtToken_0 ?_
  refine qz_get X (v := .ref (G.2.2 8 o)) kq_E_18 ho rfl dq_E_debtToken_1 ?_
  refine qz_aload_n X 1 rfl dq_E_debtToken_4 ?_
  refine qz_get X (v := .int (qz_gi N 6 x1 2)) kq_E_281 hx1 rfl dq_E_debtToken_5 ?_
  refine qz_aald X (c0 := 8) (i := o) (tg := 2) (n := 6) rfl rfl ho dq_E_debtToken_8 h (fun hb1 h => ?_)
  refine qz_iconst X (v := (1 : Int32)) (by decide) dq_E_debtToken_9 ?_
  refine qz_aload_n X 1 rfl dq_E_debtToken_10 ?_
  refine qz_get X (v := .int (qz_gi N 6 x1 3)) kq_E_282 hx1 rfl dq_E_debtToken_11 ?_
  refine qz_isub X dq_E_debtToken_14 ?_
  refine qz_bind h (fun q2 e3 h => ?_)
  refine qz_callV X (as := [.int ((1 : Int32) - (qz_gi N 6 x1 3))]) (st := []) (o := some (.int q2.1)) (N' := q2.2) cq_E_135 hb1 (cP_tokenAt l G X.2.2.2.2.2.2.1 ((qz_gi N 6 x1 2).toNatClampNeg) ((1 : Int32) - (qz_gi N 6 x1 3)) N hb1 _ e3) ⟨by decide, by decide⟩ rfl rfl (Nat.le_of_ble_eq_true rfl) ⟨Nat.zero_le _, Nat.zero_le _⟩ dq_E_debtToken_15 ?_
  exact qz_iret X h dq_E_debtToken_18
theorem cE_debtToken (l : Launch) (G : qz_G) (hD : qz_D G) (o : Nat) (x1 : Nat) (N : qz_N) (ho : o < 1) (hx1 : x1 < 10) (r : (Int32 × qz_N)) (h : fE_debtToken o x1 N = some r) : qz_M l yE_debtToken prog_1_method_42_code 2 (some .int) 1 G [.ref (G.2.2 0 o), .ref (G.2.2 6 x1)] N (some (.int r.1)) r.2 :=
  qz_enter (lv := [(0, .ref (G.2.2 0 o)), (1, .ref (G.2.2 6 x1))]) rfl hD (Nat.le_of_ble_eq_true rfl) rfl (fun p e s m args below meth c X => sE_debtToken X o x1 ho hx1 N h)
-- ExactCurves$Vault.debtOf(J)J
theorem dq_V_debtOf_0 : decode prog_8_method_5_code 0 = .ok (.lload_n 1, 1) := by decide +kernel
theorem dq_V_debtOf_1 : decode prog_8_method_5_code 1 = .ok (.aload_n 0, 1) := by decide +kernel
theorem dq_V_debtOf_2 : decode prog_8_method_5_code 2 = .ok (.getfield 17, 3) := by decide +kernel
theorem dq_V_debtOf_5 : decode prog_8_method_5_code 5 = .ok (.ldc2_w 15, 3) := by decide +kernel
theorem dq_V_debtOf_8 : decode prog_8_method_5_code 8 = .ok (.invokestatic 40, 3) := by decide +kernel
theorem dq_V_debtOf_11 : decode prog_8_method_5_code 11 = .ok (.lreturn, 1) := by decide +kernel
def fV_debtOf (o : Nat) (x1 : Int64) (N : qz_N) : Option (Int64 × qz_N) :=
  (fA_timesOverUp x1 (qz_gl N 5 o 4) (1000000000 : Int64) N).bind fun q1 =>
  some (q1.1, q1.2)
set_option maxRecDepth 100000 in
set_option maxHeartbeats 4000000 in
theorem sV_debtOf {p : Program} {l : Launch} {e : Env} {s : State} {m : MethodId} {args : Array Value} {below : List Frame} {meth : Method} {c : Code} {G : qz_G} (X : qz_X p s m args meth c "ExactCurves$Vault" prog_8_method_5_code 3 (some .long) G) {r : (Int64 × qz_N)} (o : Nat) (x1 : Int64) (ho : o < 4) (N : qz_N) (h : fV_debtOf o x1 N = some r) : qz_W p l e (qz_R 3) s m args below meth c 0 0 (MQ below (qz_Q G r.2 (some (.long r.1))) args s 0 0 (qz_A G)) G s.heap 3 N 0 [(0, .ref (G.2.2 5 o)), (1, .long x1)] [] := by
  unfold fV_debtOf at h
  refine qz_lload_n X 1 rfl dq_V_debtOf_0 ?_
  refine qz_aload_n X 0 rfl dq_V_debtOf_1 ?_
  refine qz_get X (v := .long (qz_gl N 5 o 4)) kq_V_17 ho rfl dq_V_debtOf_2 ?_
  refine qz_ldc2 X (v := (1000000000 : Int64)) wq_165 dq_V_debtOf_5 ?_
  refine qz_bind h (fun q1 e2 h => ?_)
  refine qz_callS X (as := [.long x1, .long (qz_gl N 5 o 4), .long (1000000000 : Int64)]) (st := []) (o := some (.long q1.1)) (N' := q1.2) cq_V_40 (cA_timesOverUp l G X.2.2.2.2.2.2.1 x1 (qz_gl N 5 o 4) (1000000000 : Int64) N _ e2) ⟨by decide, by decide⟩ rfl rfl (Nat.le_of_ble_eq_true rfl) ⟨Nat.zero_le _, Nat.zero_le _⟩ dq_V_debtOf_8 ?_
  exact qz_lret X h dq_V_debtOf_11
theorem cV_debtOf (l : Launch) (G : qz_G) (hD : qz_D G) (o : Nat) (x1 : Int64) (N : qz_N) (ho : o < 4) (r : (Int64 × qz_N)) (h : fV_debtOf o x1 N = some r) : qz_M l yV_debtOf prog_8_method_5_code 3 (some .long) 3 G [.ref (G.2.2 5 o), .long x1] N (some (.long r.1)) r.2 :=
  qz_enter (lv := [(0, .ref (G.2.2 5 o)), (1, .long x1)]) rfl hD (Nat.le_of_ble_eq_true rfl) rfl (fun p e s m args below meth c X => sV_debtOf X o x1 ho N h)
-- ExactCurves.debtOf(LExactCurves$Loan;)J
theorem dq_E_debtOf_0 : decode prog_1_method_43_code 0 = .ok (.aload_n 0, 1) := by decide +kernel
theorem dq_E_debtOf_1 : decode prog_1_method_43_code 1 = .ok (.getfield 37, 3) := by decide +kernel
theorem dq_E_debtOf_4 : decode prog_1_method_43_code 4 = .ok (.aload_n 0, 1) := by decide +kernel
theorem dq_E_debtOf_5 : decode prog_1_method_43_code 5 = .ok (.aload_n 1, 1) := by decide +kernel
theorem dq_E_debtOf_6 : decode prog_1_method_43_code 6 = .ok (.invokevirtual 307, 3) := by decide +kernel
theorem dq_E_debtOf_9 : decode prog_1_method_43_code 9 = .ok (.aaload, 1) := by decide +kernel
theorem dq_E_debtOf_10 : decode prog_1_method_43_code 10 = .ok (.aload_n 1, 1) := by decide +kernel
theorem dq_E_debtOf_11 : decode prog_1_method_43_code 11 = .ok (.getfield 288, 3) := by decide +kernel
theorem dq_E_debtOf_14 : decode prog_1_method_43_code 14 = .ok (.invokevirtual 345, 3) := by decide +kernel
theorem dq_E_debtOf_17 : decode prog_1_method_43_code 17 = .ok (.lreturn, 1) := by decide +kernel
def fE_debtOf (o : Nat) (x1 : Nat) (N : qz_N) : Option (Int64 × qz_N) :=
  (fE_debtToken o x1 N).bind fun q1 =>
  if q1.1 < 0 ∨ 4 ≤ q1.1.toNatClampNeg then none else
  (fV_debtOf q1.1.toNatClampNeg (qz_gl q1.2 6 x1 5) q1.2).bind fun q4 =>
  some (q4.1, q4.2)
set_option maxRecDepth 100000 in
set_option maxHeartbeats 4000000 in
theorem sE_debtOf {p : Program} {l : Launch} {e : Env} {s : State} {m : MethodId} {args : Array Value} {below : List Frame} {meth : Method} {c : Code} {G : qz_G} (X : qz_X p s m args meth c "ExactCurves" prog_1_method_43_code 2 (some .long) G) {r : (Int64 × qz_N)} (o : Nat) (x1 : Nat) (ho : o < 1) (hx1 : x1 < 10) (N : qz_N) (h : fE_debtOf o x1 N = some r) : qz_W p l e (qz_R 4) s m args below meth c 0 0 (MQ below (qz_Q G r.2 (some (.long r.1))) args s 0 0 (qz_A G)) G s.heap 2 N 0 [(0, .ref (G.2.2 0 o)), (1, .ref (G.2.2 6 x1))] [] := by
  unfold fE_debtOf at h
  refine qz_aload_n X 0 rfl dq_E_debtOf_0 ?_
  refine qz_get X (v := .ref (G.2.2 10 o)) kq_E_37 ho rfl dq_E_debtOf_1 ?_
  refine qz_aload_n X 0 rfl dq_E_debtOf_4 ?_
  refine qz_aload_n X 1 rfl dq_E_debtOf_5 ?_
  refine qz_bind h (fun q1 e2 h => ?_)
  refine qz_callV X (as := [.ref (G.2.2 6 x1)]) (st := [.ref (G.2.2 10 o)]) (o := some (.int q1.1)) (N' := q1.2) cq_E_307 ho (cE_debtToken l G X.2.2.2.2.2.2.1 o x1 N ho hx1 _ e2) ⟨by decide, by decide⟩ rfl rfl (Nat.le_of_ble_eq_true rfl) ⟨Nat.zero_le _, Nat.zero_le _⟩ dq_E_debtOf_6 ?_
  refine qz_aald X (c0 := 10) (i := o) (tg := 5) (n := 4) rfl rfl ho dq_E_debtOf_9 h (fun hb3 h => ?_)
  refine qz_aload_n X 1 rfl dq_E_debtOf_10 ?_
  refine qz_get X (v := .long (qz_gl q1.2 6 x1 5)) kq_E_288 hx1 rfl dq_E_debtOf_11 ?_
  refine qz_bind h (fun q4 e5 h => ?_)
  refine qz_callV X (as := [.long (qz_gl q1.2 6 x1 5)]) (st := []) (o := some (.long q4.1)) (N' := q4.2) cq_E_345 hb3 (cV_debtOf l G X.2.2.2.2.2.2.1 q1.1.toNatClampNeg (qz_gl q1.2 6 x1 5) q1.2 hb3 _ e5) ⟨by decide, by decide⟩ rfl rfl (Nat.le_of_ble_eq_true rfl) ⟨Nat.zero_le _, Nat.zero_le _⟩ dq_E_debtOf_14 ?_
  exact qz_lret X h dq_E_debtOf_17
theorem cE_debtOf (l : Launch) (G : qz_G) (hD : qz_D G) (o : Nat) (x1 : Nat) (N : qz_N) (ho : o < 1) (hx1 : x1 < 10) (r : (Int64 × qz_N)) (h : fE_debtOf o x1 N = some r) : qz_M l yE_debtOf prog_1_method_43_code 2 (some .long) 4 G [.ref (G.2.2 0 o), .ref (G.2.2 6 x1)] N (some (.long r.1)) r.2 :=
  qz_enter (lv := [(0, .ref (G.2.2 0 o)), (1, .ref (G.2.2 6 x1))]) rfl hD (Nat.le_of_ble_eq_true rfl) rfl (fun p e s m args below meth c X => sE_debtOf X o x1 ho hx1 N h)
-- ExactCurves.worthOf(I)J
theorem dq_E_worthOf_0 : decode prog_1_method_37_code 0 = .ok (.aload_n 0, 1) := by decide +kernel
theorem dq_E_worthOf_1 : decode prog_1_method_37_code 1 = .ok (.getfield 37, 3) := by decide +kernel
theorem dq_E_worthOf_4 : decode prog_1_method_37_code 4 = .ok (.iload_n 1, 1) := by decide +kernel
theorem dq_E_worthOf_5 : decode prog_1_method_37_code 5 = .ok (.aaload, 1) := by decide +kernel
theorem dq_E_worthOf_6 : decode prog_1_method_37_code 6 = .ok (.getfield 245, 3) := by decide +kernel
theorem dq_E_worthOf_9 : decode prog_1_method_37_code 9 = .ok (.lstore_n 2, 1) := by decide +kernel
theorem dq_E_worthOf_10 : decode prog_1_method_37_code 10 = .ok (.iconst 0, 1) := by decide +kernel
theorem dq_E_worthOf_11 : decode prog_1_method_37_code 11 = .ok (.istore 4, 2) := by decide +kernel
theorem dq_E_worthOf_13 : decode prog_1_method_37_code 13 = .ok (.iload 4, 2) := by decide +kernel
theorem dq_E_worthOf_15 : decode prog_1_method_37_code 15 = .ok (.bipush 10, 2) := by decide +kernel
theorem dq_E_worthOf_17 : decode prog_1_method_37_code 17 = .ok (.if_icmp .ge 51, 3) := by decide +kernel
theorem dq_E_worthOf_20 : decode prog_1_method_37_code 20 = .ok (.aload_n 0, 1) := by decide +kernel
theorem dq_E_worthOf_21 : decode prog_1_method_37_code 21 = .ok (.getfield 43, 3) := by decide +kernel
theorem dq_E_worthOf_24 : decode prog_1_method_37_code 24 = .ok (.iload 4, 2) := by decide +kernel
theorem dq_E_worthOf_26 : decode prog_1_method_37_code 26 = .ok (.aaload, 1) := by decide +kernel
theorem dq_E_worthOf_27 : decode prog_1_method_37_code 27 = .ok (.getfield 314, 3) := by decide +kernel
theorem dq_E_worthOf_30 : decode prog_1_method_37_code 30 = .ok (.ifCond .eq 32, 3) := by decide +kernel
theorem dq_E_worthOf_33 : decode prog_1_method_37_code 33 = .ok (.aload_n 0, 1) := by decide +kernel
theorem dq_E_worthOf_34 : decode prog_1_method_37_code 34 = .ok (.aload_n 0, 1) := by decide +kernel
theorem dq_E_worthOf_35 : decode prog_1_method_37_code 35 = .ok (.getfield 43, 3) := by decide +kernel
theorem dq_E_worthOf_38 : decode prog_1_method_37_code 38 = .ok (.iload 4, 2) := by decide +kernel
theorem dq_E_worthOf_40 : decode prog_1_method_37_code 40 = .ok (.aaload, 1) := by decide +kernel
theorem dq_E_worthOf_41 : decode prog_1_method_37_code 41 = .ok (.invokevirtual 307, 3) := by decide +kernel
theorem dq_E_worthOf_44 : decode prog_1_method_37_code 44 = .ok (.iload_n 1, 1) := by decide +kernel
theorem dq_E_worthOf_45 : decode prog_1_method_37_code 45 = .ok (.if_icmp .ne 17, 3) := by decide +kernel
theorem dq_E_worthOf_48 : decode prog_1_method_37_code 48 = .ok (.lload_n 2, 1) := by decide +kernel
theorem dq_E_worthOf_49 : decode prog_1_method_37_code 49 = .ok (.aload_n 0, 1) := by decide +kernel
theorem dq_E_worthOf_50 : decode prog_1_method_37_code 50 = .ok (.aload_n 0, 1) := by decide +kernel
theorem dq_E_worthOf_51 : decode prog_1_method_37_code 51 = .ok (.getfield 43, 3) := by decide +kernel
theorem dq_E_worthOf_54 : decode prog_1_method_37_code 54 = .ok (.iload 4, 2) := by decide +kernel
theorem dq_E_worthOf_56 : decode prog_1_method_37_code 56 = .ok (.aaload, 1) := by decide +kernel
theorem dq_E_worthOf_57 : decode prog_1_method_37_code 57 = .ok (.invokevirtual 291, 3) := by decide +kernel
theorem dq_E_worthOf_60 : decode prog_1_method_37_code 60 = .ok (.ladd, 1) := by decide +kernel
theorem dq_E_worthOf_61 : decode prog_1_method_37_code 61 = .ok (.lstore_n 2, 1) := by decide +kernel
theorem dq_E_worthOf_62 : decode prog_1_method_37_code 62 = .ok (.iinc 4 1, 3) := by decide +kernel
theorem dq_E_worthOf_65 : decode prog_1_method_37_code 65 = .ok (.goto (-52), 3) := by decide +kernel
theorem dq_E_worthOf_68 : decode prog_1_method_37_code 68 = .ok (.lload_n 2, 1) := by decide +kernel
theorem dq_E_worthOf_69 : decode prog_1_method_37_code 69 = .ok (.lreturn, 1) := by decide +kernel
def fE_worthOf_62 (y0 : Nat) (k13 : qz_N × Int32 × Int64 × Int32 → Option (Int64 × qz_N)) (N : qz_N) (x1 : Int32) (x2 : Int64) (x4 : Int32) : Option (Int64 × qz_N) :=
  qz_let (x4 + (1 : Int32)) fun v4 =>
  k13 (N, x1, x2, v4)
def fE_worthOf_13b (y0 : Nat) (k13 : qz_N × Int32 × Int64 × Int32 → Option (Int64 × qz_N)) (N : qz_N) (x1 : Int32) (x2 : Int64) (x4 : Int32) : Option (Int64 × qz_N) :=
  if (10 : Int32) ≤ x4 then
    some (x2, N)
  else
  if x4 < 0 ∨ 10 ≤ x4.toNatClampNeg then none else
  if (qz_gi N 6 x4.toNatClampNeg 0) = 0 then
    fE_worthOf_62 y0 k13 N x1 x2 x4
  else
  if x4 < 0 ∨ 10 ≤ x4.toNatClampNeg then none else
  (fE_debtToken y0 x4.toNatClampNeg N).bind fun q6 =>
  if q6.1 = x1 then
    if x4 < 0 ∨ 10 ≤ x4.toNatClampNeg then none else
    (fE_debtOf y0 x4.toNatClampNeg q6.2).bind fun q9 =>
    qz_let (x2 + q9.1) fun v11 =>
    fE_worthOf_62 y0 k13 q9.2 x1 v11 x4
  else
  fE_worthOf_62 y0 k13 q6.2 x1 x2 x4
def fE_worthOf_13 (y0 : Nat) (n : Nat) (a : qz_N × Int32 × Int64 × Int32) : Option (Int64 × qz_N) := qz_loop (fun k a => fE_worthOf_13b y0 k a.1 a.2.1 a.2.2.1 a.2.2.2) n a
def fE_worthOf (o : Nat) (x1 : Int32) (N : qz_N) : Option (Int64 × qz_N) :=
  if x1 < 0 ∨ 4 ≤ x1.toNatClampNeg then none else
  qz_let (qz_gl N 5 x1.toNatClampNeg 1) fun v2 =>
  fE_worthOf_13 o 1100 (N, x1, v2, (0 : Int32))
set_option maxRecDepth 100000 in
set_option maxHeartbeats 4000000 in
theorem sE_worthOf_62 {p : Program} {l : Launch} {e : Env} {s : State} {m : MethodId} {args : Array Value} {below : List Frame} {meth : Method} {c : Code} {G : qz_G} (X : qz_X p s m args meth c "ExactCurves" prog_1_method_37_code 5 (some .long) G) {r : (Int64 × qz_N)} (y0 : Nat) (hy0 : y0 < 1) (k13 : qz_N × Int32 × Int64 × Int32 → Option (Int64 × qz_N)) (hk13 : ∀ a, k13 a = some r → qz_W p l e (qz_R 5) s m args below meth c 0 0 (MQ below (qz_Q G r.2 (some (.long r.1))) args s 0 0 (qz_A G)) G s.heap 5 a.1 13 [(1, .int a.2.1), (2, .long a.2.2.1), (4, .int a.2.2.2), (0, .ref (G.2.2 0 y0))] []) (N : qz_N) (x1 : Int32) (x2 : Int64) (x4 : Int32) (h : fE_worthOf_62 y0 k13 N x1 x2 x4 = some r) : qz_W p l e (qz_R 5) s m args below meth c 0 0 (MQ below (qz_Q G r.2 (some (.long r.1))) args s 0 0 (qz_A G)) G s.heap 5 N 62 [(1, .int x1), (2, .long x2), (4, .int x4), (0, .ref (G.2.2 0 y0))] [] := by
  unfold fE_worthOf_62 at h
  refine qz_iinc_l X (u := (1 : Int32)) (lv' := fun v4 => [(4, .int v4), (1, .int x1), (2, .long x2), (0, .ref (G.2.2 0 y0))]) (k := 2) rfl (by decide) (by decide) (fun _ => rfl) dq_E_worthOf_62 h (fun v4 h => ?_)
  refine qz_goto X (tgt := 13) (by decide) dq_E_worthOf_65 ?_
  refine qz_sub [1, 2, 0, 3] rfl ?_
  exact hk13 (N, x1, x2, v4) h
set_option maxRecDepth 100000 in
set_option maxHeartbeats 4000000 in
theorem sE_worthOf_13b {p : Program} {l : Launch} {e : Env} {s : State} {m : MethodId} {args : Array Value} {below : List Frame} {meth : Method} {c : Code} {G : qz_G} (X : qz_X p s m args meth c "ExactCurves" prog_1_method_37_code 5 (some .long) G) {r : (Int64 × qz_N)} (y0 : Nat) (hy0 : y0 < 1) (k13 : qz_N × Int32 × Int64 × Int32 → Option (Int64 × qz_N)) (hk13 : ∀ a, k13 a = some r → qz_W p l e (qz_R 5) s m args below meth c 0 0 (MQ below (qz_Q G r.2 (some (.long r.1))) args s 0 0 (qz_A G)) G s.heap 5 a.1 13 [(1, .int a.2.1), (2, .long a.2.2.1), (4, .int a.2.2.2), (0, .ref (G.2.2 0 y0))] []) (N : qz_N) (x1 : Int32) (x2 : Int64) (x4 : Int32) (h : fE_worthOf_13b y0 k13 N x1 x2 x4 = some r) : qz_W p l e (qz_R 5) s m args below meth c 0 0 (MQ below (qz_Q G r.2 (some (.long r.1))) args s 0 0 (qz_A G)) G s.heap 5 N 13 [(1, .int x1), (2, .long x2), (4, .int x4), (0, .ref (G.2.2 0 y0))] [] := by
  unfold fE_worthOf_13b at h
  refine qz_iload X 2 rfl dq_E_worthOf_13 ?_
  refine qz_bipush X (v := (10 : Int32)) (by decide) dq_E_worthOf_15 ?_
  refine qz_icmp_ge X (tgt := 68) (by decide) dq_E_worthOf_17 h (fun _ h => ?_) (fun _ h => ?_)
  · refine qz_lload_n X 1 rfl dq_E_worthOf_68 ?_
    exact qz_lret X h dq_E_worthOf_69
  · refine qz_aload_n X 3 rfl dq_E_worthOf_20 ?_
    refine qz_get X (v := .ref (G.2.2 11 y0)) kq_E_43 hy0 rfl dq_E_worthOf_21 ?_
    refine qz_iload X 2 rfl dq_E_worthOf_24 ?_
    refine qz_aald X (c0 := 11) (i := y0) (tg := 6) (n := 10) rfl rfl hy0 dq_E_worthOf_26 h (fun hb3 h => ?_)
    refine qz_get X (v := .int (qz_gi N 6 x4.toNatClampNeg 0)) kq_E_314 hb3 rfl dq_E_worthOf_27 ?_
    refine qz_if_eq X (tgt := 62) (by decide) dq_E_worthOf_30 h (fun _ h => ?_) (fun _ h => ?_)
    · refine qz_sub [0, 1, 2, 3] rfl ?_
      exact sE_worthOf_62 X y0 hy0 k13 hk13 N x1 x2 x4 h
    · refine qz_aload_n X 3 rfl dq_E_worthOf_33 ?_
      refine qz_aload_n X 3 rfl dq_E_worthOf_34 ?_
      refine qz_get X (v := .ref (G.2.2 11 y0)) kq_E_43 hy0 rfl dq_E_worthOf_35 ?_
      refine qz_iload X 2 rfl dq_E_worthOf_38 ?_
      refine qz_aald X (c0 := 11) (i := y0) (tg := 6) (n := 10) rfl rfl hy0 dq_E_worthOf_40 h (fun hb5 h => ?_)
      refine qz_bind h (fun q6 e7 h => ?_)
      refine qz_callV X (as := [.ref (G.2.2 6 x4.toNatClampNeg)]) (st := []) (o := some (.int q6.1)) (N' := q6.2) cq_E_307 hy0 (cE_debtToken l G X.2.2.2.2.2.2.1 y0 x4.toNatClampNeg N hy0 hb5 _ e7) ⟨by decide, by decide⟩ rfl rfl (Nat.le_of_ble_eq_true rfl) ⟨Nat.zero_le _, Nat.zero_le _⟩ dq_E_worthOf_41 ?_
      refine qz_iload_n X 0 rfl dq_E_worthOf_44 ?_
      refine qz_icmp_ne X (tgt := 62) (by decide) dq_E_worthOf_45 h (fun _ h => ?_) (fun _ h => ?_)
      · refine qz_sub [0, 1, 2, 3] rfl ?_
        exact sE_worthOf_62 X y0 hy0 k13 hk13 q6.2 x1 x2 x4 h
      · refine qz_lload_n X 1 rfl dq_E_worthOf_48 ?_
        refine qz_aload_n X 3 rfl dq_E_worthOf_49 ?_
        refine qz_aload_n X 3 rfl dq_E_worthOf_50 ?_
        refine qz_get X (v := .ref (G.2.2 11 y0)) kq_E_43 hy0 rfl dq_E_worthOf_51 ?_
        refine qz_iload X 2 rfl dq_E_worthOf_54 ?_
        refine qz_aald X (c0 := 11) (i := y0) (tg := 6) (n := 10) rfl rfl hy0 dq_E_worthOf_56 h (fun hb8 h => ?_)
        refine qz_bind h (fun q9 e10 h => ?_)
        refine qz_callV X (as := [.ref (G.2.2 6 x4.toNatClampNeg)]) (st := [.long x2]) (o := some (.long q9.1)) (N' := q9.2) cq_E_291 hy0 (cE_debtOf l G X.2.2.2.2.2.2.1 y0 x4.toNatClampNeg q6.2 hy0 hb8 _ e10) ⟨by decide, by decide⟩ rfl rfl (Nat.le_of_ble_eq_true rfl) ⟨Nat.zero_le _, Nat.zero_le _⟩ dq_E_worthOf_57 ?_
        refine qz_ladd X dq_E_worthOf_60 ?_
        refine qz_letj h (fun v11 h => ?_)
        refine qz_lstore_n X (lv' := [(2, .long v11), (1, .int x1), (4, .int x4), (0, .ref (G.2.2 0 y0))]) rfl (by decide) rfl dq_E_worthOf_61 ?_
        refine qz_sub [1, 0, 2, 3] rfl ?_
        exact sE_worthOf_62 X y0 hy0 k13 hk13 q9.2 x1 v11 x4 h
theorem sE_worthOf_13 {p : Program} {l : Launch} {e : Env} {s : State} {m : MethodId} {args : Array Value} {below : List Frame} {meth : Method} {c : Code} {G : qz_G} (X : qz_X p s m args meth c "ExactCurves" prog_1_method_37_code 5 (some .long) G) {r : (Int64 × qz_N)} (y0 : Nat) (hy0 : y0 < 1) (n : Nat) (a : qz_N × Int32 × Int64 × Int32) (h : fE_worthOf_13 y0 n a = some r) : qz_W p l e (qz_R 5) s m args below meth c 0 0 (MQ below (qz_Q G r.2 (some (.long r.1))) args s 0 0 (qz_A G)) G s.heap 5 a.1 13 [(1, .int a.2.1), (2, .long a.2.2.1), (4, .int a.2.2.2), (0, .ref (G.2.2 0 y0))] [] :=
  qz_loop_ind (P := fun a => qz_W p l e (qz_R 5) s m args below meth c 0 0 (MQ below (qz_Q G r.2 (some (.long r.1))) args s 0 0 (qz_A G)) G s.heap 5 a.1 13 [(1, .int a.2.1), (2, .long a.2.2.1), (4, .int a.2.2.2), (0, .ref (G.2.2 0 y0))] []) (fun k hk a h => sE_worthOf_13b X y0 hy0 k hk a.1 a.2.1 a.2.2.1 a.2.2.2 h) n a h
set_option maxRecDepth 100000 in
set_option maxHeartbeats 4000000 in
theorem sE_worthOf {p : Program} {l : Launch} {e : Env} {s : State} {m : MethodId} {args : Array Value} {below : List Frame} {meth : Method} {c : Code} {G : qz_G} (X : qz_X p s m args meth c "ExactCurves" prog_1_method_37_code 5 (some .long) G) {r : (Int64 × qz_N)} (o : Nat) (x1 : Int32) (ho : o < 1) (N : qz_N) (h : fE_worthOf o x1 N = some r) : qz_W p l e (qz_R 5) s m args below meth c 0 0 (MQ below (qz_Q G r.2 (some (.long r.1))) args s 0 0 (qz_A G)) G s.heap 5 N 0 [(0, .ref (G.2.2 0 o)), (1, .int x1)] [] := by
  unfold fE_worthOf at h
  refine qz_aload_n X 0 rfl dq_E_worthOf_0 ?_
  refine qz_get X (v := .ref (G.2.2 10 o)) kq_E_37 ho rfl dq_E_worthOf_1 ?_
  refine qz_iload_n X 1 rfl dq_E_worthOf_4 ?_
  refine qz_aald X (c0 := 10) (i := o) (tg := 5) (n := 4) rfl rfl ho dq_E_worthOf_5 h (fun hb1 h => ?_)
  refine qz_get X (v := .long (qz_gl N 5 x1.toNatClampNeg 1)) kq_E_245 hb1 rfl dq_E_worthOf_6 ?_
  refine qz_letj h (fun v2 h => ?_)
  refine qz_lstore_n X (lv' := [(2, .long v2), (0, .ref (G.2.2 0 o)), (1, .int x1)]) rfl (by decide) rfl dq_E_worthOf_9 ?_
  refine qz_iconst X (v := (0 : Int32)) (by decide) dq_E_worthOf_10 ?_
  refine qz_istore X (lv' := [(4, .int (0 : Int32)), (2, .long v2), (0, .ref (G.2.2 0 o)), (1, .int x1)]) (by decide) rfl dq_E_worthOf_11 ?_
  refine qz_sub [3, 1, 0, 2] rfl ?_
  exact sE_worthOf_13 X o ho 1100 (N, x1, v2, (0 : Int32)) h
theorem cE_worthOf (l : Launch) (G : qz_G) (hD : qz_D G) (o : Nat) (x1 : Int32) (N : qz_N) (ho : o < 1) (r : (Int64 × qz_N)) (h : fE_worthOf o x1 N = some r) : qz_M l yE_worthOf prog_1_method_37_code 5 (some .long) 5 G [.ref (G.2.2 0 o), .int x1] N (some (.long r.1)) r.2 :=
  qz_enter (lv := [(0, .ref (G.2.2 0 o)), (1, .int x1)]) rfl hD (Nat.le_of_ble_eq_true rfl) rfl (fun p e s m args below meth c X => sE_worthOf X o x1 ho N h)
-- ExactCurves$Vault.addParts(IJ)V
theorem dq_V_addParts_0 : decode prog_8_method_3_code 0 = .ok (.aload_n 0, 1) := by decide +kernel
theorem dq_V_addParts_1 : decode prog_8_method_3_code 1 = .ok (.getfield 9, 3) := by decide +kernel
theorem dq_V_addParts_4 : decode prog_8_method_3_code 4 = .ok (.iload_n 1, 1) := by decide +kernel
theorem dq_V_addParts_5 : decode prog_8_method_3_code 5 = .ok (.dup2, 1) := by decide +kernel
theorem dq_V_addParts_6 : decode prog_8_method_3_code 6 = .ok (.laload, 1) := by decide +kernel
theorem dq_V_addParts_7 : decode prog_8_method_3_code 7 = .ok (.lload_n 2, 1) := by decide +kernel
theorem dq_V_addParts_8 : decode prog_8_method_3_code 8 = .ok (.ladd, 1) := by decide +kernel
theorem dq_V_addParts_9 : decode prog_8_method_3_code 9 = .ok (.lastore, 1) := by decide +kernel
theorem dq_V_addParts_10 : decode prog_8_method_3_code 10 = .ok (.aload_n 0, 1) := by decide +kernel
theorem dq_V_addParts_11 : decode prog_8_method_3_code 11 = .ok (.dup, 1) := by decide +kernel
theorem dq_V_addParts_12 : decode prog_8_method_3_code 12 = .ok (.getfield 24, 3) := by decide +kernel
theorem dq_V_addParts_15 : decode prog_8_method_3_code 15 = .ok (.lload_n 2, 1) := by decide +kernel
theorem dq_V_addParts_16 : decode prog_8_method_3_code 16 = .ok (.ladd, 1) := by decide +kernel
theorem dq_V_addParts_17 : decode prog_8_method_3_code 17 = .ok (.putfield 24, 3) := by decide +kernel
theorem dq_V_addParts_20 : decode prog_8_method_3_code 20 = .ok (.return_, 1) := by decide +kernel
def fV_addParts (o : Nat) (x1 : Int32) (x2 : Int64) (N : qz_N) : Option (Unit × qz_N) :=
  if x1 < 0 ∨ 6 ≤ x1.toNatClampNeg then none else
  if x1 < 0 ∨ 6 ≤ x1.toNatClampNeg then none else
  qz_let (qz_sl N 21 o x1.toNatClampNeg ((qz_gl N 21 o x1.toNatClampNeg) + x2)) fun N1 =>
  qz_let (qz_sl N1 5 o 2 ((qz_gl N1 5 o 2) + x2)) fun N2 =>
  some ((), N2)
set_option maxRecDepth 100000 in
set_option maxHeartbeats 4000000 in
theorem sV_addParts {p : Program} {l : Launch} {e : Env} {s : State} {m : MethodId} {args : Array Value} {below : List Frame} {meth : Method} {c : Code} {G : qz_G} (X : qz_X p s m args meth c "ExactCurves$Vault" prog_8_method_3_code 4 none G) {r : (Unit × qz_N)} (o : Nat) (x1 : Int32) (x2 : Int64) (ho : o < 4) (N : qz_N) (h : fV_addParts o x1 x2 N = some r) : qz_W p l e (qz_R 0) s m args below meth c 0 0 (MQ below (qz_Q G r.2 none) args s 0 0 (qz_A G)) G s.heap 4 N 0 [(0, .ref (G.2.2 5 o)), (1, .int x1), (2, .long x2)] [] := by
  unfold fV_addParts at h
  refine qz_aload_n X 0 rfl dq_V_addParts_0 ?_
  refine qz_get X (v := .ref (G.2.2 21 o)) kq_V_9 ho rfl dq_V_addParts_1 ?_
  refine qz_iload_n X 1 rfl dq_V_addParts_4 ?_
  refine qz_dup2_11 X rfl rfl dq_V_addParts_5 ?_
  refine qz_lald X (c0 := 21) (i := o) (n := 6) rfl ho dq_V_addParts_6 h (fun h => ?_)
  refine qz_lload_n X 2 rfl dq_V_addParts_7 ?_
  refine qz_ladd X dq_V_addParts_8 ?_
  refine qz_last X (c0 := 21) (i := o) (n := 6) rfl ho dq_V_addParts_9 h (fun N1 h => ?_)
  refine qz_aload_n X 0 rfl dq_V_addParts_10 ?_
  refine qz_dup X rfl dq_V_addParts_11 ?_
  refine qz_get X (v := .long (qz_gl N1 5 o 2)) kq_V_24 ho rfl dq_V_addParts_12 ?_
  refine qz_lload_n X 2 rfl dq_V_addParts_15 ?_
  refine qz_ladd X dq_V_addParts_16 ?_
  refine qz_putJ X kq_V_24 ho dq_V_addParts_17 h (fun N2 h => ?_)
  exact qz_vret X h dq_V_addParts_20
theorem cV_addParts (l : Launch) (G : qz_G) (hD : qz_D G) (o : Nat) (x1 : Int32) (x2 : Int64) (N : qz_N) (ho : o < 4) (r : (Unit × qz_N)) (h : fV_addParts o x1 x2 N = some r) : qz_M l yV_addParts prog_8_method_3_code 4 none 0 G [.ref (G.2.2 5 o), .int x1, .long x2] N none r.2 :=
  qz_enter (lv := [(0, .ref (G.2.2 5 o)), (1, .int x1), (2, .long x2)]) rfl hD (Nat.le_of_ble_eq_true rfl) rfl (fun p e s m args below meth c X => sV_addParts X o x1 x2 ho N h)
-- ExactCurves.lend(IIJ)J
theorem dq_E_lend_0 : decode prog_1_method_21_code 0 = .ok (.iload_n 1, 1) := by decide +kernel
theorem dq_E_lend_1 : decode prog_1_method_21_code 1 = .ok (.invokestatic 51, 3) := by decide +kernel
theorem dq_E_lend_4 : decode prog_1_method_21_code 4 = .ok (.ifCond .eq 16, 3) := by decide +kernel
theorem dq_E_lend_7 : decode prog_1_method_21_code 7 = .ok (.iload_n 2, 1) := by decide +kernel
theorem dq_E_lend_8 : decode prog_1_method_21_code 8 = .ok (.invokestatic 55, 3) := by decide +kernel
theorem dq_E_lend_11 : decode prog_1_method_21_code 11 = .ok (.ifCond .eq 9, 3) := by decide +kernel
theorem dq_E_lend_14 : decode prog_1_method_21_code 14 = .ok (.lload_n 3, 1) := by decide +kernel
theorem dq_E_lend_15 : decode prog_1_method_21_code 15 = .ok (.lconst 1, 1) := by decide +kernel
theorem dq_E_lend_16 : decode prog_1_method_21_code 16 = .ok (.lcmp, 1) := by decide +kernel
theorem dq_E_lend_17 : decode prog_1_method_21_code 17 = .ok (.ifCond .ge 7, 3) := by decide +kernel
theorem dq_E_lend_20 : decode prog_1_method_21_code 20 = .ok (.ldc2_w 60, 3) := by decide +kernel
theorem dq_E_lend_23 : decode prog_1_method_21_code 23 = .ok (.lreturn, 1) := by decide +kernel
theorem dq_E_lend_24 : decode prog_1_method_21_code 24 = .ok (.aload_n 0, 1) := by decide +kernel
theorem dq_E_lend_25 : decode prog_1_method_21_code 25 = .ok (.getfield 10, 3) := by decide +kernel
theorem dq_E_lend_28 : decode prog_1_method_21_code 28 = .ok (.iload_n 1, 1) := by decide +kernel
theorem dq_E_lend_29 : decode prog_1_method_21_code 29 = .ok (.iload_n 2, 1) := by decide +kernel
theorem dq_E_lend_30 : decode prog_1_method_21_code 30 = .ok (.invokevirtual 72, 3) := by decide +kernel
theorem dq_E_lend_33 : decode prog_1_method_21_code 33 = .ok (.lload_n 3, 1) := by decide +kernel
theorem dq_E_lend_34 : decode prog_1_method_21_code 34 = .ok (.lcmp, 1) := by decide +kernel
theorem dq_E_lend_35 : decode prog_1_method_21_code 35 = .ok (.ifCond .ge 7, 3) := by decide +kernel
theorem dq_E_lend_38 : decode prog_1_method_21_code 38 = .ok (.ldc2_w 66, 3) := by decide +kernel
theorem dq_E_lend_41 : decode prog_1_method_21_code 41 = .ok (.lreturn, 1) := by decide +kernel
theorem dq_E_lend_42 : decode prog_1_method_21_code 42 = .ok (.aload_n 0, 1) := by decide +kernel
theorem dq_E_lend_43 : decode prog_1_method_21_code 43 = .ok (.getfield 37, 3) := by decide +kernel
theorem dq_E_lend_46 : decode prog_1_method_21_code 46 = .ok (.iload_n 2, 1) := by decide +kernel
theorem dq_E_lend_47 : decode prog_1_method_21_code 47 = .ok (.aaload, 1) := by decide +kernel
theorem dq_E_lend_48 : decode prog_1_method_21_code 48 = .ok (.astore 5, 2) := by decide +kernel
theorem dq_E_lend_50 : decode prog_1_method_21_code 50 = .ok (.aload 5, 2) := by decide +kernel
theorem dq_E_lend_52 : decode prog_1_method_21_code 52 = .ok (.getfield 237, 3) := by decide +kernel
theorem dq_E_lend_55 : decode prog_1_method_21_code 55 = .ok (.lconst 0, 1) := by decide +kernel
theorem dq_E_lend_56 : decode prog_1_method_21_code 56 = .ok (.lcmp, 1) := by decide +kernel
theorem dq_E_lend_57 : decode prog_1_method_21_code 57 = .ok (.ifCond .ne 7, 3) := by decide +kernel
theorem dq_E_lend_60 : decode prog_1_method_21_code 60 = .ok (.lload_n 3, 1) := by decide +kernel
theorem dq_E_lend_61 : decode prog_1_method_21_code 61 = .ok (.goto 17, 3) := by decide +kernel
theorem dq_E_lend_64 : decode prog_1_method_21_code 64 = .ok (.lload_n 3, 1) := by decide +kernel
theorem dq_E_lend_65 : decode prog_1_method_21_code 65 = .ok (.aload 5, 2) := by decide +kernel
theorem dq_E_lend_67 : decode prog_1_method_21_code 67 = .ok (.getfield 237, 3) := by decide +kernel
theorem dq_E_lend_70 : decode prog_1_method_21_code 70 = .ok (.aload_n 0, 1) := by decide +kernel
theorem dq_E_lend_71 : decode prog_1_method_21_code 71 = .ok (.iload_n 2, 1) := by decide +kernel
theorem dq_E_lend_72 : decode prog_1_method_21_code 72 = .ok (.invokevirtual 239, 3) := by decide +kernel
theorem dq_E_lend_75 : decode prog_1_method_21_code 75 = .ok (.invokestatic 242, 3) := by decide +kernel
theorem dq_E_lend_78 : decode prog_1_method_21_code 78 = .ok (.lstore 6, 2) := by decide +kernel
theorem dq_E_lend_80 : decode prog_1_method_21_code 80 = .ok (.lload 6, 2) := by decide +kernel
theorem dq_E_lend_82 : decode prog_1_method_21_code 82 = .ok (.lconst 0, 1) := by decide +kernel
theorem dq_E_lend_83 : decode prog_1_method_21_code 83 = .ok (.lcmp, 1) := by decide +kernel
theorem dq_E_lend_84 : decode prog_1_method_21_code 84 = .ok (.ifCond .ne 7, 3) := by decide +kernel
theorem dq_E_lend_87 : decode prog_1_method_21_code 87 = .ok (.ldc2_w 66, 3) := by decide +kernel
theorem dq_E_lend_90 : decode prog_1_method_21_code 90 = .ok (.lreturn, 1) := by decide +kernel
theorem dq_E_lend_91 : decode prog_1_method_21_code 91 = .ok (.aload_n 0, 1) := by decide +kernel
theorem dq_E_lend_92 : decode prog_1_method_21_code 92 = .ok (.getfield 10, 3) := by decide +kernel
theorem dq_E_lend_95 : decode prog_1_method_21_code 95 = .ok (.iload_n 1, 1) := by decide +kernel
theorem dq_E_lend_96 : decode prog_1_method_21_code 96 = .ok (.iload_n 2, 1) := by decide +kernel
theorem dq_E_lend_97 : decode prog_1_method_21_code 97 = .ok (.lload_n 3, 1) := by decide +kernel
theorem dq_E_lend_98 : decode prog_1_method_21_code 98 = .ok (.invokevirtual 200, 3) := by decide +kernel
theorem dq_E_lend_101 : decode prog_1_method_21_code 101 = .ok (.aload 5, 2) := by decide +kernel
theorem dq_E_lend_103 : decode prog_1_method_21_code 103 = .ok (.dup, 1) := by decide +kernel
theorem dq_E_lend_104 : decode prog_1_method_21_code 104 = .ok (.getfield 245, 3) := by decide +kernel
theorem dq_E_lend_107 : decode prog_1_method_21_code 107 = .ok (.lload_n 3, 1) := by decide +kernel
theorem dq_E_lend_108 : decode prog_1_method_21_code 108 = .ok (.ladd, 1) := by decide +kernel
theorem dq_E_lend_109 : decode prog_1_method_21_code 109 = .ok (.putfield 245, 3) := by decide +kernel
theorem dq_E_lend_112 : decode prog_1_method_21_code 112 = .ok (.aload 5, 2) := by decide +kernel
theorem dq_E_lend_114 : decode prog_1_method_21_code 114 = .ok (.iload_n 1, 1) := by decide +kernel
theorem dq_E_lend_115 : decode prog_1_method_21_code 115 = .ok (.lload 6, 2) := by decide +kernel
theorem dq_E_lend_117 : decode prog_1_method_21_code 117 = .ok (.invokevirtual 248, 3) := by decide +kernel
theorem dq_E_lend_120 : decode prog_1_method_21_code 120 = .ok (.lload 6, 2) := by decide +kernel
theorem dq_E_lend_122 : decode prog_1_method_21_code 122 = .ok (.lreturn, 1) := by decide +kernel
def fE_lend_78 (y0 : Nat) (y5 : Nat) (N : qz_N) (x1 : Int32) (x2 : Int32) (x3 : Int64) (s0 : Int64) : Option (Int64 × qz_N) :=
  if s0 = (0 : Int64) then
    some ((-3 : Int64), N)
  else
  (fU_take y0 x1 x2 x3 N).bind fun q12 =>
  qz_let (qz_sl q12.2 5 y5 1 ((qz_gl q12.2 5 y5 1) + x3)) fun N14 =>
  (fV_addParts y5 x1 s0 N14).bind fun q15 =>
  some (s0, q15.2)
def fE_lend (o : Nat) (x1 : Int32) (x2 : Int32) (x3 : Int64) (N : qz_N) : Option (Int64 × qz_N) :=
  (fE_isPlayer x1 N).bind fun q1 =>
  if q1.1 = 0 then
    some ((-2 : Int64), q1.2)
  else
  (fE_isToken x2 q1.2).bind fun q3 =>
  if q3.1 = 0 then
    some ((-2 : Int64), q3.2)
  else
  if (1 : Int64) ≤ x3 then
    (fU_held o x1 x2 q3.2).bind fun q5 =>
    if x3 ≤ q5.1 then
      if x2 < 0 ∨ 4 ≤ x2.toNatClampNeg then none else
      if (qz_gl q5.2 5 x2.toNatClampNeg 2) = (0 : Int64) then
        fE_lend_78 o x2.toNatClampNeg q5.2 x1 x2 x3 x3
      else
      (fE_worthOf o x2 q5.2).bind fun q8 =>
      (fA_timesOver x3 (qz_gl q5.2 5 x2.toNatClampNeg 2) q8.1 q8.2).bind fun q10 =>
      fE_lend_78 o x2.toNatClampNeg q10.2 x1 x2 x3 q10.1
    else
    some ((-3 : Int64), q5.2)
  else
  some ((-2 : Int64), q3.2)
set_option maxRecDepth 100000 in
set_option maxHeartbeats 4000000 in
theorem sE_lend_78 {p : Program} {l : Launch} {e : Env} {s : State} {m : MethodId} {args : Array Value} {below : List Frame} {meth : Method} {c : Code} {G : qz_G} (X : qz_X p s m args meth c "ExactCurves" prog_1_method_21_code 8 (some .long) G) {r : (Int64 × qz_N)} (y0 : Nat) (y5 : Nat) (hy0 : y0 < 1) (hy5 : y5 < 4) (N : qz_N) (x1 : Int32) (x2 : Int32) (x3 : Int64) (s0 : Int64) (h : fE_lend_78 y0 y5 N x1 x2 x3 s0 = some r) : qz_W p l e (qz_R 6) s m args below meth c 0 0 (MQ below (qz_Q G r.2 (some (.long r.1))) args s 0 0 (qz_A G)) G s.heap 8 N 78 [(1, .int x1), (2, .int x2), (3, .long x3), (0, .ref (G.2.2 0 y0)), (5, .ref (G.2.2 5 y5))] [.long s0] := by
  unfold fE_lend_78 at h
  refine qz_lstore X (lv' := [(6, .long s0), (1, .int x1), (2, .int x2), (3, .long x3), (0, .ref (G.2.2 0 y0)), (5, .ref (G.2.2 5 y5))]) (by decide) rfl dq_E_lend_78 ?_
  refine qz_lload X 0 rfl dq_E_lend_80 ?_
  refine qz_lconst X (v := (0 : Int64)) (by decide) dq_E_lend_82 ?_
  refine qz_lcmp_ne X (tgt := 91) (by decide) dq_E_lend_83 dq_E_lend_84 h (fun _ h => ?_) (fun _ h => ?_)
  · refine qz_aload_n X 4 rfl dq_E_lend_91 ?_
    refine qz_get X (v := .ref (G.2.2 1 y0)) kq_E_10 hy0 rfl dq_E_lend_92 ?_
    refine qz_iload_n X 1 rfl dq_E_lend_95 ?_
    refine qz_iload_n X 2 rfl dq_E_lend_96 ?_
    refine qz_lload_n X 3 rfl dq_E_lend_97 ?_
    refine qz_bind h (fun q12 e13 h => ?_)
    refine qz_callV X (as := [.int x1, .int x2, .long x3]) (st := []) (o := none) (N' := q12.2) cq_E_200 hy0 (cU_take l G X.2.2.2.2.2.2.1 y0 x1 x2 x3 N hy0 _ e13) ⟨by decide, by decide⟩ rfl rfl (Nat.le_of_ble_eq_true rfl) ⟨Nat.zero_le _, Nat.zero_le _⟩ dq_E_lend_98 ?_
    refine qz_aload X 5 rfl dq_E_lend_101 ?_
    refine qz_dup X rfl dq_E_lend_103 ?_
    refine qz_get X (v := .long (qz_gl q12.2 5 y5 1)) kq_E_245 hy5 rfl dq_E_lend_104 ?_
    refine qz_lload_n X 3 rfl dq_E_lend_107 ?_
    refine qz_ladd X dq_E_lend_108 ?_
    refine qz_putJ X kq_E_245 hy5 dq_E_lend_109 h (fun N14 h => ?_)
    refine qz_aload X 5 rfl dq_E_lend_112 ?_
    refine qz_iload_n X 1 rfl dq_E_lend_114 ?_
    refine qz_lload X 0 rfl dq_E_lend_115 ?_
    refine qz_bind h (fun q15 e16 h => ?_)
    refine qz_callV X (as := [.int x1, .long s0]) (st := []) (o := none) (N' := q15.2) cq_E_248 hy5 (cV_addParts l G X.2.2.2.2.2.2.1 y5 x1 s0 N14 hy5 _ e16) ⟨by decide, by decide⟩ rfl rfl (Nat.le_of_ble_eq_true rfl) ⟨Nat.zero_le _, Nat.zero_le _⟩ dq_E_lend_117 ?_
    refine qz_lload X 0 rfl dq_E_lend_120 ?_
    exact qz_lret X h dq_E_lend_122
  · refine qz_ldc2 X (v := (-3 : Int64)) wq_253 dq_E_lend_87 ?_
    exact qz_lret X h dq_E_lend_90
set_option maxRecDepth 100000 in
set_option maxHeartbeats 4000000 in
theorem sE_lend {p : Program} {l : Launch} {e : Env} {s : State} {m : MethodId} {args : Array Value} {below : List Frame} {meth : Method} {c : Code} {G : qz_G} (X : qz_X p s m args meth c "ExactCurves" prog_1_method_21_code 8 (some .long) G) {r : (Int64 × qz_N)} (o : Nat) (x1 : Int32) (x2 : Int32) (x3 : Int64) (ho : o < 1) (N : qz_N) (h : fE_lend o x1 x2 x3 N = some r) : qz_W p l e (qz_R 6) s m args below meth c 0 0 (MQ below (qz_Q G r.2 (some (.long r.1))) args s 0 0 (qz_A G)) G s.heap 8 N 0 [(0, .ref (G.2.2 0 o)), (1, .int x1), (2, .int x2), (3, .long x3)] [] := by
  unfold fE_lend at h
  refine qz_iload_n X 1 rfl dq_E_lend_0 ?_
  refine qz_bind h (fun q1 e2 h => ?_)
  refine qz_callS X (as := [.int x1]) (st := []) (o := some (.int q1.1)) (N' := q1.2) cq_E_51 (cE_isPlayer l G X.2.2.2.2.2.2.1 x1 N _ e2) ⟨by decide, by decide⟩ rfl rfl (Nat.le_of_ble_eq_true rfl) ⟨Nat.zero_le _, Nat.zero_le _⟩ dq_E_lend_1 ?_
  refine qz_if_eq X (tgt := 20) (by decide) dq_E_lend_4 h (fun _ h => ?_) (fun _ h => ?_)
  · refine qz_ldc2 X (v := (-2 : Int64)) wq_252 dq_E_lend_20 ?_
    exact qz_lret X h dq_E_lend_23
  · refine qz_iload_n X 2 rfl dq_E_lend_7 ?_
    refine qz_bind h (fun q3 e4 h => ?_)
    refine qz_callS X (as := [.int x2]) (st := []) (o := some (.int q3.1)) (N' := q3.2) cq_E_55 (cE_isToken l G X.2.2.2.2.2.2.1 x2 q1.2 _ e4) ⟨by decide, by decide⟩ rfl rfl (Nat.le_of_ble_eq_true rfl) ⟨Nat.zero_le _, Nat.zero_le _⟩ dq_E_lend_8 ?_
    refine qz_if_eq X (tgt := 20) (by decide) dq_E_lend_11 h (fun _ h => ?_) (fun _ h => ?_)
    · refine qz_ldc2 X (v := (-2 : Int64)) wq_252 dq_E_lend_20 ?_
      exact qz_lret X h dq_E_lend_23
    · refine qz_lload_n X 3 rfl dq_E_lend_14 ?_
      refine qz_lconst X (v := (1 : Int64)) (by decide) dq_E_lend_15 ?_
      refine qz_lcmp_ge X (tgt := 24) (by decide) dq_E_lend_16 dq_E_lend_17 h (fun _ h => ?_) (fun _ h => ?_)
      · refine qz_aload_n X 0 rfl dq_E_lend_24 ?_
        refine qz_get X (v := .ref (G.2.2 1 o)) kq_E_10 ho rfl dq_E_lend_25 ?_
        refine qz_iload_n X 1 rfl dq_E_lend_28 ?_
        refine qz_iload_n X 2 rfl dq_E_lend_29 ?_
        refine qz_bind h (fun q5 e6 h => ?_)
        refine qz_callV X (as := [.int x1, .int x2]) (st := []) (o := some (.long q5.1)) (N' := q5.2) cq_E_72 ho (cU_held l G X.2.2.2.2.2.2.1 o x1 x2 q3.2 ho _ e6) ⟨by decide, by decide⟩ rfl rfl (Nat.le_of_ble_eq_true rfl) ⟨Nat.zero_le _, Nat.zero_le _⟩ dq_E_lend_30 ?_
        refine qz_lload_n X 3 rfl dq_E_lend_33 ?_
        refine qz_lcmp_ge X (tgt := 42) (by decide) dq_E_lend_34 dq_E_lend_35 h (fun _ h => ?_) (fun _ h => ?_)
        · refine qz_aload_n X 0 rfl dq_E_lend_42 ?_
          refine qz_get X (v := .ref (G.2.2 10 o)) kq_E_37 ho rfl dq_E_lend_43 ?_
          refine qz_iload_n X 2 rfl dq_E_lend_46 ?_
          refine qz_aald X (c0 := 10) (i := o) (tg := 5) (n := 4) rfl rfl ho dq_E_lend_47 h (fun hb7 h => ?_)
          refine qz_astore X (lv' := [(5, .ref (G.2.2 5 x2.toNatClampNeg)), (0, .ref (G.2.2 0 o)), (1, .int x1), (2, .int x2), (3, .long x3)]) (by decide) rfl dq_E_lend_48 ?_
          refine qz_aload X 0 rfl dq_E_lend_50 ?_
          refine qz_get X (v := .long (qz_gl q5.2 5 x2.toNatClampNeg 2)) kq_E_237 hb7 rfl dq_E_lend_52 ?_
          refine qz_lconst X (v := (0 : Int64)) (by decide) dq_E_lend_55 ?_
          refine qz_lcmp_ne X (tgt := 64) (by decide) dq_E_lend_56 dq_E_lend_57 h (fun _ h => ?_) (fun _ h => ?_)
          · refine qz_lload_n X 4 rfl dq_E_lend_64 ?_
            refine qz_aload X 0 rfl dq_E_lend_65 ?_
            refine qz_get X (v := .long (qz_gl q5.2 5 x2.toNatClampNeg 2)) kq_E_237 hb7 rfl dq_E_lend_67 ?_
            refine qz_aload_n X 1 rfl dq_E_lend_70 ?_
            refine qz_iload_n X 3 rfl dq_E_lend_71 ?_
            refine qz_bind h (fun q8 e9 h => ?_)
            refine qz_callV X (as := [.int x2]) (st := [.long (qz_gl q5.2 5 x2.toNatClampNeg 2), .long x3]) (o := some (.long q8.1)) (N' := q8.2) cq_E_239 ho (cE_worthOf l G X.2.2.2.2.2.2.1 o x2 q5.2 ho _ e9) ⟨by decide, by decide⟩ rfl rfl (Nat.le_of_ble_eq_true rfl) ⟨Nat.zero_le _, Nat.zero_le _⟩ dq_E_lend_72 ?_
            refine qz_bind h (fun q10 e11 h => ?_)
            refine qz_callS X (as := [.long x3, .long (qz_gl q5.2 5 x2.toNatClampNeg 2), .long q8.1]) (st := []) (o := some (.long q10.1)) (N' := q10.2) cq_E_242 (cA_timesOver l G X.2.2.2.2.2.2.1 x3 (qz_gl q5.2 5 x2.toNatClampNeg 2) q8.1 q8.2 _ e11) ⟨by decide, by decide⟩ rfl rfl (Nat.le_of_ble_eq_true rfl) ⟨Nat.zero_le _, Nat.zero_le _⟩ dq_E_lend_75 ?_
            refine qz_sub [2, 3, 4, 1, 0] rfl ?_
            exact sE_lend_78 X o x2.toNatClampNeg ho hb7 q10.2 x1 x2 x3 q10.1 h
          · refine qz_lload_n X 4 rfl dq_E_lend_60 ?_
            refine qz_goto X (tgt := 78) (by decide) dq_E_lend_61 ?_
            refine qz_sub [2, 3, 4, 1, 0] rfl ?_
            exact sE_lend_78 X o x2.toNatClampNeg ho hb7 q5.2 x1 x2 x3 x3 h
        · refine qz_ldc2 X (v := (-3 : Int64)) wq_253 dq_E_lend_38 ?_
          exact qz_lret X h dq_E_lend_41
      · refine qz_ldc2 X (v := (-2 : Int64)) wq_252 dq_E_lend_20 ?_
        exact qz_lret X h dq_E_lend_23
theorem cE_lend (l : Launch) (G : qz_G) (hD : qz_D G) (o : Nat) (x1 : Int32) (x2 : Int32) (x3 : Int64) (N : qz_N) (ho : o < 1) (r : (Int64 × qz_N)) (h : fE_lend o x1 x2 x3 N = some r) : qz_M l yE_lend prog_1_method_21_code 8 (some .long) 6 G [.ref (G.2.2 0 o), .int x1, .int x2, .long x3] N (some (.long r.1)) r.2 :=
  qz_enter (lv := [(0, .ref (G.2.2 0 o)), (1, .int x1), (2, .int x2), (3, .long x3)]) rfl hD (Nat.le_of_ble_eq_true rfl) rfl (fun p e s m args below meth c X => sE_lend X o x1 x2 x3 ho N h)
-- ExactCurves.redeem(IIJ)J
theorem dq_E_redeem_0 : decode prog_1_method_22_code 0 = .ok (.iload_n 1, 1) := by decide +kernel
theorem dq_E_redeem_1 : decode prog_1_method_22_code 1 = .ok (.invokestatic 51, 3) := by decide +kernel
theorem dq_E_redeem_4 : decode prog_1_method_22_code 4 = .ok (.ifCond .eq 16, 3) := by decide +kernel
theorem dq_E_redeem_7 : decode prog_1_method_22_code 7 = .ok (.iload_n 2, 1) := by decide +kernel
theorem dq_E_redeem_8 : decode prog_1_method_22_code 8 = .ok (.invokestatic 55, 3) := by decide +kernel
theorem dq_E_redeem_11 : decode prog_1_method_22_code 11 = .ok (.ifCond .eq 9, 3) := by decide +kernel
theorem dq_E_redeem_14 : decode prog_1_method_22_code 14 = .ok (.lload_n 3, 1) := by decide +kernel
theorem dq_E_redeem_15 : decode prog_1_method_22_code 15 = .ok (.lconst 1, 1) := by decide +kernel
theorem dq_E_redeem_16 : decode prog_1_method_22_code 16 = .ok (.lcmp, 1) := by decide +kernel
theorem dq_E_redeem_17 : decode prog_1_method_22_code 17 = .ok (.ifCond .ge 7, 3) := by decide +kernel
theorem dq_E_redeem_20 : decode prog_1_method_22_code 20 = .ok (.ldc2_w 60, 3) := by decide +kernel
theorem dq_E_redeem_23 : decode prog_1_method_22_code 23 = .ok (.lreturn, 1) := by decide +kernel
theorem dq_E_redeem_24 : decode prog_1_method_22_code 24 = .ok (.aload_n 0, 1) := by decide +kernel
theorem dq_E_redeem_25 : decode prog_1_method_22_code 25 = .ok (.getfield 37, 3) := by decide +kernel
theorem dq_E_redeem_28 : decode prog_1_method_22_code 28 = .ok (.iload_n 2, 1) := by decide +kernel
theorem dq_E_redeem_29 : decode prog_1_method_22_code 29 = .ok (.aaload, 1) := by decide +kernel
theorem dq_E_redeem_30 : decode prog_1_method_22_code 30 = .ok (.astore 5, 2) := by decide +kernel
theorem dq_E_redeem_32 : decode prog_1_method_22_code 32 = .ok (.aload 5, 2) := by decide +kernel
theorem dq_E_redeem_34 : decode prog_1_method_22_code 34 = .ok (.getfield 251, 3) := by decide +kernel
theorem dq_E_redeem_37 : decode prog_1_method_22_code 37 = .ok (.iload_n 1, 1) := by decide +kernel
theorem dq_E_redeem_38 : decode prog_1_method_22_code 38 = .ok (.laload, 1) := by decide +kernel
theorem dq_E_redeem_39 : decode prog_1_method_22_code 39 = .ok (.lload_n 3, 1) := by decide +kernel
theorem dq_E_redeem_40 : decode prog_1_method_22_code 40 = .ok (.lcmp, 1) := by decide +kernel
theorem dq_E_redeem_41 : decode prog_1_method_22_code 41 = .ok (.ifCond .ge 7, 3) := by decide +kernel
theorem dq_E_redeem_44 : decode prog_1_method_22_code 44 = .ok (.ldc2_w 66, 3) := by decide +kernel
theorem dq_E_redeem_47 : decode prog_1_method_22_code 47 = .ok (.lreturn, 1) := by decide +kernel
theorem dq_E_redeem_48 : decode prog_1_method_22_code 48 = .ok (.lload_n 3, 1) := by decide +kernel
theorem dq_E_redeem_49 : decode prog_1_method_22_code 49 = .ok (.aload_n 0, 1) := by decide +kernel
theorem dq_E_redeem_50 : decode prog_1_method_22_code 50 = .ok (.iload_n 2, 1) := by decide +kernel
theorem dq_E_redeem_51 : decode prog_1_method_22_code 51 = .ok (.invokevirtual 239, 3) := by decide +kernel
theorem dq_E_redeem_54 : decode prog_1_method_22_code 54 = .ok (.aload 5, 2) := by decide +kernel
theorem dq_E_redeem_56 : decode prog_1_method_22_code 56 = .ok (.getfield 237, 3) := by decide +kernel
theorem dq_E_redeem_59 : decode prog_1_method_22_code 59 = .ok (.invokestatic 242, 3) := by decide +kernel
theorem dq_E_redeem_62 : decode prog_1_method_22_code 62 = .ok (.lstore 6, 2) := by decide +kernel
theorem dq_E_redeem_64 : decode prog_1_method_22_code 64 = .ok (.lload 6, 2) := by decide +kernel
theorem dq_E_redeem_66 : decode prog_1_method_22_code 66 = .ok (.lconst 0, 1) := by decide +kernel
theorem dq_E_redeem_67 : decode prog_1_method_22_code 67 = .ok (.lcmp, 1) := by decide +kernel
theorem dq_E_redeem_68 : decode prog_1_method_22_code 68 = .ok (.ifCond .eq 14, 3) := by decide +kernel
theorem dq_E_redeem_71 : decode prog_1_method_22_code 71 = .ok (.lload 6, 2) := by decide +kernel
theorem dq_E_redeem_73 : decode prog_1_method_22_code 73 = .ok (.aload 5, 2) := by decide +kernel
theorem dq_E_redeem_75 : decode prog_1_method_22_code 75 = .ok (.getfield 245, 3) := by decide +kernel
theorem dq_E_redeem_78 : decode prog_1_method_22_code 78 = .ok (.lcmp, 1) := by decide +kernel
theorem dq_E_redeem_79 : decode prog_1_method_22_code 79 = .ok (.ifCond .le 7, 3) := by decide +kernel
theorem dq_E_redeem_82 : decode prog_1_method_22_code 82 = .ok (.ldc2_w 66, 3) := by decide +kernel
theorem dq_E_redeem_85 : decode prog_1_method_22_code 85 = .ok (.lreturn, 1) := by decide +kernel
theorem dq_E_redeem_86 : decode prog_1_method_22_code 86 = .ok (.aload 5, 2) := by decide +kernel
theorem dq_E_redeem_88 : decode prog_1_method_22_code 88 = .ok (.iload_n 1, 1) := by decide +kernel
theorem dq_E_redeem_89 : decode prog_1_method_22_code 89 = .ok (.lload_n 3, 1) := by decide +kernel
theorem dq_E_redeem_90 : decode prog_1_method_22_code 90 = .ok (.lneg, 1) := by decide +kernel
theorem dq_E_redeem_91 : decode prog_1_method_22_code 91 = .ok (.invokevirtual 248, 3) := by decide +kernel
theorem dq_E_redeem_94 : decode prog_1_method_22_code 94 = .ok (.aload 5, 2) := by decide +kernel
theorem dq_E_redeem_96 : decode prog_1_method_22_code 96 = .ok (.dup, 1) := by decide +kernel
theorem dq_E_redeem_97 : decode prog_1_method_22_code 97 = .ok (.getfield 245, 3) := by decide +kernel
theorem dq_E_redeem_100 : decode prog_1_method_22_code 100 = .ok (.lload 6, 2) := by decide +kernel
theorem dq_E_redeem_102 : decode prog_1_method_22_code 102 = .ok (.lsub, 1) := by decide +kernel
theorem dq_E_redeem_103 : decode prog_1_method_22_code 103 = .ok (.putfield 245, 3) := by decide +kernel
theorem dq_E_redeem_106 : decode prog_1_method_22_code 106 = .ok (.aload_n 0, 1) := by decide +kernel
theorem dq_E_redeem_107 : decode prog_1_method_22_code 107 = .ok (.getfield 10, 3) := by decide +kernel
theorem dq_E_redeem_110 : decode prog_1_method_22_code 110 = .ok (.iload_n 1, 1) := by decide +kernel
theorem dq_E_redeem_111 : decode prog_1_method_22_code 111 = .ok (.iload_n 2, 1) := by decide +kernel
theorem dq_E_redeem_112 : decode prog_1_method_22_code 112 = .ok (.lload 6, 2) := by decide +kernel
theorem dq_E_redeem_114 : decode prog_1_method_22_code 114 = .ok (.invokevirtual 68, 3) := by decide +kernel
theorem dq_E_redeem_117 : decode prog_1_method_22_code 117 = .ok (.lload 6, 2) := by decide +kernel
theorem dq_E_redeem_119 : decode prog_1_method_22_code 119 = .ok (.lreturn, 1) := by decide +kernel
def fE_redeem (o : Nat) (x1 : Int32) (x2 : Int32) (x3 : Int64) (N : qz_N) : Option (Int64 × qz_N) :=
  (fE_isPlayer x1 N).bind fun q1 =>
  if q1.1 = 0 then
    some ((-2 : Int64), q1.2)
  else
  (fE_isToken x2 q1.2).bind fun q3 =>
  if q3.1 = 0 then
    some ((-2 : Int64), q3.2)
  else
  if (1 : Int64) ≤ x3 then
    if x2 < 0 ∨ 4 ≤ x2.toNatClampNeg then none else
    if x1 < 0 ∨ 6 ≤ x1.toNatClampNeg then none else
    if x3 ≤ (qz_gl q3.2 21 x2.toNatClampNeg x1.toNatClampNeg) then
      (fE_worthOf o x2 q3.2).bind fun q6 =>
      (fA_timesOver x3 q6.1 (qz_gl q6.2 5 x2.toNatClampNeg 2) q6.2).bind fun q8 =>
      if q8.1 = (0 : Int64) then
        some ((-3 : Int64), q8.2)
      else
      if q8.1 ≤ (qz_gl q8.2 5 x2.toNatClampNeg 1) then
        (fV_addParts x2.toNatClampNeg x1 (-x3) q8.2).bind fun q10 =>
        qz_let (qz_sl q10.2 5 x2.toNatClampNeg 1 ((qz_gl q10.2 5 x2.toNatClampNeg 1) - q8.1)) fun N12 =>
        (fU_give o x1 x2 q8.1 N12).bind fun q13 =>
        some (q8.1, q13.2)
      else
      some ((-3 : Int64), q8.2)
    else
    some ((-3 : Int64), q3.2)
  else
  some ((-2 : Int64), q3.2)
set_option maxRecDepth 100000 in
set_option maxHeartbeats 4000000 in
theorem sE_redeem {p : Program} {l : Launch} {e : Env} {s : State} {m : MethodId} {args : Array Value} {below : List Frame} {meth : Method} {c : Code} {G : qz_G} (X : qz_X p s m args meth c "ExactCurves" prog_1_method_22_code 8 (some .long) G) {r : (Int64 × qz_N)} (o : Nat) (x1 : Int32) (x2 : Int32) (x3 : Int64) (ho : o < 1) (N : qz_N) (h : fE_redeem o x1 x2 x3 N = some r) : qz_W p l e (qz_R 6) s m args below meth c 0 0 (MQ below (qz_Q G r.2 (some (.long r.1))) args s 0 0 (qz_A G)) G s.heap 8 N 0 [(0, .ref (G.2.2 0 o)), (1, .int x1), (2, .int x2), (3, .long x3)] [] := by
  unfold fE_redeem at h
  refine qz_iload_n X 1 rfl dq_E_redeem_0 ?_
  refine qz_bind h (fun q1 e2 h => ?_)
  refine qz_callS X (as := [.int x1]) (st := []) (o := some (.int q1.1)) (N' := q1.2) cq_E_51 (cE_isPlayer l G X.2.2.2.2.2.2.1 x1 N _ e2) ⟨by decide, by decide⟩ rfl rfl (Nat.le_of_ble_eq_true rfl) ⟨Nat.zero_le _, Nat.zero_le _⟩ dq_E_redeem_1 ?_
  refine qz_if_eq X (tgt := 20) (by decide) dq_E_redeem_4 h (fun _ h => ?_) (fun _ h => ?_)
  · refine qz_ldc2 X (v := (-2 : Int64)) wq_252 dq_E_redeem_20 ?_
    exact qz_lret X h dq_E_redeem_23
  · refine qz_iload_n X 2 rfl dq_E_redeem_7 ?_
    refine qz_bind h (fun q3 e4 h => ?_)
    refine qz_callS X (as := [.int x2]) (st := []) (o := some (.int q3.1)) (N' := q3.2) cq_E_55 (cE_isToken l G X.2.2.2.2.2.2.1 x2 q1.2 _ e4) ⟨by decide, by decide⟩ rfl rfl (Nat.le_of_ble_eq_true rfl) ⟨Nat.zero_le _, Nat.zero_le _⟩ dq_E_redeem_8 ?_
    refine qz_if_eq X (tgt := 20) (by decide) dq_E_redeem_11 h (fun _ h => ?_) (fun _ h => ?_)
    · refine qz_ldc2 X (v := (-2 : Int64)) wq_252 dq_E_redeem_20 ?_
      exact qz_lret X h dq_E_redeem_23
    · refine qz_lload_n X 3 rfl dq_E_redeem_14 ?_
      refine qz_lconst X (v := (1 : Int64)) (by decide) dq_E_redeem_15 ?_
      refine qz_lcmp_ge X (tgt := 24) (by decide) dq_E_redeem_16 dq_E_redeem_17 h (fun _ h => ?_) (fun _ h => ?_)
      · refine qz_aload_n X 0 rfl dq_E_redeem_24 ?_
        refine qz_get X (v := .ref (G.2.2 10 o)) kq_E_37 ho rfl dq_E_redeem_25 ?_
        refine qz_iload_n X 2 rfl dq_E_redeem_28 ?_
        refine qz_aald X (c0 := 10) (i := o) (tg := 5) (n := 4) rfl rfl ho dq_E_redeem_29 h (fun hb5 h => ?_)
        refine qz_astore X (lv' := [(5, .ref (G.2.2 5 x2.toNatClampNeg)), (0, .ref (G.2.2 0 o)), (1, .int x1), (2, .int x2), (3, .long x3)]) (by decide) rfl dq_E_redeem_30 ?_
        refine qz_aload X 0 rfl dq_E_redeem_32 ?_
        refine qz_get X (v := .ref (G.2.2 21 x2.toNatClampNeg)) kq_E_251 hb5 rfl dq_E_redeem_34 ?_
        refine qz_iload_n X 2 rfl dq_E_redeem_37 ?_
        refine qz_lald X (c0 := 21) (i := x2.toNatClampNeg) (n := 6) rfl hb5 dq_E_redeem_38 h (fun h => ?_)
        refine qz_lload_n X 4 rfl dq_E_redeem_39 ?_
        refine qz_lcmp_ge X (tgt := 48) (by decide) dq_E_redeem_40 dq_E_redeem_41 h (fun _ h => ?_) (fun _ h => ?_)
        · refine qz_lload_n X 4 rfl dq_E_redeem_48 ?_
          refine qz_aload_n X 1 rfl dq_E_redeem_49 ?_
          refine qz_iload_n X 3 rfl dq_E_redeem_50 ?_
          refine qz_bind h (fun q6 e7 h => ?_)
          refine qz_callV X (as := [.int x2]) (st := [.long x3]) (o := some (.long q6.1)) (N' := q6.2) cq_E_239 ho (cE_worthOf l G X.2.2.2.2.2.2.1 o x2 q3.2 ho _ e7) ⟨by decide, by decide⟩ rfl rfl (Nat.le_of_ble_eq_true rfl) ⟨Nat.zero_le _, Nat.zero_le _⟩ dq_E_redeem_51 ?_
          refine qz_aload X 0 rfl dq_E_redeem_54 ?_
          refine qz_get X (v := .long (qz_gl q6.2 5 x2.toNatClampNeg 2)) kq_E_237 hb5 rfl dq_E_redeem_56 ?_
          refine qz_bind h (fun q8 e9 h => ?_)
          refine qz_callS X (as := [.long x3, .long q6.1, .long (qz_gl q6.2 5 x2.toNatClampNeg 2)]) (st := []) (o := some (.long q8.1)) (N' := q8.2) cq_E_242 (cA_timesOver l G X.2.2.2.2.2.2.1 x3 q6.1 (qz_gl q6.2 5 x2.toNatClampNeg 2) q6.2 _ e9) ⟨by decide, by decide⟩ rfl rfl (Nat.le_of_ble_eq_true rfl) ⟨Nat.zero_le _, Nat.zero_le _⟩ dq_E_redeem_59 ?_
          refine qz_lstore X (lv' := [(6, .long q8.1), (5, .ref (G.2.2 5 x2.toNatClampNeg)), (0, .ref (G.2.2 0 o)), (1, .int x1), (2, .int x2), (3, .long x3)]) (by decide) rfl dq_E_redeem_62 ?_
          refine qz_lload X 0 rfl dq_E_redeem_64 ?_
          refine qz_lconst X (v := (0 : Int64)) (by decide) dq_E_redeem_66 ?_
          refine qz_lcmp_eq X (tgt := 82) (by decide) dq_E_redeem_67 dq_E_redeem_68 h (fun _ h => ?_) (fun _ h => ?_)
          · refine qz_ldc2 X (v := (-3 : Int64)) wq_253 dq_E_redeem_82 ?_
            exact qz_lret X h dq_E_redeem_85
          · refine qz_lload X 0 rfl dq_E_redeem_71 ?_
            refine qz_aload X 1 rfl dq_E_redeem_73 ?_
            refine qz_get X (v := .long (qz_gl q8.2 5 x2.toNatClampNeg 1)) kq_E_245 hb5 rfl dq_E_redeem_75 ?_
            refine qz_lcmp_le X (tgt := 86) (by decide) dq_E_redeem_78 dq_E_redeem_79 h (fun _ h => ?_) (fun _ h => ?_)
            · refine qz_aload X 1 rfl dq_E_redeem_86 ?_
              refine qz_iload_n X 3 rfl dq_E_redeem_88 ?_
              refine qz_lload_n X 5 rfl dq_E_redeem_89 ?_
              refine qz_lneg X dq_E_redeem_90 ?_
              refine qz_bind h (fun q10 e11 h => ?_)
              refine qz_callV X (as := [.int x1, .long (-x3)]) (st := []) (o := none) (N' := q10.2) cq_E_248 hb5 (cV_addParts l G X.2.2.2.2.2.2.1 x2.toNatClampNeg x1 (-x3) q8.2 hb5 _ e11) ⟨by decide, by decide⟩ rfl rfl (Nat.le_of_ble_eq_true rfl) ⟨Nat.zero_le _, Nat.zero_le _⟩ dq_E_redeem_91 ?_
              refine qz_aload X 1 rfl dq_E_redeem_94 ?_
              refine qz_dup X rfl dq_E_redeem_96 ?_
              refine qz_get X (v := .long (qz_gl q10.2 5 x2.toNatClampNeg 1)) kq_E_245 hb5 rfl dq_E_redeem_97 ?_
              refine qz_lload X 0 rfl dq_E_redeem_100 ?_
              refine qz_lsub X dq_E_redeem_102 ?_
              refine qz_putJ X kq_E_245 hb5 dq_E_redeem_103 h (fun N12 h => ?_)
              refine qz_aload_n X 2 rfl dq_E_redeem_106 ?_
              refine qz_get X (v := .ref (G.2.2 1 o)) kq_E_10 ho rfl dq_E_redeem_107 ?_
              refine qz_iload_n X 3 rfl dq_E_redeem_110 ?_
              refine qz_iload_n X 4 rfl dq_E_redeem_111 ?_
              refine qz_lload X 0 rfl dq_E_redeem_112 ?_
              refine qz_bind h (fun q13 e14 h => ?_)
              refine qz_callV X (as := [.int x1, .int x2, .long q8.1]) (st := []) (o := none) (N' := q13.2) cq_E_68 ho (cU_give l G X.2.2.2.2.2.2.1 o x1 x2 q8.1 N12 ho _ e14) ⟨by decide, by decide⟩ rfl rfl (Nat.le_of_ble_eq_true rfl) ⟨Nat.zero_le _, Nat.zero_le _⟩ dq_E_redeem_114 ?_
              refine qz_lload X 0 rfl dq_E_redeem_117 ?_
              exact qz_lret X h dq_E_redeem_119
            · refine qz_ldc2 X (v := (-3 : Int64)) wq_253 dq_E_redeem_82 ?_
              exact qz_lret X h dq_E_redeem_85
        · refine qz_ldc2 X (v := (-3 : Int64)) wq_253 dq_E_redeem_44 ?_
          exact qz_lret X h dq_E_redeem_47
      · refine qz_ldc2 X (v := (-2 : Int64)) wq_252 dq_E_redeem_20 ?_
        exact qz_lret X h dq_E_redeem_23
theorem cE_redeem (l : Launch) (G : qz_G) (hD : qz_D G) (o : Nat) (x1 : Int32) (x2 : Int32) (x3 : Int64) (N : qz_N) (ho : o < 1) (r : (Int64 × qz_N)) (h : fE_redeem o x1 x2 x3 N = some r) : qz_M l yE_redeem prog_1_method_22_code 8 (some .long) 6 G [.ref (G.2.2 0 o), .int x1, .int x2, .long x3] N (some (.long r.1)) r.2 :=
  qz_enter (lv := [(0, .ref (G.2.2 0 o)), (1, .int x1), (2, .int x2), (3, .long x3)]) rfl hD (Nat.le_of_ble_eq_true rfl) rfl (fun p e s m args below meth c X => sE_redeem X o x1 x2 x3 ho N h)
-- ExactCurves$Vault.told(I)J
theorem dq_V_told_0 : decode prog_8_method_2_code 0 = .ok (.iload_n 1, 1) := by decide +kernel
theorem dq_V_told_1 : decode prog_8_method_2_code 1 = .ok (.tableswitch 55 0 4 #[35, 55, 40, 45, 50], 35) := by decide +kernel
theorem dq_V_told_36 : decode prog_8_method_2_code 36 = .ok (.aload_n 0, 1) := by decide +kernel
theorem dq_V_told_37 : decode prog_8_method_2_code 37 = .ok (.getfield 21, 3) := by decide +kernel
theorem dq_V_told_40 : decode prog_8_method_2_code 40 = .ok (.lreturn, 1) := by decide +kernel
theorem dq_V_told_41 : decode prog_8_method_2_code 41 = .ok (.aload_n 0, 1) := by decide +kernel
theorem dq_V_told_42 : decode prog_8_method_2_code 42 = .ok (.getfield 24, 3) := by decide +kernel
theorem dq_V_told_45 : decode prog_8_method_2_code 45 = .ok (.lreturn, 1) := by decide +kernel
theorem dq_V_told_46 : decode prog_8_method_2_code 46 = .ok (.aload_n 0, 1) := by decide +kernel
theorem dq_V_told_47 : decode prog_8_method_2_code 47 = .ok (.getfield 17, 3) := by decide +kernel
theorem dq_V_told_50 : decode prog_8_method_2_code 50 = .ok (.lreturn, 1) := by decide +kernel
theorem dq_V_told_51 : decode prog_8_method_2_code 51 = .ok (.aload_n 0, 1) := by decide +kernel
theorem dq_V_told_52 : decode prog_8_method_2_code 52 = .ok (.getfield 27, 3) := by decide +kernel
theorem dq_V_told_55 : decode prog_8_method_2_code 55 = .ok (.lreturn, 1) := by decide +kernel
theorem dq_V_told_56 : decode prog_8_method_2_code 56 = .ok (.iload_n 1, 1) := by decide +kernel
theorem dq_V_told_57 : decode prog_8_method_2_code 57 = .ok (.iconst 5, 1) := by decide +kernel
theorem dq_V_told_58 : decode prog_8_method_2_code 58 = .ok (.if_icmp .lt 20, 3) := by decide +kernel
theorem dq_V_told_61 : decode prog_8_method_2_code 61 = .ok (.iload_n 1, 1) := by decide +kernel
theorem dq_V_told_62 : decode prog_8_method_2_code 62 = .ok (.bipush 11, 2) := by decide +kernel
theorem dq_V_told_64 : decode prog_8_method_2_code 64 = .ok (.if_icmp .ge 14, 3) := by decide +kernel
theorem dq_V_told_67 : decode prog_8_method_2_code 67 = .ok (.aload_n 0, 1) := by decide +kernel
theorem dq_V_told_68 : decode prog_8_method_2_code 68 = .ok (.getfield 9, 3) := by decide +kernel
theorem dq_V_told_71 : decode prog_8_method_2_code 71 = .ok (.iload_n 1, 1) := by decide +kernel
theorem dq_V_told_72 : decode prog_8_method_2_code 72 = .ok (.iconst 5, 1) := by decide +kernel
theorem dq_V_told_73 : decode prog_8_method_2_code 73 = .ok (.isub, 1) := by decide +kernel
theorem dq_V_told_74 : decode prog_8_method_2_code 74 = .ok (.laload, 1) := by decide +kernel
theorem dq_V_told_75 : decode prog_8_method_2_code 75 = .ok (.goto 6, 3) := by decide +kernel
theorem dq_V_told_78 : decode prog_8_method_2_code 78 = .ok (.ldc2_w 30, 3) := by decide +kernel
theorem dq_V_told_81 : decode prog_8_method_2_code 81 = .ok (.lreturn, 1) := by decide +kernel
def fV_told (o : Nat) (x1 : Int32) (N : qz_N) : Option (Int64 × qz_N) :=
  if x1 = (0 : Int32) then
    some (qz_gl N 5 o 1, N)
  else
  if x1 = (1 : Int32) then
    if x1 < (5 : Int32) then
      some ((-2 : Int64), N)
    else
    if (11 : Int32) ≤ x1 then
      some ((-2 : Int64), N)
    else
    if (x1 - (5 : Int32)) < 0 ∨ 6 ≤ (x1 - (5 : Int32)).toNatClampNeg then none else
    some (qz_gl N 21 o (x1 - (5 : Int32)).toNatClampNeg, N)
  else
  if x1 = (2 : Int32) then
    some (qz_gl N 5 o 2, N)
  else
  if x1 = (3 : Int32) then
    some (qz_gl N 5 o 4, N)
  else
  if x1 = (4 : Int32) then
    some (qz_gl N 5 o 3, N)
  else
  if x1 < (5 : Int32) then
    some ((-2 : Int64), N)
  else
  if (11 : Int32) ≤ x1 then
    some ((-2 : Int64), N)
  else
  if (x1 - (5 : Int32)) < 0 ∨ 6 ≤ (x1 - (5 : Int32)).toNatClampNeg then none else
  some (qz_gl N 21 o (x1 - (5 : Int32)).toNatClampNeg, N)
set_option maxRecDepth 100000 in
set_option maxHeartbeats 4000000 in
theorem sV_told {p : Program} {l : Launch} {e : Env} {s : State} {m : MethodId} {args : Array Value} {below : List Frame} {meth : Method} {c : Code} {G : qz_G} (X : qz_X p s m args meth c "ExactCurves$Vault" prog_8_method_2_code 2 (some .long) G) {r : (Int64 × qz_N)} (o : Nat) (x1 : Int32) (ho : o < 4) (N : qz_N) (h : fV_told o x1 N = some r) : qz_W p l e (qz_R 0) s m args below meth c 0 0 (MQ below (qz_Q G r.2 (some (.long r.1))) args s 0 0 (qz_A G)) G s.heap 2 N 0 [(0, .ref (G.2.2 5 o)), (1, .int x1)] [] := by
  unfold fV_told at h
  refine qz_iload_n X 1 rfl dq_V_told_0 ?_
  refine qz_ite h (fun c0_1 h => ?_) (fun c0_1 h => ?_)
  · refine qz_tabIn X (tgt := 36) c0_1 (by decide) (by decide) rfl (by decide) dq_V_told_1 ?_
    refine qz_aload_n X 0 rfl dq_V_told_36 ?_
    refine qz_get X (v := .long (qz_gl N 5 o 1)) kq_V_21 ho rfl dq_V_told_37 ?_
    exact qz_lret X h dq_V_told_40
  · refine qz_ite h (fun c1_1 h => ?_) (fun c1_1 h => ?_)
    · refine qz_tabIn X (tgt := 56) c1_1 (by decide) (by decide) rfl (by decide) dq_V_told_1 ?_
      refine qz_iload_n X 1 rfl dq_V_told_56 ?_
      refine qz_iconst X (v := (5 : Int32)) (by decide) dq_V_told_57 ?_
      refine qz_icmp_lt X (tgt := 78) (by decide) dq_V_told_58 h (fun _ h => ?_) (fun _ h => ?_)
      · refine qz_ldc2 X (v := (-2 : Int64)) wq_528 dq_V_told_78 ?_
        exact qz_lret X h dq_V_told_81
      · refine qz_iload_n X 1 rfl dq_V_told_61 ?_
        refine qz_bipush X (v := (11 : Int32)) (by decide) dq_V_told_62 ?_
        refine qz_icmp_ge X (tgt := 78) (by decide) dq_V_told_64 h (fun _ h => ?_) (fun _ h => ?_)
        · refine qz_ldc2 X (v := (-2 : Int64)) wq_528 dq_V_told_78 ?_
          exact qz_lret X h dq_V_told_81
        · refine qz_aload_n X 0 rfl dq_V_told_67 ?_
          refine qz_get X (v := .ref (G.2.2 21 o)) kq_V_9 ho rfl dq_V_told_68 ?_
          refine qz_iload_n X 1 rfl dq_V_told_71 ?_
          refine qz_iconst X (v := (5 : Int32)) (by decide) dq_V_told_72 ?_
          refine qz_isub X dq_V_told_73 ?_
          refine qz_lald X (c0 := 21) (i := o) (n := 6) rfl ho dq_V_told_74 h (fun h => ?_)
          refine qz_goto X (tgt := 81) (by decide) dq_V_told_75 ?_
          exact qz_lret X h dq_V_told_81
    · refine qz_ite h (fun c2_1 h => ?_) (fun c2_1 h => ?_)
      · refine qz_tabIn X (tgt := 41) c2_1 (by decide) (by decide) rfl (by decide) dq_V_told_1 ?_
        refine qz_aload_n X 0 rfl dq_V_told_41 ?_
        refine qz_get X (v := .long (qz_gl N 5 o 2)) kq_V_24 ho rfl dq_V_told_42 ?_
        exact qz_lret X h dq_V_told_45
      · refine qz_ite h (fun c3_1 h => ?_) (fun c3_1 h => ?_)
        · refine qz_tabIn X (tgt := 46) c3_1 (by decide) (by decide) rfl (by decide) dq_V_told_1 ?_
          refine qz_aload_n X 0 rfl dq_V_told_46 ?_
          refine qz_get X (v := .long (qz_gl N 5 o 4)) kq_V_17 ho rfl dq_V_told_47 ?_
          exact qz_lret X h dq_V_told_50
        · refine qz_ite h (fun c4_1 h => ?_) (fun c4_1 h => ?_)
          · refine qz_tabIn X (tgt := 51) c4_1 (by decide) (by decide) rfl (by decide) dq_V_told_1 ?_
            refine qz_aload_n X 0 rfl dq_V_told_51 ?_
            refine qz_get X (v := .long (qz_gl N 5 o 3)) kq_V_27 ho rfl dq_V_told_52 ?_
            exact qz_lret X h dq_V_told_55
          · refine qz_tabOut X (tgt := 56) (by decide) (qz_out5 0 c0_1 c1_1 c2_1 c3_1 c4_1) dq_V_told_1 ?_
            refine qz_iload_n X 1 rfl dq_V_told_56 ?_
            refine qz_iconst X (v := (5 : Int32)) (by decide) dq_V_told_57 ?_
            refine qz_icmp_lt X (tgt := 78) (by decide) dq_V_told_58 h (fun _ h => ?_) (fun _ h => ?_)
            · refine qz_ldc2 X (v := (-2 : Int64)) wq_528 dq_V_told_78 ?_
              exact qz_lret X h dq_V_told_81
            · refine qz_iload_n X 1 rfl dq_V_told_61 ?_
              refine qz_bipush X (v := (11 : Int32)) (by decide) dq_V_told_62 ?_
              refine qz_icmp_ge X (tgt := 78) (by decide) dq_V_told_64 h (fun _ h => ?_) (fun _ h => ?_)
              · refine qz_ldc2 X (v := (-2 : Int64)) wq_528 dq_V_told_78 ?_
                exact qz_lret X h dq_V_told_81
              · refine qz_aload_n X 0 rfl dq_V_told_67 ?_
                refine qz_get X (v := .ref (G.2.2 21 o)) kq_V_9 ho rfl dq_V_told_68 ?_
                refine qz_iload_n X 1 rfl dq_V_told_71 ?_
                refine qz_iconst X (v := (5 : Int32)) (by decide) dq_V_told_72 ?_
                refine qz_isub X dq_V_told_73 ?_
                refine qz_lald X (c0 := 21) (i := o) (n := 6) rfl ho dq_V_told_74 h (fun h => ?_)
                refine qz_goto X (tgt := 81) (by decide) dq_V_told_75 ?_
                exact qz_lret X h dq_V_told_81
theorem cV_told (l : Launch) (G : qz_G) (hD : qz_D G) (o : Nat) (x1 : Int32) (N : qz_N) (ho : o < 4) (r : (Int64 × qz_N)) (h : fV_told o x1 N = some r) : qz_M l yV_told prog_8_method_2_code 2 (some .long) 0 G [.ref (G.2.2 5 o), .int x1] N (some (.long r.1)) r.2 :=
  qz_enter (lv := [(0, .ref (G.2.2 5 o)), (1, .int x1)]) rfl hD (Nat.le_of_ble_eq_true rfl) rfl (fun p e s m args below meth c X => sV_told X o x1 ho N h)
