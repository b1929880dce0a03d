-- ExactCurves.mean(I)J
theorem dq_E_mean_0 : decode prog_1_method_15_code 0 = .ok (.iload_n 1, 1) := by decide +kernel
theorem dq_E_mean_1 : decode prog_1_method_15_code 1 = .ok (.ifCond .lt 21, 3) := by decide +kernel
theorem dq_E_mean_4 : decode prog_1_method_15_code 4 = .ok (.iload_n 1, 1) := by decide +kernel
theorem dq_E_mean_5 : decode prog_1_method_15_code 5 = .ok (.bipush 8, 2) := by decide +kernel
theorem dq_E_mean_7 : decode prog_1_method_15_code 7 = .ok (.if_icmp .ge 15, 3) := by decide +kernel
theorem dq_E_mean_10 : decode prog_1_method_15_code 10 = .ok (.aload_n 0, 1) := by decide +kernel
theorem dq_E_mean_11 : decode prog_1_method_15_code 11 = .ok (.getfield 24, 3) := by decide +kernel
theorem dq_E_mean_14 : decode prog_1_method_15_code 14 = .ok (.iload_n 1, 1) := by decide +kernel
theorem dq_E_mean_15 : decode prog_1_method_15_code 15 = .ok (.aaload, 1) := by decide +kernel
theorem dq_E_mean_16 : decode prog_1_method_15_code 16 = .ok (.getfield 161, 3) := by decide +kernel
theorem dq_E_mean_19 : decode prog_1_method_15_code 19 = .ok (.ifCond .ne 7, 3) := by decide +kernel
theorem dq_E_mean_22 : decode prog_1_method_15_code 22 = .ok (.ldc2_w 60, 3) := by decide +kernel
theorem dq_E_mean_25 : decode prog_1_method_15_code 25 = .ok (.lreturn, 1) := by decide +kernel
theorem dq_E_mean_26 : decode prog_1_method_15_code 26 = .ok (.aload_n 0, 1) := by decide +kernel
theorem dq_E_mean_27 : decode prog_1_method_15_code 27 = .ok (.getfield 24, 3) := by decide +kernel
theorem dq_E_mean_30 : decode prog_1_method_15_code 30 = .ok (.iload_n 1, 1) := by decide +kernel
theorem dq_E_mean_31 : decode prog_1_method_15_code 31 = .ok (.aaload, 1) := by decide +kernel
theorem dq_E_mean_32 : decode prog_1_method_15_code 32 = .ok (.astore_n 2, 1) := by decide +kernel
theorem dq_E_mean_33 : decode prog_1_method_15_code 33 = .ok (.aload_n 0, 1) := by decide +kernel
theorem dq_E_mean_34 : decode prog_1_method_15_code 34 = .ok (.aload_n 2, 1) := by decide +kernel
theorem dq_E_mean_35 : decode prog_1_method_15_code 35 = .ok (.getfield 165, 3) := by decide +kernel
theorem dq_E_mean_38 : decode prog_1_method_15_code 38 = .ok (.invokevirtual 95, 3) := by decide +kernel
theorem dq_E_mean_41 : decode prog_1_method_15_code 41 = .ok (.astore_n 3, 1) := by decide +kernel
theorem dq_E_mean_42 : decode prog_1_method_15_code 42 = .ok (.aload_n 3, 1) := by decide +kernel
theorem dq_E_mean_43 : decode prog_1_method_15_code 43 = .ok (.ifnonnull 7, 3) := by decide +kernel
theorem dq_E_mean_46 : decode prog_1_method_15_code 46 = .ok (.ldc2_w 60, 3) := by decide +kernel
theorem dq_E_mean_49 : decode prog_1_method_15_code 49 = .ok (.lreturn, 1) := by decide +kernel
theorem dq_E_mean_50 : decode prog_1_method_15_code 50 = .ok (.aload_n 3, 1) := by decide +kernel
theorem dq_E_mean_51 : decode prog_1_method_15_code 51 = .ok (.getfield 172, 3) := by decide +kernel
theorem dq_E_mean_54 : decode prog_1_method_15_code 54 = .ok (.aload_n 2, 1) := by decide +kernel
theorem dq_E_mean_55 : decode prog_1_method_15_code 55 = .ok (.getfield 175, 3) := by decide +kernel
theorem dq_E_mean_58 : decode prog_1_method_15_code 58 = .ok (.lsub, 1) := by decide +kernel
theorem dq_E_mean_59 : decode prog_1_method_15_code 59 = .ok (.lstore 4, 2) := by decide +kernel
theorem dq_E_mean_61 : decode prog_1_method_15_code 61 = .ok (.lload 4, 2) := by decide +kernel
theorem dq_E_mean_63 : decode prog_1_method_15_code 63 = .ok (.lconst 0, 1) := by decide +kernel
theorem dq_E_mean_64 : decode prog_1_method_15_code 64 = .ok (.lcmp, 1) := by decide +kernel
theorem dq_E_mean_65 : decode prog_1_method_15_code 65 = .ok (.ifCond .gt 9, 3) := by decide +kernel
theorem dq_E_mean_68 : decode prog_1_method_15_code 68 = .ok (.ldc2_w 176, 3) := by decide +kernel
theorem dq_E_mean_71 : decode prog_1_method_15_code 71 = .ok (.goto 18, 3) := by decide +kernel
theorem dq_E_mean_74 : decode prog_1_method_15_code 74 = .ok (.lconst 0, 1) := by decide +kernel
theorem dq_E_mean_75 : decode prog_1_method_15_code 75 = .ok (.aload_n 3, 1) := by decide +kernel
theorem dq_E_mean_76 : decode prog_1_method_15_code 76 = .ok (.getfield 168, 3) := by decide +kernel
theorem dq_E_mean_79 : decode prog_1_method_15_code 79 = .ok (.aload_n 2, 1) := by decide +kernel
theorem dq_E_mean_80 : decode prog_1_method_15_code 80 = .ok (.getfield 171, 3) := by decide +kernel
theorem dq_E_mean_83 : decode prog_1_method_15_code 83 = .ok (.lsub, 1) := by decide +kernel
theorem dq_E_mean_84 : decode prog_1_method_15_code 84 = .ok (.lload 4, 2) := by decide +kernel
theorem dq_E_mean_86 : decode prog_1_method_15_code 86 = .ok (.invokestatic 178, 3) := by decide +kernel
theorem dq_E_mean_89 : decode prog_1_method_15_code 89 = .ok (.lreturn, 1) := by decide +kernel
def fE_mean (o : Nat) (x1 : Int32) (N : qz_N) : Option (Int64 × qz_N) :=
  if x1 < 0 then
    some ((-2 : Int64), N)
  else
  if (8 : Int32) ≤ x1 then
    some ((-2 : Int64), N)
  else
  if x1 < 0 ∨ 8 ≤ x1.toNatClampNeg then none else
  if (qz_gi N 3 x1.toNatClampNeg 0) = 0 then
    some ((-2 : Int64), N)
  else
  if x1 < 0 ∨ 8 ≤ x1.toNatClampNeg then none else
  (fE_poolAt o (qz_gi N 3 x1.toNatClampNeg 1) N).bind fun q3 => qz_oc q3
    (fun N5 =>
    some ((-2 : Int64), N5))
    fun N5 j6 =>
    qz_let ((qz_gl N5 2 j6 9) - (qz_gl N5 3 x1.toNatClampNeg 3)) fun v7 =>
    if (0 : Int64) < v7 then
      (fA_over (0 : Int64) ((qz_gl N5 2 j6 8) - (qz_gl N5 3 x1.toNatClampNeg 2)) v7 N5).bind fun q8 =>
      some (q8.1, q8.2)
    else
    some ((-1 : Int64), N5)
set_option maxRecDepth 100000 in
set_option maxHeartbeats 4000000 in
theorem sE_mean {p : Program} {l : Launch} {e : Env} {s : State} {m : MethodId} {args : Array Value} {below : List Frame} {meth : Method} {c : Code} {G : qz_G} (X : qz_X p s m args meth c "ExactCurves" prog_1_method_15_code 6 (some .long) G) {r : (Int64 × qz_N)} (o : Nat) (x1 : Int32) (ho : o < 1) (N : qz_N) (h : fE_mean o x1 N = some r) : qz_W p l e (qz_R 1) s m args below meth c 0 0 (MQ below (qz_Q G r.2 (some (.long r.1))) args s 0 0 (qz_A G)) G s.heap 6 N 0 [(0, .ref (G.2.2 0 o)), (1, .int x1)] [] := by
  unfold fE_mean at h
  refine qz_iload_n X 1 rfl dq_E_mean_0 ?_
  refine qz_if_lt X (tgt := 22) (by decide) dq_E_mean_1 h (fun _ h => ?_) (fun _ h => ?_)
  · refine qz_ldc2 X (v := (-2 : Int64)) wq_252 dq_E_mean_22 ?_
    exact qz_lret X h dq_E_mean_25
  · refine qz_iload_n X 1 rfl dq_E_mean_4 ?_
    refine qz_bipush X (v := (8 : Int32)) (by decide) dq_E_mean_5 ?_
    refine qz_icmp_ge X (tgt := 22) (by decide) dq_E_mean_7 h (fun _ h => ?_) (fun _ h => ?_)
    · refine qz_ldc2 X (v := (-2 : Int64)) wq_252 dq_E_mean_22 ?_
      exact qz_lret X h dq_E_mean_25
    · refine qz_aload_n X 0 rfl dq_E_mean_10 ?_
      refine qz_get X (v := .ref (G.2.2 9 o)) kq_E_24 ho rfl dq_E_mean_11 ?_
      refine qz_iload_n X 1 rfl dq_E_mean_14 ?_
      refine qz_aald X (c0 := 9) (i := o) (tg := 3) (n := 8) rfl rfl ho dq_E_mean_15 h (fun hb1 h => ?_)
      refine qz_get X (v := .int (qz_gi N 3 x1.toNatClampNeg 0)) kq_E_161 hb1 rfl dq_E_mean_16 ?_
      refine qz_if_ne X (tgt := 26) (by decide) dq_E_mean_19 h (fun _ h => ?_) (fun _ h => ?_)
      · refine qz_aload_n X 0 rfl dq_E_mean_26 ?_
        refine qz_get X (v := .ref (G.2.2 9 o)) kq_E_24 ho rfl dq_E_mean_27 ?_
        refine qz_iload_n X 1 rfl dq_E_mean_30 ?_
        refine qz_aald X (c0 := 9) (i := o) (tg := 3) (n := 8) rfl rfl ho dq_E_mean_31 h (fun hb2 h => ?_)
        refine qz_astore_n X (lv' := [(2, .ref (G.2.2 3 x1.toNatClampNeg)), (0, .ref (G.2.2 0 o)), (1, .int x1)]) rfl (by decide) rfl dq_E_mean_32 ?_
        refine qz_aload_n X 1 rfl dq_E_mean_33 ?_
        refine qz_aload_n X 0 rfl dq_E_mean_34 ?_
        refine qz_get X (v := .int (qz_gi N 3 x1.toNatClampNeg 1)) kq_E_165 hb2 rfl dq_E_mean_35 ?_
        refine qz_bind h (fun q3 e4 h => ?_)
        obtain ⟨rq3, N5⟩ := q3
        cases rq3 with
        | none =>
          replace h := qz_ocN h
          refine qz_callV X (as := [.int (qz_gi N 3 x1.toNatClampNeg 1)]) (st := []) (o := some .null) (N' := N5) cq_E_95 ho (cE_poolAt l G X.2.2.2.2.2.2.1 o (qz_gi N 3 x1.toNatClampNeg 1) N ho _ e4) ⟨by decide, by decide⟩ rfl rfl (Nat.le_of_ble_eq_true rfl) ⟨Nat.zero_le _, Nat.zero_le _⟩ dq_E_mean_38 ?_
          refine qz_astore_nN X (lv' := [(3, .null), (2, .ref (G.2.2 3 x1.toNatClampNeg)), (0, .ref (G.2.2 0 o)), (1, .int x1)]) rfl (by decide) rfl dq_E_mean_41 ?_
          refine qz_aload_nN X 0 rfl dq_E_mean_42 ?_
          refine qz_ifnonnullN X dq_E_mean_43 ?_
          refine qz_ldc2 X (v := (-2 : Int64)) wq_252 dq_E_mean_46 ?_
          exact qz_lret X h dq_E_mean_49
        | some j6 =>
          replace h := qz_ocS h
          refine qz_callV X (as := [.int (qz_gi N 3 x1.toNatClampNeg 1)]) (st := []) (o := some (.ref (G.2.2 2 j6))) (N' := N5) cq_E_95 ho (cE_poolAt l G X.2.2.2.2.2.2.1 o (qz_gi N 3 x1.toNatClampNeg 1) N ho _ e4) ⟨by decide, by decide⟩ rfl rfl (Nat.le_of_ble_eq_true rfl) ⟨Nat.zero_le _, Nat.zero_le _⟩ dq_E_mean_38 ?_
          refine qz_astore_n X (lv' := [(3, .ref (G.2.2 2 j6)), (2, .ref (G.2.2 3 x1.toNatClampNeg)), (0, .ref (G.2.2 0 o)), (1, .int x1)]) rfl (by decide) rfl dq_E_mean_41 ?_
          refine qz_aload_n X 0 rfl dq_E_mean_42 ?_
          refine qz_ifnonnull X (tgt := 50) (by decide) dq_E_mean_43 ?_
          refine qz_aload_n X 0 rfl dq_E_mean_50 ?_
          refine qz_get X (v := .long (qz_gl N5 2 j6 9)) kq_E_172 (vE_poolAt e4 j6 rfl) rfl dq_E_mean_51 ?_
          refine qz_aload_n X 1 rfl dq_E_mean_54 ?_
          refine qz_get X (v := .long (qz_gl N5 3 x1.toNatClampNeg 3)) kq_E_175 hb2 rfl dq_E_mean_55 ?_
          refine qz_lsub X dq_E_mean_58 ?_
          refine qz_letj h (fun v7 h => ?_)
          refine qz_lstore X (lv' := [(4, .long v7), (3, .ref (G.2.2 2 j6)), (2, .ref (G.2.2 3 x1.toNatClampNeg)), (0, .ref (G.2.2 0 o)), (1, .int x1)]) (by decide) rfl dq_E_mean_59 ?_
          refine qz_lload X 0 rfl dq_E_mean_61 ?_
          refine qz_lconst X (v := (0 : Int64)) (by decide) dq_E_mean_63 ?_
          refine qz_lcmp_gt X (tgt := 74) (by decide) dq_E_mean_64 dq_E_mean_65 h (fun _ h => ?_) (fun _ h => ?_)
          · refine qz_lconst X (v := (0 : Int64)) (by decide) dq_E_mean_74 ?_
            refine qz_aload_n X 1 rfl dq_E_mean_75 ?_
            refine qz_get X (v := .long (qz_gl N5 2 j6 8)) kq_E_168 (vE_poolAt e4 j6 rfl) rfl dq_E_mean_76 ?_
            refine qz_aload_n X 2 rfl dq_E_mean_79 ?_
            refine qz_get X (v := .long (qz_gl N5 3 x1.toNatClampNeg 2)) kq_E_171 hb2 rfl dq_E_mean_80 ?_
            refine qz_lsub X dq_E_mean_83 ?_
            refine qz_lload X 0 rfl dq_E_mean_84 ?_
            refine qz_bind h (fun q8 e9 h => ?_)
            refine qz_callS X (as := [.long (0 : Int64), .long ((qz_gl N5 2 j6 8) - (qz_gl N5 3 x1.toNatClampNeg 2)), .long v7]) (st := []) (o := some (.long q8.1)) (N' := q8.2) cq_E_178 (cA_over l G X.2.2.2.2.2.2.1 (0 : Int64) ((qz_gl N5 2 j6 8) - (qz_gl N5 3 x1.toNatClampNeg 2)) v7 N5 _ e9) ⟨by decide, by decide⟩ rfl rfl (Nat.le_of_ble_eq_true rfl) ⟨Nat.zero_le _, Nat.zero_le _⟩ dq_E_mean_86 ?_
            exact qz_lret X h dq_E_mean_89
          · refine qz_ldc2 X (v := (-1 : Int64)) wq_421 dq_E_mean_68 ?_
            refine qz_goto X (tgt := 89) (by decide) dq_E_mean_71 ?_
            exact qz_lret X h dq_E_mean_89
      · refine qz_ldc2 X (v := (-2 : Int64)) wq_252 dq_E_mean_22 ?_
        exact qz_lret X h dq_E_mean_25
theorem cE_mean (l : Launch) (G : qz_G) (hD : qz_D G) (o : Nat) (x1 : Int32) (N : qz_N) (ho : o < 1) (r : (Int64 × qz_N)) (h : fE_mean o x1 N = some r) : qz_M l yE_mean prog_1_method_15_code 6 (some .long) 1 G [.ref (G.2.2 0 o), .int x1] N (some (.long r.1)) r.2 :=
  qz_enter (lv := [(0, .ref (G.2.2 0 o)), (1, .int x1)]) rfl hD (Nat.le_of_ble_eq_true rfl) rfl (fun p e s m args below meth c X => sE_mean X o x1 ho N h)
-- ExactCurves.batch(II)I
theorem dq_E_batch_0 : decode prog_1_method_16_code 0 = .ok (.iload_n 1, 1) := by decide +kernel
theorem dq_E_batch_1 : decode prog_1_method_16_code 1 = .ok (.invokestatic 55, 3) := by decide +kernel
theorem dq_E_batch_4 : decode prog_1_method_16_code 4 = .ok (.ifCond .eq 15, 3) := by decide +kernel
theorem dq_E_batch_7 : decode prog_1_method_16_code 7 = .ok (.iload_n 2, 1) := by decide +kernel
theorem dq_E_batch_8 : decode prog_1_method_16_code 8 = .ok (.invokestatic 55, 3) := by decide +kernel
theorem dq_E_batch_11 : decode prog_1_method_16_code 11 = .ok (.ifCond .eq 8, 3) := by decide +kernel
theorem dq_E_batch_14 : decode prog_1_method_16_code 14 = .ok (.iload_n 1, 1) := by decide +kernel
theorem dq_E_batch_15 : decode prog_1_method_16_code 15 = .ok (.iload_n 2, 1) := by decide +kernel
theorem dq_E_batch_16 : decode prog_1_method_16_code 16 = .ok (.if_icmp .ne 6, 3) := by decide +kernel
theorem dq_E_batch_19 : decode prog_1_method_16_code 19 = .ok (.bipush (-2), 2) := by decide +kernel
theorem dq_E_batch_21 : decode prog_1_method_16_code 21 = .ok (.ireturn, 1) := by decide +kernel
theorem dq_E_batch_22 : decode prog_1_method_16_code 22 = .ok (.aload_n 0, 1) := by decide +kernel
theorem dq_E_batch_23 : decode prog_1_method_16_code 23 = .ok (.getfield 31, 3) := by decide +kernel
theorem dq_E_batch_26 : decode prog_1_method_16_code 26 = .ok (.getfield 184, 3) := by decide +kernel
theorem dq_E_batch_29 : decode prog_1_method_16_code 29 = .ok (.ifCond .le 6, 3) := by decide +kernel
theorem dq_E_batch_32 : decode prog_1_method_16_code 32 = .ok (.bipush (-3), 2) := by decide +kernel
theorem dq_E_batch_34 : decode prog_1_method_16_code 34 = .ok (.ireturn, 1) := by decide +kernel
theorem dq_E_batch_35 : decode prog_1_method_16_code 35 = .ok (.aload_n 0, 1) := by decide +kernel
theorem dq_E_batch_36 : decode prog_1_method_16_code 36 = .ok (.getfield 31, 3) := by decide +kernel
theorem dq_E_batch_39 : decode prog_1_method_16_code 39 = .ok (.iload_n 1, 1) := by decide +kernel
theorem dq_E_batch_40 : decode prog_1_method_16_code 40 = .ok (.putfield 187, 3) := by decide +kernel
theorem dq_E_batch_43 : decode prog_1_method_16_code 43 = .ok (.aload_n 0, 1) := by decide +kernel
theorem dq_E_batch_44 : decode prog_1_method_16_code 44 = .ok (.getfield 31, 3) := by decide +kernel
theorem dq_E_batch_47 : decode prog_1_method_16_code 47 = .ok (.iload_n 2, 1) := by decide +kernel
theorem dq_E_batch_48 : decode prog_1_method_16_code 48 = .ok (.putfield 190, 3) := by decide +kernel
theorem dq_E_batch_51 : decode prog_1_method_16_code 51 = .ok (.iconst 1, 1) := by decide +kernel
theorem dq_E_batch_52 : decode prog_1_method_16_code 52 = .ok (.ireturn, 1) := by decide +kernel
def fE_batch (o : Nat) (x1 : Int32) (x2 : Int32) (N : qz_N) : Option (Int32 × qz_N) :=
  (fE_isToken x1 N).bind fun q1 =>
  if q1.1 = 0 then
    some ((-2 : Int32), q1.2)
  else
  (fE_isToken x2 q1.2).bind fun q3 =>
  if q3.1 = 0 then
    some ((-2 : Int32), q3.2)
  else
  if x1 = x2 then
    some ((-2 : Int32), q3.2)
  else
  if (qz_gi q3.2 4 o 7) ≤ 0 then
    qz_let (qz_si q3.2 4 o 5 x1) fun N5 =>
    qz_let (qz_si N5 4 o 6 x2) fun N6 =>
    some ((1 : Int32), N6)
  else
  some ((-3 : Int32), q3.2)
set_option maxRecDepth 100000 in
set_option maxHeartbeats 4000000 in
theorem sE_batch {p : Program} {l : Launch} {e : Env} {s : State} {m : MethodId} {args : Array Value} {below : List Frame} {meth : Method} {c : Code} {G : qz_G} (X : qz_X p s m args meth c "ExactCurves" prog_1_method_16_code 3 (some .int) G) {r : (Int32 × qz_N)} (o : Nat) (x1 : Int32) (x2 : Int32) (ho : o < 1) (N : qz_N) (h : fE_batch o x1 x2 N = some r) : qz_W p l e (qz_R 1) s m args below meth c 0 0 (MQ below (qz_Q G r.2 (some (.int r.1))) args s 0 0 (qz_A G)) G s.heap 3 N 0 [(0, .ref (G.2.2 0 o)), (1, .int x1), (2, .int x2)] [] := by
  unfold fE_batch at h
  refine qz_iload_n X 1 rfl dq_E_batch_0 ?_
  refine qz_bind h (fun q1 e2 h => ?_)
  refine qz_callS X (as := [.int x1]) (st := []) (o := some (.int q1.1)) (N' := q1.2) cq_E_55 (cE_isToken l G X.2.2.2.2.2.2.1 x1 N _ e2) ⟨by decide, by decide⟩ rfl rfl (Nat.le_of_ble_eq_true rfl) ⟨Nat.zero_le _, Nat.zero_le _⟩ dq_E_batch_1 ?_
  refine qz_if_eq X (tgt := 19) (by decide) dq_E_batch_4 h (fun _ h => ?_) (fun _ h => ?_)
  · refine qz_bipush X (v := (-2 : Int32)) (by decide) dq_E_batch_19 ?_
    exact qz_iret X h dq_E_batch_21
  · refine qz_iload_n X 2 rfl dq_E_batch_7 ?_
    refine qz_bind h (fun q3 e4 h => ?_)
    refine qz_callS X (as := [.int x2]) (st := []) (o := some (.int q3.1)) (N' := q3.2) cq_E_55 (cE_isToken l G X.2.2.2.2.2.2.1 x2 q1.2 _ e4) ⟨by decide, by decide⟩ rfl rfl (Nat.le_of_ble_eq_true rfl) ⟨Nat.zero_le _, Nat.zero_le _⟩ dq_E_batch_8 ?_
    refine qz_if_eq X (tgt := 19) (by decide) dq_E_batch_11 h (fun _ h => ?_) (fun _ h => ?_)
    · refine qz_bipush X (v := (-2 : Int32)) (by decide) dq_E_batch_19 ?_
      exact qz_iret X h dq_E_batch_21
    · refine qz_iload_n X 1 rfl dq_E_batch_14 ?_
      refine qz_iload_n X 2 rfl dq_E_batch_15 ?_
      refine qz_icmp_ne X (tgt := 22) (by decide) dq_E_batch_16 h (fun _ h => ?_) (fun _ h => ?_)
      · refine qz_aload_n X 0 rfl dq_E_batch_22 ?_
        refine qz_get X (v := .ref (G.2.2 4 o)) kq_E_31 ho rfl dq_E_batch_23 ?_
        refine qz_get X (v := .int (qz_gi q3.2 4 o 7)) kq_E_184 ho rfl dq_E_batch_26 ?_
        refine qz_if_le X (tgt := 35) (by decide) dq_E_batch_29 h (fun _ h => ?_) (fun _ h => ?_)
        · refine qz_aload_n X 0 rfl dq_E_batch_35 ?_
          refine qz_get X (v := .ref (G.2.2 4 o)) kq_E_31 ho rfl dq_E_batch_36 ?_
          refine qz_iload_n X 1 rfl dq_E_batch_39 ?_
          refine qz_putI X kq_E_187 ho dq_E_batch_40 h (fun N5 h => ?_)
          refine qz_aload_n X 0 rfl dq_E_batch_43 ?_
          refine qz_get X (v := .ref (G.2.2 4 o)) kq_E_31 ho rfl dq_E_batch_44 ?_
          refine qz_iload_n X 2 rfl dq_E_batch_47 ?_
          refine qz_putI X kq_E_190 ho dq_E_batch_48 h (fun N6 h => ?_)
          refine qz_iconst X (v := (1 : Int32)) (by decide) dq_E_batch_51 ?_
          exact qz_iret X h dq_E_batch_52
        · refine qz_bipush X (v := (-3 : Int32)) (by decide) dq_E_batch_32 ?_
          exact qz_iret X h dq_E_batch_34
      · refine qz_bipush X (v := (-2 : Int32)) (by decide) dq_E_batch_19 ?_
        exact qz_iret X h dq_E_batch_21
theorem cE_batch (l : Launch) (G : qz_G) (hD : qz_D G) (o : Nat) (x1 : Int32) (x2 : Int32) (N : qz_N) (ho : o < 1) (r : (Int32 × qz_N)) (h : fE_batch o x1 x2 N = some r) : qz_M l yE_batch prog_1_method_16_code 3 (some .int) 1 G [.ref (G.2.2 0 o), .int x1, .int x2] N (some (.int r.1)) r.2 :=
  qz_enter (lv := [(0, .ref (G.2.2 0 o)), (1, .int x1), (2, .int x2)]) rfl hD (Nat.le_of_ble_eq_true rfl) rfl (fun p e s m args below meth c X => sE_batch X o x1 x2 ho N h)
-- ExactCurves$Batch.priceUp(JJ)J
theorem dq_B_priceUp_0 : decode prog_2_method_2_code 0 = .ok (.lload_n 0, 1) := by decide +kernel
theorem dq_B_priceUp_1 : decode prog_2_method_2_code 1 = .ok (.lload_n 2, 1) := by decide +kernel
theorem dq_B_priceUp_2 : decode prog_2_method_2_code 2 = .ok (.lmul, 1) := by decide +kernel
theorem dq_B_priceUp_3 : decode prog_2_method_2_code 3 = .ok (.ldc2_w 36, 3) := by decide +kernel
theorem dq_B_priceUp_6 : decode prog_2_method_2_code 6 = .ok (.ladd, 1) := by decide +kernel
theorem dq_B_priceUp_7 : decode prog_2_method_2_code 7 = .ok (.lconst 1, 1) := by decide +kernel
theorem dq_B_priceUp_8 : decode prog_2_method_2_code 8 = .ok (.lsub, 1) := by decide +kernel
theorem dq_B_priceUp_9 : decode prog_2_method_2_code 9 = .ok (.ldc2_w 36, 3) := by decide +kernel
theorem dq_B_priceUp_12 : decode prog_2_method_2_code 12 = .ok (.ldiv, 1) := by decide +kernel
theorem dq_B_priceUp_13 : decode prog_2_method_2_code 13 = .ok (.lreturn, 1) := by decide +kernel
def fB_priceUp (x0 : Int64) (x2 : Int64) (N : qz_N) : Option (Int64 × qz_N) :=
  some ((((x0 * x2) + (1000 : Int64)) - (1 : Int64)) / (1000 : Int64), N)
set_option maxRecDepth 100000 in
set_option maxHeartbeats 4000000 in
theorem sB_priceUp {p : Program} {l : Launch} {e : Env} {s : State} {m : MethodId} {args : Array Value} {below : List Frame} {meth : Method} {c : Code} {G : qz_G} (X : qz_X p s m args meth c "ExactCurves$Batch" prog_2_method_2_code 4 (some .long) G) {r : (Int64 × qz_N)} (x0 : Int64) (x2 : Int64) (N : qz_N) (h : fB_priceUp x0 x2 N = some r) : qz_W p l e (qz_R 0) s m args below meth c 0 0 (MQ below (qz_Q G r.2 (some (.long r.1))) args s 0 0 (qz_A G)) G s.heap 4 N 0 [(0, .long x0), (2, .long x2)] [] := by
  unfold fB_priceUp at h
  refine qz_lload_n X 0 rfl dq_B_priceUp_0 ?_
  refine qz_lload_n X 1 rfl dq_B_priceUp_1 ?_
  refine qz_lmul X dq_B_priceUp_2 ?_
  refine qz_ldc2 X (v := (1000 : Int64)) wq_436 dq_B_priceUp_3 ?_
  refine qz_ladd X dq_B_priceUp_6 ?_
  refine qz_lconst X (v := (1 : Int64)) (by decide) dq_B_priceUp_7 ?_
  refine qz_lsub X dq_B_priceUp_8 ?_
  refine qz_ldc2 X (v := (1000 : Int64)) wq_436 dq_B_priceUp_9 ?_
  refine qz_ldiv X (by decide) dq_B_priceUp_12 ?_
  exact qz_lret X h dq_B_priceUp_13
theorem cB_priceUp (l : Launch) (G : qz_G) (hD : qz_D G) (x0 : Int64) (x2 : Int64) (N : qz_N) (r : (Int64 × qz_N)) (h : fB_priceUp x0 x2 N = some r) : qz_M l yB_priceUp prog_2_method_2_code 4 (some .long) 0 G [.long x0, .long x2] N (some (.long r.1)) r.2 :=
  qz_enter (lv := [(0, .long x0), (2, .long x2)]) rfl hD (Nat.le_of_ble_eq_true rfl) rfl (fun p e s m args below meth c X => sB_priceUp X x0 x2 N h)
-- ExactCurves$Batch.put(IZJJ)I
theorem dq_B_put_0 : decode prog_2_method_3_code 0 = .ok (.aload_n 0, 1) := by decide +kernel
theorem dq_B_put_1 : decode prog_2_method_3_code 1 = .ok (.getfield 9, 3) := by decide +kernel
theorem dq_B_put_4 : decode prog_2_method_3_code 4 = .ok (.aload_n 0, 1) := by decide +kernel
theorem dq_B_put_5 : decode prog_2_method_3_code 5 = .ok (.getfield 38, 3) := by decide +kernel
theorem dq_B_put_8 : decode prog_2_method_3_code 8 = .ok (.iload_n 1, 1) := by decide +kernel
theorem dq_B_put_9 : decode prog_2_method_3_code 9 = .ok (.iastore, 1) := by decide +kernel
theorem dq_B_put_10 : decode prog_2_method_3_code 10 = .ok (.aload_n 0, 1) := by decide +kernel
theorem dq_B_put_11 : decode prog_2_method_3_code 11 = .ok (.getfield 15, 3) := by decide +kernel
theorem dq_B_put_14 : decode prog_2_method_3_code 14 = .ok (.aload_n 0, 1) := by decide +kernel
theorem dq_B_put_15 : decode prog_2_method_3_code 15 = .ok (.getfield 38, 3) := by decide +kernel
theorem dq_B_put_18 : decode prog_2_method_3_code 18 = .ok (.iload_n 2, 1) := by decide +kernel
theorem dq_B_put_19 : decode prog_2_method_3_code 19 = .ok (.bastore, 1) := by decide +kernel
theorem dq_B_put_20 : decode prog_2_method_3_code 20 = .ok (.aload_n 0, 1) := by decide +kernel
theorem dq_B_put_21 : decode prog_2_method_3_code 21 = .ok (.getfield 19, 3) := by decide +kernel
theorem dq_B_put_24 : decode prog_2_method_3_code 24 = .ok (.aload_n 0, 1) := by decide +kernel
theorem dq_B_put_25 : decode prog_2_method_3_code 25 = .ok (.getfield 38, 3) := by decide +kernel
theorem dq_B_put_28 : decode prog_2_method_3_code 28 = .ok (.lload_n 3, 1) := by decide +kernel
theorem dq_B_put_29 : decode prog_2_method_3_code 29 = .ok (.lastore, 1) := by decide +kernel
theorem dq_B_put_30 : decode prog_2_method_3_code 30 = .ok (.aload_n 0, 1) := by decide +kernel
theorem dq_B_put_31 : decode prog_2_method_3_code 31 = .ok (.getfield 23, 3) := by decide +kernel
theorem dq_B_put_34 : decode prog_2_method_3_code 34 = .ok (.aload_n 0, 1) := by decide +kernel
theorem dq_B_put_35 : decode prog_2_method_3_code 35 = .ok (.getfield 38, 3) := by decide +kernel
theorem dq_B_put_38 : decode prog_2_method_3_code 38 = .ok (.lload 5, 2) := by decide +kernel
theorem dq_B_put_40 : decode prog_2_method_3_code 40 = .ok (.lastore, 1) := by decide +kernel
theorem dq_B_put_41 : decode prog_2_method_3_code 41 = .ok (.aload_n 0, 1) := by decide +kernel
theorem dq_B_put_42 : decode prog_2_method_3_code 42 = .ok (.dup, 1) := by decide +kernel
theorem dq_B_put_43 : decode prog_2_method_3_code 43 = .ok (.getfield 38, 3) := by decide +kernel
theorem dq_B_put_46 : decode prog_2_method_3_code 46 = .ok (.iconst 1, 1) := by decide +kernel
theorem dq_B_put_47 : decode prog_2_method_3_code 47 = .ok (.iadd, 1) := by decide +kernel
theorem dq_B_put_48 : decode prog_2_method_3_code 48 = .ok (.putfield 38, 3) := by decide +kernel
theorem dq_B_put_51 : decode prog_2_method_3_code 51 = .ok (.aload_n 0, 1) := by decide +kernel
theorem dq_B_put_52 : decode prog_2_method_3_code 52 = .ok (.getfield 38, 3) := by decide +kernel
theorem dq_B_put_55 : decode prog_2_method_3_code 55 = .ok (.iconst 1, 1) := by decide +kernel
theorem dq_B_put_56 : decode prog_2_method_3_code 56 = .ok (.isub, 1) := by decide +kernel
theorem dq_B_put_57 : decode prog_2_method_3_code 57 = .ok (.ireturn, 1) := by decide +kernel
def fB_put (o : Nat) (x1 : Int32) (x2 : Int32) (x3 : Int64) (x5 : Int64) (N : qz_N) : Option (Int32 × qz_N) :=
  if (qz_gi N 4 o 7) < 0 ∨ 40 ≤ (qz_gi N 4 o 7).toNatClampNeg then none else
  qz_let (qz_si N 16 o (qz_gi N 4 o 7).toNatClampNeg x1) fun N1 =>
  if (qz_gi N1 4 o 7) < 0 ∨ 40 ≤ (qz_gi N1 4 o 7).toNatClampNeg then none else
  qz_let (qz_si N1 17 o (qz_gi N1 4 o 7).toNatClampNeg (vp_nar .boolean x2)) fun N2 =>
  if (qz_gi N2 4 o 7) < 0 ∨ 40 ≤ (qz_gi N2 4 o 7).toNatClampNeg then none else
  qz_let (qz_sl N2 18 o (qz_gi N2 4 o 7).toNatClampNeg x3) fun N3 =>
  if (qz_gi N3 4 o 7) < 0 ∨ 40 ≤ (qz_gi N3 4 o 7).toNatClampNeg then none else
  qz_let (qz_sl N3 19 o (qz_gi N3 4 o 7).toNatClampNeg x5) fun N4 =>
  qz_let (qz_si N4 4 o 7 ((qz_gi N4 4 o 7) + (1 : Int32))) fun N5 =>
  some ((qz_gi N5 4 o 7) - (1 : Int32), N5)
set_option maxRecDepth 100000 in
set_option maxHeartbeats 4000000 in
theorem sB_put {p : Program} {l : Launch} {e : Env} {s : State} {m : MethodId} {args : Array Value} {below : List Frame} {meth : Method} {c : Code} {G : qz_G} (X : qz_X p s m args meth c "ExactCurves$Batch" prog_2_method_3_code 7 (some .int) G) {r : (Int32 × qz_N)} (o : Nat) (x1 : Int32) (x2 : Int32) (x3 : Int64) (x5 : Int64) (ho : o < 1) (N : qz_N) (h : fB_put o x1 x2 x3 x5 N = some r) : qz_W p l e (qz_R 0) s m args below meth c 0 0 (MQ below (qz_Q G r.2 (some (.int r.1))) args s 0 0 (qz_A G)) G s.heap 7 N 0 [(0, .ref (G.2.2 4 o)), (1, .int x1), (2, .int x2), (3, .long x3), (5, .long x5)] [] := by
  unfold fB_put at h
  refine qz_aload_n X 0 rfl dq_B_put_0 ?_
  refine qz_get X (v := .ref (G.2.2 16 o)) kq_B_9 ho rfl dq_B_put_1 ?_
  refine qz_aload_n X 0 rfl dq_B_put_4 ?_
  refine qz_get X (v := .int (qz_gi N 4 o 7)) kq_B_38 ho rfl dq_B_put_5 ?_
  refine qz_iload_n X 1 rfl dq_B_put_8 ?_
  refine qz_iast X (c0 := 16) (i := o) (n := 40) rfl ho dq_B_put_9 h (fun N1 h => ?_)
  refine qz_aload_n X 0 rfl dq_B_put_10 ?_
  refine qz_get X (v := .ref (G.2.2 17 o)) kq_B_15 ho rfl dq_B_put_11 ?_
  refine qz_aload_n X 0 rfl dq_B_put_14 ?_
  refine qz_get X (v := .int (qz_gi N1 4 o 7)) kq_B_38 ho rfl dq_B_put_15 ?_
  refine qz_iload_n X 2 rfl dq_B_put_18 ?_
  refine qz_zast X (c0 := 17) (i := o) (n := 40) rfl ho dq_B_put_19 h (fun N2 h => ?_)
  refine qz_aload_n X 0 rfl dq_B_put_20 ?_
  refine qz_get X (v := .ref (G.2.2 18 o)) kq_B_19 ho rfl dq_B_put_21 ?_
  refine qz_aload_n X 0 rfl dq_B_put_24 ?_
  refine qz_get X (v := .int (qz_gi N2 4 o 7)) kq_B_38 ho rfl dq_B_put_25 ?_
  refine qz_lload_n X 3 rfl dq_B_put_28 ?_
  refine qz_last X (c0 := 18) (i := o) (n := 40) rfl ho dq_B_put_29 h (fun N3 h => ?_)
  refine qz_aload_n X 0 rfl dq_B_put_30 ?_
  refine qz_get X (v := .ref (G.2.2 19 o)) kq_B_23 ho rfl dq_B_put_31 ?_
  refine qz_aload_n X 0 rfl dq_B_put_34 ?_
  refine qz_get X (v := .int (qz_gi N3 4 o 7)) kq_B_38 ho rfl dq_B_put_35 ?_
  refine qz_lload X 4 rfl dq_B_put_38 ?_
  refine qz_last X (c0 := 19) (i := o) (n := 40) rfl ho dq_B_put_40 h (fun N4 h => ?_)
  refine qz_aload_n X 0 rfl dq_B_put_41 ?_
  refine qz_dup X rfl dq_B_put_42 ?_
  refine qz_get X (v := .int (qz_gi N4 4 o 7)) kq_B_38 ho rfl dq_B_put_43 ?_
  refine qz_iconst X (v := (1 : Int32)) (by decide) dq_B_put_46 ?_
  refine qz_iadd X dq_B_put_47 ?_
  refine qz_putI X kq_B_38 ho dq_B_put_48 h (fun N5 h => ?_)
  refine qz_aload_n X 0 rfl dq_B_put_51 ?_
  refine qz_get X (v := .int (qz_gi N5 4 o 7)) kq_B_38 ho rfl dq_B_put_52 ?_
  refine qz_iconst X (v := (1 : Int32)) (by decide) dq_B_put_55 ?_
  refine qz_isub X dq_B_put_56 ?_
  exact qz_iret X h dq_B_put_57
theorem cB_put (l : Launch) (G : qz_G) (hD : qz_D G) (o : Nat) (x1 : Int32) (x2 : Int32) (x3 : Int64) (x5 : Int64) (N : qz_N) (ho : o < 1) (r : (Int32 × qz_N)) (h : fB_put o x1 x2 x3 x5 N = some r) : qz_M l yB_put prog_2_method_3_code 7 (some .int) 0 G [.ref (G.2.2 4 o), .int x1, .int x2, .long x3, .long x5] N (some (.int r.1)) r.2 :=
  qz_enter (lv := [(0, .ref (G.2.2 4 o)), (1, .int x1), (2, .int x2), (3, .long x3), (5, .long x5)]) rfl hD (Nat.le_of_ble_eq_true rfl) rfl (fun p e s m args below meth c X => sB_put X o x1 x2 x3 x5 ho N h)
-- ExactCurves.order(IIJJ)I
theorem dq_E_order_0 : decode prog_1_method_17_code 0 = .ok (.iload_n 1, 1) := by decide +kernel
theorem dq_E_order_1 : decode prog_1_method_17_code 1 = .ok (.invokestatic 51, 3) := by decide +kernel
theorem dq_E_order_4 : decode prog_1_method_17_code 4 = .ok (.ifCond .eq 12, 3) := by decide +kernel
theorem dq_E_order_7 : decode prog_1_method_17_code 7 = .ok (.iload_n 2, 1) := by decide +kernel
theorem dq_E_order_8 : decode prog_1_method_17_code 8 = .ok (.ifCond .eq 11, 3) := by decide +kernel
theorem dq_E_order_11 : decode prog_1_method_17_code 11 = .ok (.iload_n 2, 1) := by decide +kernel
theorem dq_E_order_12 : decode prog_1_method_17_code 12 = .ok (.iconst 1, 1) := by decide +kernel
theorem dq_E_order_13 : decode prog_1_method_17_code 13 = .ok (.if_icmp .eq 6, 3) := by decide +kernel
theorem dq_E_order_16 : decode prog_1_method_17_code 16 = .ok (.bipush (-2), 2) := by decide +kernel
theorem dq_E_order_18 : decode prog_1_method_17_code 18 = .ok (.ireturn, 1) := by decide +kernel
theorem dq_E_order_19 : decode prog_1_method_17_code 19 = .ok (.lload_n 3, 1) := by decide +kernel
theorem dq_E_order_20 : decode prog_1_method_17_code 20 = .ok (.lconst 1, 1) := by decide +kernel
theorem dq_E_order_21 : decode prog_1_method_17_code 21 = .ok (.lcmp, 1) := by decide +kernel
theorem dq_E_order_22 : decode prog_1_method_17_code 22 = .ok (.ifCond .lt 27, 3) := by decide +kernel
theorem dq_E_order_25 : decode prog_1_method_17_code 25 = .ok (.lload_n 3, 1) := by decide +kernel
theorem dq_E_order_26 : decode prog_1_method_17_code 26 = .ok (.ldc2_w 193, 3) := by decide +kernel
theorem dq_E_order_29 : decode prog_1_method_17_code 29 = .ok (.lcmp, 1) := by decide +kernel
theorem dq_E_order_30 : decode prog_1_method_17_code 30 = .ok (.ifCond .gt 19, 3) := by decide +kernel
theorem dq_E_order_33 : decode prog_1_method_17_code 33 = .ok (.lload 5, 2) := by decide +kernel
theorem dq_E_order_35 : decode prog_1_method_17_code 35 = .ok (.lconst 1, 1) := by decide +kernel
theorem dq_E_order_36 : decode prog_1_method_17_code 36 = .ok (.lcmp, 1) := by decide +kernel
theorem dq_E_order_37 : decode prog_1_method_17_code 37 = .ok (.ifCond .lt 12, 3) := by decide +kernel
theorem dq_E_order_40 : decode prog_1_method_17_code 40 = .ok (.lload 5, 2) := by decide +kernel
theorem dq_E_order_42 : decode prog_1_method_17_code 42 = .ok (.ldc2_w 195, 3) := by decide +kernel
theorem dq_E_order_45 : decode prog_1_method_17_code 45 = .ok (.lcmp, 1) := by decide +kernel
theorem dq_E_order_46 : decode prog_1_method_17_code 46 = .ok (.ifCond .le 6, 3) := by decide +kernel
theorem dq_E_order_49 : decode prog_1_method_17_code 49 = .ok (.bipush (-2), 2) := by decide +kernel
theorem dq_E_order_51 : decode prog_1_method_17_code 51 = .ok (.ireturn, 1) := by decide +kernel
theorem dq_E_order_52 : decode prog_1_method_17_code 52 = .ok (.iload_n 2, 1) := by decide +kernel
theorem dq_E_order_53 : decode prog_1_method_17_code 53 = .ok (.iconst 1, 1) := by decide +kernel
theorem dq_E_order_54 : decode prog_1_method_17_code 54 = .ok (.if_icmp .ne 13, 3) := by decide +kernel
theorem dq_E_order_57 : decode prog_1_method_17_code 57 = .ok (.aload_n 0, 1) := by decide +kernel
theorem dq_E_order_58 : decode prog_1_method_17_code 58 = .ok (.getfield 31, 3) := by decide +kernel
theorem dq_E_order_61 : decode prog_1_method_17_code 61 = .ok (.getfield 190, 3) := by decide +kernel
theorem dq_E_order_64 : decode prog_1_method_17_code 64 = .ok (.goto 10, 3) := by decide +kernel
theorem dq_E_order_67 : decode prog_1_method_17_code 67 = .ok (.aload_n 0, 1) := by decide +kernel
theorem dq_E_order_68 : decode prog_1_method_17_code 68 = .ok (.getfield 31, 3) := by decide +kernel
theorem dq_E_order_71 : decode prog_1_method_17_code 71 = .ok (.getfield 187, 3) := by decide +kernel
theorem dq_E_order_74 : decode prog_1_method_17_code 74 = .ok (.istore 7, 2) := by decide +kernel
theorem dq_E_order_76 : decode prog_1_method_17_code 76 = .ok (.iload_n 2, 1) := by decide +kernel
theorem dq_E_order_77 : decode prog_1_method_17_code 77 = .ok (.iconst 1, 1) := by decide +kernel
theorem dq_E_order_78 : decode prog_1_method_17_code 78 = .ok (.if_icmp .ne 12, 3) := by decide +kernel
theorem dq_E_order_81 : decode prog_1_method_17_code 81 = .ok (.lload_n 3, 1) := by decide +kernel
theorem dq_E_order_82 : decode prog_1_method_17_code 82 = .ok (.lload 5, 2) := by decide +kernel
theorem dq_E_order_84 : decode prog_1_method_17_code 84 = .ok (.invokestatic 197, 3) := by decide +kernel
theorem dq_E_order_87 : decode prog_1_method_17_code 87 = .ok (.goto 4, 3) := by decide +kernel
theorem dq_E_order_90 : decode prog_1_method_17_code 90 = .ok (.lload_n 3, 1) := by decide +kernel
theorem dq_E_order_91 : decode prog_1_method_17_code 91 = .ok (.lstore 8, 2) := by decide +kernel
theorem dq_E_order_93 : decode prog_1_method_17_code 93 = .ok (.aload_n 0, 1) := by decide +kernel
theorem dq_E_order_94 : decode prog_1_method_17_code 94 = .ok (.getfield 31, 3) := by decide +kernel
theorem dq_E_order_97 : decode prog_1_method_17_code 97 = .ok (.getfield 184, 3) := by decide +kernel
theorem dq_E_order_100 : decode prog_1_method_17_code 100 = .ok (.bipush 40, 2) := by decide +kernel
theorem dq_E_order_102 : decode prog_1_method_17_code 102 = .ok (.if_icmp .ge 19, 3) := by decide +kernel
theorem dq_E_order_105 : decode prog_1_method_17_code 105 = .ok (.aload_n 0, 1) := by decide +kernel
theorem dq_E_order_106 : decode prog_1_method_17_code 106 = .ok (.getfield 10, 3) := by decide +kernel
theorem dq_E_order_109 : decode prog_1_method_17_code 109 = .ok (.iload_n 1, 1) := by decide +kernel
theorem dq_E_order_110 : decode prog_1_method_17_code 110 = .ok (.iload 7, 2) := by decide +kernel
theorem dq_E_order_112 : decode prog_1_method_17_code 112 = .ok (.invokevirtual 72, 3) := by decide +kernel
theorem dq_E_order_115 : decode prog_1_method_17_code 115 = .ok (.lload 8, 2) := by decide +kernel
theorem dq_E_order_117 : decode prog_1_method_17_code 117 = .ok (.lcmp, 1) := by decide +kernel
theorem dq_E_order_118 : decode prog_1_method_17_code 118 = .ok (.ifCond .ge 6, 3) := by decide +kernel
theorem dq_E_order_121 : decode prog_1_method_17_code 121 = .ok (.bipush (-3), 2) := by decide +kernel
theorem dq_E_order_123 : decode prog_1_method_17_code 123 = .ok (.ireturn, 1) := by decide +kernel
theorem dq_E_order_124 : decode prog_1_method_17_code 124 = .ok (.aload_n 0, 1) := by decide +kernel
theorem dq_E_order_125 : decode prog_1_method_17_code 125 = .ok (.getfield 10, 3) := by decide +kernel
theorem dq_E_order_128 : decode prog_1_method_17_code 128 = .ok (.iload_n 1, 1) := by decide +kernel
theorem dq_E_order_129 : decode prog_1_method_17_code 129 = .ok (.iload 7, 2) := by decide +kernel
theorem dq_E_order_131 : decode prog_1_method_17_code 131 = .ok (.lload 8, 2) := by decide +kernel
theorem dq_E_order_133 : decode prog_1_method_17_code 133 = .ok (.invokevirtual 200, 3) := by decide +kernel
theorem dq_E_order_136 : decode prog_1_method_17_code 136 = .ok (.aload_n 0, 1) := by decide +kernel
theorem dq_E_order_137 : decode prog_1_method_17_code 137 = .ok (.getfield 31, 3) := by decide +kernel
theorem dq_E_order_140 : decode prog_1_method_17_code 140 = .ok (.iload_n 1, 1) := by decide +kernel
theorem dq_E_order_141 : decode prog_1_method_17_code 141 = .ok (.iload_n 2, 1) := by decide +kernel
theorem dq_E_order_142 : decode prog_1_method_17_code 142 = .ok (.iconst 1, 1) := by decide +kernel
theorem dq_E_order_143 : decode prog_1_method_17_code 143 = .ok (.if_icmp .ne 7, 3) := by decide +kernel
theorem dq_E_order_146 : decode prog_1_method_17_code 146 = .ok (.iconst 1, 1) := by decide +kernel
theorem dq_E_order_147 : decode prog_1_method_17_code 147 = .ok (.goto 4, 3) := by decide +kernel
theorem dq_E_order_150 : decode prog_1_method_17_code 150 = .ok (.iconst 0, 1) := by decide +kernel
theorem dq_E_order_151 : decode prog_1_method_17_code 151 = .ok (.lload_n 3, 1) := by decide +kernel
theorem dq_E_order_152 : decode prog_1_method_17_code 152 = .ok (.lload 5, 2) := by decide +kernel
theorem dq_E_order_154 : decode prog_1_method_17_code 154 = .ok (.invokevirtual 203, 3) := by decide +kernel
theorem dq_E_order_157 : decode prog_1_method_17_code 157 = .ok (.ireturn, 1) := by decide +kernel
def fE_order_151 (N : qz_N) (x3 : Int64) (x5 : Int64) (s0 : Int32) (s1 : Int32) (s2 : Nat) : Option (Int32 × qz_N) :=
  (fB_put s2 s1 s0 x3 x5 N).bind fun q7 =>
  some (q7.1, q7.2)
def fE_order_91 (y0 : Nat) (N : qz_N) (x1 : Int32) (x2 : Int32) (x3 : Int64) (x5 : Int64) (x7 : Int32) (s0 : Int64) : Option (Int32 × qz_N) :=
  if (40 : Int32) ≤ (qz_gi N 4 y0 7) then
    some ((-3 : Int32), N)
  else
  (fU_held y0 x1 x7 N).bind fun q3 =>
  if s0 ≤ q3.1 then
    (fU_take y0 x1 x7 s0 q3.2).bind fun q5 =>
    if x2 = (1 : Int32) then
      fE_order_151 q5.2 x3 x5 (1 : Int32) x1 y0
    else
    fE_order_151 q5.2 x3 x5 (0 : Int32) x1 y0
  else
  some ((-3 : Int32), q3.2)
def fE_order_74 (y0 : Nat) (N : qz_N) (x1 : Int32) (x2 : Int32) (x3 : Int64) (x5 : Int64) (s0 : Int32) : Option (Int32 × qz_N) :=
  if x2 = (1 : Int32) then
    (fB_priceUp x3 x5 N).bind fun q9 =>
    fE_order_91 y0 q9.2 x1 x2 x3 x5 s0 q9.1
  else
  fE_order_91 y0 N x1 x2 x3 x5 s0 x3
def fE_order_19 (y0 : Nat) (N : qz_N) (x1 : Int32) (x2 : Int32) (x3 : Int64) (x5 : Int64) : Option (Int32 × qz_N) :=
  if x3 < (1 : Int64) then
    some ((-2 : Int32), N)
  else
  if (10000000000 : Int64) < x3 then
    some ((-2 : Int32), N)
  else
  if x5 < (1 : Int64) then
    some ((-2 : Int32), N)
  else
  if x5 ≤ (1000000 : Int64) then
    if x2 = (1 : Int32) then
      fE_order_74 y0 N x1 x2 x3 x5 (qz_gi N 4 y0 6)
    else
    fE_order_74 y0 N x1 x2 x3 x5 (qz_gi N 4 y0 5)
  else
  some ((-2 : Int32), N)
def fE_order (o : Nat) (x1 : Int32) (x2 : Int32) (x3 : Int64) (x5 : Int64) (N : qz_N) : Option (Int32 × qz_N) :=
  (fE_isPlayer x1 N).bind fun q1 =>
  if q1.1 = 0 then
    some ((-2 : Int32), q1.2)
  else
  if x2 = 0 then
    fE_order_19 o q1.2 x1 x2 x3 x5
  else
  if x2 = (1 : Int32) then
    fE_order_19 o q1.2 x1 x2 x3 x5
  else
  some ((-2 : Int32), q1.2)
set_option maxRecDepth 100000 in
set_option maxHeartbeats 4000000 in
theorem sE_order_151 {p : Program} {l : Launch} {e : Env} {s : State} {m : MethodId} {args : Array Value} {below : List Frame} {meth : Method} {c : Code} {G : qz_G} (X : qz_X p s m args meth c "ExactCurves" prog_1_method_17_code 10 (some .int) G) {r : (Int32 × qz_N)} (N : qz_N) (x3 : Int64) (x5 : Int64) (s0 : Int32) (s1 : Int32) (s2 : Nat) (hs2 : s2 < 1) (h : fE_order_151 N x3 x5 s0 s1 s2 = some r) : qz_W p l e (qz_R 1) s m args below meth c 0 0 (MQ below (qz_Q G r.2 (some (.int r.1))) args s 0 0 (qz_A G)) G s.heap 10 N 151 [(3, .long x3), (5, .long x5)] [.int s0, .int s1, .ref (G.2.2 4 s2)] := by
  unfold fE_order_151 at h
  refine qz_lload_n X 0 rfl dq_E_order_151 ?_
  refine qz_lload X 1 rfl dq_E_order_152 ?_
  refine qz_bind h (fun q7 e8 h => ?_)
  refine qz_callV X (as := [.int s1, .int s0, .long x3, .long x5]) (st := []) (o := some (.int q7.1)) (N' := q7.2) cq_E_203 hs2 (cB_put l G X.2.2.2.2.2.2.1 s2 s1 s0 x3 x5 N hs2 _ e8) ⟨by decide, by decide⟩ rfl rfl (Nat.le_of_ble_eq_true rfl) ⟨Nat.zero_le _, Nat.zero_le _⟩ dq_E_order_154 ?_
  exact qz_iret X h dq_E_order_157
set_option maxRecDepth 100000 in
set_option maxHeartbeats 4000000 in
theorem sE_order_91 {p : Program} {l : Launch} {e : Env} {s : State} {m : MethodId} {args : Array Value} {below : List Frame} {meth : Method} {c : Code} {G : qz_G} (X : qz_X p s m args meth c "ExactCurves" prog_1_method_17_code 10 (some .int) G) {r : (Int32 × qz_N)} (y0 : Nat) (hy0 : y0 < 1) (N : qz_N) (x1 : Int32) (x2 : Int32) (x3 : Int64) (x5 : Int64) (x7 : Int32) (s0 : Int64) (h : fE_order_91 y0 N x1 x2 x3 x5 x7 s0 = some r) : qz_W p l e (qz_R 1) s m args below meth c 0 0 (MQ below (qz_Q G r.2 (some (.int r.1))) args s 0 0 (qz_A G)) G s.heap 10 N 91 [(1, .int x1), (2, .int x2), (3, .long x3), (5, .long x5), (7, .int x7), (0, .ref (G.2.2 0 y0))] [.long s0] := by
  unfold fE_order_91 at h
  refine qz_lstore X (lv' := [(8, .long s0), (1, .int x1), (2, .int x2), (3, .long x3), (5, .long x5), (7, .int x7), (0, .ref (G.2.2 0 y0))]) (by decide) rfl dq_E_order_91 ?_
  refine qz_aload_n X 6 rfl dq_E_order_93 ?_
  refine qz_get X (v := .ref (G.2.2 4 y0)) kq_E_31 hy0 rfl dq_E_order_94 ?_
  refine qz_get X (v := .int (qz_gi N 4 y0 7)) kq_E_184 hy0 rfl dq_E_order_97 ?_
  refine qz_bipush X (v := (40 : Int32)) (by decide) dq_E_order_100 ?_
  refine qz_icmp_ge X (tgt := 121) (by decide) dq_E_order_102 h (fun _ h => ?_) (fun _ h => ?_)
  · refine qz_bipush X (v := (-3 : Int32)) (by decide) dq_E_order_121 ?_
    exact qz_iret X h dq_E_order_123
  · refine qz_aload_n X 6 rfl dq_E_order_105 ?_
    refine qz_get X (v := .ref (G.2.2 1 y0)) kq_E_10 hy0 rfl dq_E_order_106 ?_
    refine qz_iload_n X 1 rfl dq_E_order_109 ?_
    refine qz_iload X 5 rfl dq_E_order_110 ?_
    refine qz_bind h (fun q3 e4 h => ?_)
    refine qz_callV X (as := [.int x1, .int x7]) (st := []) (o := some (.long q3.1)) (N' := q3.2) cq_E_72 hy0 (cU_held l G X.2.2.2.2.2.2.1 y0 x1 x7 N hy0 _ e4) ⟨by decide, by decide⟩ rfl rfl (Nat.le_of_ble_eq_true rfl) ⟨Nat.zero_le _, Nat.zero_le _⟩ dq_E_order_112 ?_
    refine qz_lload X 0 rfl dq_E_order_115 ?_
    refine qz_lcmp_ge X (tgt := 124) (by decide) dq_E_order_117 dq_E_order_118 h (fun _ h => ?_) (fun _ h => ?_)
    · refine qz_aload_n X 6 rfl dq_E_order_124 ?_
      refine qz_get X (v := .ref (G.2.2 1 y0)) kq_E_10 hy0 rfl dq_E_order_125 ?_
      refine qz_iload_n X 1 rfl dq_E_order_128 ?_
      refine qz_iload X 5 rfl dq_E_order_129 ?_
      refine qz_lload X 0 rfl dq_E_order_131 ?_
      refine qz_bind h (fun q5 e6 h => ?_)
      refine qz_callV X (as := [.int x1, .int x7, .long s0]) (st := []) (o := none) (N' := q5.2) cq_E_200 hy0 (cU_take l G X.2.2.2.2.2.2.1 y0 x1 x7 s0 q3.2 hy0 _ e6) ⟨by decide, by decide⟩ rfl rfl (Nat.le_of_ble_eq_true rfl) ⟨Nat.zero_le _, Nat.zero_le _⟩ dq_E_order_133 ?_
      refine qz_aload_n X 6 rfl dq_E_order_136 ?_
      refine qz_get X (v := .ref (G.2.2 4 y0)) kq_E_31 hy0 rfl dq_E_order_137 ?_
      refine qz_iload_n X 1 rfl dq_E_order_140 ?_
      refine qz_iload_n X 2 rfl dq_E_order_141 ?_
      refine qz_iconst X (v := (1 : Int32)) (by decide) dq_E_order_142 ?_
      refine qz_icmp_ne X (tgt := 150) (by decide) dq_E_order_143 h (fun _ h => ?_) (fun _ h => ?_)
      · refine qz_iconst X (v := (0 : Int32)) (by decide) dq_E_order_150 ?_
        refine qz_sub [3, 4] rfl ?_
        exact sE_order_151 X q5.2 x3 x5 (0 : Int32) x1 y0 hy0 h
      · refine qz_iconst X (v := (1 : Int32)) (by decide) dq_E_order_146 ?_
        refine qz_goto X (tgt := 151) (by decide) dq_E_order_147 ?_
        refine qz_sub [3, 4] rfl ?_
        exact sE_order_151 X q5.2 x3 x5 (1 : Int32) x1 y0 hy0 h
    · refine qz_bipush X (v := (-3 : Int32)) (by decide) dq_E_order_121 ?_
      exact qz_iret X h dq_E_order_123
set_option maxRecDepth 100000 in
set_option maxHeartbeats 4000000 in
theorem sE_order_74 {p : Program} {l : Launch} {e : Env} {s : State} {m : MethodId} {args : Array Value} {below : List Frame} {meth : Method} {c : Code} {G : qz_G} (X : qz_X p s m args meth c "ExactCurves" prog_1_method_17_code 10 (some .int) G) {r : (Int32 × qz_N)} (y0 : Nat) (hy0 : y0 < 1) (N : qz_N) (x1 : Int32) (x2 : Int32) (x3 : Int64) (x5 : Int64) (s0 : Int32) (h : fE_order_74 y0 N x1 x2 x3 x5 s0 = some r) : qz_W p l e (qz_R 1) s m args below meth c 0 0 (MQ below (qz_Q G r.2 (some (.int r.1))) args s 0 0 (qz_A G)) G s.heap 10 N 74 [(1, .int x1), (2, .int x2), (3, .long x3), (5, .long x5), (0, .ref (G.2.2 0 y0))] [.int s0] := by
  unfold fE_order_74 at h
  refine qz_istore X (lv' := [(7, .int s0), (1, .int x1), (2, .int x2), (3, .long x3), (5, .long x5), (0, .ref (G.2.2 0 y0))]) (by decide) rfl dq_E_order_74 ?_
  refine qz_iload_n X 2 rfl dq_E_order_76 ?_
  refine qz_iconst X (v := (1 : Int32)) (by decide) dq_E_order_77 ?_
  refine qz_icmp_ne X (tgt := 90) (by decide) dq_E_order_78 h (fun _ h => ?_) (fun _ h => ?_)
  · refine qz_lload_n X 3 rfl dq_E_order_90 ?_
    refine qz_sub [1, 2, 3, 4, 0, 5] rfl ?_
    exact sE_order_91 X y0 hy0 N x1 x2 x3 x5 s0 x3 h
  · refine qz_lload_n X 3 rfl dq_E_order_81 ?_
    refine qz_lload X 4 rfl dq_E_order_82 ?_
    refine qz_bind h (fun q9 e10 h => ?_)
    refine qz_callS X (as := [.long x3, .long x5]) (st := []) (o := some (.long q9.1)) (N' := q9.2) cq_E_197 (cB_priceUp l G X.2.2.2.2.2.2.1 x3 x5 N _ e10) ⟨by decide, by decide⟩ rfl rfl (Nat.le_of_ble_eq_true rfl) ⟨Nat.zero_le _, Nat.zero_le _⟩ dq_E_order_84 ?_
    refine qz_goto X (tgt := 91) (by decide) dq_E_order_87 ?_
    refine qz_sub [1, 2, 3, 4, 0, 5] rfl ?_
    exact sE_order_91 X y0 hy0 q9.2 x1 x2 x3 x5 s0 q9.1 h
set_option maxRecDepth 100000 in
set_option maxHeartbeats 4000000 in
theorem sE_order_19 {p : Program} {l : Launch} {e : Env} {s : State} {m : MethodId} {args : Array Value} {below : List Frame} {meth : Method} {c : Code} {G : qz_G} (X : qz_X p s m args meth c "ExactCurves" prog_1_method_17_code 10 (some .int) G) {r : (Int32 × qz_N)} (y0 : Nat) (hy0 : y0 < 1) (N : qz_N) (x1 : Int32) (x2 : Int32) (x3 : Int64) (x5 : Int64) (h : fE_order_19 y0 N x1 x2 x3 x5 = some r) : qz_W p l e (qz_R 1) s m args below meth c 0 0 (MQ below (qz_Q G r.2 (some (.int r.1))) args s 0 0 (qz_A G)) G s.heap 10 N 19 [(1, .int x1), (2, .int x2), (3, .long x3), (5, .long x5), (0, .ref (G.2.2 0 y0))] [] := by
  unfold fE_order_19 at h
  refine qz_lload_n X 2 rfl dq_E_order_19 ?_
  refine qz_lconst X (v := (1 : Int64)) (by decide) dq_E_order_20 ?_
  refine qz_lcmp_lt X (tgt := 49) (by decide) dq_E_order_21 dq_E_order_22 h (fun _ h => ?_) (fun _ h => ?_)
  · refine qz_bipush X (v := (-2 : Int32)) (by decide) dq_E_order_49 ?_
    exact qz_iret X h dq_E_order_51
  · refine qz_lload_n X 2 rfl dq_E_order_25 ?_
    refine qz_ldc2 X (v := (10000000000 : Int64)) wq_431 dq_E_order_26 ?_
    refine qz_lcmp_gt X (tgt := 49) (by decide) dq_E_order_29 dq_E_order_30 h (fun _ h => ?_) (fun _ h => ?_)
    · refine qz_bipush X (v := (-2 : Int32)) (by decide) dq_E_order_49 ?_
      exact qz_iret X h dq_E_order_51
    · refine qz_lload X 3 rfl dq_E_order_33 ?_
      refine qz_lconst X (v := (1 : Int64)) (by decide) dq_E_order_35 ?_
      refine qz_lcmp_lt X (tgt := 49) (by decide) dq_E_order_36 dq_E_order_37 h (fun _ h => ?_) (fun _ h => ?_)
      · refine qz_bipush X (v := (-2 : Int32)) (by decide) dq_E_order_49 ?_
        exact qz_iret X h dq_E_order_51
      · refine qz_lload X 3 rfl dq_E_order_40 ?_
        refine qz_ldc2 X (v := (1000000 : Int64)) wq_432 dq_E_order_42 ?_
        refine qz_lcmp_le X (tgt := 52) (by decide) dq_E_order_45 dq_E_order_46 h (fun _ h => ?_) (fun _ h => ?_)
        · refine qz_iload_n X 1 rfl dq_E_order_52 ?_
          refine qz_iconst X (v := (1 : Int32)) (by decide) dq_E_order_53 ?_
          refine qz_icmp_ne X (tgt := 67) (by decide) dq_E_order_54 h (fun _ h => ?_) (fun _ h => ?_)
          · refine qz_aload_n X 4 rfl dq_E_order_67 ?_
            refine qz_get X (v := .ref (G.2.2 4 y0)) kq_E_31 hy0 rfl dq_E_order_68 ?_
            refine qz_get X (v := .int (qz_gi N 4 y0 5)) kq_E_187 hy0 rfl dq_E_order_71 ?_
            refine qz_sub [0, 1, 2, 3, 4] rfl ?_
            exact sE_order_74 X y0 hy0 N x1 x2 x3 x5 (qz_gi N 4 y0 5) h
          · refine qz_aload_n X 4 rfl dq_E_order_57 ?_
            refine qz_get X (v := .ref (G.2.2 4 y0)) kq_E_31 hy0 rfl dq_E_order_58 ?_
            refine qz_get X (v := .int (qz_gi N 4 y0 6)) kq_E_190 hy0 rfl dq_E_order_61 ?_
            refine qz_goto X (tgt := 74) (by decide) dq_E_order_64 ?_
            refine qz_sub [0, 1, 2, 3, 4] rfl ?_
            exact sE_order_74 X y0 hy0 N x1 x2 x3 x5 (qz_gi N 4 y0 6) h
        · refine qz_bipush X (v := (-2 : Int32)) (by decide) dq_E_order_49 ?_
          exact qz_iret X h dq_E_order_51
set_option maxRecDepth 100000 in
set_option maxHeartbeats 4000000 in
theorem sE_order {p : Program} {l : Launch} {e : Env} {s : State} {m : MethodId} {args : Array Value} {below : List Frame} {meth : Method} {c : Code} {G : qz_G} (X : qz_X p s m args meth c "ExactCurves" prog_1_method_17_code 10 (some .int) G) {r : (Int32 × qz_N)} (o : Nat) (x1 : Int32) (x2 : Int32) (x3 : Int64) (x5 : Int64) (ho : o < 1) (N : qz_N) (h : fE_order o x1 x2 x3 x5 N = some r) : qz_W p l e (qz_R 1) s m args below meth c 0 0 (MQ below (qz_Q G r.2 (some (.int r.1))) args s 0 0 (qz_A G)) G s.heap 10 N 0 [(0, .ref (G.2.2 0 o)), (1, .int x1), (2, .int x2), (3, .long x3), (5, .long x5)] [] := by
  unfold fE_order at h
  refine qz_iload_n X 1 rfl dq_E_order_0 ?_
  refine qz_bind h (fun q1 e2 h => ?_)
  refine qz_callS X (as := [.int x1]) (st := []) (o := some (.int q1.1)) (N' := q1.2) cq_E_51 (cE_isPlayer l G X.2.2.2.2.2.2.1 x1 N _ e2) ⟨by decide, by decide⟩ rfl rfl (Nat.le_of_ble_eq_true rfl) ⟨Nat.zero_le _, Nat.zero_le _⟩ dq_E_order_1 ?_
  refine qz_if_eq X (tgt := 16) (by decide) dq_E_order_4 h (fun _ h => ?_) (fun _ h => ?_)
  · refine qz_bipush X (v := (-2 : Int32)) (by decide) dq_E_order_16 ?_
    exact qz_iret X h dq_E_order_18
  · refine qz_iload_n X 2 rfl dq_E_order_7 ?_
    refine qz_if_eq X (tgt := 19) (by decide) dq_E_order_8 h (fun _ h => ?_) (fun _ h => ?_)
    · refine qz_sub [1, 2, 3, 4, 0] rfl ?_
      exact sE_order_19 X o ho q1.2 x1 x2 x3 x5 h
    · refine qz_iload_n X 2 rfl dq_E_order_11 ?_
      refine qz_iconst X (v := (1 : Int32)) (by decide) dq_E_order_12 ?_
      refine qz_icmp_eq X (tgt := 19) (by decide) dq_E_order_13 h (fun _ h => ?_) (fun _ h => ?_)
      · refine qz_sub [1, 2, 3, 4, 0] rfl ?_
        exact sE_order_19 X o ho q1.2 x1 x2 x3 x5 h
      · refine qz_bipush X (v := (-2 : Int32)) (by decide) dq_E_order_16 ?_
        exact qz_iret X h dq_E_order_18
theorem cE_order (l : Launch) (G : qz_G) (hD : qz_D G) (o : Nat) (x1 : Int32) (x2 : Int32) (x3 : Int64) (x5 : Int64) (N : qz_N) (ho : o < 1) (r : (Int32 × qz_N)) (h : fE_order o x1 x2 x3 x5 N = some r) : qz_M l yE_order prog_1_method_17_code 10 (some .int) 1 G [.ref (G.2.2 0 o), .int x1, .int x2, .long x3, .long x5] N (some (.int r.1)) r.2 :=
  qz_enter (lv := [(0, .ref (G.2.2 0 o)), (1, .int x1), (2, .int x2), (3, .long x3), (5, .long x5)]) rfl hD (Nat.le_of_ble_eq_true rfl) rfl (fun p e s m args below meth c X => sE_order X o x1 x2 x3 x5 ho N h)
-- ExactCurves$Batch.boughtAt(J)J
theorem dq_B_boughtAt_0 : decode prog_2_method_4_code 0 = .ok (.lconst 0, 1) := by decide +kernel
theorem dq_B_boughtAt_1 : decode prog_2_method_4_code 1 = .ok (.lstore_n 3, 1) := by decide +kernel
theorem dq_B_boughtAt_2 : decode prog_2_method_4_code 2 = .ok (.iconst 0, 1) := by decide +kernel
theorem dq_B_boughtAt_3 : decode prog_2_method_4_code 3 = .ok (.istore 5, 2) := by decide +kernel
theorem dq_B_boughtAt_5 : decode prog_2_method_4_code 5 = .ok (.iload 5, 2) := by decide +kernel
theorem dq_B_boughtAt_7 : decode prog_2_method_4_code 7 = .ok (.aload_n 0, 1) := by decide +kernel
theorem dq_B_boughtAt_8 : decode prog_2_method_4_code 8 = .ok (.getfield 38, 3) := by decide +kernel
theorem dq_B_boughtAt_11 : decode prog_2_method_4_code 11 = .ok (.if_icmp .ge 41, 3) := by decide +kernel
theorem dq_B_boughtAt_14 : decode prog_2_method_4_code 14 = .ok (.aload_n 0, 1) := by decide +kernel
theorem dq_B_boughtAt_15 : decode prog_2_method_4_code 15 = .ok (.getfield 15, 3) := by decide +kernel
theorem dq_B_boughtAt_18 : decode prog_2_method_4_code 18 = .ok (.iload 5, 2) := by decide +kernel
theorem dq_B_boughtAt_20 : decode prog_2_method_4_code 20 = .ok (.baload, 1) := by decide +kernel
theorem dq_B_boughtAt_21 : decode prog_2_method_4_code 21 = .ok (.ifCond .eq 25, 3) := by decide +kernel
theorem dq_B_boughtAt_24 : decode prog_2_method_4_code 24 = .ok (.aload_n 0, 1) := by decide +kernel
theorem dq_B_boughtAt_25 : decode prog_2_method_4_code 25 = .ok (.getfield 23, 3) := by decide +kernel
theorem dq_B_boughtAt_28 : decode prog_2_method_4_code 28 = .ok (.iload 5, 2) := by decide +kernel
theorem dq_B_boughtAt_30 : decode prog_2_method_4_code 30 = .ok (.laload, 1) := by decide +kernel
theorem dq_B_boughtAt_31 : decode prog_2_method_4_code 31 = .ok (.lload_n 1, 1) := by decide +kernel
theorem dq_B_boughtAt_32 : decode prog_2_method_4_code 32 = .ok (.lcmp, 1) := by decide +kernel
theorem dq_B_boughtAt_33 : decode prog_2_method_4_code 33 = .ok (.ifCond .lt 13, 3) := by decide +kernel
theorem dq_B_boughtAt_36 : decode prog_2_method_4_code 36 = .ok (.lload_n 3, 1) := by decide +kernel
theorem dq_B_boughtAt_37 : decode prog_2_method_4_code 37 = .ok (.aload_n 0, 1) := by decide +kernel
theorem dq_B_boughtAt_38 : decode prog_2_method_4_code 38 = .ok (.getfield 19, 3) := by decide +kernel
theorem dq_B_boughtAt_41 : decode prog_2_method_4_code 41 = .ok (.iload 5, 2) := by decide +kernel
theorem dq_B_boughtAt_43 : decode prog_2_method_4_code 43 = .ok (.laload, 1) := by decide +kernel
theorem dq_B_boughtAt_44 : decode prog_2_method_4_code 44 = .ok (.ladd, 1) := by decide +kernel
theorem dq_B_boughtAt_45 : decode prog_2_method_4_code 45 = .ok (.lstore_n 3, 1) := by decide +kernel
theorem dq_B_boughtAt_46 : decode prog_2_method_4_code 46 = .ok (.iinc 5 1, 3) := by decide +kernel
theorem dq_B_boughtAt_49 : decode prog_2_method_4_code 49 = .ok (.goto (-44), 3) := by decide +kernel
theorem dq_B_boughtAt_52 : decode prog_2_method_4_code 52 = .ok (.lload_n 3, 1) := by decide +kernel
theorem dq_B_boughtAt_53 : decode prog_2_method_4_code 53 = .ok (.lreturn, 1) := by decide +kernel
def fB_boughtAt_46 (y0 : Nat) (k5 : qz_N × Int64 × Int64 × Int32 → Option (Int64 × qz_N)) (N : qz_N) (x1 : Int64) (x3 : Int64) (x5 : Int32) : Option (Int64 × qz_N) :=
  qz_let (x5 + (1 : Int32)) fun v1 =>
  k5 (N, x1, x3, v1)
def fB_boughtAt_5b (y0 : Nat) (k5 : qz_N × Int64 × Int64 × Int32 → Option (Int64 × qz_N)) (N : qz_N) (x1 : Int64) (x3 : Int64) (x5 : Int32) : Option (Int64 × qz_N) :=
  if (qz_gi N 4 y0 7) ≤ x5 then
    some (x3, N)
  else
  if x5 < 0 ∨ 40 ≤ x5.toNatClampNeg then none else
  if (qz_gi N 17 y0 x5.toNatClampNeg) = 0 then
    fB_boughtAt_46 y0 k5 N x1 x3 x5
  else
  if x5 < 0 ∨ 40 ≤ x5.toNatClampNeg then none else
  if (qz_gl N 19 y0 x5.toNatClampNeg) < x1 then
    fB_boughtAt_46 y0 k5 N x1 x3 x5
  else
  if x5 < 0 ∨ 40 ≤ x5.toNatClampNeg then none else
  qz_let (x3 + (qz_gl N 18 y0 x5.toNatClampNeg)) fun v2 =>
  fB_boughtAt_46 y0 k5 N x1 v2 x5
def fB_boughtAt_5 (y0 : Nat) (n : Nat) (a : qz_N × Int64 × Int64 × Int32) : Option (Int64 × qz_N) := qz_loop (fun k a => fB_boughtAt_5b y0 k a.1 a.2.1 a.2.2.1 a.2.2.2) n a
def fB_boughtAt (o : Nat) (x1 : Int64) (N : qz_N) : Option (Int64 × qz_N) :=
  fB_boughtAt_5 o 1100 (N, x1, (0 : Int64), (0 : Int32))
set_option maxRecDepth 100000 in
set_option maxHeartbeats 4000000 in
theorem sB_boughtAt_46 {p : Program} {l : Launch} {e : Env} {s : State} {m : MethodId} {args : Array Value} {below : List Frame} {meth : Method} {c : Code} {G : qz_G} (X : qz_X p s m args meth c "ExactCurves$Batch" prog_2_method_4_code 6 (some .long) G) {r : (Int64 × qz_N)} (y0 : Nat) (hy0 : y0 < 1) (k5 : qz_N × Int64 × Int64 × Int32 → Option (Int64 × qz_N)) (hk5 : ∀ a, k5 a = some r → qz_W p l e (qz_R 0) s m args below meth c 0 0 (MQ below (qz_Q G r.2 (some (.long r.1))) args s 0 0 (qz_A G)) G s.heap 6 a.1 5 [(1, .long a.2.1), (3, .long a.2.2.1), (5, .int a.2.2.2), (0, .ref (G.2.2 4 y0))] []) (N : qz_N) (x1 : Int64) (x3 : Int64) (x5 : Int32) (h : fB_boughtAt_46 y0 k5 N x1 x3 x5 = some r) : qz_W p l e (qz_R 0) s m args below meth c 0 0 (MQ below (qz_Q G r.2 (some (.long r.1))) args s 0 0 (qz_A G)) G s.heap 6 N 46 [(1, .long x1), (3, .long x3), (5, .int x5), (0, .ref (G.2.2 4 y0))] [] := by
  unfold fB_boughtAt_46 at h
  refine qz_iinc_l X (u := (1 : Int32)) (lv' := fun v1 => [(5, .int v1), (1, .long x1), (3, .long x3), (0, .ref (G.2.2 4 y0))]) (k := 2) rfl (by decide) (by decide) (fun _ => rfl) dq_B_boughtAt_46 h (fun v1 h => ?_)
  refine qz_goto X (tgt := 5) (by decide) dq_B_boughtAt_49 ?_
  refine qz_sub [1, 2, 0, 3] rfl ?_
  exact hk5 (N, x1, x3, v1) h
set_option maxRecDepth 100000 in
set_option maxHeartbeats 4000000 in
theorem sB_boughtAt_5b {p : Program} {l : Launch} {e : Env} {s : State} {m : MethodId} {args : Array Value} {below : List Frame} {meth : Method} {c : Code} {G : qz_G} (X : qz_X p s m args meth c "ExactCurves$Batch" prog_2_method_4_code 6 (some .long) G) {r : (Int64 × qz_N)} (y0 : Nat) (hy0 : y0 < 1) (k5 : qz_N × Int64 × Int64 × Int32 → Option (Int64 × qz_N)) (hk5 : ∀ a, k5 a = some r → qz_W p l e (qz_R 0) s m args below meth c 0 0 (MQ below (qz_Q G r.2 (some (.long r.1))) args s 0 0 (qz_A G)) G s.heap 6 a.1 5 [(1, .long a.2.1), (3, .long a.2.2.1), (5, .int a.2.2.2), (0, .ref (G.2.2 4 y0))] []) (N : qz_N) (x1 : Int64) (x3 : Int64) (x5 : Int32) (h : fB_boughtAt_5b y0 k5 N x1 x3 x5 = some r) : qz_W p l e (qz_R 0) s m args below meth c 0 0 (MQ below (qz_Q G r.2 (some (.long r.1))) args s 0 0 (qz_A G)) G s.heap 6 N 5 [(1, .long x1), (3, .long x3), (5, .int x5), (0, .ref (G.2.2 4 y0))] [] := by
  unfold fB_boughtAt_5b at h
  refine qz_iload X 2 rfl dq_B_boughtAt_5 ?_
  refine qz_aload_n X 3 rfl dq_B_boughtAt_7 ?_
  refine qz_get X (v := .int (qz_gi N 4 y0 7)) kq_B_38 hy0 rfl dq_B_boughtAt_8 ?_
  refine qz_icmp_ge X (tgt := 52) (by decide) dq_B_boughtAt_11 h (fun _ h => ?_) (fun _ h => ?_)
  · refine qz_lload_n X 1 rfl dq_B_boughtAt_52 ?_
    exact qz_lret X h dq_B_boughtAt_53
  · refine qz_aload_n X 3 rfl dq_B_boughtAt_14 ?_
    refine qz_get X (v := .ref (G.2.2 17 y0)) kq_B_15 hy0 rfl dq_B_boughtAt_15 ?_
    refine qz_iload X 2 rfl dq_B_boughtAt_18 ?_
    refine qz_zald X (c0 := 17) (i := y0) (n := 40) rfl hy0 dq_B_boughtAt_20 h (fun h => ?_)
    refine qz_if_eq X (tgt := 46) (by decide) dq_B_boughtAt_21 h (fun _ h => ?_) (fun _ h => ?_)
    · refine qz_sub [0, 1, 2, 3] rfl ?_
      exact sB_boughtAt_46 X y0 hy0 k5 hk5 N x1 x3 x5 h
    · refine qz_aload_n X 3 rfl dq_B_boughtAt_24 ?_
      refine qz_get X (v := .ref (G.2.2 19 y0)) kq_B_23 hy0 rfl dq_B_boughtAt_25 ?_
      refine qz_iload X 2 rfl dq_B_boughtAt_28 ?_
      refine qz_lald X (c0 := 19) (i := y0) (n := 40) rfl hy0 dq_B_boughtAt_30 h (fun h => ?_)
      refine qz_lload_n X 0 rfl dq_B_boughtAt_31 ?_
      refine qz_lcmp_lt X (tgt := 46) (by decide) dq_B_boughtAt_32 dq_B_boughtAt_33 h (fun _ h => ?_) (fun _ h => ?_)
      · refine qz_sub [0, 1, 2, 3] rfl ?_
        exact sB_boughtAt_46 X y0 hy0 k5 hk5 N x1 x3 x5 h
      · refine qz_lload_n X 1 rfl dq_B_boughtAt_36 ?_
        refine qz_aload_n X 3 rfl dq_B_boughtAt_37 ?_
        refine qz_get X (v := .ref (G.2.2 18 y0)) kq_B_19 hy0 rfl dq_B_boughtAt_38 ?_
        refine qz_iload X 2 rfl dq_B_boughtAt_41 ?_
        refine qz_lald X (c0 := 18) (i := y0) (n := 40) rfl hy0 dq_B_boughtAt_43 h (fun h => ?_)
        refine qz_ladd X dq_B_boughtAt_44 ?_
        refine qz_letj h (fun v2 h => ?_)
        refine qz_lstore_n X (lv' := [(3, .long v2), (1, .long x1), (5, .int x5), (0, .ref (G.2.2 4 y0))]) rfl (by decide) rfl dq_B_boughtAt_45 ?_
        refine qz_sub [1, 0, 2, 3] rfl ?_
        exact sB_boughtAt_46 X y0 hy0 k5 hk5 N x1 v2 x5 h
theorem sB_boughtAt_5 {p : Program} {l : Launch} {e : Env} {s : State} {m : MethodId} {args : Array Value} {below : List Frame} {meth : Method} {c : Code} {G : qz_G} (X : qz_X p s m args meth c "ExactCurves$Batch" prog_2_method_4_code 6 (some .long) G) {r : (Int64 × qz_N)} (y0 : Nat) (hy0 : y0 < 1) (n : Nat) (a : qz_N × Int64 × Int64 × Int32) (h : fB_boughtAt_5 y0 n a = some r) : qz_W p l e (qz_R 0) s m args below meth c 0 0 (MQ below (qz_Q G r.2 (some (.long r.1))) args s 0 0 (qz_A G)) G s.heap 6 a.1 5 [(1, .long a.2.1), (3, .long a.2.2.1), (5, .int a.2.2.2), (0, .ref (G.2.2 4 y0))] [] :=
  qz_loop_ind (P := fun a => qz_W p l e (qz_R 0) s m args below meth c 0 0 (MQ below (qz_Q G r.2 (some (.long r.1))) args s 0 0 (qz_A G)) G s.heap 6 a.1 5 [(1, .long a.2.1), (3, .long a.2.2.1), (5, .int a.2.2.2), (0, .ref (G.2.2 4 y0))] []) (fun k hk a h => sB_boughtAt_5b X y0 hy0 k hk a.1 a.2.1 a.2.2.1 a.2.2.2 h) n a h
set_option maxRecDepth 100000 in
set_option maxHeartbeats 4000000 in
theorem sB_boughtAt {p : Program} {l : Launch} {e : Env} {s : State} {m : MethodId} {args : Array Value} {below : List Frame} {meth : Method} {c : Code} {G : qz_G} (X : qz_X p s m args meth c "ExactCurves$Batch" prog_2_method_4_code 6 (some .long) G) {r : (Int64 × qz_N)} (o : Nat) (x1 : Int64) (ho : o < 1) (N : qz_N) (h : fB_boughtAt o x1 N = some r) : qz_W p l e (qz_R 0) s m args below meth c 0 0 (MQ below (qz_Q G r.2 (some (.long r.1))) args s 0 0 (qz_A G)) G s.heap 6 N 0 [(0, .ref (G.2.2 4 o)), (1, .long x1)] [] := by
  unfold fB_boughtAt at h
  refine qz_lconst X (v := (0 : Int64)) (by decide) dq_B_boughtAt_0 ?_
  refine qz_lstore_n X (lv' := [(3, .long (0 : Int64)), (0, .ref (G.2.2 4 o)), (1, .long x1)]) rfl (by decide) rfl dq_B_boughtAt_1 ?_
  refine qz_iconst X (v := (0 : Int32)) (by decide) dq_B_boughtAt_2 ?_
  refine qz_istore X (lv' := [(5, .int (0 : Int32)), (3, .long (0 : Int64)), (0, .ref (G.2.2 4 o)), (1, .long x1)]) (by decide) rfl dq_B_boughtAt_3 ?_
  refine qz_sub [3, 1, 0, 2] rfl ?_
  exact sB_boughtAt_5 X o ho 1100 (N, x1, (0 : Int64), (0 : Int32)) h
theorem cB_boughtAt (l : Launch) (G : qz_G) (hD : qz_D G) (o : Nat) (x1 : Int64) (N : qz_N) (ho : o < 1) (r : (Int64 × qz_N)) (h : fB_boughtAt o x1 N = some r) : qz_M l yB_boughtAt prog_2_method_4_code 6 (some .long) 0 G [.ref (G.2.2 4 o), .long x1] N (some (.long r.1)) r.2 :=
  qz_enter (lv := [(0, .ref (G.2.2 4 o)), (1, .long x1)]) rfl hD (Nat.le_of_ble_eq_true rfl) rfl (fun p e s m args below meth c X => sB_boughtAt X o x1 ho N h)
