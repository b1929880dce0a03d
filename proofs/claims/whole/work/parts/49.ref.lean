-- ExactCurvesModel.valueOf(IIJ)J
theorem dq_M_valueOf_0 : decode prog_10_method_51_code 0 = .ok (.aload_n 0, 1) := by decide +kernel
theorem dq_M_valueOf_1 : decode prog_10_method_51_code 1 = .ok (.getfield 26, 3) := by decide +kernel
theorem dq_M_valueOf_4 : decode prog_10_method_51_code 4 = .ok (.iconst 2, 1) := by decide +kernel
theorem dq_M_valueOf_5 : decode prog_10_method_51_code 5 = .ok (.iload_n 1, 1) := by decide +kernel
theorem dq_M_valueOf_6 : decode prog_10_method_51_code 6 = .ok (.imul, 1) := by decide +kernel
theorem dq_M_valueOf_7 : decode prog_10_method_51_code 7 = .ok (.iload_n 2, 1) := by decide +kernel
theorem dq_M_valueOf_8 : decode prog_10_method_51_code 8 = .ok (.iadd, 1) := by decide +kernel
theorem dq_M_valueOf_9 : decode prog_10_method_51_code 9 = .ok (.laload, 1) := by decide +kernel
theorem dq_M_valueOf_10 : decode prog_10_method_51_code 10 = .ok (.lstore 5, 2) := by decide +kernel
theorem dq_M_valueOf_12 : decode prog_10_method_51_code 12 = .ok (.lload 5, 2) := by decide +kernel
theorem dq_M_valueOf_14 : decode prog_10_method_51_code 14 = .ok (.lconst 0, 1) := by decide +kernel
theorem dq_M_valueOf_15 : decode prog_10_method_51_code 15 = .ok (.lcmp, 1) := by decide +kernel
theorem dq_M_valueOf_16 : decode prog_10_method_51_code 16 = .ok (.ifCond .ne 5, 3) := by decide +kernel
theorem dq_M_valueOf_19 : decode prog_10_method_51_code 19 = .ok (.lconst 0, 1) := by decide +kernel
theorem dq_M_valueOf_20 : decode prog_10_method_51_code 20 = .ok (.lreturn, 1) := by decide +kernel
theorem dq_M_valueOf_21 : decode prog_10_method_51_code 21 = .ok (.aload_n 0, 1) := by decide +kernel
theorem dq_M_valueOf_22 : decode prog_10_method_51_code 22 = .ok (.lload_n 3, 1) := by decide +kernel
theorem dq_M_valueOf_23 : decode prog_10_method_51_code 23 = .ok (.invokevirtual 130, 3) := by decide +kernel
theorem dq_M_valueOf_26 : decode prog_10_method_51_code 26 = .ok (.aload_n 0, 1) := by decide +kernel
theorem dq_M_valueOf_27 : decode prog_10_method_51_code 27 = .ok (.aload_n 0, 1) := by decide +kernel
theorem dq_M_valueOf_28 : decode prog_10_method_51_code 28 = .ok (.getfield 26, 3) := by decide +kernel
theorem dq_M_valueOf_31 : decode prog_10_method_51_code 31 = .ok (.iconst 2, 1) := by decide +kernel
theorem dq_M_valueOf_32 : decode prog_10_method_51_code 32 = .ok (.iload_n 1, 1) := by decide +kernel
theorem dq_M_valueOf_33 : decode prog_10_method_51_code 33 = .ok (.imul, 1) := by decide +kernel
theorem dq_M_valueOf_34 : decode prog_10_method_51_code 34 = .ok (.iconst 1, 1) := by decide +kernel
theorem dq_M_valueOf_35 : decode prog_10_method_51_code 35 = .ok (.iadd, 1) := by decide +kernel
theorem dq_M_valueOf_36 : decode prog_10_method_51_code 36 = .ok (.iload_n 2, 1) := by decide +kernel
theorem dq_M_valueOf_37 : decode prog_10_method_51_code 37 = .ok (.isub, 1) := by decide +kernel
theorem dq_M_valueOf_38 : decode prog_10_method_51_code 38 = .ok (.laload, 1) := by decide +kernel
theorem dq_M_valueOf_39 : decode prog_10_method_51_code 39 = .ok (.invokevirtual 134, 3) := by decide +kernel
theorem dq_M_valueOf_42 : decode prog_10_method_51_code 42 = .ok (.aload_n 0, 1) := by decide +kernel
theorem dq_M_valueOf_43 : decode prog_10_method_51_code 43 = .ok (.invokevirtual 189, 3) := by decide +kernel
theorem dq_M_valueOf_46 : decode prog_10_method_51_code 46 = .ok (.aload_n 0, 1) := by decide +kernel
theorem dq_M_valueOf_47 : decode prog_10_method_51_code 47 = .ok (.ldc2_w 261, 3) := by decide +kernel
theorem dq_M_valueOf_50 : decode prog_10_method_51_code 50 = .ok (.invokevirtual 130, 3) := by decide +kernel
theorem dq_M_valueOf_53 : decode prog_10_method_51_code 53 = .ok (.aload_n 0, 1) := by decide +kernel
theorem dq_M_valueOf_54 : decode prog_10_method_51_code 54 = .ok (.lload 5, 2) := by decide +kernel
theorem dq_M_valueOf_56 : decode prog_10_method_51_code 56 = .ok (.invokevirtual 134, 3) := by decide +kernel
theorem dq_M_valueOf_59 : decode prog_10_method_51_code 59 = .ok (.aload_n 0, 1) := by decide +kernel
theorem dq_M_valueOf_60 : decode prog_10_method_51_code 60 = .ok (.invokevirtual 192, 3) := by decide +kernel
theorem dq_M_valueOf_63 : decode prog_10_method_51_code 63 = .ok (.ifCond .ne 7, 3) := by decide +kernel
theorem dq_M_valueOf_66 : decode prog_10_method_51_code 66 = .ok (.ldc2_w 261, 3) := by decide +kernel
theorem dq_M_valueOf_69 : decode prog_10_method_51_code 69 = .ok (.lreturn, 1) := by decide +kernel
theorem dq_M_valueOf_70 : decode prog_10_method_51_code 70 = .ok (.aload_n 0, 1) := by decide +kernel
theorem dq_M_valueOf_71 : decode prog_10_method_51_code 71 = .ok (.lload_n 3, 1) := by decide +kernel
theorem dq_M_valueOf_72 : decode prog_10_method_51_code 72 = .ok (.aload_n 0, 1) := by decide +kernel
theorem dq_M_valueOf_73 : decode prog_10_method_51_code 73 = .ok (.getfield 26, 3) := by decide +kernel
theorem dq_M_valueOf_76 : decode prog_10_method_51_code 76 = .ok (.iconst 2, 1) := by decide +kernel
theorem dq_M_valueOf_77 : decode prog_10_method_51_code 77 = .ok (.iload_n 1, 1) := by decide +kernel
theorem dq_M_valueOf_78 : decode prog_10_method_51_code 78 = .ok (.imul, 1) := by decide +kernel
theorem dq_M_valueOf_79 : decode prog_10_method_51_code 79 = .ok (.iconst 1, 1) := by decide +kernel
theorem dq_M_valueOf_80 : decode prog_10_method_51_code 80 = .ok (.iadd, 1) := by decide +kernel
theorem dq_M_valueOf_81 : decode prog_10_method_51_code 81 = .ok (.iload_n 2, 1) := by decide +kernel
theorem dq_M_valueOf_82 : decode prog_10_method_51_code 82 = .ok (.isub, 1) := by decide +kernel
theorem dq_M_valueOf_83 : decode prog_10_method_51_code 83 = .ok (.laload, 1) := by decide +kernel
theorem dq_M_valueOf_84 : decode prog_10_method_51_code 84 = .ok (.lload 5, 2) := by decide +kernel
theorem dq_M_valueOf_86 : decode prog_10_method_51_code 86 = .ok (.invokevirtual 141, 3) := by decide +kernel
theorem dq_M_valueOf_89 : decode prog_10_method_51_code 89 = .ok (.lreturn, 1) := by decide +kernel
def fM_valueOf (o : Nat) (x1 : Int32) (x2 : Int32) (x3 : Int64) (N : qz_N) : Option (Int64 × qz_N) :=
  if (((2 : Int32) * x1) + x2) < 0 ∨ 12 ≤ (((2 : Int32) * x1) + x2).toNatClampNeg then none else
  qz_let (qz_gl N 27 o (((2 : Int32) * x1) + x2).toNatClampNeg) fun v1 =>
  if v1 = (0 : Int64) then
    some ((0 : Int64), N)
  else
  (fM_begin o x3 N).bind fun q2 =>
  if ((((2 : Int32) * x1) + (1 : Int32)) - x2) < 0 ∨ 12 ≤ ((((2 : Int32) * x1) + (1 : Int32)) - x2).toNatClampNeg then none else
  (fM_times o (qz_gl q2.2 27 o ((((2 : Int32) * x1) + (1 : Int32)) - x2).toNatClampNeg) q2.2).bind fun q4 =>
  (fM_keepBig o q4.2).bind fun q6 =>
  (fM_begin o (1000000000000000000 : Int64) q6.2).bind fun q8 =>
  (fM_times o v1 q8.2).bind fun q10 =>
  (fM_keptIsLess o q10.2).bind fun q12 =>
  if q12.1 = 0 then
    some ((1000000000000000000 : Int64), q12.2)
  else
  if ((((2 : Int32) * x1) + (1 : Int32)) - x2) < 0 ∨ 12 ≤ ((((2 : Int32) * x1) + (1 : Int32)) - x2).toNatClampNeg then none else
  (fM_part o x3 (qz_gl q12.2 27 o ((((2 : Int32) * x1) + (1 : Int32)) - x2).toNatClampNeg) v1 q12.2).bind fun q14 =>
  some (q14.1, q14.2)
set_option maxRecDepth 100000 in
set_option maxHeartbeats 4000000 in
theorem sM_valueOf {p : Program} {l : Launch} {e : Env} {s : State} {m : MethodId} {args : Array Value} {below : List Frame} {meth : Method} {c : Code} {G : qz_G} (X : qz_X p s m args meth c "ExactCurvesModel" prog_10_method_51_code 7 (some .long) G) {r : (Int64 × qz_N)} (o : Nat) (x1 : Int32) (x2 : Int32) (x3 : Int64) (ho : o < 1) (N : qz_N) (h : fM_valueOf o x1 x2 x3 N = some r) : qz_W p l e (qz_R 2) s m args below meth c 0 0 (MQ below (qz_Q G r.2 (some (.long r.1))) args s 0 0 (qz_A G)) G s.heap 7 N 0 [(0, .ref (G.2.2 7 o)), (1, .int x1), (2, .int x2), (3, .long x3)] [] := by
  unfold fM_valueOf at h
  refine qz_aload_n X 0 rfl dq_M_valueOf_0 ?_
  refine qz_get X (v := .ref (G.2.2 27 o)) kq_M_26 ho rfl dq_M_valueOf_1 ?_
  refine qz_iconst X (v := (2 : Int32)) (by decide) dq_M_valueOf_4 ?_
  refine qz_iload_n X 1 rfl dq_M_valueOf_5 ?_
  refine qz_imul X dq_M_valueOf_6 ?_
  refine qz_iload_n X 2 rfl dq_M_valueOf_7 ?_
  refine qz_iadd X dq_M_valueOf_8 ?_
  refine qz_lald X (c0 := 27) (i := o) (n := 12) rfl ho dq_M_valueOf_9 h (fun h => ?_)
  refine qz_letj h (fun v1 h => ?_)
  refine qz_lstore X (lv' := [(5, .long v1), (0, .ref (G.2.2 7 o)), (1, .int x1), (2, .int x2), (3, .long x3)]) (by decide) rfl dq_M_valueOf_10 ?_
  refine qz_lload X 0 rfl dq_M_valueOf_12 ?_
  refine qz_lconst X (v := (0 : Int64)) (by decide) dq_M_valueOf_14 ?_
  refine qz_lcmp_ne X (tgt := 21) (by decide) dq_M_valueOf_15 dq_M_valueOf_16 h (fun _ h => ?_) (fun _ h => ?_)
  · refine qz_aload_n X 1 rfl dq_M_valueOf_21 ?_
    refine qz_lload_n X 4 rfl dq_M_valueOf_22 ?_
    refine qz_bind h (fun q2 e3 h => ?_)
    refine qz_callV X (as := [.long x3]) (st := []) (o := none) (N' := q2.2) cq_M_130 ho (cM_begin l G X.2.2.2.2.2.2.1 o x3 N ho _ e3) ⟨by decide, by decide⟩ rfl rfl (Nat.le_of_ble_eq_true rfl) ⟨Nat.zero_le _, Nat.zero_le _⟩ dq_M_valueOf_23 ?_
    refine qz_aload_n X 1 rfl dq_M_valueOf_26 ?_
    refine qz_aload_n X 1 rfl dq_M_valueOf_27 ?_
    refine qz_get X (v := .ref (G.2.2 27 o)) kq_M_26 ho rfl dq_M_valueOf_28 ?_
    refine qz_iconst X (v := (2 : Int32)) (by decide) dq_M_valueOf_31 ?_
    refine qz_iload_n X 2 rfl dq_M_valueOf_32 ?_
    refine qz_imul X dq_M_valueOf_33 ?_
    refine qz_iconst X (v := (1 : Int32)) (by decide) dq_M_valueOf_34 ?_
    refine qz_iadd X dq_M_valueOf_35 ?_
    refine qz_iload_n X 3 rfl dq_M_valueOf_36 ?_
    refine qz_isub X dq_M_valueOf_37 ?_
    refine qz_lald X (c0 := 27) (i := o) (n := 12) rfl ho dq_M_valueOf_38 h (fun h => ?_)
    refine qz_bind h (fun q4 e5 h => ?_)
    refine qz_callV X (as := [.long (qz_gl q2.2 27 o ((((2 : Int32) * x1) + (1 : Int32)) - x2).toNatClampNeg)]) (st := []) (o := none) (N' := q4.2) cq_M_134 ho (cM_times l G X.2.2.2.2.2.2.1 o (qz_gl q2.2 27 o ((((2 : Int32) * x1) + (1 : Int32)) - x2).toNatClampNeg) q2.2 ho _ e5) ⟨by decide, by decide⟩ rfl rfl (Nat.le_of_ble_eq_true rfl) ⟨Nat.zero_le _, Nat.zero_le _⟩ dq_M_valueOf_39 ?_
    refine qz_aload_n X 1 rfl dq_M_valueOf_42 ?_
    refine qz_bind h (fun q6 e7 h => ?_)
    refine qz_callV X (as := []) (st := []) (o := none) (N' := q6.2) cq_M_189 ho (cM_keepBig l G X.2.2.2.2.2.2.1 o q4.2 ho _ e7) ⟨by decide, by decide⟩ rfl rfl (Nat.le_of_ble_eq_true rfl) ⟨Nat.zero_le _, Nat.zero_le _⟩ dq_M_valueOf_43 ?_
    refine qz_aload_n X 1 rfl dq_M_valueOf_46 ?_
    refine qz_ldc2 X (v := (1000000000000000000 : Int64)) wq_944 dq_M_valueOf_47 ?_
    refine qz_bind h (fun q8 e9 h => ?_)
    refine qz_callV X (as := [.long (1000000000000000000 : Int64)]) (st := []) (o := none) (N' := q8.2) cq_M_130 ho (cM_begin l G X.2.2.2.2.2.2.1 o (1000000000000000000 : Int64) q6.2 ho _ e9) ⟨by decide, by decide⟩ rfl rfl (Nat.le_of_ble_eq_true rfl) ⟨Nat.zero_le _, Nat.zero_le _⟩ dq_M_valueOf_50 ?_
    refine qz_aload_n X 1 rfl dq_M_valueOf_53 ?_
    refine qz_lload X 0 rfl dq_M_valueOf_54 ?_
    refine qz_bind h (fun q10 e11 h => ?_)
    refine qz_callV X (as := [.long v1]) (st := []) (o := none) (N' := q10.2) cq_M_134 ho (cM_times l G X.2.2.2.2.2.2.1 o v1 q8.2 ho _ e11) ⟨by decide, by decide⟩ rfl rfl (Nat.le_of_ble_eq_true rfl) ⟨Nat.zero_le _, Nat.zero_le _⟩ dq_M_valueOf_56 ?_
    refine qz_aload_n X 1 rfl dq_M_valueOf_59 ?_
    refine qz_bind h (fun q12 e13 h => ?_)
    refine qz_callV X (as := []) (st := []) (o := some (.int q12.1)) (N' := q12.2) cq_M_192 ho (cM_keptIsLess l G X.2.2.2.2.2.2.1 o q10.2 ho _ e13) ⟨by decide, by decide⟩ rfl rfl (Nat.le_of_ble_eq_true rfl) ⟨Nat.zero_le _, Nat.zero_le _⟩ dq_M_valueOf_60 ?_
    refine qz_if_ne X (tgt := 70) (by decide) dq_M_valueOf_63 h (fun _ h => ?_) (fun _ h => ?_)
    · refine qz_aload_n X 1 rfl dq_M_valueOf_70 ?_
      refine qz_lload_n X 4 rfl dq_M_valueOf_71 ?_
      refine qz_aload_n X 1 rfl dq_M_valueOf_72 ?_
      refine qz_get X (v := .ref (G.2.2 27 o)) kq_M_26 ho rfl dq_M_valueOf_73 ?_
      refine qz_iconst X (v := (2 : Int32)) (by decide) dq_M_valueOf_76 ?_
      refine qz_iload_n X 2 rfl dq_M_valueOf_77 ?_
      refine qz_imul X dq_M_valueOf_78 ?_
      refine qz_iconst X (v := (1 : Int32)) (by decide) dq_M_valueOf_79 ?_
      refine qz_iadd X dq_M_valueOf_80 ?_
      refine qz_iload_n X 3 rfl dq_M_valueOf_81 ?_
      refine qz_isub X dq_M_valueOf_82 ?_
      refine qz_lald X (c0 := 27) (i := o) (n := 12) rfl ho dq_M_valueOf_83 h (fun h => ?_)
      refine qz_lload X 0 rfl dq_M_valueOf_84 ?_
      refine qz_bind h (fun q14 e15 h => ?_)
      refine qz_callV X (as := [.long x3, .long (qz_gl q12.2 27 o ((((2 : Int32) * x1) + (1 : Int32)) - x2).toNatClampNeg), .long v1]) (st := []) (o := some (.long q14.1)) (N' := q14.2) cq_M_141 ho (cM_part l G X.2.2.2.2.2.2.1 o x3 (qz_gl q12.2 27 o ((((2 : Int32) * x1) + (1 : Int32)) - x2).toNatClampNeg) v1 q12.2 ho _ e15) ⟨by decide, by decide⟩ rfl rfl (Nat.le_of_ble_eq_true rfl) ⟨Nat.zero_le _, Nat.zero_le _⟩ dq_M_valueOf_86 ?_
      exact qz_lret X h dq_M_valueOf_89
    · refine qz_ldc2 X (v := (1000000000000000000 : Int64)) wq_944 dq_M_valueOf_66 ?_
      exact qz_lret X h dq_M_valueOf_69
  · refine qz_lconst X (v := (0 : Int64)) (by decide) dq_M_valueOf_19 ?_
    exact qz_lret X h dq_M_valueOf_20
theorem cM_valueOf (l : Launch) (G : qz_G) (hD : qz_D G) (o : Nat) (x1 : Int32) (x2 : Int32) (x3 : Int64) (N : qz_N) (ho : o < 1) (r : (Int64 × qz_N)) (h : fM_valueOf o x1 x2 x3 N = some r) : qz_M l yM_valueOf prog_10_method_51_code 7 (some .long) 2 G [.ref (G.2.2 7 o), .int x1, .int x2, .long x3] N (some (.long r.1)) r.2 :=
  qz_enter (lv := [(0, .ref (G.2.2 7 o)), (1, .int x1), (2, .int x2), (3, .long x3)]) rfl hD (Nat.le_of_ble_eq_true rfl) rfl (fun p e s m args below meth c X => sM_valueOf X o x1 x2 x3 ho N h)
-- ExactCurvesModel.isAbove(JJJJ)Z
theorem dq_M_isAbove_0 : decode prog_10_method_52_code 0 = .ok (.aload_n 0, 1) := by decide +kernel
theorem dq_M_isAbove_1 : decode prog_10_method_52_code 1 = .ok (.lload 5, 2) := by decide +kernel
theorem dq_M_isAbove_3 : decode prog_10_method_52_code 3 = .ok (.invokevirtual 130, 3) := by decide +kernel
theorem dq_M_isAbove_6 : decode prog_10_method_52_code 6 = .ok (.aload_n 0, 1) := by decide +kernel
theorem dq_M_isAbove_7 : decode prog_10_method_52_code 7 = .ok (.lload 7, 2) := by decide +kernel
theorem dq_M_isAbove_9 : decode prog_10_method_52_code 9 = .ok (.invokevirtual 134, 3) := by decide +kernel
theorem dq_M_isAbove_12 : decode prog_10_method_52_code 12 = .ok (.aload_n 0, 1) := by decide +kernel
theorem dq_M_isAbove_13 : decode prog_10_method_52_code 13 = .ok (.invokevirtual 189, 3) := by decide +kernel
theorem dq_M_isAbove_16 : decode prog_10_method_52_code 16 = .ok (.aload_n 0, 1) := by decide +kernel
theorem dq_M_isAbove_17 : decode prog_10_method_52_code 17 = .ok (.lload_n 1, 1) := by decide +kernel
theorem dq_M_isAbove_18 : decode prog_10_method_52_code 18 = .ok (.invokevirtual 130, 3) := by decide +kernel
theorem dq_M_isAbove_21 : decode prog_10_method_52_code 21 = .ok (.aload_n 0, 1) := by decide +kernel
theorem dq_M_isAbove_22 : decode prog_10_method_52_code 22 = .ok (.lload_n 3, 1) := by decide +kernel
theorem dq_M_isAbove_23 : decode prog_10_method_52_code 23 = .ok (.invokevirtual 134, 3) := by decide +kernel
theorem dq_M_isAbove_26 : decode prog_10_method_52_code 26 = .ok (.aload_n 0, 1) := by decide +kernel
theorem dq_M_isAbove_27 : decode prog_10_method_52_code 27 = .ok (.invokevirtual 192, 3) := by decide +kernel
theorem dq_M_isAbove_30 : decode prog_10_method_52_code 30 = .ok (.ireturn, 1) := by decide +kernel
def fM_isAbove (o : Nat) (x1 : Int64) (x3 : Int64) (x5 : Int64) (x7 : Int64) (N : qz_N) : Option (Int32 × qz_N) :=
  (fM_begin o x5 N).bind fun q1 =>
  (fM_times o x7 q1.2).bind fun q3 =>
  (fM_keepBig o q3.2).bind fun q5 =>
  (fM_begin o x1 q5.2).bind fun q7 =>
  (fM_times o x3 q7.2).bind fun q9 =>
  (fM_keptIsLess o q9.2).bind fun q11 =>
  if vp_nar .boolean q11.1 = q11.1 then some (q11.1, q11.2) else none
set_option maxRecDepth 100000 in
set_option maxHeartbeats 4000000 in
theorem sM_isAbove {p : Program} {l : Launch} {e : Env} {s : State} {m : MethodId} {args : Array Value} {below : List Frame} {meth : Method} {c : Code} {G : qz_G} (X : qz_X p s m args meth c "ExactCurvesModel" prog_10_method_52_code 9 (some .boolean) G) {r : (Int32 × qz_N)} (o : Nat) (x1 : Int64) (x3 : Int64) (x5 : Int64) (x7 : Int64) (ho : o < 1) (N : qz_N) (h : fM_isAbove o x1 x3 x5 x7 N = some r) : qz_W p l e (qz_R 1) s m args below meth c 0 0 (MQ below (qz_Q G r.2 (some (.int r.1))) args s 0 0 (qz_A G)) G s.heap 9 N 0 [(0, .ref (G.2.2 7 o)), (1, .long x1), (3, .long x3), (5, .long x5), (7, .long x7)] [] := by
  unfold fM_isAbove at h
  refine qz_aload_n X 0 rfl dq_M_isAbove_0 ?_
  refine qz_lload X 3 rfl dq_M_isAbove_1 ?_
  refine qz_bind h (fun q1 e2 h => ?_)
  refine qz_callV X (as := [.long x5]) (st := []) (o := none) (N' := q1.2) cq_M_130 ho (cM_begin l G X.2.2.2.2.2.2.1 o x5 N ho _ e2) ⟨by decide, by decide⟩ rfl rfl (Nat.le_of_ble_eq_true rfl) ⟨Nat.zero_le _, Nat.zero_le _⟩ dq_M_isAbove_3 ?_
  refine qz_aload_n X 0 rfl dq_M_isAbove_6 ?_
  refine qz_lload X 4 rfl dq_M_isAbove_7 ?_
  refine qz_bind h (fun q3 e4 h => ?_)
  refine qz_callV X (as := [.long x7]) (st := []) (o := none) (N' := q3.2) cq_M_134 ho (cM_times l G X.2.2.2.2.2.2.1 o x7 q1.2 ho _ e4) ⟨by decide, by decide⟩ rfl rfl (Nat.le_of_ble_eq_true rfl) ⟨Nat.zero_le _, Nat.zero_le _⟩ dq_M_isAbove_9 ?_
  refine qz_aload_n X 0 rfl dq_M_isAbove_12 ?_
  refine qz_bind h (fun q5 e6 h => ?_)
  refine qz_callV X (as := []) (st := []) (o := none) (N' := q5.2) cq_M_189 ho (cM_keepBig l G X.2.2.2.2.2.2.1 o q3.2 ho _ e6) ⟨by decide, by decide⟩ rfl rfl (Nat.le_of_ble_eq_true rfl) ⟨Nat.zero_le _, Nat.zero_le _⟩ dq_M_isAbove_13 ?_
  refine qz_aload_n X 0 rfl dq_M_isAbove_16 ?_
  refine qz_lload_n X 1 rfl dq_M_isAbove_17 ?_
  refine qz_bind h (fun q7 e8 h => ?_)
  refine qz_callV X (as := [.long x1]) (st := []) (o := none) (N' := q7.2) cq_M_130 ho (cM_begin l G X.2.2.2.2.2.2.1 o x1 q5.2 ho _ e8) ⟨by decide, by decide⟩ rfl rfl (Nat.le_of_ble_eq_true rfl) ⟨Nat.zero_le _, Nat.zero_le _⟩ dq_M_isAbove_18 ?_
  refine qz_aload_n X 0 rfl dq_M_isAbove_21 ?_
  refine qz_lload_n X 2 rfl dq_M_isAbove_22 ?_
  refine qz_bind h (fun q9 e10 h => ?_)
  refine qz_callV X (as := [.long x3]) (st := []) (o := none) (N' := q9.2) cq_M_134 ho (cM_times l G X.2.2.2.2.2.2.1 o x3 q7.2 ho _ e10) ⟨by decide, by decide⟩ rfl rfl (Nat.le_of_ble_eq_true rfl) ⟨Nat.zero_le _, Nat.zero_le _⟩ dq_M_isAbove_23 ?_
  refine qz_aload_n X 0 rfl dq_M_isAbove_26 ?_
  refine qz_bind h (fun q11 e12 h => ?_)
  refine qz_callV X (as := []) (st := []) (o := some (.int q11.1)) (N' := q11.2) cq_M_192 ho (cM_keptIsLess l G X.2.2.2.2.2.2.1 o q9.2 ho _ e12) ⟨by decide, by decide⟩ rfl rfl (Nat.le_of_ble_eq_true rfl) ⟨Nat.zero_le _, Nat.zero_le _⟩ dq_M_isAbove_27 ?_
  exact qz_zretc X h dq_M_isAbove_30
theorem cM_isAbove (l : Launch) (G : qz_G) (hD : qz_D G) (o : Nat) (x1 : Int64) (x3 : Int64) (x5 : Int64) (x7 : Int64) (N : qz_N) (ho : o < 1) (r : (Int32 × qz_N)) (h : fM_isAbove o x1 x3 x5 x7 N = some r) : qz_M l yM_isAbove prog_10_method_52_code 9 (some .boolean) 1 G [.ref (G.2.2 7 o), .long x1, .long x3, .long x5, .long x7] N (some (.int r.1)) r.2 :=
  qz_enter (lv := [(0, .ref (G.2.2 7 o)), (1, .long x1), (3, .long x3), (5, .long x5), (7, .long x7)]) rfl hD (Nat.le_of_ble_eq_true rfl) rfl (fun p e s m args below meth c X => sM_isAbove X o x1 x3 x5 x7 ho N h)
-- ExactCurvesModel.coverValue(I)J
theorem dq_M_coverValue_0 : decode prog_10_method_53_code 0 = .ok (.aload_n 0, 1) := by decide +kernel
theorem dq_M_coverValue_1 : decode prog_10_method_53_code 1 = .ok (.aload_n 0, 1) := by decide +kernel
theorem dq_M_coverValue_2 : decode prog_10_method_53_code 2 = .ok (.getfield 94, 3) := by decide +kernel
theorem dq_M_coverValue_5 : decode prog_10_method_53_code 5 = .ok (.iload_n 1, 1) := by decide +kernel
theorem dq_M_coverValue_6 : decode prog_10_method_53_code 6 = .ok (.iaload, 1) := by decide +kernel
theorem dq_M_coverValue_7 : decode prog_10_method_53_code 7 = .ok (.aload_n 0, 1) := by decide +kernel
theorem dq_M_coverValue_8 : decode prog_10_method_53_code 8 = .ok (.getfield 97, 3) := by decide +kernel
theorem dq_M_coverValue_11 : decode prog_10_method_53_code 11 = .ok (.iload_n 1, 1) := by decide +kernel
theorem dq_M_coverValue_12 : decode prog_10_method_53_code 12 = .ok (.iaload, 1) := by decide +kernel
theorem dq_M_coverValue_13 : decode prog_10_method_53_code 13 = .ok (.aload_n 0, 1) := by decide +kernel
theorem dq_M_coverValue_14 : decode prog_10_method_53_code 14 = .ok (.getfield 100, 3) := by decide +kernel
theorem dq_M_coverValue_17 : decode prog_10_method_53_code 17 = .ok (.iload_n 1, 1) := by decide +kernel
theorem dq_M_coverValue_18 : decode prog_10_method_53_code 18 = .ok (.laload, 1) := by decide +kernel
theorem dq_M_coverValue_19 : decode prog_10_method_53_code 19 = .ok (.invokevirtual 263, 3) := by decide +kernel
theorem dq_M_coverValue_22 : decode prog_10_method_53_code 22 = .ok (.lreturn, 1) := by decide +kernel
def fM_coverValue (o : Nat) (x1 : Int32) (N : qz_N) : Option (Int64 × qz_N) :=
  if x1 < 0 ∨ 10 ≤ x1.toNatClampNeg then none else
  if x1 < 0 ∨ 10 ≤ x1.toNatClampNeg then none else
  if x1 < 0 ∨ 10 ≤ x1.toNatClampNeg then none else
  (fM_valueOf o (qz_gi N 48 o x1.toNatClampNeg) (qz_gi N 49 o x1.toNatClampNeg) (qz_gl N 50 o x1.toNatClampNeg) N).bind fun q1 =>
  some (q1.1, q1.2)
set_option maxRecDepth 100000 in
set_option maxHeartbeats 4000000 in
theorem sM_coverValue {p : Program} {l : Launch} {e : Env} {s : State} {m : MethodId} {args : Array Value} {below : List Frame} {meth : Method} {c : Code} {G : qz_G} (X : qz_X p s m args meth c "ExactCurvesModel" prog_10_method_53_code 2 (some .long) G) {r : (Int64 × qz_N)} (o : Nat) (x1 : Int32) (ho : o < 1) (N : qz_N) (h : fM_coverValue o x1 N = some r) : qz_W p l e (qz_R 3) s m args below meth c 0 0 (MQ below (qz_Q G r.2 (some (.long r.1))) args s 0 0 (qz_A G)) G s.heap 2 N 0 [(0, .ref (G.2.2 7 o)), (1, .int x1)] [] := by
  unfold fM_coverValue at h
  refine qz_aload_n X 0 rfl dq_M_coverValue_0 ?_
  refine qz_aload_n X 0 rfl dq_M_coverValue_1 ?_
  refine qz_get X (v := .ref (G.2.2 48 o)) kq_M_94 ho rfl dq_M_coverValue_2 ?_
  refine qz_iload_n X 1 rfl dq_M_coverValue_5 ?_
  refine qz_iald X (c0 := 48) (i := o) (n := 10) rfl ho dq_M_coverValue_6 h (fun h => ?_)
  refine qz_aload_n X 0 rfl dq_M_coverValue_7 ?_
  refine qz_get X (v := .ref (G.2.2 49 o)) kq_M_97 ho rfl dq_M_coverValue_8 ?_
  refine qz_iload_n X 1 rfl dq_M_coverValue_11 ?_
  refine qz_iald X (c0 := 49) (i := o) (n := 10) rfl ho dq_M_coverValue_12 h (fun h => ?_)
  refine qz_aload_n X 0 rfl dq_M_coverValue_13 ?_
  refine qz_get X (v := .ref (G.2.2 50 o)) kq_M_100 ho rfl dq_M_coverValue_14 ?_
  refine qz_iload_n X 1 rfl dq_M_coverValue_17 ?_
  refine qz_lald X (c0 := 50) (i := o) (n := 10) rfl ho dq_M_coverValue_18 h (fun h => ?_)
  refine qz_bind h (fun q1 e2 h => ?_)
  refine qz_callV X (as := [.int (qz_gi N 48 o x1.toNatClampNeg), .int (qz_gi N 49 o x1.toNatClampNeg), .long (qz_gl N 50 o x1.toNatClampNeg)]) (st := []) (o := some (.long q1.1)) (N' := q1.2) cq_M_263 ho (cM_valueOf l G X.2.2.2.2.2.2.1 o (qz_gi N 48 o x1.toNatClampNeg) (qz_gi N 49 o x1.toNatClampNeg) (qz_gl N 50 o x1.toNatClampNeg) N ho _ e2) ⟨by decide, by decide⟩ rfl rfl (Nat.le_of_ble_eq_true rfl) ⟨Nat.zero_le _, Nat.zero_le _⟩ dq_M_coverValue_19 ?_
  exact qz_lret X h dq_M_coverValue_22
theorem cM_coverValue (l : Launch) (G : qz_G) (hD : qz_D G) (o : Nat) (x1 : Int32) (N : qz_N) (ho : o < 1) (r : (Int64 × qz_N)) (h : fM_coverValue o x1 N = some r) : qz_M l yM_coverValue prog_10_method_53_code 2 (some .long) 3 G [.ref (G.2.2 7 o), .int x1] N (some (.long r.1)) r.2 :=
  qz_enter (lv := [(0, .ref (G.2.2 7 o)), (1, .int x1)]) rfl hD (Nat.le_of_ble_eq_true rfl) rfl (fun p e s m args below meth c X => sM_coverValue X o x1 ho N h)
-- ExactCurvesModel.isUncovered(I)Z
theorem dq_M_isUncovered_0 : decode prog_10_method_54_code 0 = .ok (.aload_n 0, 1) := by decide +kernel
theorem dq_M_isUncovered_1 : decode prog_10_method_54_code 1 = .ok (.ldc2_w 266, 3) := by decide +kernel
theorem dq_M_isUncovered_4 : decode prog_10_method_54_code 4 = .ok (.aload_n 0, 1) := by decide +kernel
theorem dq_M_isUncovered_5 : decode prog_10_method_54_code 5 = .ok (.iload_n 1, 1) := by decide +kernel
theorem dq_M_isUncovered_6 : decode prog_10_method_54_code 6 = .ok (.invokevirtual 255, 3) := by decide +kernel
theorem dq_M_isUncovered_9 : decode prog_10_method_54_code 9 = .ok (.ldc2_w 268, 3) := by decide +kernel
theorem dq_M_isUncovered_12 : decode prog_10_method_54_code 12 = .ok (.aload_n 0, 1) := by decide +kernel
theorem dq_M_isUncovered_13 : decode prog_10_method_54_code 13 = .ok (.iload_n 1, 1) := by decide +kernel
theorem dq_M_isUncovered_14 : decode prog_10_method_54_code 14 = .ok (.invokevirtual 270, 3) := by decide +kernel
theorem dq_M_isUncovered_17 : decode prog_10_method_54_code 17 = .ok (.invokevirtual 273, 3) := by decide +kernel
theorem dq_M_isUncovered_20 : decode prog_10_method_54_code 20 = .ok (.ireturn, 1) := by decide +kernel
def fM_isUncovered (o : Nat) (x1 : Int32) (N : qz_N) : Option (Int32 × qz_N) :=
  (fM_debtOf o x1 N).bind fun q1 =>
  (fM_coverValue o x1 q1.2).bind fun q3 =>
  (fM_isAbove o (100 : Int64) q1.1 (80 : Int64) q3.1 q3.2).bind fun q5 =>
  if vp_nar .boolean q5.1 = q5.1 then some (q5.1, q5.2) else none
set_option maxRecDepth 100000 in
set_option maxHeartbeats 4000000 in
theorem sM_isUncovered {p : Program} {l : Launch} {e : Env} {s : State} {m : MethodId} {args : Array Value} {below : List Frame} {meth : Method} {c : Code} {G : qz_G} (X : qz_X p s m args meth c "ExactCurvesModel" prog_10_method_54_code 2 (some .boolean) G) {r : (Int32 × qz_N)} (o : Nat) (x1 : Int32) (ho : o < 1) (N : qz_N) (h : fM_isUncovered o x1 N = some r) : qz_W p l e (qz_R 4) s m args below meth c 0 0 (MQ below (qz_Q G r.2 (some (.int r.1))) args s 0 0 (qz_A G)) G s.heap 2 N 0 [(0, .ref (G.2.2 7 o)), (1, .int x1)] [] := by
  unfold fM_isUncovered at h
  refine qz_aload_n X 0 rfl dq_M_isUncovered_0 ?_
  refine qz_ldc2 X (v := (100 : Int64)) wq_938 dq_M_isUncovered_1 ?_
  refine qz_aload_n X 0 rfl dq_M_isUncovered_4 ?_
  refine qz_iload_n X 1 rfl dq_M_isUncovered_5 ?_
  refine qz_bind h (fun q1 e2 h => ?_)
  refine qz_callV X (as := [.int x1]) (st := [.long (100 : Int64), .ref (G.2.2 7 o)]) (o := some (.long q1.1)) (N' := q1.2) cq_M_255 ho (cM_debtOf l G X.2.2.2.2.2.2.1 o x1 N ho _ e2) ⟨by decide, by decide⟩ rfl rfl (Nat.le_of_ble_eq_true rfl) ⟨Nat.zero_le _, Nat.zero_le _⟩ dq_M_isUncovered_6 ?_
  refine qz_ldc2 X (v := (80 : Int64)) wq_965 dq_M_isUncovered_9 ?_
  refine qz_aload_n X 0 rfl dq_M_isUncovered_12 ?_
  refine qz_iload_n X 1 rfl dq_M_isUncovered_13 ?_
  refine qz_bind h (fun q3 e4 h => ?_)
  refine qz_callV X (as := [.int x1]) (st := [.long (80 : Int64), .long q1.1, .long (100 : Int64), .ref (G.2.2 7 o)]) (o := some (.long q3.1)) (N' := q3.2) cq_M_270 ho (cM_coverValue l G X.2.2.2.2.2.2.1 o x1 q1.2 ho _ e4) ⟨by decide, by decide⟩ rfl rfl (Nat.le_of_ble_eq_true rfl) ⟨Nat.zero_le _, Nat.zero_le _⟩ dq_M_isUncovered_14 ?_
  refine qz_bind h (fun q5 e6 h => ?_)
  refine qz_callV X (as := [.long (100 : Int64), .long q1.1, .long (80 : Int64), .long q3.1]) (st := []) (o := some (.int q5.1)) (N' := q5.2) cq_M_273 ho (cM_isAbove l G X.2.2.2.2.2.2.1 o (100 : Int64) q1.1 (80 : Int64) q3.1 q3.2 ho _ e6) ⟨by decide, by decide⟩ rfl rfl (Nat.le_of_ble_eq_true rfl) ⟨Nat.zero_le _, Nat.zero_le _⟩ dq_M_isUncovered_17 ?_
  exact qz_zretc X h dq_M_isUncovered_20
theorem cM_isUncovered (l : Launch) (G : qz_G) (hD : qz_D G) (o : Nat) (x1 : Int32) (N : qz_N) (ho : o < 1) (r : (Int32 × qz_N)) (h : fM_isUncovered o x1 N = some r) : qz_M l yM_isUncovered prog_10_method_54_code 2 (some .boolean) 4 G [.ref (G.2.2 7 o), .int x1] N (some (.int r.1)) r.2 :=
  qz_enter (lv := [(0, .ref (G.2.2 7 o)), (1, .int x1)]) rfl hD (Nat.le_of_ble_eq_true rfl) rfl (fun p e s m args below meth c X => sM_isUncovered X o x1 ho N h)
-- ExactCurvesModel.loan(IIIJJ)I
theorem dq_M_loan_0 : decode prog_10_method_55_code 0 = .ok (.iload_n 1, 1) := by decide +kernel
theorem dq_M_loan_1 : decode prog_10_method_55_code 1 = .ok (.invokestatic 166, 3) := by decide +kernel
theorem dq_M_loan_4 : decode prog_10_method_55_code 4 = .ok (.ifCond .eq 32, 3) := by decide +kernel
theorem dq_M_loan_7 : decode prog_10_method_55_code 7 = .ok (.aload_n 0, 1) := by decide +kernel
theorem dq_M_loan_8 : decode prog_10_method_55_code 8 = .ok (.iload_n 2, 1) := by decide +kernel
theorem dq_M_loan_9 : decode prog_10_method_55_code 9 = .ok (.invokevirtual 186, 3) := by decide +kernel
theorem dq_M_loan_12 : decode prog_10_method_55_code 12 = .ok (.ifCond .eq 24, 3) := by decide +kernel
theorem dq_M_loan_15 : decode prog_10_method_55_code 15 = .ok (.iload_n 3, 1) := by decide +kernel
theorem dq_M_loan_16 : decode prog_10_method_55_code 16 = .ok (.invokestatic 208, 3) := by decide +kernel
theorem dq_M_loan_19 : decode prog_10_method_55_code 19 = .ok (.ifCond .eq 17, 3) := by decide +kernel
theorem dq_M_loan_22 : decode prog_10_method_55_code 22 = .ok (.lload 4, 2) := by decide +kernel
theorem dq_M_loan_24 : decode prog_10_method_55_code 24 = .ok (.lconst 1, 1) := by decide +kernel
theorem dq_M_loan_25 : decode prog_10_method_55_code 25 = .ok (.lcmp, 1) := by decide +kernel
theorem dq_M_loan_26 : decode prog_10_method_55_code 26 = .ok (.ifCond .lt 10, 3) := by decide +kernel
theorem dq_M_loan_29 : decode prog_10_method_55_code 29 = .ok (.lload 6, 2) := by decide +kernel
theorem dq_M_loan_31 : decode prog_10_method_55_code 31 = .ok (.lconst 1, 1) := by decide +kernel
theorem dq_M_loan_32 : decode prog_10_method_55_code 32 = .ok (.lcmp, 1) := by decide +kernel
theorem dq_M_loan_33 : decode prog_10_method_55_code 33 = .ok (.ifCond .ge 6, 3) := by decide +kernel
theorem dq_M_loan_36 : decode prog_10_method_55_code 36 = .ok (.bipush (-2), 2) := by decide +kernel
theorem dq_M_loan_38 : decode prog_10_method_55_code 38 = .ok (.ireturn, 1) := by decide +kernel
theorem dq_M_loan_39 : decode prog_10_method_55_code 39 = .ok (.iconst 0, 1) := by decide +kernel
theorem dq_M_loan_40 : decode prog_10_method_55_code 40 = .ok (.istore 8, 2) := by decide +kernel
theorem dq_M_loan_42 : decode prog_10_method_55_code 42 = .ok (.iload 8, 2) := by decide +kernel
theorem dq_M_loan_44 : decode prog_10_method_55_code 44 = .ok (.bipush 10, 2) := by decide +kernel
theorem dq_M_loan_46 : decode prog_10_method_55_code 46 = .ok (.if_icmp .ge 19, 3) := by decide +kernel
theorem dq_M_loan_49 : decode prog_10_method_55_code 49 = .ok (.aload_n 0, 1) := by decide +kernel
theorem dq_M_loan_50 : decode prog_10_method_55_code 50 = .ok (.getfield 88, 3) := by decide +kernel
theorem dq_M_loan_53 : decode prog_10_method_55_code 53 = .ok (.iload 8, 2) := by decide +kernel
theorem dq_M_loan_55 : decode prog_10_method_55_code 55 = .ok (.baload, 1) := by decide +kernel
theorem dq_M_loan_56 : decode prog_10_method_55_code 56 = .ok (.ifCond .eq 9, 3) := by decide +kernel
theorem dq_M_loan_59 : decode prog_10_method_55_code 59 = .ok (.iinc 8 1, 3) := by decide +kernel
theorem dq_M_loan_62 : decode prog_10_method_55_code 62 = .ok (.goto (-20), 3) := by decide +kernel
theorem dq_M_loan_65 : decode prog_10_method_55_code 65 = .ok (.aload_n 0, 1) := by decide +kernel
theorem dq_M_loan_66 : decode prog_10_method_55_code 66 = .ok (.getfield 16, 3) := by decide +kernel
theorem dq_M_loan_69 : decode prog_10_method_55_code 69 = .ok (.iconst 2, 1) := by decide +kernel
theorem dq_M_loan_70 : decode prog_10_method_55_code 70 = .ok (.iload_n 2, 1) := by decide +kernel
theorem dq_M_loan_71 : decode prog_10_method_55_code 71 = .ok (.imul, 1) := by decide +kernel
theorem dq_M_loan_72 : decode prog_10_method_55_code 72 = .ok (.iload_n 3, 1) := by decide +kernel
theorem dq_M_loan_73 : decode prog_10_method_55_code 73 = .ok (.iadd, 1) := by decide +kernel
theorem dq_M_loan_74 : decode prog_10_method_55_code 74 = .ok (.iaload, 1) := by decide +kernel
theorem dq_M_loan_75 : decode prog_10_method_55_code 75 = .ok (.istore 9, 2) := by decide +kernel
theorem dq_M_loan_77 : decode prog_10_method_55_code 77 = .ok (.aload_n 0, 1) := by decide +kernel
theorem dq_M_loan_78 : decode prog_10_method_55_code 78 = .ok (.getfield 16, 3) := by decide +kernel
theorem dq_M_loan_81 : decode prog_10_method_55_code 81 = .ok (.iconst 2, 1) := by decide +kernel
theorem dq_M_loan_82 : decode prog_10_method_55_code 82 = .ok (.iload_n 2, 1) := by decide +kernel
theorem dq_M_loan_83 : decode prog_10_method_55_code 83 = .ok (.imul, 1) := by decide +kernel
theorem dq_M_loan_84 : decode prog_10_method_55_code 84 = .ok (.iconst 1, 1) := by decide +kernel
theorem dq_M_loan_85 : decode prog_10_method_55_code 85 = .ok (.iadd, 1) := by decide +kernel
theorem dq_M_loan_86 : decode prog_10_method_55_code 86 = .ok (.iload_n 3, 1) := by decide +kernel
theorem dq_M_loan_87 : decode prog_10_method_55_code 87 = .ok (.isub, 1) := by decide +kernel
theorem dq_M_loan_88 : decode prog_10_method_55_code 88 = .ok (.iaload, 1) := by decide +kernel
theorem dq_M_loan_89 : decode prog_10_method_55_code 89 = .ok (.istore 10, 2) := by decide +kernel
theorem dq_M_loan_91 : decode prog_10_method_55_code 91 = .ok (.iload 8, 2) := by decide +kernel
theorem dq_M_loan_93 : decode prog_10_method_55_code 93 = .ok (.bipush 10, 2) := by decide +kernel
theorem dq_M_loan_95 : decode prog_10_method_55_code 95 = .ok (.if_icmp .eq 52, 3) := by decide +kernel
theorem dq_M_loan_98 : decode prog_10_method_55_code 98 = .ok (.aload_n 0, 1) := by decide +kernel
theorem dq_M_loan_99 : decode prog_10_method_55_code 99 = .ok (.iload_n 1, 1) := by decide +kernel
theorem dq_M_loan_100 : decode prog_10_method_55_code 100 = .ok (.iload 9, 2) := by decide +kernel
theorem dq_M_loan_102 : decode prog_10_method_55_code 102 = .ok (.invokevirtual 148, 3) := by decide +kernel
theorem dq_M_loan_105 : decode prog_10_method_55_code 105 = .ok (.lload 4, 2) := by decide +kernel
theorem dq_M_loan_107 : decode prog_10_method_55_code 107 = .ok (.lcmp, 1) := by decide +kernel
theorem dq_M_loan_108 : decode prog_10_method_55_code 108 = .ok (.ifCond .lt 39, 3) := by decide +kernel
theorem dq_M_loan_111 : decode prog_10_method_55_code 111 = .ok (.aload_n 0, 1) := by decide +kernel
theorem dq_M_loan_112 : decode prog_10_method_55_code 112 = .ok (.getfield 73, 3) := by decide +kernel
theorem dq_M_loan_115 : decode prog_10_method_55_code 115 = .ok (.iload 10, 2) := by decide +kernel
theorem dq_M_loan_117 : decode prog_10_method_55_code 117 = .ok (.laload, 1) := by decide +kernel
theorem dq_M_loan_118 : decode prog_10_method_55_code 118 = .ok (.lload 6, 2) := by decide +kernel
theorem dq_M_loan_120 : decode prog_10_method_55_code 120 = .ok (.lcmp, 1) := by decide +kernel
theorem dq_M_loan_121 : decode prog_10_method_55_code 121 = .ok (.ifCond .lt 26, 3) := by decide +kernel
theorem dq_M_loan_124 : decode prog_10_method_55_code 124 = .ok (.aload_n 0, 1) := by decide +kernel
theorem dq_M_loan_125 : decode prog_10_method_55_code 125 = .ok (.ldc2_w 266, 3) := by decide +kernel
theorem dq_M_loan_128 : decode prog_10_method_55_code 128 = .ok (.lload 6, 2) := by decide +kernel
theorem dq_M_loan_130 : decode prog_10_method_55_code 130 = .ok (.ldc2_w 277, 3) := by decide +kernel
theorem dq_M_loan_133 : decode prog_10_method_55_code 133 = .ok (.aload_n 0, 1) := by decide +kernel
theorem dq_M_loan_134 : decode prog_10_method_55_code 134 = .ok (.iload_n 2, 1) := by decide +kernel
theorem dq_M_loan_135 : decode prog_10_method_55_code 135 = .ok (.iload_n 3, 1) := by decide +kernel
theorem dq_M_loan_136 : decode prog_10_method_55_code 136 = .ok (.lload 4, 2) := by decide +kernel
theorem dq_M_loan_138 : decode prog_10_method_55_code 138 = .ok (.invokevirtual 263, 3) := by decide +kernel
theorem dq_M_loan_141 : decode prog_10_method_55_code 141 = .ok (.invokevirtual 273, 3) := by decide +kernel
theorem dq_M_loan_144 : decode prog_10_method_55_code 144 = .ok (.ifCond .eq 6, 3) := by decide +kernel
theorem dq_M_loan_147 : decode prog_10_method_55_code 147 = .ok (.bipush (-3), 2) := by decide +kernel
theorem dq_M_loan_149 : decode prog_10_method_55_code 149 = .ok (.ireturn, 1) := by decide +kernel
theorem dq_M_loan_150 : decode prog_10_method_55_code 150 = .ok (.aload_n 0, 1) := by decide +kernel
theorem dq_M_loan_151 : decode prog_10_method_55_code 151 = .ok (.getfield 88, 3) := by decide +kernel
theorem dq_M_loan_154 : decode prog_10_method_55_code 154 = .ok (.iload 8, 2) := by decide +kernel
theorem dq_M_loan_156 : decode prog_10_method_55_code 156 = .ok (.iconst 1, 1) := by decide +kernel
theorem dq_M_loan_157 : decode prog_10_method_55_code 157 = .ok (.bastore, 1) := by decide +kernel
theorem dq_M_loan_158 : decode prog_10_method_55_code 158 = .ok (.aload_n 0, 1) := by decide +kernel
theorem dq_M_loan_159 : decode prog_10_method_55_code 159 = .ok (.getfield 91, 3) := by decide +kernel
theorem dq_M_loan_162 : decode prog_10_method_55_code 162 = .ok (.iload 8, 2) := by decide +kernel
theorem dq_M_loan_164 : decode prog_10_method_55_code 164 = .ok (.iload_n 1, 1) := by decide +kernel
theorem dq_M_loan_165 : decode prog_10_method_55_code 165 = .ok (.iastore, 1) := by decide +kernel
theorem dq_M_loan_166 : decode prog_10_method_55_code 166 = .ok (.aload_n 0, 1) := by decide +kernel
theorem dq_M_loan_167 : decode prog_10_method_55_code 167 = .ok (.getfield 94, 3) := by decide +kernel
theorem dq_M_loan_170 : decode prog_10_method_55_code 170 = .ok (.iload 8, 2) := by decide +kernel
theorem dq_M_loan_172 : decode prog_10_method_55_code 172 = .ok (.iload_n 2, 1) := by decide +kernel
theorem dq_M_loan_173 : decode prog_10_method_55_code 173 = .ok (.iastore, 1) := by decide +kernel
theorem dq_M_loan_174 : decode prog_10_method_55_code 174 = .ok (.aload_n 0, 1) := by decide +kernel
theorem dq_M_loan_175 : decode prog_10_method_55_code 175 = .ok (.getfield 97, 3) := by decide +kernel
theorem dq_M_loan_178 : decode prog_10_method_55_code 178 = .ok (.iload 8, 2) := by decide +kernel
theorem dq_M_loan_180 : decode prog_10_method_55_code 180 = .ok (.iload_n 3, 1) := by decide +kernel
theorem dq_M_loan_181 : decode prog_10_method_55_code 181 = .ok (.iastore, 1) := by decide +kernel
theorem dq_M_loan_182 : decode prog_10_method_55_code 182 = .ok (.aload_n 0, 1) := by decide +kernel
theorem dq_M_loan_183 : decode prog_10_method_55_code 183 = .ok (.getfield 100, 3) := by decide +kernel
theorem dq_M_loan_186 : decode prog_10_method_55_code 186 = .ok (.iload 8, 2) := by decide +kernel
theorem dq_M_loan_188 : decode prog_10_method_55_code 188 = .ok (.lload 4, 2) := by decide +kernel
theorem dq_M_loan_190 : decode prog_10_method_55_code 190 = .ok (.lastore, 1) := by decide +kernel
theorem dq_M_loan_191 : decode prog_10_method_55_code 191 = .ok (.aload_n 0, 1) := by decide +kernel
theorem dq_M_loan_192 : decode prog_10_method_55_code 192 = .ok (.getfield 103, 3) := by decide +kernel
theorem dq_M_loan_195 : decode prog_10_method_55_code 195 = .ok (.iload 8, 2) := by decide +kernel
theorem dq_M_loan_197 : decode prog_10_method_55_code 197 = .ok (.aload_n 0, 1) := by decide +kernel
theorem dq_M_loan_198 : decode prog_10_method_55_code 198 = .ok (.lload 6, 2) := by decide +kernel
theorem dq_M_loan_200 : decode prog_10_method_55_code 200 = .ok (.ldc2_w 118, 3) := by decide +kernel
theorem dq_M_loan_203 : decode prog_10_method_55_code 203 = .ok (.aload_n 0, 1) := by decide +kernel
theorem dq_M_loan_204 : decode prog_10_method_55_code 204 = .ok (.getfield 82, 3) := by decide +kernel
theorem dq_M_loan_207 : decode prog_10_method_55_code 207 = .ok (.iload 10, 2) := by decide +kernel
theorem dq_M_loan_209 : decode prog_10_method_55_code 209 = .ok (.laload, 1) := by decide +kernel
theorem dq_M_loan_210 : decode prog_10_method_55_code 210 = .ok (.invokevirtual 203, 3) := by decide +kernel
theorem dq_M_loan_213 : decode prog_10_method_55_code 213 = .ok (.lastore, 1) := by decide +kernel
theorem dq_M_loan_214 : decode prog_10_method_55_code 214 = .ok (.aload_n 0, 1) := by decide +kernel
theorem dq_M_loan_215 : decode prog_10_method_55_code 215 = .ok (.iload_n 1, 1) := by decide +kernel
theorem dq_M_loan_216 : decode prog_10_method_55_code 216 = .ok (.iload 9, 2) := by decide +kernel
theorem dq_M_loan_218 : decode prog_10_method_55_code 218 = .ok (.lload 4, 2) := by decide +kernel
theorem dq_M_loan_220 : decode prog_10_method_55_code 220 = .ok (.lneg, 1) := by decide +kernel
theorem dq_M_loan_221 : decode prog_10_method_55_code 221 = .ok (.invokevirtual 182, 3) := by decide +kernel
theorem dq_M_loan_224 : decode prog_10_method_55_code 224 = .ok (.aload_n 0, 1) := by decide +kernel
theorem dq_M_loan_225 : decode prog_10_method_55_code 225 = .ok (.iload_n 1, 1) := by decide +kernel
theorem dq_M_loan_226 : decode prog_10_method_55_code 226 = .ok (.iload 10, 2) := by decide +kernel
theorem dq_M_loan_228 : decode prog_10_method_55_code 228 = .ok (.lload 6, 2) := by decide +kernel
theorem dq_M_loan_230 : decode prog_10_method_55_code 230 = .ok (.invokevirtual 182, 3) := by decide +kernel
theorem dq_M_loan_233 : decode prog_10_method_55_code 233 = .ok (.aload_n 0, 1) := by decide +kernel
theorem dq_M_loan_234 : decode prog_10_method_55_code 234 = .ok (.getfield 73, 3) := by decide +kernel
theorem dq_M_loan_237 : decode prog_10_method_55_code 237 = .ok (.iload 10, 2) := by decide +kernel
theorem dq_M_loan_239 : decode prog_10_method_55_code 239 = .ok (.dup2, 1) := by decide +kernel
theorem dq_M_loan_240 : decode prog_10_method_55_code 240 = .ok (.laload, 1) := by decide +kernel
theorem dq_M_loan_241 : decode prog_10_method_55_code 241 = .ok (.lload 6, 2) := by decide +kernel
theorem dq_M_loan_243 : decode prog_10_method_55_code 243 = .ok (.lsub, 1) := by decide +kernel
theorem dq_M_loan_244 : decode prog_10_method_55_code 244 = .ok (.lastore, 1) := by decide +kernel
theorem dq_M_loan_245 : decode prog_10_method_55_code 245 = .ok (.iload 8, 2) := by decide +kernel
theorem dq_M_loan_247 : decode prog_10_method_55_code 247 = .ok (.ireturn, 1) := by decide +kernel
def fM_loan_65 (y0 : Nat) (N : qz_N) (x1 : Int32) (x2 : Int32) (x3 : Int32) (x4 : Int64) (x6 : Int64) (x8 : Int32) : Option (Int32 × qz_N) :=
  if (((2 : Int32) * x2) + x3) < 0 ∨ 12 ≤ (((2 : Int32) * x2) + x3).toNatClampNeg then none else
  qz_let (qz_gi N 24 y0 (((2 : Int32) * x2) + x3).toNatClampNeg) fun v7 =>
  if ((((2 : Int32) * x2) + (1 : Int32)) - x3) < 0 ∨ 12 ≤ ((((2 : Int32) * x2) + (1 : Int32)) - x3).toNatClampNeg then none else
  qz_let (qz_gi N 24 y0 ((((2 : Int32) * x2) + (1 : Int32)) - x3).toNatClampNeg) fun v8 =>
  if x8 = (10 : Int32) then
    some ((-3 : Int32), N)
  else
  (fM_has y0 x1 v7 N).bind fun q9 =>
  if q9.1 < x4 then
    some ((-3 : Int32), q9.2)
  else
  if v8 < 0 ∨ 4 ≤ v8.toNatClampNeg then none else
  if (qz_gl q9.2 41 y0 v8.toNatClampNeg) < x6 then
    some ((-3 : Int32), q9.2)
  else
  (fM_valueOf y0 x2 x3 x4 q9.2).bind fun q11 =>
  (fM_isAbove y0 (100 : Int64) x6 (60 : Int64) q11.1 q11.2).bind fun q13 =>
  if q13.1 = 0 then
    if x8 < 0 ∨ 10 ≤ x8.toNatClampNeg then none else
    qz_let (qz_si q13.2 46 y0 x8.toNatClampNeg (vp_nar .boolean (1 : Int32))) fun N15 =>
    if x8 < 0 ∨ 10 ≤ x8.toNatClampNeg then none else
    qz_let (qz_si N15 47 y0 x8.toNatClampNeg x1) fun N16 =>
    if x8 < 0 ∨ 10 ≤ x8.toNatClampNeg then none else
    qz_let (qz_si N16 48 y0 x8.toNatClampNeg x2) fun N17 =>
    if x8 < 0 ∨ 10 ≤ x8.toNatClampNeg then none else
    qz_let (qz_si N17 49 y0 x8.toNatClampNeg x3) fun N18 =>
    if x8 < 0 ∨ 10 ≤ x8.toNatClampNeg then none else
    qz_let (qz_sl N18 50 y0 x8.toNatClampNeg x4) fun N19 =>
    if v8 < 0 ∨ 4 ≤ v8.toNatClampNeg then none else
    (fM_partUp y0 x6 (1000000000 : Int64) (qz_gl N19 44 y0 v8.toNatClampNeg) N19).bind fun q20 =>
    if x8 < 0 ∨ 10 ≤ x8.toNatClampNeg then none else
    qz_let (qz_sl q20.2 51 y0 x8.toNatClampNeg q20.1) fun N22 =>
    (fM_give y0 x1 v7 (-x4) N22).bind fun q23 =>
    (fM_give y0 x1 v8 x6 q23.2).bind fun q25 =>
    if v8 < 0 ∨ 4 ≤ v8.toNatClampNeg then none else
    if v8 < 0 ∨ 4 ≤ v8.toNatClampNeg then none else
    qz_let (qz_sl q25.2 41 y0 v8.toNatClampNeg ((qz_gl q25.2 41 y0 v8.toNatClampNeg) - x6)) fun N27 =>
    some (x8, N27)
  else
  some ((-3 : Int32), q13.2)
def fM_loan_42b (y0 : Nat) (k42 : qz_N × Int32 × Int32 × Int32 × Int64 × Int64 × Int32 → Option (Int32 × qz_N)) (N : qz_N) (x1 : Int32) (x2 : Int32) (x3 : Int32) (x4 : Int64) (x6 : Int64) (x8 : Int32) : Option (Int32 × qz_N) :=
  if (10 : Int32) ≤ x8 then
    fM_loan_65 y0 N x1 x2 x3 x4 x6 x8
  else
  if x8 < 0 ∨ 10 ≤ x8.toNatClampNeg then none else
  if (qz_gi N 46 y0 x8.toNatClampNeg) = 0 then
    fM_loan_65 y0 N x1 x2 x3 x4 x6 x8
  else
  qz_let (x8 + (1 : Int32)) fun v28 =>
  k42 (N, x1, x2, x3, x4, x6, v28)
def fM_loan_42 (y0 : Nat) (n : Nat) (a : qz_N × Int32 × Int32 × Int32 × Int64 × Int64 × Int32) : Option (Int32 × qz_N) := qz_loop (fun k a => fM_loan_42b y0 k a.1 a.2.1 a.2.2.1 a.2.2.2.1 a.2.2.2.2.1 a.2.2.2.2.2.1 a.2.2.2.2.2.2) n a
def fM_loan (o : Nat) (x1 : Int32) (x2 : Int32) (x3 : Int32) (x4 : Int64) (x6 : Int64) (N : qz_N) : Option (Int32 × qz_N) :=
  (fM_isPlayer x1 N).bind fun q1 =>
  if q1.1 = 0 then
    some ((-2 : Int32), q1.2)
  else
  (fM_isPool o x2 q1.2).bind fun q3 =>
  if q3.1 = 0 then
    some ((-2 : Int32), q3.2)
  else
  (fM_isSide x3 q3.2).bind fun q5 =>
  if q5.1 = 0 then
    some ((-2 : Int32), q5.2)
  else
  if x4 < (1 : Int64) then
    some ((-2 : Int32), q5.2)
  else
  if (1 : Int64) ≤ x6 then
    fM_loan_42 o 1100 (q5.2, x1, x2, x3, x4, x6, (0 : Int32))
  else
  some ((-2 : Int32), q5.2)
set_option maxRecDepth 100000 in
set_option maxHeartbeats 4000000 in
theorem sM_loan_65 {p : Program} {l : Launch} {e : Env} {s : State} {m : MethodId} {args : Array Value} {below : List Frame} {meth : Method} {c : Code} {G : qz_G} (X : qz_X p s m args meth c "ExactCurvesModel" prog_10_method_55_code 11 (some .int) G) {r : (Int32 × qz_N)} (y0 : Nat) (hy0 : y0 < 1) (N : qz_N) (x1 : Int32) (x2 : Int32) (x3 : Int32) (x4 : Int64) (x6 : Int64) (x8 : Int32) (h : fM_loan_65 y0 N x1 x2 x3 x4 x6 x8 = some r) : qz_W p l e (qz_R 3) s m args below meth c 0 0 (MQ below (qz_Q G r.2 (some (.int r.1))) args s 0 0 (qz_A G)) G s.heap 11 N 65 [(1, .int x1), (2, .int x2), (3, .int x3), (4, .long x4), (6, .long x6), (8, .int x8), (0, .ref (G.2.2 7 y0))] [] := by
  unfold fM_loan_65 at h
  refine qz_aload_n X 6 rfl dq_M_loan_65 ?_
  refine qz_get X (v := .ref (G.2.2 24 y0)) kq_M_16 hy0 rfl dq_M_loan_66 ?_
  refine qz_iconst X (v := (2 : Int32)) (by decide) dq_M_loan_69 ?_
  refine qz_iload_n X 1 rfl dq_M_loan_70 ?_
  refine qz_imul X dq_M_loan_71 ?_
  refine qz_iload_n X 2 rfl dq_M_loan_72 ?_
  refine qz_iadd X dq_M_loan_73 ?_
  refine qz_iald X (c0 := 24) (i := y0) (n := 12) rfl hy0 dq_M_loan_74 h (fun h => ?_)
  refine qz_leti h (fun v7 h => ?_)
  refine qz_istore X (lv' := [(9, .int v7), (1, .int x1), (2, .int x2), (3, .int x3), (4, .long x4), (6, .long x6), (8, .int x8), (0, .ref (G.2.2 7 y0))]) (by decide) rfl dq_M_loan_75 ?_
  refine qz_aload_n X 7 rfl dq_M_loan_77 ?_
  refine qz_get X (v := .ref (G.2.2 24 y0)) kq_M_16 hy0 rfl dq_M_loan_78 ?_
  refine qz_iconst X (v := (2 : Int32)) (by decide) dq_M_loan_81 ?_
  refine qz_iload_n X 2 rfl dq_M_loan_82 ?_
  refine qz_imul X dq_M_loan_83 ?_
  refine qz_iconst X (v := (1 : Int32)) (by decide) dq_M_loan_84 ?_
  refine qz_iadd X dq_M_loan_85 ?_
  refine qz_iload_n X 3 rfl dq_M_loan_86 ?_
  refine qz_isub X dq_M_loan_87 ?_
  refine qz_iald X (c0 := 24) (i := y0) (n := 12) rfl hy0 dq_M_loan_88 h (fun h => ?_)
  refine qz_leti h (fun v8 h => ?_)
  refine qz_istore X (lv' := [(10, .int v8), (9, .int v7), (1, .int x1), (2, .int x2), (3, .int x3), (4, .long x4), (6, .long x6), (8, .int x8), (0, .ref (G.2.2 7 y0))]) (by decide) rfl dq_M_loan_89 ?_
  refine qz_iload X 7 rfl dq_M_loan_91 ?_
  refine qz_bipush X (v := (10 : Int32)) (by decide) dq_M_loan_93 ?_
  refine qz_icmp_eq X (tgt := 147) (by decide) dq_M_loan_95 h (fun _ h => ?_) (fun _ h => ?_)
  · refine qz_bipush X (v := (-3 : Int32)) (by decide) dq_M_loan_147 ?_
    exact qz_iret X h dq_M_loan_149
  · refine qz_aload_n X 8 rfl dq_M_loan_98 ?_
    refine qz_iload_n X 2 rfl dq_M_loan_99 ?_
    refine qz_iload X 1 rfl dq_M_loan_100 ?_
    refine qz_bind h (fun q9 e10 h => ?_)
    refine qz_callV X (as := [.int x1, .int v7]) (st := []) (o := some (.long q9.1)) (N' := q9.2) cq_M_148 hy0 (cM_has l G X.2.2.2.2.2.2.1 y0 x1 v7 N hy0 _ e10) ⟨by decide, by decide⟩ rfl rfl (Nat.le_of_ble_eq_true rfl) ⟨Nat.zero_le _, Nat.zero_le _⟩ dq_M_loan_102 ?_
    refine qz_lload X 5 rfl dq_M_loan_105 ?_
    refine qz_lcmp_lt X (tgt := 147) (by decide) dq_M_loan_107 dq_M_loan_108 h (fun _ h => ?_) (fun _ h => ?_)
    · refine qz_bipush X (v := (-3 : Int32)) (by decide) dq_M_loan_147 ?_
      exact qz_iret X h dq_M_loan_149
    · refine qz_aload_n X 8 rfl dq_M_loan_111 ?_
      refine qz_get X (v := .ref (G.2.2 41 y0)) kq_M_73 hy0 rfl dq_M_loan_112 ?_
      refine qz_iload X 0 rfl dq_M_loan_115 ?_
      refine qz_lald X (c0 := 41) (i := y0) (n := 4) rfl hy0 dq_M_loan_117 h (fun h => ?_)
      refine qz_lload X 6 rfl dq_M_loan_118 ?_
      refine qz_lcmp_lt X (tgt := 147) (by decide) dq_M_loan_120 dq_M_loan_121 h (fun _ h => ?_) (fun _ h => ?_)
      · refine qz_bipush X (v := (-3 : Int32)) (by decide) dq_M_loan_147 ?_
        exact qz_iret X h dq_M_loan_149
      · refine qz_aload_n X 8 rfl dq_M_loan_124 ?_
        refine qz_ldc2 X (v := (100 : Int64)) wq_938 dq_M_loan_125 ?_
        refine qz_lload X 6 rfl dq_M_loan_128 ?_
        refine qz_ldc2 X (v := (60 : Int64)) wq_939 dq_M_loan_130 ?_
        refine qz_aload_n X 8 rfl dq_M_loan_133 ?_
        refine qz_iload_n X 3 rfl dq_M_loan_134 ?_
        refine qz_iload_n X 4 rfl dq_M_loan_135 ?_
        refine qz_lload X 5 rfl dq_M_loan_136 ?_
        refine qz_bind h (fun q11 e12 h => ?_)
        refine qz_callV X (as := [.int x2, .int x3, .long x4]) (st := [.long (60 : Int64), .long x6, .long (100 : Int64), .ref (G.2.2 7 y0)]) (o := some (.long q11.1)) (N' := q11.2) cq_M_263 hy0 (cM_valueOf l G X.2.2.2.2.2.2.1 y0 x2 x3 x4 q9.2 hy0 _ e12) ⟨by decide, by decide⟩ rfl rfl (Nat.le_of_ble_eq_true rfl) ⟨Nat.zero_le _, Nat.zero_le _⟩ dq_M_loan_138 ?_
        refine qz_bind h (fun q13 e14 h => ?_)
        refine qz_callV X (as := [.long (100 : Int64), .long x6, .long (60 : Int64), .long q11.1]) (st := []) (o := some (.int q13.1)) (N' := q13.2) cq_M_273 hy0 (cM_isAbove l G X.2.2.2.2.2.2.1 y0 (100 : Int64) x6 (60 : Int64) q11.1 q11.2 hy0 _ e14) ⟨by decide, by decide⟩ rfl rfl (Nat.le_of_ble_eq_true rfl) ⟨Nat.zero_le _, Nat.zero_le _⟩ dq_M_loan_141 ?_
        refine qz_if_eq X (tgt := 150) (by decide) dq_M_loan_144 h (fun _ h => ?_) (fun _ h => ?_)
        · refine qz_aload_n X 8 rfl dq_M_loan_150 ?_
          refine qz_get X (v := .ref (G.2.2 46 y0)) kq_M_88 hy0 rfl dq_M_loan_151 ?_
          refine qz_iload X 7 rfl dq_M_loan_154 ?_
          refine qz_iconst X (v := (1 : Int32)) (by decide) dq_M_loan_156 ?_
          refine qz_zast X (c0 := 46) (i := y0) (n := 10) rfl hy0 dq_M_loan_157 h (fun N15 h => ?_)
          refine qz_aload_n X 8 rfl dq_M_loan_158 ?_
          refine qz_get X (v := .ref (G.2.2 47 y0)) kq_M_91 hy0 rfl dq_M_loan_159 ?_
          refine qz_iload X 7 rfl dq_M_loan_162 ?_
          refine qz_iload_n X 2 rfl dq_M_loan_164 ?_
          refine qz_iast X (c0 := 47) (i := y0) (n := 10) rfl hy0 dq_M_loan_165 h (fun N16 h => ?_)
          refine qz_aload_n X 8 rfl dq_M_loan_166 ?_
          refine qz_get X (v := .ref (G.2.2 48 y0)) kq_M_94 hy0 rfl dq_M_loan_167 ?_
          refine qz_iload X 7 rfl dq_M_loan_170 ?_
          refine qz_iload_n X 3 rfl dq_M_loan_172 ?_
          refine qz_iast X (c0 := 48) (i := y0) (n := 10) rfl hy0 dq_M_loan_173 h (fun N17 h => ?_)
          refine qz_aload_n X 8 rfl dq_M_loan_174 ?_
          refine qz_get X (v := .ref (G.2.2 49 y0)) kq_M_97 hy0 rfl dq_M_loan_175 ?_
          refine qz_iload X 7 rfl dq_M_loan_178 ?_
          refine qz_iload_n X 4 rfl dq_M_loan_180 ?_
          refine qz_iast X (c0 := 49) (i := y0) (n := 10) rfl hy0 dq_M_loan_181 h (fun N18 h => ?_)
          refine qz_aload_n X 8 rfl dq_M_loan_182 ?_
          refine qz_get X (v := .ref (G.2.2 50 y0)) kq_M_100 hy0 rfl dq_M_loan_183 ?_
          refine qz_iload X 7 rfl dq_M_loan_186 ?_
          refine qz_lload X 5 rfl dq_M_loan_188 ?_
          refine qz_last X (c0 := 50) (i := y0) (n := 10) rfl hy0 dq_M_loan_190 h (fun N19 h => ?_)
          refine qz_aload_n X 8 rfl dq_M_loan_191 ?_
          refine qz_get X (v := .ref (G.2.2 51 y0)) kq_M_103 hy0 rfl dq_M_loan_192 ?_
          refine qz_iload X 7 rfl dq_M_loan_195 ?_
          refine qz_aload_n X 8 rfl dq_M_loan_197 ?_
          refine qz_lload X 6 rfl dq_M_loan_198 ?_
          refine qz_ldc2 X (v := (1000000000 : Int64)) wq_603 dq_M_loan_200 ?_
          refine qz_aload_n X 8 rfl dq_M_loan_203 ?_
          refine qz_get X (v := .ref (G.2.2 44 y0)) kq_M_82 hy0 rfl dq_M_loan_204 ?_
          refine qz_iload X 0 rfl dq_M_loan_207 ?_
          refine qz_lald X (c0 := 44) (i := y0) (n := 4) rfl hy0 dq_M_loan_209 h (fun h => ?_)
          refine qz_bind h (fun q20 e21 h => ?_)
          refine qz_callV X (as := [.long x6, .long (1000000000 : Int64), .long (qz_gl N19 44 y0 v8.toNatClampNeg)]) (st := [.int x8, .ref (G.2.2 51 y0)]) (o := some (.long q20.1)) (N' := q20.2) cq_M_203 hy0 (cM_partUp l G X.2.2.2.2.2.2.1 y0 x6 (1000000000 : Int64) (qz_gl N19 44 y0 v8.toNatClampNeg) N19 hy0 _ e21) ⟨by decide, by decide⟩ rfl rfl (Nat.le_of_ble_eq_true rfl) ⟨Nat.zero_le _, Nat.zero_le _⟩ dq_M_loan_210 ?_
          refine qz_last X (c0 := 51) (i := y0) (n := 10) rfl hy0 dq_M_loan_213 h (fun N22 h => ?_)
          refine qz_aload_n X 8 rfl dq_M_loan_214 ?_
          refine qz_iload_n X 2 rfl dq_M_loan_215 ?_
          refine qz_iload X 1 rfl dq_M_loan_216 ?_
          refine qz_lload X 5 rfl dq_M_loan_218 ?_
          refine qz_lneg X dq_M_loan_220 ?_
          refine qz_bind h (fun q23 e24 h => ?_)
          refine qz_callV X (as := [.int x1, .int v7, .long (-x4)]) (st := []) (o := none) (N' := q23.2) cq_M_182 hy0 (cM_give l G X.2.2.2.2.2.2.1 y0 x1 v7 (-x4) N22 hy0 _ e24) ⟨by decide, by decide⟩ rfl rfl (Nat.le_of_ble_eq_true rfl) ⟨Nat.zero_le _, Nat.zero_le _⟩ dq_M_loan_221 ?_
          refine qz_aload_n X 8 rfl dq_M_loan_224 ?_
          refine qz_iload_n X 2 rfl dq_M_loan_225 ?_
          refine qz_iload X 0 rfl dq_M_loan_226 ?_
          refine qz_lload X 6 rfl dq_M_loan_228 ?_
          refine qz_bind h (fun q25 e26 h => ?_)
          refine qz_callV X (as := [.int x1, .int v8, .long x6]) (st := []) (o := none) (N' := q25.2) cq_M_182 hy0 (cM_give l G X.2.2.2.2.2.2.1 y0 x1 v8 x6 q23.2 hy0 _ e26) ⟨by decide, by decide⟩ rfl rfl (Nat.le_of_ble_eq_true rfl) ⟨Nat.zero_le _, Nat.zero_le _⟩ dq_M_loan_230 ?_
          refine qz_aload_n X 8 rfl dq_M_loan_233 ?_
          refine qz_get X (v := .ref (G.2.2 41 y0)) kq_M_73 hy0 rfl dq_M_loan_234 ?_
          refine qz_iload X 0 rfl dq_M_loan_237 ?_
          refine qz_dup2_11 X rfl rfl dq_M_loan_239 ?_
          refine qz_lald X (c0 := 41) (i := y0) (n := 4) rfl hy0 dq_M_loan_240 h (fun h => ?_)
          refine qz_lload X 6 rfl dq_M_loan_241 ?_
          refine qz_lsub X dq_M_loan_243 ?_
          refine qz_last X (c0 := 41) (i := y0) (n := 4) rfl hy0 dq_M_loan_244 h (fun N27 h => ?_)
          refine qz_iload X 7 rfl dq_M_loan_245 ?_
          exact qz_iret X h dq_M_loan_247
        · refine qz_bipush X (v := (-3 : Int32)) (by decide) dq_M_loan_147 ?_
          exact qz_iret X h dq_M_loan_149
set_option maxRecDepth 100000 in
set_option maxHeartbeats 4000000 in
theorem sM_loan_42b {p : Program} {l : Launch} {e : Env} {s : State} {m : MethodId} {args : Array Value} {below : List Frame} {meth : Method} {c : Code} {G : qz_G} (X : qz_X p s m args meth c "ExactCurvesModel" prog_10_method_55_code 11 (some .int) G) {r : (Int32 × qz_N)} (y0 : Nat) (hy0 : y0 < 1) (k42 : qz_N × Int32 × Int32 × Int32 × Int64 × Int64 × Int32 → Option (Int32 × qz_N)) (hk42 : ∀ a, k42 a = some r → qz_W p l e (qz_R 3) s m args below meth c 0 0 (MQ below (qz_Q G r.2 (some (.int r.1))) args s 0 0 (qz_A G)) G s.heap 11 a.1 42 [(1, .int a.2.1), (2, .int a.2.2.1), (3, .int a.2.2.2.1), (4, .long a.2.2.2.2.1), (6, .long a.2.2.2.2.2.1), (8, .int a.2.2.2.2.2.2), (0, .ref (G.2.2 7 y0))] []) (N : qz_N) (x1 : Int32) (x2 : Int32) (x3 : Int32) (x4 : Int64) (x6 : Int64) (x8 : Int32) (h : fM_loan_42b y0 k42 N x1 x2 x3 x4 x6 x8 = some r) : qz_W p l e (qz_R 3) s m args below meth c 0 0 (MQ below (qz_Q G r.2 (some (.int r.1))) args s 0 0 (qz_A G)) G s.heap 11 N 42 [(1, .int x1), (2, .int x2), (3, .int x3), (4, .long x4), (6, .long x6), (8, .int x8), (0, .ref (G.2.2 7 y0))] [] := by
  unfold fM_loan_42b at h
  refine qz_iload X 5 rfl dq_M_loan_42 ?_
  refine qz_bipush X (v := (10 : Int32)) (by decide) dq_M_loan_44 ?_
  refine qz_icmp_ge X (tgt := 65) (by decide) dq_M_loan_46 h (fun _ h => ?_) (fun _ h => ?_)
  · refine qz_sub [0, 1, 2, 3, 4, 5, 6] rfl ?_
    exact sM_loan_65 X y0 hy0 N x1 x2 x3 x4 x6 x8 h
  · refine qz_aload_n X 6 rfl dq_M_loan_49 ?_
    refine qz_get X (v := .ref (G.2.2 46 y0)) kq_M_88 hy0 rfl dq_M_loan_50 ?_
    refine qz_iload X 5 rfl dq_M_loan_53 ?_
    refine qz_zald X (c0 := 46) (i := y0) (n := 10) rfl hy0 dq_M_loan_55 h (fun h => ?_)
    refine qz_if_eq X (tgt := 65) (by decide) dq_M_loan_56 h (fun _ h => ?_) (fun _ h => ?_)
    · refine qz_sub [0, 1, 2, 3, 4, 5, 6] rfl ?_
      exact sM_loan_65 X y0 hy0 N x1 x2 x3 x4 x6 x8 h
    · refine qz_iinc_l X (u := (1 : Int32)) (lv' := fun v28 => [(8, .int v28), (1, .int x1), (2, .int x2), (3, .int x3), (4, .long x4), (6, .long x6), (0, .ref (G.2.2 7 y0))]) (k := 5) rfl (by decide) (by decide) (fun _ => rfl) dq_M_loan_59 h (fun v28 h => ?_)
      refine qz_goto X (tgt := 42) (by decide) dq_M_loan_62 ?_
      refine qz_sub [1, 2, 3, 4, 5, 0, 6] rfl ?_
      exact hk42 (N, x1, x2, x3, x4, x6, v28) h
theorem sM_loan_42 {p : Program} {l : Launch} {e : Env} {s : State} {m : MethodId} {args : Array Value} {below : List Frame} {meth : Method} {c : Code} {G : qz_G} (X : qz_X p s m args meth c "ExactCurvesModel" prog_10_method_55_code 11 (some .int) G) {r : (Int32 × qz_N)} (y0 : Nat) (hy0 : y0 < 1) (n : Nat) (a : qz_N × Int32 × Int32 × Int32 × Int64 × Int64 × Int32) (h : fM_loan_42 y0 n a = some r) : qz_W p l e (qz_R 3) s m args below meth c 0 0 (MQ below (qz_Q G r.2 (some (.int r.1))) args s 0 0 (qz_A G)) G s.heap 11 a.1 42 [(1, .int a.2.1), (2, .int a.2.2.1), (3, .int a.2.2.2.1), (4, .long a.2.2.2.2.1), (6, .long a.2.2.2.2.2.1), (8, .int a.2.2.2.2.2.2), (0, .ref (G.2.2 7 y0))] [] :=
  qz_loop_ind (P := fun a => qz_W p l e (qz_R 3) s m args below meth c 0 0 (MQ below (qz_Q G r.2 (some (.int r.1))) args s 0 0 (qz_A G)) G s.heap 11 a.1 42 [(1, .int a.2.1), (2, .int a.2.2.1), (3, .int a.2.2.2.1), (4, .long a.2.2.2.2.1), (6, .long a.2.2.2.2.2.1), (8, .int a.2.2.2.2.2.2), (0, .ref (G.2.2 7 y0))] []) (fun k hk a h => sM_loan_42b X y0 hy0 k hk a.1 a.2.1 a.2.2.1 a.2.2.2.1 a.2.2.2.2.1 a.2.2.2.2.2.1 a.2.2.2.2.2.2 h) n a h
set_option maxRecDepth 100000 in
set_option maxHeartbeats 4000000 in
theorem sM_loan {p : Program} {l : Launch} {e : Env} {s : State} {m : MethodId} {args : Array Value} {below : List Frame} {meth : Method} {c : Code} {G : qz_G} (X : qz_X p s m args meth c "ExactCurvesModel" prog_10_method_55_code 11 (some .int) G) {r : (Int32 × qz_N)} (o : Nat) (x1 : Int32) (x2 : Int32) (x3 : Int32) (x4 : Int64) (x6 : Int64) (ho : o < 1) (N : qz_N) (h : fM_loan o x1 x2 x3 x4 x6 N = some r) : qz_W p l e (qz_R 3) s m args below meth c 0 0 (MQ below (qz_Q G r.2 (some (.int r.1))) args s 0 0 (qz_A G)) G s.heap 11 N 0 [(0, .ref (G.2.2 7 o)), (1, .int x1), (2, .int x2), (3, .int x3), (4, .long x4), (6, .long x6)] [] := by
  unfold fM_loan at h
  refine qz_iload_n X 1 rfl dq_M_loan_0 ?_
  refine qz_bind h (fun q1 e2 h => ?_)
  refine qz_callS X (as := [.int x1]) (st := []) (o := some (.int q1.1)) (N' := q1.2) cq_M_166 (cM_isPlayer l G X.2.2.2.2.2.2.1 x1 N _ e2) ⟨by decide, by decide⟩ rfl rfl (Nat.le_of_ble_eq_true rfl) ⟨Nat.zero_le _, Nat.zero_le _⟩ dq_M_loan_1 ?_
  refine qz_if_eq X (tgt := 36) (by decide) dq_M_loan_4 h (fun _ h => ?_) (fun _ h => ?_)
  · refine qz_bipush X (v := (-2 : Int32)) (by decide) dq_M_loan_36 ?_
    exact qz_iret X h dq_M_loan_38
  · refine qz_aload_n X 0 rfl dq_M_loan_7 ?_
    refine qz_iload_n X 2 rfl dq_M_loan_8 ?_
    refine qz_bind h (fun q3 e4 h => ?_)
    refine qz_callV X (as := [.int x2]) (st := []) (o := some (.int q3.1)) (N' := q3.2) cq_M_186 ho (cM_isPool l G X.2.2.2.2.2.2.1 o x2 q1.2 ho _ e4) ⟨by decide, by decide⟩ rfl rfl (Nat.le_of_ble_eq_true rfl) ⟨Nat.zero_le _, Nat.zero_le _⟩ dq_M_loan_9 ?_
    refine qz_if_eq X (tgt := 36) (by decide) dq_M_loan_12 h (fun _ h => ?_) (fun _ h => ?_)
    · refine qz_bipush X (v := (-2 : Int32)) (by decide) dq_M_loan_36 ?_
      exact qz_iret X h dq_M_loan_38
    · refine qz_iload_n X 3 rfl dq_M_loan_15 ?_
      refine qz_bind h (fun q5 e6 h => ?_)
      refine qz_callS X (as := [.int x3]) (st := []) (o := some (.int q5.1)) (N' := q5.2) cq_M_208 (cM_isSide l G X.2.2.2.2.2.2.1 x3 q3.2 _ e6) ⟨by decide, by decide⟩ rfl rfl (Nat.le_of_ble_eq_true rfl) ⟨Nat.zero_le _, Nat.zero_le _⟩ dq_M_loan_16 ?_
      refine qz_if_eq X (tgt := 36) (by decide) dq_M_loan_19 h (fun _ h => ?_) (fun _ h => ?_)
      · refine qz_bipush X (v := (-2 : Int32)) (by decide) dq_M_loan_36 ?_
        exact qz_iret X h dq_M_loan_38
      · refine qz_lload X 4 rfl dq_M_loan_22 ?_
        refine qz_lconst X (v := (1 : Int64)) (by decide) dq_M_loan_24 ?_
        refine qz_lcmp_lt X (tgt := 36) (by decide) dq_M_loan_25 dq_M_loan_26 h (fun _ h => ?_) (fun _ h => ?_)
        · refine qz_bipush X (v := (-2 : Int32)) (by decide) dq_M_loan_36 ?_
          exact qz_iret X h dq_M_loan_38
        · refine qz_lload X 5 rfl dq_M_loan_29 ?_
          refine qz_lconst X (v := (1 : Int64)) (by decide) dq_M_loan_31 ?_
          refine qz_lcmp_ge X (tgt := 39) (by decide) dq_M_loan_32 dq_M_loan_33 h (fun _ h => ?_) (fun _ h => ?_)
          · refine qz_iconst X (v := (0 : Int32)) (by decide) dq_M_loan_39 ?_
            refine qz_istore X (lv' := [(8, .int (0 : Int32)), (0, .ref (G.2.2 7 o)), (1, .int x1), (2, .int x2), (3, .int x3), (4, .long x4), (6, .long x6)]) (by decide) rfl dq_M_loan_40 ?_
            refine qz_sub [2, 3, 4, 5, 6, 0, 1] rfl ?_
            exact sM_loan_42 X o ho 1100 (q5.2, x1, x2, x3, x4, x6, (0 : Int32)) h
          · refine qz_bipush X (v := (-2 : Int32)) (by decide) dq_M_loan_36 ?_
            exact qz_iret X h dq_M_loan_38
theorem cM_loan (l : Launch) (G : qz_G) (hD : qz_D G) (o : Nat) (x1 : Int32) (x2 : Int32) (x3 : Int32) (x4 : Int64) (x6 : Int64) (N : qz_N) (ho : o < 1) (r : (Int32 × qz_N)) (h : fM_loan o x1 x2 x3 x4 x6 N = some r) : qz_M l yM_loan prog_10_method_55_code 11 (some .int) 3 G [.ref (G.2.2 7 o), .int x1, .int x2, .int x3, .long x4, .long x6] N (some (.int r.1)) r.2 :=
  qz_enter (lv := [(0, .ref (G.2.2 7 o)), (1, .int x1), (2, .int x2), (3, .int x3), (4, .long x4), (6, .long x6)]) rfl hD (Nat.le_of_ble_eq_true rfl) rfl (fun p e s m args below meth c X => sM_loan X o x1 x2 x3 x4 x6 ho N h)
