-- ExactCurvesModel.outOf(IIJ)J
theorem dq_M_outOf_0 : decode prog_10_method_26_code 0 = .ok (.aload_n 0, 1) := by decide +kernel
theorem dq_M_outOf_1 : decode prog_10_method_26_code 1 = .ok (.getfield 26, 3) := by decide +kernel
theorem dq_M_outOf_4 : decode prog_10_method_26_code 4 = .ok (.iconst 2, 1) := by decide +kernel
theorem dq_M_outOf_5 : decode prog_10_method_26_code 5 = .ok (.iload_n 1, 1) := by decide +kernel
theorem dq_M_outOf_6 : decode prog_10_method_26_code 6 = .ok (.imul, 1) := by decide +kernel
theorem dq_M_outOf_7 : decode prog_10_method_26_code 7 = .ok (.iload_n 2, 1) := by decide +kernel
theorem dq_M_outOf_8 : decode prog_10_method_26_code 8 = .ok (.iadd, 1) := by decide +kernel
theorem dq_M_outOf_9 : decode prog_10_method_26_code 9 = .ok (.laload, 1) := by decide +kernel
theorem dq_M_outOf_10 : decode prog_10_method_26_code 10 = .ok (.lstore 5, 2) := by decide +kernel
theorem dq_M_outOf_12 : decode prog_10_method_26_code 12 = .ok (.aload_n 0, 1) := by decide +kernel
theorem dq_M_outOf_13 : decode prog_10_method_26_code 13 = .ok (.getfield 26, 3) := by decide +kernel
theorem dq_M_outOf_16 : decode prog_10_method_26_code 16 = .ok (.iconst 2, 1) := by decide +kernel
theorem dq_M_outOf_17 : decode prog_10_method_26_code 17 = .ok (.iload_n 1, 1) := by decide +kernel
theorem dq_M_outOf_18 : decode prog_10_method_26_code 18 = .ok (.imul, 1) := by decide +kernel
theorem dq_M_outOf_19 : decode prog_10_method_26_code 19 = .ok (.iconst 1, 1) := by decide +kernel
theorem dq_M_outOf_20 : decode prog_10_method_26_code 20 = .ok (.iadd, 1) := by decide +kernel
theorem dq_M_outOf_21 : decode prog_10_method_26_code 21 = .ok (.iload_n 2, 1) := by decide +kernel
theorem dq_M_outOf_22 : decode prog_10_method_26_code 22 = .ok (.isub, 1) := by decide +kernel
theorem dq_M_outOf_23 : decode prog_10_method_26_code 23 = .ok (.laload, 1) := by decide +kernel
theorem dq_M_outOf_24 : decode prog_10_method_26_code 24 = .ok (.lstore 7, 2) := by decide +kernel
theorem dq_M_outOf_26 : decode prog_10_method_26_code 26 = .ok (.ldc2_w 206, 3) := by decide +kernel
theorem dq_M_outOf_29 : decode prog_10_method_26_code 29 = .ok (.aload_n 0, 1) := by decide +kernel
theorem dq_M_outOf_30 : decode prog_10_method_26_code 30 = .ok (.getfield 23, 3) := by decide +kernel
theorem dq_M_outOf_33 : decode prog_10_method_26_code 33 = .ok (.iload_n 1, 1) := by decide +kernel
theorem dq_M_outOf_34 : decode prog_10_method_26_code 34 = .ok (.iaload, 1) := by decide +kernel
theorem dq_M_outOf_35 : decode prog_10_method_26_code 35 = .ok (.i2l, 1) := by decide +kernel
theorem dq_M_outOf_36 : decode prog_10_method_26_code 36 = .ok (.lsub, 1) := by decide +kernel
theorem dq_M_outOf_37 : decode prog_10_method_26_code 37 = .ok (.lstore 9, 2) := by decide +kernel
theorem dq_M_outOf_39 : decode prog_10_method_26_code 39 = .ok (.aload_n 0, 1) := by decide +kernel
theorem dq_M_outOf_40 : decode prog_10_method_26_code 40 = .ok (.getfield 20, 3) := by decide +kernel
theorem dq_M_outOf_43 : decode prog_10_method_26_code 43 = .ok (.iload_n 1, 1) := by decide +kernel
theorem dq_M_outOf_44 : decode prog_10_method_26_code 44 = .ok (.iaload, 1) := by decide +kernel
theorem dq_M_outOf_45 : decode prog_10_method_26_code 45 = .ok (.ifCond .ne 36, 3) := by decide +kernel
theorem dq_M_outOf_48 : decode prog_10_method_26_code 48 = .ok (.aload_n 0, 1) := by decide +kernel
theorem dq_M_outOf_49 : decode prog_10_method_26_code 49 = .ok (.lload 7, 2) := by decide +kernel
theorem dq_M_outOf_51 : decode prog_10_method_26_code 51 = .ok (.invokevirtual 130, 3) := by decide +kernel
theorem dq_M_outOf_54 : decode prog_10_method_26_code 54 = .ok (.aload_n 0, 1) := by decide +kernel
theorem dq_M_outOf_55 : decode prog_10_method_26_code 55 = .ok (.lload_n 3, 1) := by decide +kernel
theorem dq_M_outOf_56 : decode prog_10_method_26_code 56 = .ok (.invokevirtual 134, 3) := by decide +kernel
theorem dq_M_outOf_59 : decode prog_10_method_26_code 59 = .ok (.aload_n 0, 1) := by decide +kernel
theorem dq_M_outOf_60 : decode prog_10_method_26_code 60 = .ok (.lload 9, 2) := by decide +kernel
theorem dq_M_outOf_62 : decode prog_10_method_26_code 62 = .ok (.invokevirtual 134, 3) := by decide +kernel
theorem dq_M_outOf_65 : decode prog_10_method_26_code 65 = .ok (.aload_n 0, 1) := by decide +kernel
theorem dq_M_outOf_66 : decode prog_10_method_26_code 66 = .ok (.ldc2_w 206, 3) := by decide +kernel
theorem dq_M_outOf_69 : decode prog_10_method_26_code 69 = .ok (.lload 5, 2) := by decide +kernel
theorem dq_M_outOf_71 : decode prog_10_method_26_code 71 = .ok (.lmul, 1) := by decide +kernel
theorem dq_M_outOf_72 : decode prog_10_method_26_code 72 = .ok (.lload_n 3, 1) := by decide +kernel
theorem dq_M_outOf_73 : decode prog_10_method_26_code 73 = .ok (.lload 9, 2) := by decide +kernel
theorem dq_M_outOf_75 : decode prog_10_method_26_code 75 = .ok (.lmul, 1) := by decide +kernel
theorem dq_M_outOf_76 : decode prog_10_method_26_code 76 = .ok (.ladd, 1) := by decide +kernel
theorem dq_M_outOf_77 : decode prog_10_method_26_code 77 = .ok (.invokevirtual 137, 3) := by decide +kernel
theorem dq_M_outOf_80 : decode prog_10_method_26_code 80 = .ok (.lreturn, 1) := by decide +kernel
theorem dq_M_outOf_81 : decode prog_10_method_26_code 81 = .ok (.lload_n 3, 1) := by decide +kernel
theorem dq_M_outOf_82 : decode prog_10_method_26_code 82 = .ok (.lload 9, 2) := by decide +kernel
theorem dq_M_outOf_84 : decode prog_10_method_26_code 84 = .ok (.lmul, 1) := by decide +kernel
theorem dq_M_outOf_85 : decode prog_10_method_26_code 85 = .ok (.ldc2_w 206, 3) := by decide +kernel
theorem dq_M_outOf_88 : decode prog_10_method_26_code 88 = .ok (.ldiv, 1) := by decide +kernel
theorem dq_M_outOf_89 : decode prog_10_method_26_code 89 = .ok (.lstore 11, 2) := by decide +kernel
theorem dq_M_outOf_91 : decode prog_10_method_26_code 91 = .ok (.lload 11, 2) := by decide +kernel
theorem dq_M_outOf_93 : decode prog_10_method_26_code 93 = .ok (.lload 7, 2) := by decide +kernel
theorem dq_M_outOf_95 : decode prog_10_method_26_code 95 = .ok (.lcmp, 1) := by decide +kernel
theorem dq_M_outOf_96 : decode prog_10_method_26_code 96 = .ok (.ifCond .le 7, 3) := by decide +kernel
theorem dq_M_outOf_99 : decode prog_10_method_26_code 99 = .ok (.lconst 0, 1) := by decide +kernel
theorem dq_M_outOf_100 : decode prog_10_method_26_code 100 = .ok (.goto 5, 3) := by decide +kernel
theorem dq_M_outOf_103 : decode prog_10_method_26_code 103 = .ok (.lload 11, 2) := by decide +kernel
theorem dq_M_outOf_105 : decode prog_10_method_26_code 105 = .ok (.lreturn, 1) := by decide +kernel
def fM_outOf (o : Nat) (x1 : Int32) (x2 : Int32) (x3 : Int64) (N : qz_N) : Option (Int64 × qz_N) :=
  if (((2 : Int32) * x1) + x2) < 0 ∨ 12 ≤ (((2 : Int32) * x1) + x2).toNatClampNeg then none else
  qz_let (qz_gl N 27 o (((2 : Int32) * x1) + x2).toNatClampNeg) fun v1 =>
  if ((((2 : Int32) * x1) + (1 : Int32)) - x2) < 0 ∨ 12 ≤ ((((2 : Int32) * x1) + (1 : Int32)) - x2).toNatClampNeg then none else
  qz_let (qz_gl N 27 o ((((2 : Int32) * x1) + (1 : Int32)) - x2).toNatClampNeg) fun v2 =>
  if x1 < 0 ∨ 6 ≤ x1.toNatClampNeg then none else
  qz_let ((10000 : Int64) - ((qz_gi N 26 o x1.toNatClampNeg).toInt64)) fun v3 =>
  if x1 < 0 ∨ 6 ≤ x1.toNatClampNeg then none else
  if (qz_gi N 25 o x1.toNatClampNeg) = 0 then
    (fM_begin o v2 N).bind fun q5 =>
    (fM_times o x3 q5.2).bind fun q7 =>
    (fM_times o v3 q7.2).bind fun q9 =>
    (fM_over o (((10000 : Int64) * v1) + (x3 * v3)) q9.2).bind fun q11 =>
    some (q11.1, q11.2)
  else
  qz_let ((x3 * v3) / (10000 : Int64)) fun v4 =>
  if v4 ≤ v2 then
    some (v4, N)
  else
  some ((0 : Int64), N)
set_option maxRecDepth 100000 in
set_option maxHeartbeats 4000000 in
theorem sM_outOf {p : Program} {l : Launch} {e : Env} {s : State} {m : MethodId} {args : Array Value} {below : List Frame} {meth : Method} {c : Code} {G : qz_G} (X : qz_X p s m args meth c "ExactCurvesModel" prog_10_method_26_code 13 (some .long) G) {r : (Int64 × qz_N)} (o : Nat) (x1 : Int32) (x2 : Int32) (x3 : Int64) (ho : o < 1) (N : qz_N) (h : fM_outOf o x1 x2 x3 N = some r) : qz_W p l e (qz_R 1) s m args below meth c 0 0 (MQ below (qz_Q G r.2 (some (.long r.1))) args s 0 0 (qz_A G)) G s.heap 13 N 0 [(0, .ref (G.2.2 7 o)), (1, .int x1), (2, .int x2), (3, .long x3)] [] := by
  unfold fM_outOf at h
  refine qz_aload_n X 0 rfl dq_M_outOf_0 ?_
  refine qz_get X (v := .ref (G.2.2 27 o)) kq_M_26 ho rfl dq_M_outOf_1 ?_
  refine qz_iconst X (v := (2 : Int32)) (by decide) dq_M_outOf_4 ?_
  refine qz_iload_n X 1 rfl dq_M_outOf_5 ?_
  refine qz_imul X dq_M_outOf_6 ?_
  refine qz_iload_n X 2 rfl dq_M_outOf_7 ?_
  refine qz_iadd X dq_M_outOf_8 ?_
  refine qz_lald X (c0 := 27) (i := o) (n := 12) rfl ho dq_M_outOf_9 h (fun h => ?_)
  refine qz_letj h (fun v1 h => ?_)
  refine qz_lstore X (lv' := [(5, .long v1), (0, .ref (G.2.2 7 o)), (1, .int x1), (2, .int x2), (3, .long x3)]) (by decide) rfl dq_M_outOf_10 ?_
  refine qz_aload_n X 1 rfl dq_M_outOf_12 ?_
  refine qz_get X (v := .ref (G.2.2 27 o)) kq_M_26 ho rfl dq_M_outOf_13 ?_
  refine qz_iconst X (v := (2 : Int32)) (by decide) dq_M_outOf_16 ?_
  refine qz_iload_n X 2 rfl dq_M_outOf_17 ?_
  refine qz_imul X dq_M_outOf_18 ?_
  refine qz_iconst X (v := (1 : Int32)) (by decide) dq_M_outOf_19 ?_
  refine qz_iadd X dq_M_outOf_20 ?_
  refine qz_iload_n X 3 rfl dq_M_outOf_21 ?_
  refine qz_isub X dq_M_outOf_22 ?_
  refine qz_lald X (c0 := 27) (i := o) (n := 12) rfl ho dq_M_outOf_23 h (fun h => ?_)
  refine qz_letj h (fun v2 h => ?_)
  refine qz_lstore X (lv' := [(7, .long v2), (5, .long v1), (0, .ref (G.2.2 7 o)), (1, .int x1), (2, .int x2), (3, .long x3)]) (by decide) rfl dq_M_outOf_24 ?_
  refine qz_ldc2 X (v := (10000 : Int64)) wq_849 dq_M_outOf_26 ?_
  refine qz_aload_n X 2 rfl dq_M_outOf_29 ?_
  refine qz_get X (v := .ref (G.2.2 26 o)) kq_M_23 ho rfl dq_M_outOf_30 ?_
  refine qz_iload_n X 3 rfl dq_M_outOf_33 ?_
  refine qz_iald X (c0 := 26) (i := o) (n := 6) rfl ho dq_M_outOf_34 h (fun h => ?_)
  refine qz_i2l X dq_M_outOf_35 ?_
  refine qz_lsub X dq_M_outOf_36 ?_
  refine qz_letj h (fun v3 h => ?_)
  refine qz_lstore X (lv' := [(9, .long v3), (7, .long v2), (5, .long v1), (0, .ref (G.2.2 7 o)), (1, .int x1), (2, .int x2), (3, .long x3)]) (by decide) rfl dq_M_outOf_37 ?_
  refine qz_aload_n X 3 rfl dq_M_outOf_39 ?_
  refine qz_get X (v := .ref (G.2.2 25 o)) kq_M_20 ho rfl dq_M_outOf_40 ?_
  refine qz_iload_n X 4 rfl dq_M_outOf_43 ?_
  refine qz_iald X (c0 := 25) (i := o) (n := 6) rfl ho dq_M_outOf_44 h (fun h => ?_)
  refine qz_if_ne X (tgt := 81) (by decide) dq_M_outOf_45 h (fun _ h => ?_) (fun _ h => ?_)
  · refine qz_lload_n X 6 rfl dq_M_outOf_81 ?_
    refine qz_lload X 0 rfl dq_M_outOf_82 ?_
    refine qz_lmul X dq_M_outOf_84 ?_
    refine qz_ldc2 X (v := (10000 : Int64)) wq_849 dq_M_outOf_85 ?_
    refine qz_ldiv X (by decide) dq_M_outOf_88 ?_
    refine qz_letj h (fun v4 h => ?_)
    refine qz_lstore X (lv' := [(11, .long v4), (9, .long v3), (7, .long v2), (5, .long v1), (0, .ref (G.2.2 7 o)), (1, .int x1), (2, .int x2), (3, .long x3)]) (by decide) rfl dq_M_outOf_89 ?_
    refine qz_lload X 0 rfl dq_M_outOf_91 ?_
    refine qz_lload X 2 rfl dq_M_outOf_93 ?_
    refine qz_lcmp_le X (tgt := 103) (by decide) dq_M_outOf_95 dq_M_outOf_96 h (fun _ h => ?_) (fun _ h => ?_)
    · refine qz_lload X 0 rfl dq_M_outOf_103 ?_
      exact qz_lret X h dq_M_outOf_105
    · refine qz_lconst X (v := (0 : Int64)) (by decide) dq_M_outOf_99 ?_
      refine qz_goto X (tgt := 105) (by decide) dq_M_outOf_100 ?_
      exact qz_lret X h dq_M_outOf_105
  · refine qz_aload_n X 3 rfl dq_M_outOf_48 ?_
    refine qz_lload X 1 rfl dq_M_outOf_49 ?_
    refine qz_bind h (fun q5 e6 h => ?_)
    refine qz_callV X (as := [.long v2]) (st := []) (o := none) (N' := q5.2) cq_M_130 ho (cM_begin l G X.2.2.2.2.2.2.1 o v2 N ho _ e6) ⟨by decide, by decide⟩ rfl rfl (Nat.le_of_ble_eq_true rfl) ⟨Nat.zero_le _, Nat.zero_le _⟩ dq_M_outOf_51 ?_
    refine qz_aload_n X 3 rfl dq_M_outOf_54 ?_
    refine qz_lload_n X 6 rfl dq_M_outOf_55 ?_
    refine qz_bind h (fun q7 e8 h => ?_)
    refine qz_callV X (as := [.long x3]) (st := []) (o := none) (N' := q7.2) cq_M_134 ho (cM_times l G X.2.2.2.2.2.2.1 o x3 q5.2 ho _ e8) ⟨by decide, by decide⟩ rfl rfl (Nat.le_of_ble_eq_true rfl) ⟨Nat.zero_le _, Nat.zero_le _⟩ dq_M_outOf_56 ?_
    refine qz_aload_n X 3 rfl dq_M_outOf_59 ?_
    refine qz_lload X 0 rfl dq_M_outOf_60 ?_
    refine qz_bind h (fun q9 e10 h => ?_)
    refine qz_callV X (as := [.long v3]) (st := []) (o := none) (N' := q9.2) cq_M_134 ho (cM_times l G X.2.2.2.2.2.2.1 o v3 q7.2 ho _ e10) ⟨by decide, by decide⟩ rfl rfl (Nat.le_of_ble_eq_true rfl) ⟨Nat.zero_le _, Nat.zero_le _⟩ dq_M_outOf_62 ?_
    refine qz_aload_n X 3 rfl dq_M_outOf_65 ?_
    refine qz_ldc2 X (v := (10000 : Int64)) wq_849 dq_M_outOf_66 ?_
    refine qz_lload X 2 rfl dq_M_outOf_69 ?_
    refine qz_lmul X dq_M_outOf_71 ?_
    refine qz_lload_n X 6 rfl dq_M_outOf_72 ?_
    refine qz_lload X 0 rfl dq_M_outOf_73 ?_
    refine qz_lmul X dq_M_outOf_75 ?_
    refine qz_ladd X dq_M_outOf_76 ?_
    refine qz_bind h (fun q11 e12 h => ?_)
    refine qz_callV X (as := [.long (((10000 : Int64) * v1) + (x3 * v3))]) (st := []) (o := some (.long q11.1)) (N' := q11.2) cq_M_137 ho (cM_over l G X.2.2.2.2.2.2.1 o (((10000 : Int64) * v1) + (x3 * v3)) q9.2 ho _ e12) ⟨by decide, by decide⟩ rfl rfl (Nat.le_of_ble_eq_true rfl) ⟨Nat.zero_le _, Nat.zero_le _⟩ dq_M_outOf_77 ?_
    exact qz_lret X h dq_M_outOf_80
theorem cM_outOf (l : Launch) (G : qz_G) (hD : qz_D G) (o : Nat) (x1 : Int32) (x2 : Int32) (x3 : Int64) (N : qz_N) (ho : o < 1) (r : (Int64 × qz_N)) (h : fM_outOf o x1 x2 x3 N = some r) : qz_M l yM_outOf prog_10_method_26_code 13 (some .long) 1 G [.ref (G.2.2 7 o), .int x1, .int x2, .long x3] N (some (.long r.1)) r.2 :=
  qz_enter (lv := [(0, .ref (G.2.2 7 o)), (1, .int x1), (2, .int x2), (3, .long x3)]) rfl hD (Nat.le_of_ble_eq_true rfl) rfl (fun p e s m args below meth c X => sM_outOf X o x1 x2 x3 ho N h)
-- ExactCurvesModel.swap(IIIJ)J
theorem dq_M_swap_0 : decode prog_10_method_27_code 0 = .ok (.iload_n 1, 1) := by decide +kernel
theorem dq_M_swap_1 : decode prog_10_method_27_code 1 = .ok (.invokestatic 166, 3) := by decide +kernel
theorem dq_M_swap_4 : decode prog_10_method_27_code 4 = .ok (.ifCond .eq 25, 3) := by decide +kernel
theorem dq_M_swap_7 : decode prog_10_method_27_code 7 = .ok (.aload_n 0, 1) := by decide +kernel
theorem dq_M_swap_8 : decode prog_10_method_27_code 8 = .ok (.iload_n 2, 1) := by decide +kernel
theorem dq_M_swap_9 : decode prog_10_method_27_code 9 = .ok (.invokevirtual 186, 3) := by decide +kernel
theorem dq_M_swap_12 : decode prog_10_method_27_code 12 = .ok (.ifCond .eq 17, 3) := by decide +kernel
theorem dq_M_swap_15 : decode prog_10_method_27_code 15 = .ok (.iload_n 3, 1) := by decide +kernel
theorem dq_M_swap_16 : decode prog_10_method_27_code 16 = .ok (.invokestatic 208, 3) := by decide +kernel
theorem dq_M_swap_19 : decode prog_10_method_27_code 19 = .ok (.ifCond .eq 10, 3) := by decide +kernel
theorem dq_M_swap_22 : decode prog_10_method_27_code 22 = .ok (.lload 4, 2) := by decide +kernel
theorem dq_M_swap_24 : decode prog_10_method_27_code 24 = .ok (.lconst 1, 1) := by decide +kernel
theorem dq_M_swap_25 : decode prog_10_method_27_code 25 = .ok (.lcmp, 1) := by decide +kernel
theorem dq_M_swap_26 : decode prog_10_method_27_code 26 = .ok (.ifCond .ge 7, 3) := by decide +kernel
theorem dq_M_swap_29 : decode prog_10_method_27_code 29 = .ok (.ldc2_w 175, 3) := by decide +kernel
theorem dq_M_swap_32 : decode prog_10_method_27_code 32 = .ok (.lreturn, 1) := by decide +kernel
theorem dq_M_swap_33 : decode prog_10_method_27_code 33 = .ok (.aload_n 0, 1) := by decide +kernel
theorem dq_M_swap_34 : decode prog_10_method_27_code 34 = .ok (.getfield 16, 3) := by decide +kernel
theorem dq_M_swap_37 : decode prog_10_method_27_code 37 = .ok (.iconst 2, 1) := by decide +kernel
theorem dq_M_swap_38 : decode prog_10_method_27_code 38 = .ok (.iload_n 2, 1) := by decide +kernel
theorem dq_M_swap_39 : decode prog_10_method_27_code 39 = .ok (.imul, 1) := by decide +kernel
theorem dq_M_swap_40 : decode prog_10_method_27_code 40 = .ok (.iload_n 3, 1) := by decide +kernel
theorem dq_M_swap_41 : decode prog_10_method_27_code 41 = .ok (.iadd, 1) := by decide +kernel
theorem dq_M_swap_42 : decode prog_10_method_27_code 42 = .ok (.iaload, 1) := by decide +kernel
theorem dq_M_swap_43 : decode prog_10_method_27_code 43 = .ok (.istore 6, 2) := by decide +kernel
theorem dq_M_swap_45 : decode prog_10_method_27_code 45 = .ok (.aload_n 0, 1) := by decide +kernel
theorem dq_M_swap_46 : decode prog_10_method_27_code 46 = .ok (.iload_n 1, 1) := by decide +kernel
theorem dq_M_swap_47 : decode prog_10_method_27_code 47 = .ok (.iload 6, 2) := by decide +kernel
theorem dq_M_swap_49 : decode prog_10_method_27_code 49 = .ok (.invokevirtual 148, 3) := by decide +kernel
theorem dq_M_swap_52 : decode prog_10_method_27_code 52 = .ok (.lload 4, 2) := by decide +kernel
theorem dq_M_swap_54 : decode prog_10_method_27_code 54 = .ok (.lcmp, 1) := by decide +kernel
theorem dq_M_swap_55 : decode prog_10_method_27_code 55 = .ok (.ifCond .ge 7, 3) := by decide +kernel
theorem dq_M_swap_58 : decode prog_10_method_27_code 58 = .ok (.ldc2_w 180, 3) := by decide +kernel
theorem dq_M_swap_61 : decode prog_10_method_27_code 61 = .ok (.lreturn, 1) := by decide +kernel
theorem dq_M_swap_62 : decode prog_10_method_27_code 62 = .ok (.aload_n 0, 1) := by decide +kernel
theorem dq_M_swap_63 : decode prog_10_method_27_code 63 = .ok (.iload_n 2, 1) := by decide +kernel
theorem dq_M_swap_64 : decode prog_10_method_27_code 64 = .ok (.iload_n 3, 1) := by decide +kernel
theorem dq_M_swap_65 : decode prog_10_method_27_code 65 = .ok (.lload 4, 2) := by decide +kernel
theorem dq_M_swap_67 : decode prog_10_method_27_code 67 = .ok (.invokevirtual 211, 3) := by decide +kernel
theorem dq_M_swap_70 : decode prog_10_method_27_code 70 = .ok (.lstore 7, 2) := by decide +kernel
theorem dq_M_swap_72 : decode prog_10_method_27_code 72 = .ok (.lload 7, 2) := by decide +kernel
theorem dq_M_swap_74 : decode prog_10_method_27_code 74 = .ok (.lconst 0, 1) := by decide +kernel
theorem dq_M_swap_75 : decode prog_10_method_27_code 75 = .ok (.lcmp, 1) := by decide +kernel
theorem dq_M_swap_76 : decode prog_10_method_27_code 76 = .ok (.ifCond .ne 7, 3) := by decide +kernel
theorem dq_M_swap_79 : decode prog_10_method_27_code 79 = .ok (.ldc2_w 180, 3) := by decide +kernel
theorem dq_M_swap_82 : decode prog_10_method_27_code 82 = .ok (.lreturn, 1) := by decide +kernel
theorem dq_M_swap_83 : decode prog_10_method_27_code 83 = .ok (.aload_n 0, 1) := by decide +kernel
theorem dq_M_swap_84 : decode prog_10_method_27_code 84 = .ok (.iload_n 1, 1) := by decide +kernel
theorem dq_M_swap_85 : decode prog_10_method_27_code 85 = .ok (.iload 6, 2) := by decide +kernel
theorem dq_M_swap_87 : decode prog_10_method_27_code 87 = .ok (.lload 4, 2) := by decide +kernel
theorem dq_M_swap_89 : decode prog_10_method_27_code 89 = .ok (.lneg, 1) := by decide +kernel
theorem dq_M_swap_90 : decode prog_10_method_27_code 90 = .ok (.invokevirtual 182, 3) := by decide +kernel
theorem dq_M_swap_93 : decode prog_10_method_27_code 93 = .ok (.aload_n 0, 1) := by decide +kernel
theorem dq_M_swap_94 : decode prog_10_method_27_code 94 = .ok (.iload_n 1, 1) := by decide +kernel
theorem dq_M_swap_95 : decode prog_10_method_27_code 95 = .ok (.aload_n 0, 1) := by decide +kernel
theorem dq_M_swap_96 : decode prog_10_method_27_code 96 = .ok (.getfield 16, 3) := by decide +kernel
theorem dq_M_swap_99 : decode prog_10_method_27_code 99 = .ok (.iconst 2, 1) := by decide +kernel
theorem dq_M_swap_100 : decode prog_10_method_27_code 100 = .ok (.iload_n 2, 1) := by decide +kernel
theorem dq_M_swap_101 : decode prog_10_method_27_code 101 = .ok (.imul, 1) := by decide +kernel
theorem dq_M_swap_102 : decode prog_10_method_27_code 102 = .ok (.iconst 1, 1) := by decide +kernel
theorem dq_M_swap_103 : decode prog_10_method_27_code 103 = .ok (.iadd, 1) := by decide +kernel
theorem dq_M_swap_104 : decode prog_10_method_27_code 104 = .ok (.iload_n 3, 1) := by decide +kernel
theorem dq_M_swap_105 : decode prog_10_method_27_code 105 = .ok (.isub, 1) := by decide +kernel
theorem dq_M_swap_106 : decode prog_10_method_27_code 106 = .ok (.iaload, 1) := by decide +kernel
theorem dq_M_swap_107 : decode prog_10_method_27_code 107 = .ok (.lload 7, 2) := by decide +kernel
theorem dq_M_swap_109 : decode prog_10_method_27_code 109 = .ok (.invokevirtual 182, 3) := by decide +kernel
theorem dq_M_swap_112 : decode prog_10_method_27_code 112 = .ok (.aload_n 0, 1) := by decide +kernel
theorem dq_M_swap_113 : decode prog_10_method_27_code 113 = .ok (.getfield 26, 3) := by decide +kernel
theorem dq_M_swap_116 : decode prog_10_method_27_code 116 = .ok (.iconst 2, 1) := by decide +kernel
theorem dq_M_swap_117 : decode prog_10_method_27_code 117 = .ok (.iload_n 2, 1) := by decide +kernel
theorem dq_M_swap_118 : decode prog_10_method_27_code 118 = .ok (.imul, 1) := by decide +kernel
theorem dq_M_swap_119 : decode prog_10_method_27_code 119 = .ok (.iload_n 3, 1) := by decide +kernel
theorem dq_M_swap_120 : decode prog_10_method_27_code 120 = .ok (.iadd, 1) := by decide +kernel
theorem dq_M_swap_121 : decode prog_10_method_27_code 121 = .ok (.dup2, 1) := by decide +kernel
theorem dq_M_swap_122 : decode prog_10_method_27_code 122 = .ok (.laload, 1) := by decide +kernel
theorem dq_M_swap_123 : decode prog_10_method_27_code 123 = .ok (.lload 4, 2) := by decide +kernel
theorem dq_M_swap_125 : decode prog_10_method_27_code 125 = .ok (.ladd, 1) := by decide +kernel
theorem dq_M_swap_126 : decode prog_10_method_27_code 126 = .ok (.lastore, 1) := by decide +kernel
theorem dq_M_swap_127 : decode prog_10_method_27_code 127 = .ok (.aload_n 0, 1) := by decide +kernel
theorem dq_M_swap_128 : decode prog_10_method_27_code 128 = .ok (.getfield 26, 3) := by decide +kernel
theorem dq_M_swap_131 : decode prog_10_method_27_code 131 = .ok (.iconst 2, 1) := by decide +kernel
theorem dq_M_swap_132 : decode prog_10_method_27_code 132 = .ok (.iload_n 2, 1) := by decide +kernel
theorem dq_M_swap_133 : decode prog_10_method_27_code 133 = .ok (.imul, 1) := by decide +kernel
theorem dq_M_swap_134 : decode prog_10_method_27_code 134 = .ok (.iconst 1, 1) := by decide +kernel
theorem dq_M_swap_135 : decode prog_10_method_27_code 135 = .ok (.iadd, 1) := by decide +kernel
theorem dq_M_swap_136 : decode prog_10_method_27_code 136 = .ok (.iload_n 3, 1) := by decide +kernel
theorem dq_M_swap_137 : decode prog_10_method_27_code 137 = .ok (.isub, 1) := by decide +kernel
theorem dq_M_swap_138 : decode prog_10_method_27_code 138 = .ok (.dup2, 1) := by decide +kernel
theorem dq_M_swap_139 : decode prog_10_method_27_code 139 = .ok (.laload, 1) := by decide +kernel
theorem dq_M_swap_140 : decode prog_10_method_27_code 140 = .ok (.lload 7, 2) := by decide +kernel
theorem dq_M_swap_142 : decode prog_10_method_27_code 142 = .ok (.lsub, 1) := by decide +kernel
theorem dq_M_swap_143 : decode prog_10_method_27_code 143 = .ok (.lastore, 1) := by decide +kernel
theorem dq_M_swap_144 : decode prog_10_method_27_code 144 = .ok (.lload 7, 2) := by decide +kernel
theorem dq_M_swap_146 : decode prog_10_method_27_code 146 = .ok (.lreturn, 1) := by decide +kernel
def fM_swap (o : Nat) (x1 : Int32) (x2 : Int32) (x3 : Int32) (x4 : Int64) (N : qz_N) : Option (Int64 × qz_N) :=
  (fM_isPlayer x1 N).bind fun q1 =>
  if q1.1 = 0 then
    some ((-2 : Int64), q1.2)
  else
  (fM_isPool o x2 q1.2).bind fun q3 =>
  if q3.1 = 0 then
    some ((-2 : Int64), q3.2)
  else
  (fM_isSide x3 q3.2).bind fun q5 =>
  if q5.1 = 0 then
    some ((-2 : Int64), q5.2)
  else
  if (1 : Int64) ≤ x4 then
    if (((2 : Int32) * x2) + x3) < 0 ∨ 12 ≤ (((2 : Int32) * x2) + x3).toNatClampNeg then none else
    qz_let (qz_gi q5.2 24 o (((2 : Int32) * x2) + x3).toNatClampNeg) fun v7 =>
    (fM_has o x1 v7 q5.2).bind fun q8 =>
    if x4 ≤ q8.1 then
      (fM_outOf o x2 x3 x4 q8.2).bind fun q10 =>
      if q10.1 = (0 : Int64) then
        some ((-3 : Int64), q10.2)
      else
      (fM_give o x1 v7 (-x4) q10.2).bind fun q12 =>
      if ((((2 : Int32) * x2) + (1 : Int32)) - x3) < 0 ∨ 12 ≤ ((((2 : Int32) * x2) + (1 : Int32)) - x3).toNatClampNeg then none else
      (fM_give o x1 (qz_gi q12.2 24 o ((((2 : Int32) * x2) + (1 : Int32)) - x3).toNatClampNeg) q10.1 q12.2).bind fun q14 =>
      if (((2 : Int32) * x2) + x3) < 0 ∨ 12 ≤ (((2 : Int32) * x2) + x3).toNatClampNeg then none else
      if (((2 : Int32) * x2) + x3) < 0 ∨ 12 ≤ (((2 : Int32) * x2) + x3).toNatClampNeg then none else
      qz_let (qz_sl q14.2 27 o (((2 : Int32) * x2) + x3).toNatClampNeg ((qz_gl q14.2 27 o (((2 : Int32) * x2) + x3).toNatClampNeg) + x4)) fun N16 =>
      if ((((2 : Int32) * x2) + (1 : Int32)) - x3) < 0 ∨ 12 ≤ ((((2 : Int32) * x2) + (1 : Int32)) - x3).toNatClampNeg then none else
      if ((((2 : Int32) * x2) + (1 : Int32)) - x3) < 0 ∨ 12 ≤ ((((2 : Int32) * x2) + (1 : Int32)) - x3).toNatClampNeg then none else
      qz_let (qz_sl N16 27 o ((((2 : Int32) * x2) + (1 : Int32)) - x3).toNatClampNeg ((qz_gl N16 27 o ((((2 : Int32) * x2) + (1 : Int32)) - x3).toNatClampNeg) - q10.1)) fun N17 =>
      some (q10.1, N17)
    else
    some ((-3 : Int64), q8.2)
  else
  some ((-2 : Int64), q5.2)
set_option maxRecDepth 100000 in
set_option maxHeartbeats 4000000 in
theorem sM_swap {p : Program} {l : Launch} {e : Env} {s : State} {m : MethodId} {args : Array Value} {below : List Frame} {meth : Method} {c : Code} {G : qz_G} (X : qz_X p s m args meth c "ExactCurvesModel" prog_10_method_27_code 9 (some .long) G) {r : (Int64 × qz_N)} (o : Nat) (x1 : Int32) (x2 : Int32) (x3 : Int32) (x4 : Int64) (ho : o < 1) (N : qz_N) (h : fM_swap o x1 x2 x3 x4 N = some r) : qz_W p l e (qz_R 2) s m args below meth c 0 0 (MQ below (qz_Q G r.2 (some (.long r.1))) args s 0 0 (qz_A G)) G s.heap 9 N 0 [(0, .ref (G.2.2 7 o)), (1, .int x1), (2, .int x2), (3, .int x3), (4, .long x4)] [] := by
  unfold fM_swap at h
  refine qz_iload_n X 1 rfl dq_M_swap_0 ?_
  refine qz_bind h (fun q1 e2 h => ?_)
  refine qz_callS X (as := [.int x1]) (st := []) (o := some (.int q1.1)) (N' := q1.2) cq_M_166 (cM_isPlayer l G X.2.2.2.2.2.2.1 x1 N _ e2) ⟨by decide, by decide⟩ rfl rfl (Nat.le_of_ble_eq_true rfl) ⟨Nat.zero_le _, Nat.zero_le _⟩ dq_M_swap_1 ?_
  refine qz_if_eq X (tgt := 29) (by decide) dq_M_swap_4 h (fun _ h => ?_) (fun _ h => ?_)
  · refine qz_ldc2 X (v := (-2 : Int64)) wq_742 dq_M_swap_29 ?_
    exact qz_lret X h dq_M_swap_32
  · refine qz_aload_n X 0 rfl dq_M_swap_7 ?_
    refine qz_iload_n X 2 rfl dq_M_swap_8 ?_
    refine qz_bind h (fun q3 e4 h => ?_)
    refine qz_callV X (as := [.int x2]) (st := []) (o := some (.int q3.1)) (N' := q3.2) cq_M_186 ho (cM_isPool l G X.2.2.2.2.2.2.1 o x2 q1.2 ho _ e4) ⟨by decide, by decide⟩ rfl rfl (Nat.le_of_ble_eq_true rfl) ⟨Nat.zero_le _, Nat.zero_le _⟩ dq_M_swap_9 ?_
    refine qz_if_eq X (tgt := 29) (by decide) dq_M_swap_12 h (fun _ h => ?_) (fun _ h => ?_)
    · refine qz_ldc2 X (v := (-2 : Int64)) wq_742 dq_M_swap_29 ?_
      exact qz_lret X h dq_M_swap_32
    · refine qz_iload_n X 3 rfl dq_M_swap_15 ?_
      refine qz_bind h (fun q5 e6 h => ?_)
      refine qz_callS X (as := [.int x3]) (st := []) (o := some (.int q5.1)) (N' := q5.2) cq_M_208 (cM_isSide l G X.2.2.2.2.2.2.1 x3 q3.2 _ e6) ⟨by decide, by decide⟩ rfl rfl (Nat.le_of_ble_eq_true rfl) ⟨Nat.zero_le _, Nat.zero_le _⟩ dq_M_swap_16 ?_
      refine qz_if_eq X (tgt := 29) (by decide) dq_M_swap_19 h (fun _ h => ?_) (fun _ h => ?_)
      · refine qz_ldc2 X (v := (-2 : Int64)) wq_742 dq_M_swap_29 ?_
        exact qz_lret X h dq_M_swap_32
      · refine qz_lload X 4 rfl dq_M_swap_22 ?_
        refine qz_lconst X (v := (1 : Int64)) (by decide) dq_M_swap_24 ?_
        refine qz_lcmp_ge X (tgt := 33) (by decide) dq_M_swap_25 dq_M_swap_26 h (fun _ h => ?_) (fun _ h => ?_)
        · refine qz_aload_n X 0 rfl dq_M_swap_33 ?_
          refine qz_get X (v := .ref (G.2.2 24 o)) kq_M_16 ho rfl dq_M_swap_34 ?_
          refine qz_iconst X (v := (2 : Int32)) (by decide) dq_M_swap_37 ?_
          refine qz_iload_n X 2 rfl dq_M_swap_38 ?_
          refine qz_imul X dq_M_swap_39 ?_
          refine qz_iload_n X 3 rfl dq_M_swap_40 ?_
          refine qz_iadd X dq_M_swap_41 ?_
          refine qz_iald X (c0 := 24) (i := o) (n := 12) rfl ho dq_M_swap_42 h (fun h => ?_)
          refine qz_leti h (fun v7 h => ?_)
          refine qz_istore X (lv' := [(6, .int v7), (0, .ref (G.2.2 7 o)), (1, .int x1), (2, .int x2), (3, .int x3), (4, .long x4)]) (by decide) rfl dq_M_swap_43 ?_
          refine qz_aload_n X 1 rfl dq_M_swap_45 ?_
          refine qz_iload_n X 2 rfl dq_M_swap_46 ?_
          refine qz_iload X 0 rfl dq_M_swap_47 ?_
          refine qz_bind h (fun q8 e9 h => ?_)
          refine qz_callV X (as := [.int x1, .int v7]) (st := []) (o := some (.long q8.1)) (N' := q8.2) cq_M_148 ho (cM_has l G X.2.2.2.2.2.2.1 o x1 v7 q5.2 ho _ e9) ⟨by decide, by decide⟩ rfl rfl (Nat.le_of_ble_eq_true rfl) ⟨Nat.zero_le _, Nat.zero_le _⟩ dq_M_swap_49 ?_
          refine qz_lload X 5 rfl dq_M_swap_52 ?_
          refine qz_lcmp_ge X (tgt := 62) (by decide) dq_M_swap_54 dq_M_swap_55 h (fun _ h => ?_) (fun _ h => ?_)
          · refine qz_aload_n X 1 rfl dq_M_swap_62 ?_
            refine qz_iload_n X 3 rfl dq_M_swap_63 ?_
            refine qz_iload_n X 4 rfl dq_M_swap_64 ?_
            refine qz_lload X 5 rfl dq_M_swap_65 ?_
            refine qz_bind h (fun q10 e11 h => ?_)
            refine qz_callV X (as := [.int x2, .int x3, .long x4]) (st := []) (o := some (.long q10.1)) (N' := q10.2) cq_M_211 ho (cM_outOf l G X.2.2.2.2.2.2.1 o x2 x3 x4 q8.2 ho _ e11) ⟨by decide, by decide⟩ rfl rfl (Nat.le_of_ble_eq_true rfl) ⟨Nat.zero_le _, Nat.zero_le _⟩ dq_M_swap_67 ?_
            refine qz_lstore X (lv' := [(7, .long q10.1), (6, .int v7), (0, .ref (G.2.2 7 o)), (1, .int x1), (2, .int x2), (3, .int x3), (4, .long x4)]) (by decide) rfl dq_M_swap_70 ?_
            refine qz_lload X 0 rfl dq_M_swap_72 ?_
            refine qz_lconst X (v := (0 : Int64)) (by decide) dq_M_swap_74 ?_
            refine qz_lcmp_ne X (tgt := 83) (by decide) dq_M_swap_75 dq_M_swap_76 h (fun _ h => ?_) (fun _ h => ?_)
            · refine qz_aload_n X 2 rfl dq_M_swap_83 ?_
              refine qz_iload_n X 3 rfl dq_M_swap_84 ?_
              refine qz_iload X 1 rfl dq_M_swap_85 ?_
              refine qz_lload X 6 rfl dq_M_swap_87 ?_
              refine qz_lneg X dq_M_swap_89 ?_
              refine qz_bind h (fun q12 e13 h => ?_)
              refine qz_callV X (as := [.int x1, .int v7, .long (-x4)]) (st := []) (o := none) (N' := q12.2) cq_M_182 ho (cM_give l G X.2.2.2.2.2.2.1 o x1 v7 (-x4) q10.2 ho _ e13) ⟨by decide, by decide⟩ rfl rfl (Nat.le_of_ble_eq_true rfl) ⟨Nat.zero_le _, Nat.zero_le _⟩ dq_M_swap_90 ?_
              refine qz_aload_n X 2 rfl dq_M_swap_93 ?_
              refine qz_iload_n X 3 rfl dq_M_swap_94 ?_
              refine qz_aload_n X 2 rfl dq_M_swap_95 ?_
              refine qz_get X (v := .ref (G.2.2 24 o)) kq_M_16 ho rfl dq_M_swap_96 ?_
              refine qz_iconst X (v := (2 : Int32)) (by decide) dq_M_swap_99 ?_
              refine qz_iload_n X 4 rfl dq_M_swap_100 ?_
              refine qz_imul X dq_M_swap_101 ?_
              refine qz_iconst X (v := (1 : Int32)) (by decide) dq_M_swap_102 ?_
              refine qz_iadd X dq_M_swap_103 ?_
              refine qz_iload_n X 5 rfl dq_M_swap_104 ?_
              refine qz_isub X dq_M_swap_105 ?_
              refine qz_iald X (c0 := 24) (i := o) (n := 12) rfl ho dq_M_swap_106 h (fun h => ?_)
              refine qz_lload X 0 rfl dq_M_swap_107 ?_
              refine qz_bind h (fun q14 e15 h => ?_)
              refine qz_callV X (as := [.int x1, .int (qz_gi q12.2 24 o ((((2 : Int32) * x2) + (1 : Int32)) - x3).toNatClampNeg), .long q10.1]) (st := []) (o := none) (N' := q14.2) cq_M_182 ho (cM_give l G X.2.2.2.2.2.2.1 o x1 (qz_gi q12.2 24 o ((((2 : Int32) * x2) + (1 : Int32)) - x3).toNatClampNeg) q10.1 q12.2 ho _ e15) ⟨by decide, by decide⟩ rfl rfl (Nat.le_of_ble_eq_true rfl) ⟨Nat.zero_le _, Nat.zero_le _⟩ dq_M_swap_109 ?_
              refine qz_aload_n X 2 rfl dq_M_swap_112 ?_
              refine qz_get X (v := .ref (G.2.2 27 o)) kq_M_26 ho rfl dq_M_swap_113 ?_
              refine qz_iconst X (v := (2 : Int32)) (by decide) dq_M_swap_116 ?_
              refine qz_iload_n X 4 rfl dq_M_swap_117 ?_
              refine qz_imul X dq_M_swap_118 ?_
              refine qz_iload_n X 5 rfl dq_M_swap_119 ?_
              refine qz_iadd X dq_M_swap_120 ?_
              refine qz_dup2_11 X rfl rfl dq_M_swap_121 ?_
              refine qz_lald X (c0 := 27) (i := o) (n := 12) rfl ho dq_M_swap_122 h (fun h => ?_)
              refine qz_lload X 6 rfl dq_M_swap_123 ?_
              refine qz_ladd X dq_M_swap_125 ?_
              refine qz_last X (c0 := 27) (i := o) (n := 12) rfl ho dq_M_swap_126 h (fun N16 h => ?_)
              refine qz_aload_n X 2 rfl dq_M_swap_127 ?_
              refine qz_get X (v := .ref (G.2.2 27 o)) kq_M_26 ho rfl dq_M_swap_128 ?_
              refine qz_iconst X (v := (2 : Int32)) (by decide) dq_M_swap_131 ?_
              refine qz_iload_n X 4 rfl dq_M_swap_132 ?_
              refine qz_imul X dq_M_swap_133 ?_
              refine qz_iconst X (v := (1 : Int32)) (by decide) dq_M_swap_134 ?_
              refine qz_iadd X dq_M_swap_135 ?_
              refine qz_iload_n X 5 rfl dq_M_swap_136 ?_
              refine qz_isub X dq_M_swap_137 ?_
              refine qz_dup2_11 X rfl rfl dq_M_swap_138 ?_
              refine qz_lald X (c0 := 27) (i := o) (n := 12) rfl ho dq_M_swap_139 h (fun h => ?_)
              refine qz_lload X 0 rfl dq_M_swap_140 ?_
              refine qz_lsub X dq_M_swap_142 ?_
              refine qz_last X (c0 := 27) (i := o) (n := 12) rfl ho dq_M_swap_143 h (fun N17 h => ?_)
              refine qz_lload X 0 rfl dq_M_swap_144 ?_
              exact qz_lret X h dq_M_swap_146
            · refine qz_ldc2 X (v := (-3 : Int64)) wq_763 dq_M_swap_79 ?_
              exact qz_lret X h dq_M_swap_82
          · refine qz_ldc2 X (v := (-3 : Int64)) wq_763 dq_M_swap_58 ?_
            exact qz_lret X h dq_M_swap_61
        · refine qz_ldc2 X (v := (-2 : Int64)) wq_742 dq_M_swap_29 ?_
          exact qz_lret X h dq_M_swap_32
theorem cM_swap (l : Launch) (G : qz_G) (hD : qz_D G) (o : Nat) (x1 : Int32) (x2 : Int32) (x3 : Int32) (x4 : Int64) (N : qz_N) (ho : o < 1) (r : (Int64 × qz_N)) (h : fM_swap o x1 x2 x3 x4 N = some r) : qz_M l yM_swap prog_10_method_27_code 9 (some .long) 2 G [.ref (G.2.2 7 o), .int x1, .int x2, .int x3, .long x4] N (some (.long r.1)) r.2 :=
  qz_enter (lv := [(0, .ref (G.2.2 7 o)), (1, .int x1), (2, .int x2), (3, .int x3), (4, .long x4)]) rfl hD (Nat.le_of_ble_eq_true rfl) rfl (fun p e s m args below meth c X => sM_swap X o x1 x2 x3 x4 ho N h)
-- ExactCurvesModel.quote(IIJ)J
theorem dq_M_quote_0 : decode prog_10_method_28_code 0 = .ok (.aload_n 0, 1) := by decide +kernel
theorem dq_M_quote_1 : decode prog_10_method_28_code 1 = .ok (.iload_n 1, 1) := by decide +kernel
theorem dq_M_quote_2 : decode prog_10_method_28_code 2 = .ok (.invokevirtual 186, 3) := by decide +kernel
theorem dq_M_quote_5 : decode prog_10_method_28_code 5 = .ok (.ifCond .eq 24, 3) := by decide +kernel
theorem dq_M_quote_8 : decode prog_10_method_28_code 8 = .ok (.iload_n 2, 1) := by decide +kernel
theorem dq_M_quote_9 : decode prog_10_method_28_code 9 = .ok (.invokestatic 208, 3) := by decide +kernel
theorem dq_M_quote_12 : decode prog_10_method_28_code 12 = .ok (.ifCond .eq 17, 3) := by decide +kernel
theorem dq_M_quote_15 : decode prog_10_method_28_code 15 = .ok (.lload_n 3, 1) := by decide +kernel
theorem dq_M_quote_16 : decode prog_10_method_28_code 16 = .ok (.lconst 1, 1) := by decide +kernel
theorem dq_M_quote_17 : decode prog_10_method_28_code 17 = .ok (.lcmp, 1) := by decide +kernel
theorem dq_M_quote_18 : decode prog_10_method_28_code 18 = .ok (.ifCond .lt 11, 3) := by decide +kernel
theorem dq_M_quote_21 : decode prog_10_method_28_code 21 = .ok (.lload_n 3, 1) := by decide +kernel
theorem dq_M_quote_22 : decode prog_10_method_28_code 22 = .ok (.ldc2_w 173, 3) := by decide +kernel
theorem dq_M_quote_25 : decode prog_10_method_28_code 25 = .ok (.lcmp, 1) := by decide +kernel
theorem dq_M_quote_26 : decode prog_10_method_28_code 26 = .ok (.ifCond .le 7, 3) := by decide +kernel
theorem dq_M_quote_29 : decode prog_10_method_28_code 29 = .ok (.ldc2_w 175, 3) := by decide +kernel
theorem dq_M_quote_32 : decode prog_10_method_28_code 32 = .ok (.lreturn, 1) := by decide +kernel
theorem dq_M_quote_33 : decode prog_10_method_28_code 33 = .ok (.aload_n 0, 1) := by decide +kernel
theorem dq_M_quote_34 : decode prog_10_method_28_code 34 = .ok (.iload_n 1, 1) := by decide +kernel
theorem dq_M_quote_35 : decode prog_10_method_28_code 35 = .ok (.iload_n 2, 1) := by decide +kernel
theorem dq_M_quote_36 : decode prog_10_method_28_code 36 = .ok (.lload_n 3, 1) := by decide +kernel
theorem dq_M_quote_37 : decode prog_10_method_28_code 37 = .ok (.invokevirtual 211, 3) := by decide +kernel
theorem dq_M_quote_40 : decode prog_10_method_28_code 40 = .ok (.lstore 5, 2) := by decide +kernel
theorem dq_M_quote_42 : decode prog_10_method_28_code 42 = .ok (.lload 5, 2) := by decide +kernel
theorem dq_M_quote_44 : decode prog_10_method_28_code 44 = .ok (.lconst 0, 1) := by decide +kernel
theorem dq_M_quote_45 : decode prog_10_method_28_code 45 = .ok (.lcmp, 1) := by decide +kernel
theorem dq_M_quote_46 : decode prog_10_method_28_code 46 = .ok (.ifCond .ne 9, 3) := by decide +kernel
theorem dq_M_quote_49 : decode prog_10_method_28_code 49 = .ok (.ldc2_w 180, 3) := by decide +kernel
theorem dq_M_quote_52 : decode prog_10_method_28_code 52 = .ok (.goto 5, 3) := by decide +kernel
theorem dq_M_quote_55 : decode prog_10_method_28_code 55 = .ok (.lload 5, 2) := by decide +kernel
theorem dq_M_quote_57 : decode prog_10_method_28_code 57 = .ok (.lreturn, 1) := by decide +kernel
def fM_quote (o : Nat) (x1 : Int32) (x2 : Int32) (x3 : Int64) (N : qz_N) : Option (Int64 × qz_N) :=
  (fM_isPool o x1 N).bind fun q1 =>
  if q1.1 = 0 then
    some ((-2 : Int64), q1.2)
  else
  (fM_isSide x2 q1.2).bind fun q3 =>
  if q3.1 = 0 then
    some ((-2 : Int64), q3.2)
  else
  if x3 < (1 : Int64) then
    some ((-2 : Int64), q3.2)
  else
  if x3 ≤ (100000000000000 : Int64) then
    (fM_outOf o x1 x2 x3 q3.2).bind fun q5 =>
    if q5.1 = (0 : Int64) then
      some ((-3 : Int64), q5.2)
    else
    some (q5.1, q5.2)
  else
  some ((-2 : Int64), q3.2)
set_option maxRecDepth 100000 in
set_option maxHeartbeats 4000000 in
theorem sM_quote {p : Program} {l : Launch} {e : Env} {s : State} {m : MethodId} {args : Array Value} {below : List Frame} {meth : Method} {c : Code} {G : qz_G} (X : qz_X p s m args meth c "ExactCurvesModel" prog_10_method_28_code 7 (some .long) G) {r : (Int64 × qz_N)} (o : Nat) (x1 : Int32) (x2 : Int32) (x3 : Int64) (ho : o < 1) (N : qz_N) (h : fM_quote o x1 x2 x3 N = some r) : qz_W p l e (qz_R 2) s m args below meth c 0 0 (MQ below (qz_Q G r.2 (some (.long r.1))) args s 0 0 (qz_A G)) G s.heap 7 N 0 [(0, .ref (G.2.2 7 o)), (1, .int x1), (2, .int x2), (3, .long x3)] [] := by
  unfold fM_quote at h
  refine qz_aload_n X 0 rfl dq_M_quote_0 ?_
  refine qz_iload_n X 1 rfl dq_M_quote_1 ?_
  refine qz_bind h (fun q1 e2 h => ?_)
  refine qz_callV X (as := [.int x1]) (st := []) (o := some (.int q1.1)) (N' := q1.2) cq_M_186 ho (cM_isPool l G X.2.2.2.2.2.2.1 o x1 N ho _ e2) ⟨by decide, by decide⟩ rfl rfl (Nat.le_of_ble_eq_true rfl) ⟨Nat.zero_le _, Nat.zero_le _⟩ dq_M_quote_2 ?_
  refine qz_if_eq X (tgt := 29) (by decide) dq_M_quote_5 h (fun _ h => ?_) (fun _ h => ?_)
  · refine qz_ldc2 X (v := (-2 : Int64)) wq_742 dq_M_quote_29 ?_
    exact qz_lret X h dq_M_quote_32
  · refine qz_iload_n X 2 rfl dq_M_quote_8 ?_
    refine qz_bind h (fun q3 e4 h => ?_)
    refine qz_callS X (as := [.int x2]) (st := []) (o := some (.int q3.1)) (N' := q3.2) cq_M_208 (cM_isSide l G X.2.2.2.2.2.2.1 x2 q1.2 _ e4) ⟨by decide, by decide⟩ rfl rfl (Nat.le_of_ble_eq_true rfl) ⟨Nat.zero_le _, Nat.zero_le _⟩ dq_M_quote_9 ?_
    refine qz_if_eq X (tgt := 29) (by decide) dq_M_quote_12 h (fun _ h => ?_) (fun _ h => ?_)
    · refine qz_ldc2 X (v := (-2 : Int64)) wq_742 dq_M_quote_29 ?_
      exact qz_lret X h dq_M_quote_32
    · refine qz_lload_n X 3 rfl dq_M_quote_15 ?_
      refine qz_lconst X (v := (1 : Int64)) (by decide) dq_M_quote_16 ?_
      refine qz_lcmp_lt X (tgt := 29) (by decide) dq_M_quote_17 dq_M_quote_18 h (fun _ h => ?_) (fun _ h => ?_)
      · refine qz_ldc2 X (v := (-2 : Int64)) wq_742 dq_M_quote_29 ?_
        exact qz_lret X h dq_M_quote_32
      · refine qz_lload_n X 3 rfl dq_M_quote_21 ?_
        refine qz_ldc2 X (v := (100000000000000 : Int64)) wq_741 dq_M_quote_22 ?_
        refine qz_lcmp_le X (tgt := 33) (by decide) dq_M_quote_25 dq_M_quote_26 h (fun _ h => ?_) (fun _ h => ?_)
        · refine qz_aload_n X 0 rfl dq_M_quote_33 ?_
          refine qz_iload_n X 1 rfl dq_M_quote_34 ?_
          refine qz_iload_n X 2 rfl dq_M_quote_35 ?_
          refine qz_lload_n X 3 rfl dq_M_quote_36 ?_
          refine qz_bind h (fun q5 e6 h => ?_)
          refine qz_callV X (as := [.int x1, .int x2, .long x3]) (st := []) (o := some (.long q5.1)) (N' := q5.2) cq_M_211 ho (cM_outOf l G X.2.2.2.2.2.2.1 o x1 x2 x3 q3.2 ho _ e6) ⟨by decide, by decide⟩ rfl rfl (Nat.le_of_ble_eq_true rfl) ⟨Nat.zero_le _, Nat.zero_le _⟩ dq_M_quote_37 ?_
          refine qz_lstore X (lv' := [(5, .long q5.1), (0, .ref (G.2.2 7 o)), (1, .int x1), (2, .int x2), (3, .long x3)]) (by decide) rfl dq_M_quote_40 ?_
          refine qz_lload X 0 rfl dq_M_quote_42 ?_
          refine qz_lconst X (v := (0 : Int64)) (by decide) dq_M_quote_44 ?_
          refine qz_lcmp_ne X (tgt := 55) (by decide) dq_M_quote_45 dq_M_quote_46 h (fun _ h => ?_) (fun _ h => ?_)
          · refine qz_lload X 0 rfl dq_M_quote_55 ?_
            exact qz_lret X h dq_M_quote_57
          · refine qz_ldc2 X (v := (-3 : Int64)) wq_763 dq_M_quote_49 ?_
            refine qz_goto X (tgt := 57) (by decide) dq_M_quote_52 ?_
            exact qz_lret X h dq_M_quote_57
        · refine qz_ldc2 X (v := (-2 : Int64)) wq_742 dq_M_quote_29 ?_
          exact qz_lret X h dq_M_quote_32
theorem cM_quote (l : Launch) (G : qz_G) (hD : qz_D G) (o : Nat) (x1 : Int32) (x2 : Int32) (x3 : Int64) (N : qz_N) (ho : o < 1) (r : (Int64 × qz_N)) (h : fM_quote o x1 x2 x3 N = some r) : qz_M l yM_quote prog_10_method_28_code 7 (some .long) 2 G [.ref (G.2.2 7 o), .int x1, .int x2, .long x3] N (some (.long r.1)) r.2 :=
  qz_enter (lv := [(0, .ref (G.2.2 7 o)), (1, .int x1), (2, .int x2), (3, .long x3)]) rfl hD (Nat.le_of_ble_eq_true rfl) rfl (fun p e s m args below meth c X => sM_quote X o x1 x2 x3 ho N h)
-- ExactCurvesModel.flash(IIJJJJ)I
theorem dq_M_flash_0 : decode prog_10_method_29_code 0 = .ok (.iload_n 1, 1) := by decide +kernel
theorem dq_M_flash_1 : decode prog_10_method_29_code 1 = .ok (.invokestatic 166, 3) := by decide +kernel
theorem dq_M_flash_4 : decode prog_10_method_29_code 4 = .ok (.ifCond .eq 51, 3) := by decide +kernel
theorem dq_M_flash_7 : decode prog_10_method_29_code 7 = .ok (.aload_n 0, 1) := by decide +kernel
theorem dq_M_flash_8 : decode prog_10_method_29_code 8 = .ok (.iload_n 2, 1) := by decide +kernel
theorem dq_M_flash_9 : decode prog_10_method_29_code 9 = .ok (.invokevirtual 186, 3) := by decide +kernel
theorem dq_M_flash_12 : decode prog_10_method_29_code 12 = .ok (.ifCond .eq 43, 3) := by decide +kernel
theorem dq_M_flash_15 : decode prog_10_method_29_code 15 = .ok (.lload_n 3, 1) := by decide +kernel
theorem dq_M_flash_16 : decode prog_10_method_29_code 16 = .ok (.lconst 0, 1) := by decide +kernel
theorem dq_M_flash_17 : decode prog_10_method_29_code 17 = .ok (.lcmp, 1) := by decide +kernel
theorem dq_M_flash_18 : decode prog_10_method_29_code 18 = .ok (.ifCond .lt 37, 3) := by decide +kernel
theorem dq_M_flash_21 : decode prog_10_method_29_code 21 = .ok (.lload 5, 2) := by decide +kernel
theorem dq_M_flash_23 : decode prog_10_method_29_code 23 = .ok (.lconst 0, 1) := by decide +kernel
theorem dq_M_flash_24 : decode prog_10_method_29_code 24 = .ok (.lcmp, 1) := by decide +kernel
theorem dq_M_flash_25 : decode prog_10_method_29_code 25 = .ok (.ifCond .lt 30, 3) := by decide +kernel
theorem dq_M_flash_28 : decode prog_10_method_29_code 28 = .ok (.lload 7, 2) := by decide +kernel
theorem dq_M_flash_30 : decode prog_10_method_29_code 30 = .ok (.lconst 0, 1) := by decide +kernel
theorem dq_M_flash_31 : decode prog_10_method_29_code 31 = .ok (.lcmp, 1) := by decide +kernel
theorem dq_M_flash_32 : decode prog_10_method_29_code 32 = .ok (.ifCond .lt 23, 3) := by decide +kernel
theorem dq_M_flash_35 : decode prog_10_method_29_code 35 = .ok (.lload 9, 2) := by decide +kernel
theorem dq_M_flash_37 : decode prog_10_method_29_code 37 = .ok (.lconst 0, 1) := by decide +kernel
theorem dq_M_flash_38 : decode prog_10_method_29_code 38 = .ok (.lcmp, 1) := by decide +kernel
theorem dq_M_flash_39 : decode prog_10_method_29_code 39 = .ok (.ifCond .lt 16, 3) := by decide +kernel
theorem dq_M_flash_42 : decode prog_10_method_29_code 42 = .ok (.lload_n 3, 1) := by decide +kernel
theorem dq_M_flash_43 : decode prog_10_method_29_code 43 = .ok (.lconst 0, 1) := by decide +kernel
theorem dq_M_flash_44 : decode prog_10_method_29_code 44 = .ok (.lcmp, 1) := by decide +kernel
theorem dq_M_flash_45 : decode prog_10_method_29_code 45 = .ok (.ifCond .ne 13, 3) := by decide +kernel
theorem dq_M_flash_48 : decode prog_10_method_29_code 48 = .ok (.lload 5, 2) := by decide +kernel
theorem dq_M_flash_50 : decode prog_10_method_29_code 50 = .ok (.lconst 0, 1) := by decide +kernel
theorem dq_M_flash_51 : decode prog_10_method_29_code 51 = .ok (.lcmp, 1) := by decide +kernel
theorem dq_M_flash_52 : decode prog_10_method_29_code 52 = .ok (.ifCond .ne 6, 3) := by decide +kernel
theorem dq_M_flash_55 : decode prog_10_method_29_code 55 = .ok (.bipush (-2), 2) := by decide +kernel
theorem dq_M_flash_57 : decode prog_10_method_29_code 57 = .ok (.ireturn, 1) := by decide +kernel
theorem dq_M_flash_58 : decode prog_10_method_29_code 58 = .ok (.aload_n 0, 1) := by decide +kernel
theorem dq_M_flash_59 : decode prog_10_method_29_code 59 = .ok (.getfield 26, 3) := by decide +kernel
theorem dq_M_flash_62 : decode prog_10_method_29_code 62 = .ok (.iconst 2, 1) := by decide +kernel
theorem dq_M_flash_63 : decode prog_10_method_29_code 63 = .ok (.iload_n 2, 1) := by decide +kernel
theorem dq_M_flash_64 : decode prog_10_method_29_code 64 = .ok (.imul, 1) := by decide +kernel
theorem dq_M_flash_65 : decode prog_10_method_29_code 65 = .ok (.laload, 1) := by decide +kernel
theorem dq_M_flash_66 : decode prog_10_method_29_code 66 = .ok (.lstore 11, 2) := by decide +kernel
theorem dq_M_flash_68 : decode prog_10_method_29_code 68 = .ok (.aload_n 0, 1) := by decide +kernel
theorem dq_M_flash_69 : decode prog_10_method_29_code 69 = .ok (.getfield 26, 3) := by decide +kernel
theorem dq_M_flash_72 : decode prog_10_method_29_code 72 = .ok (.iconst 2, 1) := by decide +kernel
theorem dq_M_flash_73 : decode prog_10_method_29_code 73 = .ok (.iload_n 2, 1) := by decide +kernel
theorem dq_M_flash_74 : decode prog_10_method_29_code 74 = .ok (.imul, 1) := by decide +kernel
theorem dq_M_flash_75 : decode prog_10_method_29_code 75 = .ok (.iconst 1, 1) := by decide +kernel
theorem dq_M_flash_76 : decode prog_10_method_29_code 76 = .ok (.iadd, 1) := by decide +kernel
theorem dq_M_flash_77 : decode prog_10_method_29_code 77 = .ok (.laload, 1) := by decide +kernel
theorem dq_M_flash_78 : decode prog_10_method_29_code 78 = .ok (.lstore 13, 2) := by decide +kernel
theorem dq_M_flash_80 : decode prog_10_method_29_code 80 = .ok (.lload_n 3, 1) := by decide +kernel
theorem dq_M_flash_81 : decode prog_10_method_29_code 81 = .ok (.lload 11, 2) := by decide +kernel
theorem dq_M_flash_83 : decode prog_10_method_29_code 83 = .ok (.lcmp, 1) := by decide +kernel
theorem dq_M_flash_84 : decode prog_10_method_29_code 84 = .ok (.ifCond .gt 11, 3) := by decide +kernel
theorem dq_M_flash_87 : decode prog_10_method_29_code 87 = .ok (.lload 5, 2) := by decide +kernel
theorem dq_M_flash_89 : decode prog_10_method_29_code 89 = .ok (.lload 13, 2) := by decide +kernel
theorem dq_M_flash_91 : decode prog_10_method_29_code 91 = .ok (.lcmp, 1) := by decide +kernel
theorem dq_M_flash_92 : decode prog_10_method_29_code 92 = .ok (.ifCond .le 6, 3) := by decide +kernel
theorem dq_M_flash_95 : decode prog_10_method_29_code 95 = .ok (.bipush (-2), 2) := by decide +kernel
theorem dq_M_flash_97 : decode prog_10_method_29_code 97 = .ok (.ireturn, 1) := by decide +kernel
theorem dq_M_flash_98 : decode prog_10_method_29_code 98 = .ok (.aload_n 0, 1) := by decide +kernel
theorem dq_M_flash_99 : decode prog_10_method_29_code 99 = .ok (.getfield 16, 3) := by decide +kernel
theorem dq_M_flash_102 : decode prog_10_method_29_code 102 = .ok (.iconst 2, 1) := by decide +kernel
theorem dq_M_flash_103 : decode prog_10_method_29_code 103 = .ok (.iload_n 2, 1) := by decide +kernel
theorem dq_M_flash_104 : decode prog_10_method_29_code 104 = .ok (.imul, 1) := by decide +kernel
theorem dq_M_flash_105 : decode prog_10_method_29_code 105 = .ok (.iaload, 1) := by decide +kernel
theorem dq_M_flash_106 : decode prog_10_method_29_code 106 = .ok (.istore 15, 2) := by decide +kernel
theorem dq_M_flash_108 : decode prog_10_method_29_code 108 = .ok (.aload_n 0, 1) := by decide +kernel
theorem dq_M_flash_109 : decode prog_10_method_29_code 109 = .ok (.getfield 16, 3) := by decide +kernel
theorem dq_M_flash_112 : decode prog_10_method_29_code 112 = .ok (.iconst 2, 1) := by decide +kernel
theorem dq_M_flash_113 : decode prog_10_method_29_code 113 = .ok (.iload_n 2, 1) := by decide +kernel
theorem dq_M_flash_114 : decode prog_10_method_29_code 114 = .ok (.imul, 1) := by decide +kernel
theorem dq_M_flash_115 : decode prog_10_method_29_code 115 = .ok (.iconst 1, 1) := by decide +kernel
theorem dq_M_flash_116 : decode prog_10_method_29_code 116 = .ok (.iadd, 1) := by decide +kernel
theorem dq_M_flash_117 : decode prog_10_method_29_code 117 = .ok (.iaload, 1) := by decide +kernel
theorem dq_M_flash_118 : decode prog_10_method_29_code 118 = .ok (.istore 16, 2) := by decide +kernel
theorem dq_M_flash_120 : decode prog_10_method_29_code 120 = .ok (.aload_n 0, 1) := by decide +kernel
theorem dq_M_flash_121 : decode prog_10_method_29_code 121 = .ok (.iload_n 1, 1) := by decide +kernel
theorem dq_M_flash_122 : decode prog_10_method_29_code 122 = .ok (.iload 15, 2) := by decide +kernel
theorem dq_M_flash_124 : decode prog_10_method_29_code 124 = .ok (.invokevirtual 148, 3) := by decide +kernel
theorem dq_M_flash_127 : decode prog_10_method_29_code 127 = .ok (.lload_n 3, 1) := by decide +kernel
theorem dq_M_flash_128 : decode prog_10_method_29_code 128 = .ok (.ladd, 1) := by decide +kernel
theorem dq_M_flash_129 : decode prog_10_method_29_code 129 = .ok (.lload 7, 2) := by decide +kernel
theorem dq_M_flash_131 : decode prog_10_method_29_code 131 = .ok (.lcmp, 1) := by decide +kernel
theorem dq_M_flash_132 : decode prog_10_method_29_code 132 = .ok (.ifCond .lt 19, 3) := by decide +kernel
theorem dq_M_flash_135 : decode prog_10_method_29_code 135 = .ok (.aload_n 0, 1) := by decide +kernel
theorem dq_M_flash_136 : decode prog_10_method_29_code 136 = .ok (.iload_n 1, 1) := by decide +kernel
theorem dq_M_flash_137 : decode prog_10_method_29_code 137 = .ok (.iload 16, 2) := by decide +kernel
theorem dq_M_flash_139 : decode prog_10_method_29_code 139 = .ok (.invokevirtual 148, 3) := by decide +kernel
theorem dq_M_flash_142 : decode prog_10_method_29_code 142 = .ok (.lload 5, 2) := by decide +kernel
theorem dq_M_flash_144 : decode prog_10_method_29_code 144 = .ok (.ladd, 1) := by decide +kernel
theorem dq_M_flash_145 : decode prog_10_method_29_code 145 = .ok (.lload 9, 2) := by decide +kernel
theorem dq_M_flash_147 : decode prog_10_method_29_code 147 = .ok (.lcmp, 1) := by decide +kernel
theorem dq_M_flash_148 : decode prog_10_method_29_code 148 = .ok (.ifCond .ge 6, 3) := by decide +kernel
theorem dq_M_flash_151 : decode prog_10_method_29_code 151 = .ok (.bipush (-3), 2) := by decide +kernel
theorem dq_M_flash_153 : decode prog_10_method_29_code 153 = .ok (.ireturn, 1) := by decide +kernel
theorem dq_M_flash_154 : decode prog_10_method_29_code 154 = .ok (.lload 11, 2) := by decide +kernel
theorem dq_M_flash_156 : decode prog_10_method_29_code 156 = .ok (.lload_n 3, 1) := by decide +kernel
theorem dq_M_flash_157 : decode prog_10_method_29_code 157 = .ok (.lsub, 1) := by decide +kernel
theorem dq_M_flash_158 : decode prog_10_method_29_code 158 = .ok (.lload 7, 2) := by decide +kernel
theorem dq_M_flash_160 : decode prog_10_method_29_code 160 = .ok (.ladd, 1) := by decide +kernel
theorem dq_M_flash_161 : decode prog_10_method_29_code 161 = .ok (.lstore 17, 2) := by decide +kernel
theorem dq_M_flash_163 : decode prog_10_method_29_code 163 = .ok (.lload 13, 2) := by decide +kernel
theorem dq_M_flash_165 : decode prog_10_method_29_code 165 = .ok (.lload 5, 2) := by decide +kernel
theorem dq_M_flash_167 : decode prog_10_method_29_code 167 = .ok (.lsub, 1) := by decide +kernel
theorem dq_M_flash_168 : decode prog_10_method_29_code 168 = .ok (.lload 9, 2) := by decide +kernel
theorem dq_M_flash_170 : decode prog_10_method_29_code 170 = .ok (.ladd, 1) := by decide +kernel
theorem dq_M_flash_171 : decode prog_10_method_29_code 171 = .ok (.lstore 19, 2) := by decide +kernel
theorem dq_M_flash_173 : decode prog_10_method_29_code 173 = .ok (.aload_n 0, 1) := by decide +kernel
theorem dq_M_flash_174 : decode prog_10_method_29_code 174 = .ok (.getfield 23, 3) := by decide +kernel
theorem dq_M_flash_177 : decode prog_10_method_29_code 177 = .ok (.iload_n 2, 1) := by decide +kernel
theorem dq_M_flash_178 : decode prog_10_method_29_code 178 = .ok (.iaload, 1) := by decide +kernel
theorem dq_M_flash_179 : decode prog_10_method_29_code 179 = .ok (.i2l, 1) := by decide +kernel
theorem dq_M_flash_180 : decode prog_10_method_29_code 180 = .ok (.lstore 21, 2) := by decide +kernel
theorem dq_M_flash_182 : decode prog_10_method_29_code 182 = .ok (.aload_n 0, 1) := by decide +kernel
theorem dq_M_flash_183 : decode prog_10_method_29_code 183 = .ok (.getfield 20, 3) := by decide +kernel
theorem dq_M_flash_186 : decode prog_10_method_29_code 186 = .ok (.iload_n 2, 1) := by decide +kernel
theorem dq_M_flash_187 : decode prog_10_method_29_code 187 = .ok (.iaload, 1) := by decide +kernel
theorem dq_M_flash_188 : decode prog_10_method_29_code 188 = .ok (.ifCond .ne 97, 3) := by decide +kernel
theorem dq_M_flash_191 : decode prog_10_method_29_code 191 = .ok (.ldc2_w 206, 3) := by decide +kernel
theorem dq_M_flash_194 : decode prog_10_method_29_code 194 = .ok (.lload 17, 2) := by decide +kernel
theorem dq_M_flash_196 : decode prog_10_method_29_code 196 = .ok (.lmul, 1) := by decide +kernel
theorem dq_M_flash_197 : decode prog_10_method_29_code 197 = .ok (.lload 21, 2) := by decide +kernel
theorem dq_M_flash_199 : decode prog_10_method_29_code 199 = .ok (.lload 7, 2) := by decide +kernel
theorem dq_M_flash_201 : decode prog_10_method_29_code 201 = .ok (.lmul, 1) := by decide +kernel
theorem dq_M_flash_202 : decode prog_10_method_29_code 202 = .ok (.lsub, 1) := by decide +kernel
theorem dq_M_flash_203 : decode prog_10_method_29_code 203 = .ok (.lstore 23, 2) := by decide +kernel
theorem dq_M_flash_205 : decode prog_10_method_29_code 205 = .ok (.ldc2_w 206, 3) := by decide +kernel
theorem dq_M_flash_208 : decode prog_10_method_29_code 208 = .ok (.lload 19, 2) := by decide +kernel
theorem dq_M_flash_210 : decode prog_10_method_29_code 210 = .ok (.lmul, 1) := by decide +kernel
theorem dq_M_flash_211 : decode prog_10_method_29_code 211 = .ok (.lload 21, 2) := by decide +kernel
theorem dq_M_flash_213 : decode prog_10_method_29_code 213 = .ok (.lload 9, 2) := by decide +kernel
theorem dq_M_flash_215 : decode prog_10_method_29_code 215 = .ok (.lmul, 1) := by decide +kernel
theorem dq_M_flash_216 : decode prog_10_method_29_code 216 = .ok (.lsub, 1) := by decide +kernel
theorem dq_M_flash_217 : decode prog_10_method_29_code 217 = .ok (.lstore 25, 2) := by decide +kernel
theorem dq_M_flash_219 : decode prog_10_method_29_code 219 = .ok (.lload 23, 2) := by decide +kernel
theorem dq_M_flash_221 : decode prog_10_method_29_code 221 = .ok (.lconst 0, 1) := by decide +kernel
theorem dq_M_flash_222 : decode prog_10_method_29_code 222 = .ok (.lcmp, 1) := by decide +kernel
theorem dq_M_flash_223 : decode prog_10_method_29_code 223 = .ok (.ifCond .lt 10, 3) := by decide +kernel
theorem dq_M_flash_226 : decode prog_10_method_29_code 226 = .ok (.lload 25, 2) := by decide +kernel
theorem dq_M_flash_228 : decode prog_10_method_29_code 228 = .ok (.lconst 0, 1) := by decide +kernel
theorem dq_M_flash_229 : decode prog_10_method_29_code 229 = .ok (.lcmp, 1) := by decide +kernel
theorem dq_M_flash_230 : decode prog_10_method_29_code 230 = .ok (.ifCond .ge 6, 3) := by decide +kernel
theorem dq_M_flash_233 : decode prog_10_method_29_code 233 = .ok (.bipush (-3), 2) := by decide +kernel
theorem dq_M_flash_235 : decode prog_10_method_29_code 235 = .ok (.ireturn, 1) := by decide +kernel
theorem dq_M_flash_236 : decode prog_10_method_29_code 236 = .ok (.aload_n 0, 1) := by decide +kernel
theorem dq_M_flash_237 : decode prog_10_method_29_code 237 = .ok (.lload 23, 2) := by decide +kernel
theorem dq_M_flash_239 : decode prog_10_method_29_code 239 = .ok (.invokevirtual 130, 3) := by decide +kernel
theorem dq_M_flash_242 : decode prog_10_method_29_code 242 = .ok (.aload_n 0, 1) := by decide +kernel
theorem dq_M_flash_243 : decode prog_10_method_29_code 243 = .ok (.lload 25, 2) := by decide +kernel
theorem dq_M_flash_245 : decode prog_10_method_29_code 245 = .ok (.invokevirtual 134, 3) := by decide +kernel
theorem dq_M_flash_248 : decode prog_10_method_29_code 248 = .ok (.aload_n 0, 1) := by decide +kernel
theorem dq_M_flash_249 : decode prog_10_method_29_code 249 = .ok (.invokevirtual 189, 3) := by decide +kernel
theorem dq_M_flash_252 : decode prog_10_method_29_code 252 = .ok (.aload_n 0, 1) := by decide +kernel
theorem dq_M_flash_253 : decode prog_10_method_29_code 253 = .ok (.ldc2_w 206, 3) := by decide +kernel
theorem dq_M_flash_256 : decode prog_10_method_29_code 256 = .ok (.lload 11, 2) := by decide +kernel
theorem dq_M_flash_258 : decode prog_10_method_29_code 258 = .ok (.lmul, 1) := by decide +kernel
theorem dq_M_flash_259 : decode prog_10_method_29_code 259 = .ok (.invokevirtual 130, 3) := by decide +kernel
theorem dq_M_flash_262 : decode prog_10_method_29_code 262 = .ok (.aload_n 0, 1) := by decide +kernel
theorem dq_M_flash_263 : decode prog_10_method_29_code 263 = .ok (.ldc2_w 206, 3) := by decide +kernel
theorem dq_M_flash_266 : decode prog_10_method_29_code 266 = .ok (.lload 13, 2) := by decide +kernel
theorem dq_M_flash_268 : decode prog_10_method_29_code 268 = .ok (.lmul, 1) := by decide +kernel
theorem dq_M_flash_269 : decode prog_10_method_29_code 269 = .ok (.invokevirtual 134, 3) := by decide +kernel
theorem dq_M_flash_272 : decode prog_10_method_29_code 272 = .ok (.aload_n 0, 1) := by decide +kernel
theorem dq_M_flash_273 : decode prog_10_method_29_code 273 = .ok (.invokevirtual 192, 3) := by decide +kernel
theorem dq_M_flash_276 : decode prog_10_method_29_code 276 = .ok (.ifCond .eq 6, 3) := by decide +kernel
theorem dq_M_flash_279 : decode prog_10_method_29_code 279 = .ok (.bipush (-3), 2) := by decide +kernel
theorem dq_M_flash_281 : decode prog_10_method_29_code 281 = .ok (.ireturn, 1) := by decide +kernel
theorem dq_M_flash_282 : decode prog_10_method_29_code 282 = .ok (.goto 37, 3) := by decide +kernel
theorem dq_M_flash_285 : decode prog_10_method_29_code 285 = .ok (.ldc2_w 206, 3) := by decide +kernel
theorem dq_M_flash_288 : decode prog_10_method_29_code 288 = .ok (.lload 17, 2) := by decide +kernel
theorem dq_M_flash_290 : decode prog_10_method_29_code 290 = .ok (.lload 19, 2) := by decide +kernel
theorem dq_M_flash_292 : decode prog_10_method_29_code 292 = .ok (.ladd, 1) := by decide +kernel
theorem dq_M_flash_293 : decode prog_10_method_29_code 293 = .ok (.lmul, 1) := by decide +kernel
theorem dq_M_flash_294 : decode prog_10_method_29_code 294 = .ok (.lload 21, 2) := by decide +kernel
theorem dq_M_flash_296 : decode prog_10_method_29_code 296 = .ok (.lload 7, 2) := by decide +kernel
theorem dq_M_flash_298 : decode prog_10_method_29_code 298 = .ok (.lload 9, 2) := by decide +kernel
theorem dq_M_flash_300 : decode prog_10_method_29_code 300 = .ok (.ladd, 1) := by decide +kernel
theorem dq_M_flash_301 : decode prog_10_method_29_code 301 = .ok (.lmul, 1) := by decide +kernel
theorem dq_M_flash_302 : decode prog_10_method_29_code 302 = .ok (.lsub, 1) := by decide +kernel
theorem dq_M_flash_303 : decode prog_10_method_29_code 303 = .ok (.ldc2_w 206, 3) := by decide +kernel
theorem dq_M_flash_306 : decode prog_10_method_29_code 306 = .ok (.lload 11, 2) := by decide +kernel
theorem dq_M_flash_308 : decode prog_10_method_29_code 308 = .ok (.lload 13, 2) := by decide +kernel
theorem dq_M_flash_310 : decode prog_10_method_29_code 310 = .ok (.ladd, 1) := by decide +kernel
theorem dq_M_flash_311 : decode prog_10_method_29_code 311 = .ok (.lmul, 1) := by decide +kernel
theorem dq_M_flash_312 : decode prog_10_method_29_code 312 = .ok (.lcmp, 1) := by decide +kernel
theorem dq_M_flash_313 : decode prog_10_method_29_code 313 = .ok (.ifCond .ge 6, 3) := by decide +kernel
theorem dq_M_flash_316 : decode prog_10_method_29_code 316 = .ok (.bipush (-3), 2) := by decide +kernel
theorem dq_M_flash_318 : decode prog_10_method_29_code 318 = .ok (.ireturn, 1) := by decide +kernel
theorem dq_M_flash_319 : decode prog_10_method_29_code 319 = .ok (.aload_n 0, 1) := by decide +kernel
theorem dq_M_flash_320 : decode prog_10_method_29_code 320 = .ok (.iload_n 1, 1) := by decide +kernel
theorem dq_M_flash_321 : decode prog_10_method_29_code 321 = .ok (.iload 15, 2) := by decide +kernel
theorem dq_M_flash_323 : decode prog_10_method_29_code 323 = .ok (.lload_n 3, 1) := by decide +kernel
theorem dq_M_flash_324 : decode prog_10_method_29_code 324 = .ok (.lload 7, 2) := by decide +kernel
theorem dq_M_flash_326 : decode prog_10_method_29_code 326 = .ok (.lsub, 1) := by decide +kernel
theorem dq_M_flash_327 : decode prog_10_method_29_code 327 = .ok (.invokevirtual 182, 3) := by decide +kernel
theorem dq_M_flash_330 : decode prog_10_method_29_code 330 = .ok (.aload_n 0, 1) := by decide +kernel
theorem dq_M_flash_331 : decode prog_10_method_29_code 331 = .ok (.iload_n 1, 1) := by decide +kernel
theorem dq_M_flash_332 : decode prog_10_method_29_code 332 = .ok (.iload 16, 2) := by decide +kernel
theorem dq_M_flash_334 : decode prog_10_method_29_code 334 = .ok (.lload 5, 2) := by decide +kernel
theorem dq_M_flash_336 : decode prog_10_method_29_code 336 = .ok (.lload 9, 2) := by decide +kernel
theorem dq_M_flash_338 : decode prog_10_method_29_code 338 = .ok (.lsub, 1) := by decide +kernel
theorem dq_M_flash_339 : decode prog_10_method_29_code 339 = .ok (.invokevirtual 182, 3) := by decide +kernel
theorem dq_M_flash_342 : decode prog_10_method_29_code 342 = .ok (.aload_n 0, 1) := by decide +kernel
theorem dq_M_flash_343 : decode prog_10_method_29_code 343 = .ok (.getfield 26, 3) := by decide +kernel
theorem dq_M_flash_346 : decode prog_10_method_29_code 346 = .ok (.iconst 2, 1) := by decide +kernel
theorem dq_M_flash_347 : decode prog_10_method_29_code 347 = .ok (.iload_n 2, 1) := by decide +kernel
theorem dq_M_flash_348 : decode prog_10_method_29_code 348 = .ok (.imul, 1) := by decide +kernel
theorem dq_M_flash_349 : decode prog_10_method_29_code 349 = .ok (.lload 17, 2) := by decide +kernel
theorem dq_M_flash_351 : decode prog_10_method_29_code 351 = .ok (.lastore, 1) := by decide +kernel
theorem dq_M_flash_352 : decode prog_10_method_29_code 352 = .ok (.aload_n 0, 1) := by decide +kernel
theorem dq_M_flash_353 : decode prog_10_method_29_code 353 = .ok (.getfield 26, 3) := by decide +kernel
theorem dq_M_flash_356 : decode prog_10_method_29_code 356 = .ok (.iconst 2, 1) := by decide +kernel
theorem dq_M_flash_357 : decode prog_10_method_29_code 357 = .ok (.iload_n 2, 1) := by decide +kernel
theorem dq_M_flash_358 : decode prog_10_method_29_code 358 = .ok (.imul, 1) := by decide +kernel
theorem dq_M_flash_359 : decode prog_10_method_29_code 359 = .ok (.iconst 1, 1) := by decide +kernel
theorem dq_M_flash_360 : decode prog_10_method_29_code 360 = .ok (.iadd, 1) := by decide +kernel
theorem dq_M_flash_361 : decode prog_10_method_29_code 361 = .ok (.lload 19, 2) := by decide +kernel
theorem dq_M_flash_363 : decode prog_10_method_29_code 363 = .ok (.lastore, 1) := by decide +kernel
theorem dq_M_flash_364 : decode prog_10_method_29_code 364 = .ok (.iconst 1, 1) := by decide +kernel
theorem dq_M_flash_365 : decode prog_10_method_29_code 365 = .ok (.ireturn, 1) := by decide +kernel
def fM_flash_319 (y0 : Nat) (N : qz_N) (x1 : Int32) (x2 : Int32) (x3 : Int64) (x5 : Int64) (x7 : Int64) (x9 : Int64) (x15 : Int32) (x16 : Int32) (x17 : Int64) (x19 : Int64) : Option (Int32 × qz_N) :=
  (fM_give y0 x1 x15 (x3 - x7) N).bind fun q16 =>
  (fM_give y0 x1 x16 (x5 - x9) q16.2).bind fun q18 =>
  if ((2 : Int32) * x2) < 0 ∨ 12 ≤ ((2 : Int32) * x2).toNatClampNeg then none else
  qz_let (qz_sl q18.2 27 y0 ((2 : Int32) * x2).toNatClampNeg x17) fun N20 =>
  if (((2 : Int32) * x2) + (1 : Int32)) < 0 ∨ 12 ≤ (((2 : Int32) * x2) + (1 : Int32)).toNatClampNeg then none else
  qz_let (qz_sl N20 27 y0 (((2 : Int32) * x2) + (1 : Int32)).toNatClampNeg x19) fun N21 =>
  some ((1 : Int32), N21)
def fM_flash_58 (y0 : Nat) (N : qz_N) (x1 : Int32) (x2 : Int32) (x3 : Int64) (x5 : Int64) (x7 : Int64) (x9 : Int64) : Option (Int32 × qz_N) :=
  if ((2 : Int32) * x2) < 0 ∨ 12 ≤ ((2 : Int32) * x2).toNatClampNeg then none else
  qz_let (qz_gl N 27 y0 ((2 : Int32) * x2).toNatClampNeg) fun v5 =>
  if (((2 : Int32) * x2) + (1 : Int32)) < 0 ∨ 12 ≤ (((2 : Int32) * x2) + (1 : Int32)).toNatClampNeg then none else
  qz_let (qz_gl N 27 y0 (((2 : Int32) * x2) + (1 : Int32)).toNatClampNeg) fun v6 =>
  if v5 < x3 then
    some ((-2 : Int32), N)
  else
  if x5 ≤ v6 then
    if ((2 : Int32) * x2) < 0 ∨ 12 ≤ ((2 : Int32) * x2).toNatClampNeg then none else
    qz_let (qz_gi N 24 y0 ((2 : Int32) * x2).toNatClampNeg) fun v7 =>
    if (((2 : Int32) * x2) + (1 : Int32)) < 0 ∨ 12 ≤ (((2 : Int32) * x2) + (1 : Int32)).toNatClampNeg then none else
    qz_let (qz_gi N 24 y0 (((2 : Int32) * x2) + (1 : Int32)).toNatClampNeg) fun v8 =>
    (fM_has y0 x1 v7 N).bind fun q9 =>
    if (q9.1 + x3) < x7 then
      some ((-3 : Int32), q9.2)
    else
    (fM_has y0 x1 v8 q9.2).bind fun q11 =>
    if x9 ≤ (q11.1 + x5) then
      qz_let ((v5 - x3) + x7) fun v13 =>
      qz_let ((v6 - x5) + x9) fun v14 =>
      if x2 < 0 ∨ 6 ≤ x2.toNatClampNeg then none else
      qz_let ((qz_gi q11.2 26 y0 x2.toNatClampNeg).toInt64) fun v15 =>
      if x2 < 0 ∨ 6 ≤ x2.toNatClampNeg then none else
      if (qz_gi q11.2 25 y0 x2.toNatClampNeg) = 0 then
        qz_let (((10000 : Int64) * v13) - (v15 * x7)) fun v22 =>
        qz_let (((10000 : Int64) * v14) - (v15 * x9)) fun v23 =>
        if v22 < (0 : Int64) then
          some ((-3 : Int32), q11.2)
        else
        if (0 : Int64) ≤ v23 then
          (fM_begin y0 v22 q11.2).bind fun q24 =>
          (fM_times y0 v23 q24.2).bind fun q26 =>
          (fM_keepBig y0 q26.2).bind fun q28 =>
          (fM_begin y0 ((10000 : Int64) * v5) q28.2).bind fun q30 =>
          (fM_times y0 ((10000 : Int64) * v6) q30.2).bind fun q32 =>
          (fM_keptIsLess y0 q32.2).bind fun q34 =>
          if q34.1 = 0 then
            fM_flash_319 y0 q34.2 x1 x2 x3 x5 x7 x9 v7 v8 v13 v14
          else
          some ((-3 : Int32), q34.2)
        else
        some ((-3 : Int32), q11.2)
      else
      if ((10000 : Int64) * (v5 + v6)) ≤ (((10000 : Int64) * (v13 + v14)) - (v15 * (x7 + x9))) then
        fM_flash_319 y0 q11.2 x1 x2 x3 x5 x7 x9 v7 v8 v13 v14
      else
      some ((-3 : Int32), q11.2)
    else
    some ((-3 : Int32), q11.2)
  else
  some ((-2 : Int32), N)
def fM_flash (o : Nat) (x1 : Int32) (x2 : Int32) (x3 : Int64) (x5 : Int64) (x7 : Int64) (x9 : Int64) (N : qz_N) : Option (Int32 × qz_N) :=
  (fM_isPlayer x1 N).bind fun q1 =>
  if q1.1 = 0 then
    some ((-2 : Int32), q1.2)
  else
  (fM_isPool o x2 q1.2).bind fun q3 =>
  if q3.1 = 0 then
    some ((-2 : Int32), q3.2)
  else
  if x3 < (0 : Int64) then
    some ((-2 : Int32), q3.2)
  else
  if x5 < (0 : Int64) then
    some ((-2 : Int32), q3.2)
  else
  if x7 < (0 : Int64) then
    some ((-2 : Int32), q3.2)
  else
  if x9 < (0 : Int64) then
    some ((-2 : Int32), q3.2)
  else
  if x3 = (0 : Int64) then
    if x5 = (0 : Int64) then
      some ((-2 : Int32), q3.2)
    else
    fM_flash_58 o q3.2 x1 x2 x3 x5 x7 x9
  else
  fM_flash_58 o q3.2 x1 x2 x3 x5 x7 x9
set_option maxRecDepth 100000 in
set_option maxHeartbeats 4000000 in
theorem sM_flash_319 {p : Program} {l : Launch} {e : Env} {s : State} {m : MethodId} {args : Array Value} {below : List Frame} {meth : Method} {c : Code} {G : qz_G} (X : qz_X p s m args meth c "ExactCurvesModel" prog_10_method_29_code 27 (some .int) G) {r : (Int32 × qz_N)} (y0 : Nat) (hy0 : y0 < 1) (N : qz_N) (x1 : Int32) (x2 : Int32) (x3 : Int64) (x5 : Int64) (x7 : Int64) (x9 : Int64) (x15 : Int32) (x16 : Int32) (x17 : Int64) (x19 : Int64) (h : fM_flash_319 y0 N x1 x2 x3 x5 x7 x9 x15 x16 x17 x19 = some r) : qz_W p l e (qz_R 1) s m args below meth c 0 0 (MQ below (qz_Q G r.2 (some (.int r.1))) args s 0 0 (qz_A G)) G s.heap 27 N 319 [(1, .int x1), (2, .int x2), (3, .long x3), (5, .long x5), (7, .long x7), (9, .long x9), (15, .int x15), (16, .int x16), (17, .long x17), (19, .long x19), (0, .ref (G.2.2 7 y0))] [] := by
  unfold fM_flash_319 at h
  refine qz_aload_n X 10 rfl dq_M_flash_319 ?_
  refine qz_iload_n X 0 rfl dq_M_flash_320 ?_
  refine qz_iload X 6 rfl dq_M_flash_321 ?_
  refine qz_lload_n X 2 rfl dq_M_flash_323 ?_
  refine qz_lload X 4 rfl dq_M_flash_324 ?_
  refine qz_lsub X dq_M_flash_326 ?_
  refine qz_bind h (fun q16 e17 h => ?_)
  refine qz_callV X (as := [.int x1, .int x15, .long (x3 - x7)]) (st := []) (o := none) (N' := q16.2) cq_M_182 hy0 (cM_give l G X.2.2.2.2.2.2.1 y0 x1 x15 (x3 - x7) N hy0 _ e17) ⟨by decide, by decide⟩ rfl rfl (Nat.le_of_ble_eq_true rfl) ⟨Nat.zero_le _, Nat.zero_le _⟩ dq_M_flash_327 ?_
  refine qz_aload_n X 10 rfl dq_M_flash_330 ?_
  refine qz_iload_n X 0 rfl dq_M_flash_331 ?_
  refine qz_iload X 7 rfl dq_M_flash_332 ?_
  refine qz_lload X 3 rfl dq_M_flash_334 ?_
  refine qz_lload X 5 rfl dq_M_flash_336 ?_
  refine qz_lsub X dq_M_flash_338 ?_
  refine qz_bind h (fun q18 e19 h => ?_)
  refine qz_callV X (as := [.int x1, .int x16, .long (x5 - x9)]) (st := []) (o := none) (N' := q18.2) cq_M_182 hy0 (cM_give l G X.2.2.2.2.2.2.1 y0 x1 x16 (x5 - x9) q16.2 hy0 _ e19) ⟨by decide, by decide⟩ rfl rfl (Nat.le_of_ble_eq_true rfl) ⟨Nat.zero_le _, Nat.zero_le _⟩ dq_M_flash_339 ?_
  refine qz_aload_n X 10 rfl dq_M_flash_342 ?_
  refine qz_get X (v := .ref (G.2.2 27 y0)) kq_M_26 hy0 rfl dq_M_flash_343 ?_
  refine qz_iconst X (v := (2 : Int32)) (by decide) dq_M_flash_346 ?_
  refine qz_iload_n X 1 rfl dq_M_flash_347 ?_
  refine qz_imul X dq_M_flash_348 ?_
  refine qz_lload X 8 rfl dq_M_flash_349 ?_
  refine qz_last X (c0 := 27) (i := y0) (n := 12) rfl hy0 dq_M_flash_351 h (fun N20 h => ?_)
  refine qz_aload_n X 10 rfl dq_M_flash_352 ?_
  refine qz_get X (v := .ref (G.2.2 27 y0)) kq_M_26 hy0 rfl dq_M_flash_353 ?_
  refine qz_iconst X (v := (2 : Int32)) (by decide) dq_M_flash_356 ?_
  refine qz_iload_n X 1 rfl dq_M_flash_357 ?_
  refine qz_imul X dq_M_flash_358 ?_
  refine qz_iconst X (v := (1 : Int32)) (by decide) dq_M_flash_359 ?_
  refine qz_iadd X dq_M_flash_360 ?_
  refine qz_lload X 9 rfl dq_M_flash_361 ?_
  refine qz_last X (c0 := 27) (i := y0) (n := 12) rfl hy0 dq_M_flash_363 h (fun N21 h => ?_)
  refine qz_iconst X (v := (1 : Int32)) (by decide) dq_M_flash_364 ?_
  exact qz_iret X h dq_M_flash_365
set_option maxRecDepth 100000 in
set_option maxHeartbeats 4000000 in
theorem sM_flash_58 {p : Program} {l : Launch} {e : Env} {s : State} {m : MethodId} {args : Array Value} {below : List Frame} {meth : Method} {c : Code} {G : qz_G} (X : qz_X p s m args meth c "ExactCurvesModel" prog_10_method_29_code 27 (some .int) G) {r : (Int32 × qz_N)} (y0 : Nat) (hy0 : y0 < 1) (N : qz_N) (x1 : Int32) (x2 : Int32) (x3 : Int64) (x5 : Int64) (x7 : Int64) (x9 : Int64) (h : fM_flash_58 y0 N x1 x2 x3 x5 x7 x9 = some r) : qz_W p l e (qz_R 1) s m args below meth c 0 0 (MQ below (qz_Q G r.2 (some (.int r.1))) args s 0 0 (qz_A G)) G s.heap 27 N 58 [(1, .int x1), (2, .int x2), (3, .long x3), (5, .long x5), (7, .long x7), (9, .long x9), (0, .ref (G.2.2 7 y0))] [] := by
  unfold fM_flash_58 at h
  refine qz_aload_n X 6 rfl dq_M_flash_58 ?_
  refine qz_get X (v := .ref (G.2.2 27 y0)) kq_M_26 hy0 rfl dq_M_flash_59 ?_
  refine qz_iconst X (v := (2 : Int32)) (by decide) dq_M_flash_62 ?_
  refine qz_iload_n X 1 rfl dq_M_flash_63 ?_
  refine qz_imul X dq_M_flash_64 ?_
  refine qz_lald X (c0 := 27) (i := y0) (n := 12) rfl hy0 dq_M_flash_65 h (fun h => ?_)
  refine qz_letj h (fun v5 h => ?_)
  refine qz_lstore X (lv' := [(11, .long v5), (1, .int x1), (2, .int x2), (3, .long x3), (5, .long x5), (7, .long x7), (9, .long x9), (0, .ref (G.2.2 7 y0))]) (by decide) rfl dq_M_flash_66 ?_
  refine qz_aload_n X 7 rfl dq_M_flash_68 ?_
  refine qz_get X (v := .ref (G.2.2 27 y0)) kq_M_26 hy0 rfl dq_M_flash_69 ?_
  refine qz_iconst X (v := (2 : Int32)) (by decide) dq_M_flash_72 ?_
  refine qz_iload_n X 2 rfl dq_M_flash_73 ?_
  refine qz_imul X dq_M_flash_74 ?_
  refine qz_iconst X (v := (1 : Int32)) (by decide) dq_M_flash_75 ?_
  refine qz_iadd X dq_M_flash_76 ?_
  refine qz_lald X (c0 := 27) (i := y0) (n := 12) rfl hy0 dq_M_flash_77 h (fun h => ?_)
  refine qz_letj h (fun v6 h => ?_)
  refine qz_lstore X (lv' := [(13, .long v6), (11, .long v5), (1, .int x1), (2, .int x2), (3, .long x3), (5, .long x5), (7, .long x7), (9, .long x9), (0, .ref (G.2.2 7 y0))]) (by decide) rfl dq_M_flash_78 ?_
  refine qz_lload_n X 4 rfl dq_M_flash_80 ?_
  refine qz_lload X 1 rfl dq_M_flash_81 ?_
  refine qz_lcmp_gt X (tgt := 95) (by decide) dq_M_flash_83 dq_M_flash_84 h (fun _ h => ?_) (fun _ h => ?_)
  · refine qz_bipush X (v := (-2 : Int32)) (by decide) dq_M_flash_95 ?_
    exact qz_iret X h dq_M_flash_97
  · refine qz_lload X 5 rfl dq_M_flash_87 ?_
    refine qz_lload X 0 rfl dq_M_flash_89 ?_
    refine qz_lcmp_le X (tgt := 98) (by decide) dq_M_flash_91 dq_M_flash_92 h (fun _ h => ?_) (fun _ h => ?_)
    · refine qz_aload_n X 8 rfl dq_M_flash_98 ?_
      refine qz_get X (v := .ref (G.2.2 24 y0)) kq_M_16 hy0 rfl dq_M_flash_99 ?_
      refine qz_iconst X (v := (2 : Int32)) (by decide) dq_M_flash_102 ?_
      refine qz_iload_n X 3 rfl dq_M_flash_103 ?_
      refine qz_imul X dq_M_flash_104 ?_
      refine qz_iald X (c0 := 24) (i := y0) (n := 12) rfl hy0 dq_M_flash_105 h (fun h => ?_)
      refine qz_leti h (fun v7 h => ?_)
      refine qz_istore X (lv' := [(15, .int v7), (13, .long v6), (11, .long v5), (1, .int x1), (2, .int x2), (3, .long x3), (5, .long x5), (7, .long x7), (9, .long x9), (0, .ref (G.2.2 7 y0))]) (by decide) rfl dq_M_flash_106 ?_
      refine qz_aload_n X 9 rfl dq_M_flash_108 ?_
      refine qz_get X (v := .ref (G.2.2 24 y0)) kq_M_16 hy0 rfl dq_M_flash_109 ?_
      refine qz_iconst X (v := (2 : Int32)) (by decide) dq_M_flash_112 ?_
      refine qz_iload_n X 4 rfl dq_M_flash_113 ?_
      refine qz_imul X dq_M_flash_114 ?_
      refine qz_iconst X (v := (1 : Int32)) (by decide) dq_M_flash_115 ?_
      refine qz_iadd X dq_M_flash_116 ?_
      refine qz_iald X (c0 := 24) (i := y0) (n := 12) rfl hy0 dq_M_flash_117 h (fun h => ?_)
      refine qz_leti h (fun v8 h => ?_)
      refine qz_istore X (lv' := [(16, .int v8), (15, .int v7), (13, .long v6), (11, .long v5), (1, .int x1), (2, .int x2), (3, .long x3), (5, .long x5), (7, .long x7), (9, .long x9), (0, .ref (G.2.2 7 y0))]) (by decide) rfl dq_M_flash_118 ?_
      refine qz_aload_n X 10 rfl dq_M_flash_120 ?_
      refine qz_iload_n X 4 rfl dq_M_flash_121 ?_
      refine qz_iload X 1 rfl dq_M_flash_122 ?_
      refine qz_bind h (fun q9 e10 h => ?_)
      refine qz_callV X (as := [.int x1, .int v7]) (st := []) (o := some (.long q9.1)) (N' := q9.2) cq_M_148 hy0 (cM_has l G X.2.2.2.2.2.2.1 y0 x1 v7 N hy0 _ e10) ⟨by decide, by decide⟩ rfl rfl (Nat.le_of_ble_eq_true rfl) ⟨Nat.zero_le _, Nat.zero_le _⟩ dq_M_flash_124 ?_
      refine qz_lload_n X 6 rfl dq_M_flash_127 ?_
      refine qz_ladd X dq_M_flash_128 ?_
      refine qz_lload X 8 rfl dq_M_flash_129 ?_
      refine qz_lcmp_lt X (tgt := 151) (by decide) dq_M_flash_131 dq_M_flash_132 h (fun _ h => ?_) (fun _ h => ?_)
      · refine qz_bipush X (v := (-3 : Int32)) (by decide) dq_M_flash_151 ?_
        exact qz_iret X h dq_M_flash_153
      · refine qz_aload_n X 10 rfl dq_M_flash_135 ?_
        refine qz_iload_n X 4 rfl dq_M_flash_136 ?_
        refine qz_iload X 0 rfl dq_M_flash_137 ?_
        refine qz_bind h (fun q11 e12 h => ?_)
        refine qz_callV X (as := [.int x1, .int v8]) (st := []) (o := some (.long q11.1)) (N' := q11.2) cq_M_148 hy0 (cM_has l G X.2.2.2.2.2.2.1 y0 x1 v8 q9.2 hy0 _ e12) ⟨by decide, by decide⟩ rfl rfl (Nat.le_of_ble_eq_true rfl) ⟨Nat.zero_le _, Nat.zero_le _⟩ dq_M_flash_139 ?_
        refine qz_lload X 7 rfl dq_M_flash_142 ?_
        refine qz_ladd X dq_M_flash_144 ?_
        refine qz_lload X 9 rfl dq_M_flash_145 ?_
        refine qz_lcmp_ge X (tgt := 154) (by decide) dq_M_flash_147 dq_M_flash_148 h (fun _ h => ?_) (fun _ h => ?_)
        · refine qz_lload X 3 rfl dq_M_flash_154 ?_
          refine qz_lload_n X 6 rfl dq_M_flash_156 ?_
          refine qz_lsub X dq_M_flash_157 ?_
          refine qz_lload X 8 rfl dq_M_flash_158 ?_
          refine qz_ladd X dq_M_flash_160 ?_
          refine qz_letj h (fun v13 h => ?_)
          refine qz_lstore X (lv' := [(17, .long v13), (16, .int v8), (15, .int v7), (13, .long v6), (11, .long v5), (1, .int x1), (2, .int x2), (3, .long x3), (5, .long x5), (7, .long x7), (9, .long x9), (0, .ref (G.2.2 7 y0))]) (by decide) rfl dq_M_flash_161 ?_
          refine qz_lload X 3 rfl dq_M_flash_163 ?_
          refine qz_lload X 8 rfl dq_M_flash_165 ?_
          refine qz_lsub X dq_M_flash_167 ?_
          refine qz_lload X 10 rfl dq_M_flash_168 ?_
          refine qz_ladd X dq_M_flash_170 ?_
          refine qz_letj h (fun v14 h => ?_)
          refine qz_lstore X (lv' := [(19, .long v14), (17, .long v13), (16, .int v8), (15, .int v7), (13, .long v6), (11, .long v5), (1, .int x1), (2, .int x2), (3, .long x3), (5, .long x5), (7, .long x7), (9, .long x9), (0, .ref (G.2.2 7 y0))]) (by decide) rfl dq_M_flash_171 ?_
          refine qz_aload_n X 12 rfl dq_M_flash_173 ?_
          refine qz_get X (v := .ref (G.2.2 26 y0)) kq_M_23 hy0 rfl dq_M_flash_174 ?_
          refine qz_iload_n X 7 rfl dq_M_flash_177 ?_
          refine qz_iald X (c0 := 26) (i := y0) (n := 6) rfl hy0 dq_M_flash_178 h (fun h => ?_)
          refine qz_i2l X dq_M_flash_179 ?_
          refine qz_letj h (fun v15 h => ?_)
          refine qz_lstore X (lv' := [(21, .long v15), (19, .long v14), (17, .long v13), (16, .int v8), (15, .int v7), (13, .long v6), (11, .long v5), (1, .int x1), (2, .int x2), (3, .long x3), (5, .long x5), (7, .long x7), (9, .long x9), (0, .ref (G.2.2 7 y0))]) (by decide) rfl dq_M_flash_180 ?_
          refine qz_aload_n X 13 rfl dq_M_flash_182 ?_
          refine qz_get X (v := .ref (G.2.2 25 y0)) kq_M_20 hy0 rfl dq_M_flash_183 ?_
          refine qz_iload_n X 8 rfl dq_M_flash_186 ?_
          refine qz_iald X (c0 := 25) (i := y0) (n := 6) rfl hy0 dq_M_flash_187 h (fun h => ?_)
          refine qz_if_ne X (tgt := 285) (by decide) dq_M_flash_188 h (fun _ h => ?_) (fun _ h => ?_)
          · refine qz_ldc2 X (v := (10000 : Int64)) wq_849 dq_M_flash_285 ?_
            refine qz_lload X 2 rfl dq_M_flash_288 ?_
            refine qz_lload X 1 rfl dq_M_flash_290 ?_
            refine qz_ladd X dq_M_flash_292 ?_
            refine qz_lmul X dq_M_flash_293 ?_
            refine qz_lload X 0 rfl dq_M_flash_294 ?_
            refine qz_lload X 11 rfl dq_M_flash_296 ?_
            refine qz_lload X 12 rfl dq_M_flash_298 ?_
            refine qz_ladd X dq_M_flash_300 ?_
            refine qz_lmul X dq_M_flash_301 ?_
            refine qz_lsub X dq_M_flash_302 ?_
            refine qz_ldc2 X (v := (10000 : Int64)) wq_849 dq_M_flash_303 ?_
            refine qz_lload X 6 rfl dq_M_flash_306 ?_
            refine qz_lload X 5 rfl dq_M_flash_308 ?_
            refine qz_ladd X dq_M_flash_310 ?_
            refine qz_lmul X dq_M_flash_311 ?_
            refine qz_lcmp_ge X (tgt := 319) (by decide) dq_M_flash_312 dq_M_flash_313 h (fun _ h => ?_) (fun _ h => ?_)
            · refine qz_sub [7, 8, 9, 10, 11, 12, 4, 3, 2, 1, 13] rfl ?_
              exact sM_flash_319 X y0 hy0 q11.2 x1 x2 x3 x5 x7 x9 v7 v8 v13 v14 h
            · refine qz_bipush X (v := (-3 : Int32)) (by decide) dq_M_flash_316 ?_
              exact qz_iret X h dq_M_flash_318
          · refine qz_ldc2 X (v := (10000 : Int64)) wq_849 dq_M_flash_191 ?_
            refine qz_lload X 2 rfl dq_M_flash_194 ?_
            refine qz_lmul X dq_M_flash_196 ?_
            refine qz_lload X 0 rfl dq_M_flash_197 ?_
            refine qz_lload X 11 rfl dq_M_flash_199 ?_
            refine qz_lmul X dq_M_flash_201 ?_
            refine qz_lsub X dq_M_flash_202 ?_
            refine qz_letj h (fun v22 h => ?_)
            refine qz_lstore X (lv' := [(23, .long v22), (21, .long v15), (19, .long v14), (17, .long v13), (16, .int v8), (15, .int v7), (13, .long v6), (11, .long v5), (1, .int x1), (2, .int x2), (3, .long x3), (5, .long x5), (7, .long x7), (9, .long x9), (0, .ref (G.2.2 7 y0))]) (by decide) rfl dq_M_flash_203 ?_
            refine qz_ldc2 X (v := (10000 : Int64)) wq_849 dq_M_flash_205 ?_
            refine qz_lload X 2 rfl dq_M_flash_208 ?_
            refine qz_lmul X dq_M_flash_210 ?_
            refine qz_lload X 1 rfl dq_M_flash_211 ?_
            refine qz_lload X 13 rfl dq_M_flash_213 ?_
            refine qz_lmul X dq_M_flash_215 ?_
            refine qz_lsub X dq_M_flash_216 ?_
            refine qz_letj h (fun v23 h => ?_)
            refine qz_lstore X (lv' := [(25, .long v23), (23, .long v22), (21, .long v15), (19, .long v14), (17, .long v13), (16, .int v8), (15, .int v7), (13, .long v6), (11, .long v5), (1, .int x1), (2, .int x2), (3, .long x3), (5, .long x5), (7, .long x7), (9, .long x9), (0, .ref (G.2.2 7 y0))]) (by decide) rfl dq_M_flash_217 ?_
            refine qz_lload X 1 rfl dq_M_flash_219 ?_
            refine qz_lconst X (v := (0 : Int64)) (by decide) dq_M_flash_221 ?_
            refine qz_lcmp_lt X (tgt := 233) (by decide) dq_M_flash_222 dq_M_flash_223 h (fun _ h => ?_) (fun _ h => ?_)
            · refine qz_bipush X (v := (-3 : Int32)) (by decide) dq_M_flash_233 ?_
              exact qz_iret X h dq_M_flash_235
            · refine qz_lload X 0 rfl dq_M_flash_226 ?_
              refine qz_lconst X (v := (0 : Int64)) (by decide) dq_M_flash_228 ?_
              refine qz_lcmp_ge X (tgt := 236) (by decide) dq_M_flash_229 dq_M_flash_230 h (fun _ h => ?_) (fun _ h => ?_)
              · refine qz_aload_n X 15 rfl dq_M_flash_236 ?_
                refine qz_lload X 1 rfl dq_M_flash_237 ?_
                refine qz_bind h (fun q24 e25 h => ?_)
                refine qz_callV X (as := [.long v22]) (st := []) (o := none) (N' := q24.2) cq_M_130 hy0 (cM_begin l G X.2.2.2.2.2.2.1 y0 v22 q11.2 hy0 _ e25) ⟨by decide, by decide⟩ rfl rfl (Nat.le_of_ble_eq_true rfl) ⟨Nat.zero_le _, Nat.zero_le _⟩ dq_M_flash_239 ?_
                refine qz_aload_n X 15 rfl dq_M_flash_242 ?_
                refine qz_lload X 0 rfl dq_M_flash_243 ?_
                refine qz_bind h (fun q26 e27 h => ?_)
                refine qz_callV X (as := [.long v23]) (st := []) (o := none) (N' := q26.2) cq_M_134 hy0 (cM_times l G X.2.2.2.2.2.2.1 y0 v23 q24.2 hy0 _ e27) ⟨by decide, by decide⟩ rfl rfl (Nat.le_of_ble_eq_true rfl) ⟨Nat.zero_le _, Nat.zero_le _⟩ dq_M_flash_245 ?_
                refine qz_aload_n X 15 rfl dq_M_flash_248 ?_
                refine qz_bind h (fun q28 e29 h => ?_)
                refine qz_callV X (as := []) (st := []) (o := none) (N' := q28.2) cq_M_189 hy0 (cM_keepBig l G X.2.2.2.2.2.2.1 y0 q26.2 hy0 _ e29) ⟨by decide, by decide⟩ rfl rfl (Nat.le_of_ble_eq_true rfl) ⟨Nat.zero_le _, Nat.zero_le _⟩ dq_M_flash_249 ?_
                refine qz_aload_n X 15 rfl dq_M_flash_252 ?_
                refine qz_ldc2 X (v := (10000 : Int64)) wq_849 dq_M_flash_253 ?_
                refine qz_lload X 8 rfl dq_M_flash_256 ?_
                refine qz_lmul X dq_M_flash_258 ?_
                refine qz_bind h (fun q30 e31 h => ?_)
                refine qz_callV X (as := [.long ((10000 : Int64) * v5)]) (st := []) (o := none) (N' := q30.2) cq_M_130 hy0 (cM_begin l G X.2.2.2.2.2.2.1 y0 ((10000 : Int64) * v5) q28.2 hy0 _ e31) ⟨by decide, by decide⟩ rfl rfl (Nat.le_of_ble_eq_true rfl) ⟨Nat.zero_le _, Nat.zero_le _⟩ dq_M_flash_259 ?_
                refine qz_aload_n X 15 rfl dq_M_flash_262 ?_
                refine qz_ldc2 X (v := (10000 : Int64)) wq_849 dq_M_flash_263 ?_
                refine qz_lload X 7 rfl dq_M_flash_266 ?_
                refine qz_lmul X dq_M_flash_268 ?_
                refine qz_bind h (fun q32 e33 h => ?_)
                refine qz_callV X (as := [.long ((10000 : Int64) * v6)]) (st := []) (o := none) (N' := q32.2) cq_M_134 hy0 (cM_times l G X.2.2.2.2.2.2.1 y0 ((10000 : Int64) * v6) q30.2 hy0 _ e33) ⟨by decide, by decide⟩ rfl rfl (Nat.le_of_ble_eq_true rfl) ⟨Nat.zero_le _, Nat.zero_le _⟩ dq_M_flash_269 ?_
                refine qz_aload_n X 15 rfl dq_M_flash_272 ?_
                refine qz_bind h (fun q34 e35 h => ?_)
                refine qz_callV X (as := []) (st := []) (o := some (.int q34.1)) (N' := q34.2) cq_M_192 hy0 (cM_keptIsLess l G X.2.2.2.2.2.2.1 y0 q32.2 hy0 _ e35) ⟨by decide, by decide⟩ rfl rfl (Nat.le_of_ble_eq_true rfl) ⟨Nat.zero_le _, Nat.zero_le _⟩ dq_M_flash_273 ?_
                refine qz_if_eq X (tgt := 282) (by decide) dq_M_flash_276 h (fun _ h => ?_) (fun _ h => ?_)
                · refine qz_goto X (tgt := 319) (by decide) dq_M_flash_282 ?_
                  refine qz_sub [9, 10, 11, 12, 13, 14, 6, 5, 4, 3, 15] rfl ?_
                  exact sM_flash_319 X y0 hy0 q34.2 x1 x2 x3 x5 x7 x9 v7 v8 v13 v14 h
                · refine qz_bipush X (v := (-3 : Int32)) (by decide) dq_M_flash_279 ?_
                  exact qz_iret X h dq_M_flash_281
              · refine qz_bipush X (v := (-3 : Int32)) (by decide) dq_M_flash_233 ?_
                exact qz_iret X h dq_M_flash_235
        · refine qz_bipush X (v := (-3 : Int32)) (by decide) dq_M_flash_151 ?_
          exact qz_iret X h dq_M_flash_153
    · refine qz_bipush X (v := (-2 : Int32)) (by decide) dq_M_flash_95 ?_
      exact qz_iret X h dq_M_flash_97
set_option maxRecDepth 100000 in
set_option maxHeartbeats 4000000 in
theorem sM_flash {p : Program} {l : Launch} {e : Env} {s : State} {m : MethodId} {args : Array Value} {below : List Frame} {meth : Method} {c : Code} {G : qz_G} (X : qz_X p s m args meth c "ExactCurvesModel" prog_10_method_29_code 27 (some .int) G) {r : (Int32 × qz_N)} (o : Nat) (x1 : Int32) (x2 : Int32) (x3 : Int64) (x5 : Int64) (x7 : Int64) (x9 : Int64) (ho : o < 1) (N : qz_N) (h : fM_flash o x1 x2 x3 x5 x7 x9 N = some r) : qz_W p l e (qz_R 1) s m args below meth c 0 0 (MQ below (qz_Q G r.2 (some (.int r.1))) args s 0 0 (qz_A G)) G s.heap 27 N 0 [(0, .ref (G.2.2 7 o)), (1, .int x1), (2, .int x2), (3, .long x3), (5, .long x5), (7, .long x7), (9, .long x9)] [] := by
  unfold fM_flash at h
  refine qz_iload_n X 1 rfl dq_M_flash_0 ?_
  refine qz_bind h (fun q1 e2 h => ?_)
  refine qz_callS X (as := [.int x1]) (st := []) (o := some (.int q1.1)) (N' := q1.2) cq_M_166 (cM_isPlayer l G X.2.2.2.2.2.2.1 x1 N _ e2) ⟨by decide, by decide⟩ rfl rfl (Nat.le_of_ble_eq_true rfl) ⟨Nat.zero_le _, Nat.zero_le _⟩ dq_M_flash_1 ?_
  refine qz_if_eq X (tgt := 55) (by decide) dq_M_flash_4 h (fun _ h => ?_) (fun _ h => ?_)
  · refine qz_bipush X (v := (-2 : Int32)) (by decide) dq_M_flash_55 ?_
    exact qz_iret X h dq_M_flash_57
  · refine qz_aload_n X 0 rfl dq_M_flash_7 ?_
    refine qz_iload_n X 2 rfl dq_M_flash_8 ?_
    refine qz_bind h (fun q3 e4 h => ?_)
    refine qz_callV X (as := [.int x2]) (st := []) (o := some (.int q3.1)) (N' := q3.2) cq_M_186 ho (cM_isPool l G X.2.2.2.2.2.2.1 o x2 q1.2 ho _ e4) ⟨by decide, by decide⟩ rfl rfl (Nat.le_of_ble_eq_true rfl) ⟨Nat.zero_le _, Nat.zero_le _⟩ dq_M_flash_9 ?_
    refine qz_if_eq X (tgt := 55) (by decide) dq_M_flash_12 h (fun _ h => ?_) (fun _ h => ?_)
    · refine qz_bipush X (v := (-2 : Int32)) (by decide) dq_M_flash_55 ?_
      exact qz_iret X h dq_M_flash_57
    · refine qz_lload_n X 3 rfl dq_M_flash_15 ?_
      refine qz_lconst X (v := (0 : Int64)) (by decide) dq_M_flash_16 ?_
      refine qz_lcmp_lt X (tgt := 55) (by decide) dq_M_flash_17 dq_M_flash_18 h (fun _ h => ?_) (fun _ h => ?_)
      · refine qz_bipush X (v := (-2 : Int32)) (by decide) dq_M_flash_55 ?_
        exact qz_iret X h dq_M_flash_57
      · refine qz_lload X 4 rfl dq_M_flash_21 ?_
        refine qz_lconst X (v := (0 : Int64)) (by decide) dq_M_flash_23 ?_
        refine qz_lcmp_lt X (tgt := 55) (by decide) dq_M_flash_24 dq_M_flash_25 h (fun _ h => ?_) (fun _ h => ?_)
        · refine qz_bipush X (v := (-2 : Int32)) (by decide) dq_M_flash_55 ?_
          exact qz_iret X h dq_M_flash_57
        · refine qz_lload X 5 rfl dq_M_flash_28 ?_
          refine qz_lconst X (v := (0 : Int64)) (by decide) dq_M_flash_30 ?_
          refine qz_lcmp_lt X (tgt := 55) (by decide) dq_M_flash_31 dq_M_flash_32 h (fun _ h => ?_) (fun _ h => ?_)
          · refine qz_bipush X (v := (-2 : Int32)) (by decide) dq_M_flash_55 ?_
            exact qz_iret X h dq_M_flash_57
          · refine qz_lload X 6 rfl dq_M_flash_35 ?_
            refine qz_lconst X (v := (0 : Int64)) (by decide) dq_M_flash_37 ?_
            refine qz_lcmp_lt X (tgt := 55) (by decide) dq_M_flash_38 dq_M_flash_39 h (fun _ h => ?_) (fun _ h => ?_)
            · refine qz_bipush X (v := (-2 : Int32)) (by decide) dq_M_flash_55 ?_
              exact qz_iret X h dq_M_flash_57
            · refine qz_lload_n X 3 rfl dq_M_flash_42 ?_
              refine qz_lconst X (v := (0 : Int64)) (by decide) dq_M_flash_43 ?_
              refine qz_lcmp_ne X (tgt := 58) (by decide) dq_M_flash_44 dq_M_flash_45 h (fun _ h => ?_) (fun _ h => ?_)
              · refine qz_sub [1, 2, 3, 4, 5, 6, 0] rfl ?_
                exact sM_flash_58 X o ho q3.2 x1 x2 x3 x5 x7 x9 h
              · refine qz_lload X 4 rfl dq_M_flash_48 ?_
                refine qz_lconst X (v := (0 : Int64)) (by decide) dq_M_flash_50 ?_
                refine qz_lcmp_ne X (tgt := 58) (by decide) dq_M_flash_51 dq_M_flash_52 h (fun _ h => ?_) (fun _ h => ?_)
                · refine qz_sub [1, 2, 3, 4, 5, 6, 0] rfl ?_
                  exact sM_flash_58 X o ho q3.2 x1 x2 x3 x5 x7 x9 h
                · refine qz_bipush X (v := (-2 : Int32)) (by decide) dq_M_flash_55 ?_
                  exact qz_iret X h dq_M_flash_57
theorem cM_flash (l : Launch) (G : qz_G) (hD : qz_D G) (o : Nat) (x1 : Int32) (x2 : Int32) (x3 : Int64) (x5 : Int64) (x7 : Int64) (x9 : Int64) (N : qz_N) (ho : o < 1) (r : (Int32 × qz_N)) (h : fM_flash o x1 x2 x3 x5 x7 x9 N = some r) : qz_M l yM_flash prog_10_method_29_code 27 (some .int) 1 G [.ref (G.2.2 7 o), .int x1, .int x2, .long x3, .long x5, .long x7, .long x9] N (some (.int r.1)) r.2 :=
  qz_enter (lv := [(0, .ref (G.2.2 7 o)), (1, .int x1), (2, .int x2), (3, .long x3), (5, .long x5), (7, .long x7), (9, .long x9)]) rfl hD (Nat.le_of_ble_eq_true rfl) rfl (fun p e s m args below meth c X => sM_flash X o x1 x2 x3 x5 x7 x9 ho N h)
