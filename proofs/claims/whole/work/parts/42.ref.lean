-- ExactCurvesModel.mint(IIJ)J
theorem dq_M_mint_0 : decode prog_10_method_17_code 0 = .ok (.iload_n 1, 1) := by decide +kernel
theorem dq_M_mint_1 : decode prog_10_method_17_code 1 = .ok (.invokestatic 166, 3) := by decide +kernel
theorem dq_M_mint_4 : decode prog_10_method_17_code 4 = .ok (.ifCond .eq 24, 3) := by decide +kernel
theorem dq_M_mint_7 : decode prog_10_method_17_code 7 = .ok (.iload_n 2, 1) := by decide +kernel
theorem dq_M_mint_8 : decode prog_10_method_17_code 8 = .ok (.invokestatic 170, 3) := by decide +kernel
theorem dq_M_mint_11 : decode prog_10_method_17_code 11 = .ok (.ifCond .eq 17, 3) := by decide +kernel
theorem dq_M_mint_14 : decode prog_10_method_17_code 14 = .ok (.lload_n 3, 1) := by decide +kernel
theorem dq_M_mint_15 : decode prog_10_method_17_code 15 = .ok (.lconst 1, 1) := by decide +kernel
theorem dq_M_mint_16 : decode prog_10_method_17_code 16 = .ok (.lcmp, 1) := by decide +kernel
theorem dq_M_mint_17 : decode prog_10_method_17_code 17 = .ok (.ifCond .lt 11, 3) := by decide +kernel
theorem dq_M_mint_20 : decode prog_10_method_17_code 20 = .ok (.lload_n 3, 1) := by decide +kernel
theorem dq_M_mint_21 : decode prog_10_method_17_code 21 = .ok (.ldc2_w 173, 3) := by decide +kernel
theorem dq_M_mint_24 : decode prog_10_method_17_code 24 = .ok (.lcmp, 1) := by decide +kernel
theorem dq_M_mint_25 : decode prog_10_method_17_code 25 = .ok (.ifCond .le 7, 3) := by decide +kernel
theorem dq_M_mint_28 : decode prog_10_method_17_code 28 = .ok (.ldc2_w 175, 3) := by decide +kernel
theorem dq_M_mint_31 : decode prog_10_method_17_code 31 = .ok (.lreturn, 1) := by decide +kernel
theorem dq_M_mint_32 : decode prog_10_method_17_code 32 = .ok (.aload_n 0, 1) := by decide +kernel
theorem dq_M_mint_33 : decode prog_10_method_17_code 33 = .ok (.iload_n 2, 1) := by decide +kernel
theorem dq_M_mint_34 : decode prog_10_method_17_code 34 = .ok (.invokevirtual 177, 3) := by decide +kernel
theorem dq_M_mint_37 : decode prog_10_method_17_code 37 = .ok (.lload_n 3, 1) := by decide +kernel
theorem dq_M_mint_38 : decode prog_10_method_17_code 38 = .ok (.ladd, 1) := by decide +kernel
theorem dq_M_mint_39 : decode prog_10_method_17_code 39 = .ok (.ldc2_w 173, 3) := by decide +kernel
theorem dq_M_mint_42 : decode prog_10_method_17_code 42 = .ok (.lcmp, 1) := by decide +kernel
theorem dq_M_mint_43 : decode prog_10_method_17_code 43 = .ok (.ifCond .le 7, 3) := by decide +kernel
theorem dq_M_mint_46 : decode prog_10_method_17_code 46 = .ok (.ldc2_w 180, 3) := by decide +kernel
theorem dq_M_mint_49 : decode prog_10_method_17_code 49 = .ok (.lreturn, 1) := by decide +kernel
theorem dq_M_mint_50 : decode prog_10_method_17_code 50 = .ok (.aload_n 0, 1) := by decide +kernel
theorem dq_M_mint_51 : decode prog_10_method_17_code 51 = .ok (.iload_n 1, 1) := by decide +kernel
theorem dq_M_mint_52 : decode prog_10_method_17_code 52 = .ok (.iload_n 2, 1) := by decide +kernel
theorem dq_M_mint_53 : decode prog_10_method_17_code 53 = .ok (.lload_n 3, 1) := by decide +kernel
theorem dq_M_mint_54 : decode prog_10_method_17_code 54 = .ok (.invokevirtual 182, 3) := by decide +kernel
theorem dq_M_mint_57 : decode prog_10_method_17_code 57 = .ok (.aload_n 0, 1) := by decide +kernel
theorem dq_M_mint_58 : decode prog_10_method_17_code 58 = .ok (.iload_n 1, 1) := by decide +kernel
theorem dq_M_mint_59 : decode prog_10_method_17_code 59 = .ok (.iload_n 2, 1) := by decide +kernel
theorem dq_M_mint_60 : decode prog_10_method_17_code 60 = .ok (.invokevirtual 148, 3) := by decide +kernel
theorem dq_M_mint_63 : decode prog_10_method_17_code 63 = .ok (.lreturn, 1) := by decide +kernel
def fM_mint (o : Nat) (x1 : Int32) (x2 : Int32) (x3 : Int64) (N : qz_N) : Option (Int64 × qz_N) :=
  (fM_isPlayer x1 N).bind fun q1 =>
  if q1.1 = 0 then
    some ((-2 : Int64), q1.2)
  else
  (fM_isToken x2 q1.2).bind fun q3 =>
  if q3.1 = 0 then
    some ((-2 : Int64), q3.2)
  else
  if x3 < (1 : Int64) then
    some ((-2 : Int64), q3.2)
  else
  if x3 ≤ (100000000000000 : Int64) then
    (fM_allOf o x2 q3.2).bind fun q5 =>
    if (q5.1 + x3) ≤ (100000000000000 : Int64) then
      (fM_give o x1 x2 x3 q5.2).bind fun q7 =>
      (fM_has o x1 x2 q7.2).bind fun q9 =>
      some (q9.1, q9.2)
    else
    some ((-3 : Int64), q5.2)
  else
  some ((-2 : Int64), q3.2)
set_option maxRecDepth 100000 in
set_option maxHeartbeats 4000000 in
theorem sM_mint {p : Program} {l : Launch} {e : Env} {s : State} {m : MethodId} {args : Array Value} {below : List Frame} {meth : Method} {c : Code} {G : qz_G} (X : qz_X p s m args meth c "ExactCurvesModel" prog_10_method_17_code 5 (some .long) G) {r : (Int64 × qz_N)} (o : Nat) (x1 : Int32) (x2 : Int32) (x3 : Int64) (ho : o < 1) (N : qz_N) (h : fM_mint o x1 x2 x3 N = some r) : qz_W p l e (qz_R 3) s m args below meth c 0 0 (MQ below (qz_Q G r.2 (some (.long r.1))) args s 0 0 (qz_A G)) G s.heap 5 N 0 [(0, .ref (G.2.2 7 o)), (1, .int x1), (2, .int x2), (3, .long x3)] [] := by
  unfold fM_mint at h
  refine qz_iload_n X 1 rfl dq_M_mint_0 ?_
  refine qz_bind h (fun q1 e2 h => ?_)
  refine qz_callS X (as := [.int x1]) (st := []) (o := some (.int q1.1)) (N' := q1.2) cq_M_166 (cM_isPlayer l G X.2.2.2.2.2.2.1 x1 N _ e2) ⟨by decide, by decide⟩ rfl rfl (Nat.le_of_ble_eq_true rfl) ⟨Nat.zero_le _, Nat.zero_le _⟩ dq_M_mint_1 ?_
  refine qz_if_eq X (tgt := 28) (by decide) dq_M_mint_4 h (fun _ h => ?_) (fun _ h => ?_)
  · refine qz_ldc2 X (v := (-2 : Int64)) wq_742 dq_M_mint_28 ?_
    exact qz_lret X h dq_M_mint_31
  · refine qz_iload_n X 2 rfl dq_M_mint_7 ?_
    refine qz_bind h (fun q3 e4 h => ?_)
    refine qz_callS X (as := [.int x2]) (st := []) (o := some (.int q3.1)) (N' := q3.2) cq_M_170 (cM_isToken l G X.2.2.2.2.2.2.1 x2 q1.2 _ e4) ⟨by decide, by decide⟩ rfl rfl (Nat.le_of_ble_eq_true rfl) ⟨Nat.zero_le _, Nat.zero_le _⟩ dq_M_mint_8 ?_
    refine qz_if_eq X (tgt := 28) (by decide) dq_M_mint_11 h (fun _ h => ?_) (fun _ h => ?_)
    · refine qz_ldc2 X (v := (-2 : Int64)) wq_742 dq_M_mint_28 ?_
      exact qz_lret X h dq_M_mint_31
    · refine qz_lload_n X 3 rfl dq_M_mint_14 ?_
      refine qz_lconst X (v := (1 : Int64)) (by decide) dq_M_mint_15 ?_
      refine qz_lcmp_lt X (tgt := 28) (by decide) dq_M_mint_16 dq_M_mint_17 h (fun _ h => ?_) (fun _ h => ?_)
      · refine qz_ldc2 X (v := (-2 : Int64)) wq_742 dq_M_mint_28 ?_
        exact qz_lret X h dq_M_mint_31
      · refine qz_lload_n X 3 rfl dq_M_mint_20 ?_
        refine qz_ldc2 X (v := (100000000000000 : Int64)) wq_741 dq_M_mint_21 ?_
        refine qz_lcmp_le X (tgt := 32) (by decide) dq_M_mint_24 dq_M_mint_25 h (fun _ h => ?_) (fun _ h => ?_)
        · refine qz_aload_n X 0 rfl dq_M_mint_32 ?_
          refine qz_iload_n X 2 rfl dq_M_mint_33 ?_
          refine qz_bind h (fun q5 e6 h => ?_)
          refine qz_callV X (as := [.int x2]) (st := []) (o := some (.long q5.1)) (N' := q5.2) cq_M_177 ho (cM_allOf l G X.2.2.2.2.2.2.1 o x2 q3.2 ho _ e6) ⟨by decide, by decide⟩ rfl rfl (Nat.le_of_ble_eq_true rfl) ⟨Nat.zero_le _, Nat.zero_le _⟩ dq_M_mint_34 ?_
          refine qz_lload_n X 3 rfl dq_M_mint_37 ?_
          refine qz_ladd X dq_M_mint_38 ?_
          refine qz_ldc2 X (v := (100000000000000 : Int64)) wq_741 dq_M_mint_39 ?_
          refine qz_lcmp_le X (tgt := 50) (by decide) dq_M_mint_42 dq_M_mint_43 h (fun _ h => ?_) (fun _ h => ?_)
          · refine qz_aload_n X 0 rfl dq_M_mint_50 ?_
            refine qz_iload_n X 1 rfl dq_M_mint_51 ?_
            refine qz_iload_n X 2 rfl dq_M_mint_52 ?_
            refine qz_lload_n X 3 rfl dq_M_mint_53 ?_
            refine qz_bind h (fun q7 e8 h => ?_)
            refine qz_callV X (as := [.int x1, .int x2, .long x3]) (st := []) (o := none) (N' := q7.2) cq_M_182 ho (cM_give l G X.2.2.2.2.2.2.1 o x1 x2 x3 q5.2 ho _ e8) ⟨by decide, by decide⟩ rfl rfl (Nat.le_of_ble_eq_true rfl) ⟨Nat.zero_le _, Nat.zero_le _⟩ dq_M_mint_54 ?_
            refine qz_aload_n X 0 rfl dq_M_mint_57 ?_
            refine qz_iload_n X 1 rfl dq_M_mint_58 ?_
            refine qz_iload_n X 2 rfl dq_M_mint_59 ?_
            refine qz_bind h (fun q9 e10 h => ?_)
            refine qz_callV X (as := [.int x1, .int x2]) (st := []) (o := some (.long q9.1)) (N' := q9.2) cq_M_148 ho (cM_has l G X.2.2.2.2.2.2.1 o x1 x2 q7.2 ho _ e10) ⟨by decide, by decide⟩ rfl rfl (Nat.le_of_ble_eq_true rfl) ⟨Nat.zero_le _, Nat.zero_le _⟩ dq_M_mint_60 ?_
            exact qz_lret X h dq_M_mint_63
          · refine qz_ldc2 X (v := (-3 : Int64)) wq_763 dq_M_mint_46 ?_
            exact qz_lret X h dq_M_mint_49
        · refine qz_ldc2 X (v := (-2 : Int64)) wq_742 dq_M_mint_28 ?_
          exact qz_lret X h dq_M_mint_31
theorem cM_mint (l : Launch) (G : qz_G) (hD : qz_D G) (o : Nat) (x1 : Int32) (x2 : Int32) (x3 : Int64) (N : qz_N) (ho : o < 1) (r : (Int64 × qz_N)) (h : fM_mint o x1 x2 x3 N = some r) : qz_M l yM_mint prog_10_method_17_code 5 (some .long) 3 G [.ref (G.2.2 7 o), .int x1, .int x2, .long x3] N (some (.long r.1)) r.2 :=
  qz_enter (lv := [(0, .ref (G.2.2 7 o)), (1, .int x1), (2, .int x2), (3, .long x3)]) rfl hD (Nat.le_of_ble_eq_true rfl) rfl (fun p e s m args below meth c X => sM_mint X o x1 x2 x3 ho N h)
-- ExactCurvesModel.balance(II)J
theorem dq_M_balance_0 : decode prog_10_method_18_code 0 = .ok (.iload_n 1, 1) := by decide +kernel
theorem dq_M_balance_1 : decode prog_10_method_18_code 1 = .ok (.invokestatic 166, 3) := by decide +kernel
theorem dq_M_balance_4 : decode prog_10_method_18_code 4 = .ok (.ifCond .eq 19, 3) := by decide +kernel
theorem dq_M_balance_7 : decode prog_10_method_18_code 7 = .ok (.iload_n 2, 1) := by decide +kernel
theorem dq_M_balance_8 : decode prog_10_method_18_code 8 = .ok (.invokestatic 170, 3) := by decide +kernel
theorem dq_M_balance_11 : decode prog_10_method_18_code 11 = .ok (.ifCond .eq 12, 3) := by decide +kernel
theorem dq_M_balance_14 : decode prog_10_method_18_code 14 = .ok (.aload_n 0, 1) := by decide +kernel
theorem dq_M_balance_15 : decode prog_10_method_18_code 15 = .ok (.iload_n 1, 1) := by decide +kernel
theorem dq_M_balance_16 : decode prog_10_method_18_code 16 = .ok (.iload_n 2, 1) := by decide +kernel
theorem dq_M_balance_17 : decode prog_10_method_18_code 17 = .ok (.invokevirtual 148, 3) := by decide +kernel
theorem dq_M_balance_20 : decode prog_10_method_18_code 20 = .ok (.goto 6, 3) := by decide +kernel
theorem dq_M_balance_23 : decode prog_10_method_18_code 23 = .ok (.ldc2_w 175, 3) := by decide +kernel
theorem dq_M_balance_26 : decode prog_10_method_18_code 26 = .ok (.lreturn, 1) := by decide +kernel
def fM_balance (o : Nat) (x1 : Int32) (x2 : Int32) (N : qz_N) : Option (Int64 × qz_N) :=
  (fM_isPlayer x1 N).bind fun q1 =>
  if q1.1 = 0 then
    some ((-2 : Int64), q1.2)
  else
  (fM_isToken x2 q1.2).bind fun q3 =>
  if q3.1 = 0 then
    some ((-2 : Int64), q3.2)
  else
  (fM_has o x1 x2 q3.2).bind fun q5 =>
  some (q5.1, q5.2)
set_option maxRecDepth 100000 in
set_option maxHeartbeats 4000000 in
theorem sM_balance {p : Program} {l : Launch} {e : Env} {s : State} {m : MethodId} {args : Array Value} {below : List Frame} {meth : Method} {c : Code} {G : qz_G} (X : qz_X p s m args meth c "ExactCurvesModel" prog_10_method_18_code 3 (some .long) G) {r : (Int64 × qz_N)} (o : Nat) (x1 : Int32) (x2 : Int32) (ho : o < 1) (N : qz_N) (h : fM_balance o x1 x2 N = some r) : qz_W p l e (qz_R 1) s m args below meth c 0 0 (MQ below (qz_Q G r.2 (some (.long r.1))) args s 0 0 (qz_A G)) G s.heap 3 N 0 [(0, .ref (G.2.2 7 o)), (1, .int x1), (2, .int x2)] [] := by
  unfold fM_balance at h
  refine qz_iload_n X 1 rfl dq_M_balance_0 ?_
  refine qz_bind h (fun q1 e2 h => ?_)
  refine qz_callS X (as := [.int x1]) (st := []) (o := some (.int q1.1)) (N' := q1.2) cq_M_166 (cM_isPlayer l G X.2.2.2.2.2.2.1 x1 N _ e2) ⟨by decide, by decide⟩ rfl rfl (Nat.le_of_ble_eq_true rfl) ⟨Nat.zero_le _, Nat.zero_le _⟩ dq_M_balance_1 ?_
  refine qz_if_eq X (tgt := 23) (by decide) dq_M_balance_4 h (fun _ h => ?_) (fun _ h => ?_)
  · refine qz_ldc2 X (v := (-2 : Int64)) wq_742 dq_M_balance_23 ?_
    exact qz_lret X h dq_M_balance_26
  · refine qz_iload_n X 2 rfl dq_M_balance_7 ?_
    refine qz_bind h (fun q3 e4 h => ?_)
    refine qz_callS X (as := [.int x2]) (st := []) (o := some (.int q3.1)) (N' := q3.2) cq_M_170 (cM_isToken l G X.2.2.2.2.2.2.1 x2 q1.2 _ e4) ⟨by decide, by decide⟩ rfl rfl (Nat.le_of_ble_eq_true rfl) ⟨Nat.zero_le _, Nat.zero_le _⟩ dq_M_balance_8 ?_
    refine qz_if_eq X (tgt := 23) (by decide) dq_M_balance_11 h (fun _ h => ?_) (fun _ h => ?_)
    · refine qz_ldc2 X (v := (-2 : Int64)) wq_742 dq_M_balance_23 ?_
      exact qz_lret X h dq_M_balance_26
    · refine qz_aload_n X 0 rfl dq_M_balance_14 ?_
      refine qz_iload_n X 1 rfl dq_M_balance_15 ?_
      refine qz_iload_n X 2 rfl dq_M_balance_16 ?_
      refine qz_bind h (fun q5 e6 h => ?_)
      refine qz_callV X (as := [.int x1, .int x2]) (st := []) (o := some (.long q5.1)) (N' := q5.2) cq_M_148 ho (cM_has l G X.2.2.2.2.2.2.1 o x1 x2 q3.2 ho _ e6) ⟨by decide, by decide⟩ rfl rfl (Nat.le_of_ble_eq_true rfl) ⟨Nat.zero_le _, Nat.zero_le _⟩ dq_M_balance_17 ?_
      refine qz_goto X (tgt := 26) (by decide) dq_M_balance_20 ?_
      exact qz_lret X h dq_M_balance_26
theorem cM_balance (l : Launch) (G : qz_G) (hD : qz_D G) (o : Nat) (x1 : Int32) (x2 : Int32) (N : qz_N) (ho : o < 1) (r : (Int64 × qz_N)) (h : fM_balance o x1 x2 N = some r) : qz_M l yM_balance prog_10_method_18_code 3 (some .long) 1 G [.ref (G.2.2 7 o), .int x1, .int x2] N (some (.long r.1)) r.2 :=
  qz_enter (lv := [(0, .ref (G.2.2 7 o)), (1, .int x1), (2, .int x2)]) rfl hD (Nat.le_of_ble_eq_true rfl) rfl (fun p e s m args below meth c X => sM_balance X o x1 x2 ho N h)
-- ExactCurvesModel.total(I)J
theorem dq_M_total_0 : decode prog_10_method_19_code 0 = .ok (.iload_n 1, 1) := by decide +kernel
theorem dq_M_total_1 : decode prog_10_method_19_code 1 = .ok (.invokestatic 170, 3) := by decide +kernel
theorem dq_M_total_4 : decode prog_10_method_19_code 4 = .ok (.ifCond .eq 11, 3) := by decide +kernel
theorem dq_M_total_7 : decode prog_10_method_19_code 7 = .ok (.aload_n 0, 1) := by decide +kernel
theorem dq_M_total_8 : decode prog_10_method_19_code 8 = .ok (.iload_n 1, 1) := by decide +kernel
theorem dq_M_total_9 : decode prog_10_method_19_code 9 = .ok (.invokevirtual 177, 3) := by decide +kernel
theorem dq_M_total_12 : decode prog_10_method_19_code 12 = .ok (.goto 6, 3) := by decide +kernel
theorem dq_M_total_15 : decode prog_10_method_19_code 15 = .ok (.ldc2_w 175, 3) := by decide +kernel
theorem dq_M_total_18 : decode prog_10_method_19_code 18 = .ok (.lreturn, 1) := by decide +kernel
def fM_total (o : Nat) (x1 : Int32) (N : qz_N) : Option (Int64 × qz_N) :=
  (fM_isToken x1 N).bind fun q1 =>
  if q1.1 = 0 then
    some ((-2 : Int64), q1.2)
  else
  (fM_allOf o x1 q1.2).bind fun q3 =>
  some (q3.1, q3.2)
set_option maxRecDepth 100000 in
set_option maxHeartbeats 4000000 in
theorem sM_total {p : Program} {l : Launch} {e : Env} {s : State} {m : MethodId} {args : Array Value} {below : List Frame} {meth : Method} {c : Code} {G : qz_G} (X : qz_X p s m args meth c "ExactCurvesModel" prog_10_method_19_code 2 (some .long) G) {r : (Int64 × qz_N)} (o : Nat) (x1 : Int32) (ho : o < 1) (N : qz_N) (h : fM_total o x1 N = some r) : qz_W p l e (qz_R 3) s m args below meth c 0 0 (MQ below (qz_Q G r.2 (some (.long r.1))) args s 0 0 (qz_A G)) G s.heap 2 N 0 [(0, .ref (G.2.2 7 o)), (1, .int x1)] [] := by
  unfold fM_total at h
  refine qz_iload_n X 1 rfl dq_M_total_0 ?_
  refine qz_bind h (fun q1 e2 h => ?_)
  refine qz_callS X (as := [.int x1]) (st := []) (o := some (.int q1.1)) (N' := q1.2) cq_M_170 (cM_isToken l G X.2.2.2.2.2.2.1 x1 N _ e2) ⟨by decide, by decide⟩ rfl rfl (Nat.le_of_ble_eq_true rfl) ⟨Nat.zero_le _, Nat.zero_le _⟩ dq_M_total_1 ?_
  refine qz_if_eq X (tgt := 15) (by decide) dq_M_total_4 h (fun _ h => ?_) (fun _ h => ?_)
  · refine qz_ldc2 X (v := (-2 : Int64)) wq_742 dq_M_total_15 ?_
    exact qz_lret X h dq_M_total_18
  · refine qz_aload_n X 0 rfl dq_M_total_7 ?_
    refine qz_iload_n X 1 rfl dq_M_total_8 ?_
    refine qz_bind h (fun q3 e4 h => ?_)
    refine qz_callV X (as := [.int x1]) (st := []) (o := some (.long q3.1)) (N' := q3.2) cq_M_177 ho (cM_allOf l G X.2.2.2.2.2.2.1 o x1 q1.2 ho _ e4) ⟨by decide, by decide⟩ rfl rfl (Nat.le_of_ble_eq_true rfl) ⟨Nat.zero_le _, Nat.zero_le _⟩ dq_M_total_9 ?_
    refine qz_goto X (tgt := 18) (by decide) dq_M_total_12 ?_
    exact qz_lret X h dq_M_total_18
theorem cM_total (l : Launch) (G : qz_G) (hD : qz_D G) (o : Nat) (x1 : Int32) (N : qz_N) (ho : o < 1) (r : (Int64 × qz_N)) (h : fM_total o x1 N = some r) : qz_M l yM_total prog_10_method_19_code 2 (some .long) 3 G [.ref (G.2.2 7 o), .int x1] N (some (.long r.1)) r.2 :=
  qz_enter (lv := [(0, .ref (G.2.2 7 o)), (1, .int x1)]) rfl hD (Nat.le_of_ble_eq_true rfl) rfl (fun p e s m args below meth c X => sM_total X o x1 ho N h)
-- ExactCurvesModel.house(I)J
theorem dq_M_house_0 : decode prog_10_method_20_code 0 = .ok (.iload_n 1, 1) := by decide +kernel
theorem dq_M_house_1 : decode prog_10_method_20_code 1 = .ok (.invokestatic 170, 3) := by decide +kernel
theorem dq_M_house_4 : decode prog_10_method_20_code 4 = .ok (.ifCond .eq 12, 3) := by decide +kernel
theorem dq_M_house_7 : decode prog_10_method_20_code 7 = .ok (.aload_n 0, 1) := by decide +kernel
theorem dq_M_house_8 : decode prog_10_method_20_code 8 = .ok (.getfield 13, 3) := by decide +kernel
theorem dq_M_house_11 : decode prog_10_method_20_code 11 = .ok (.iload_n 1, 1) := by decide +kernel
theorem dq_M_house_12 : decode prog_10_method_20_code 12 = .ok (.laload, 1) := by decide +kernel
theorem dq_M_house_13 : decode prog_10_method_20_code 13 = .ok (.goto 6, 3) := by decide +kernel
theorem dq_M_house_16 : decode prog_10_method_20_code 16 = .ok (.ldc2_w 175, 3) := by decide +kernel
theorem dq_M_house_19 : decode prog_10_method_20_code 19 = .ok (.lreturn, 1) := by decide +kernel
def fM_house (o : Nat) (x1 : Int32) (N : qz_N) : Option (Int64 × qz_N) :=
  (fM_isToken x1 N).bind fun q1 =>
  if q1.1 = 0 then
    some ((-2 : Int64), q1.2)
  else
  if x1 < 0 ∨ 4 ≤ x1.toNatClampNeg then none else
  some (qz_gl q1.2 23 o x1.toNatClampNeg, q1.2)
set_option maxRecDepth 100000 in
set_option maxHeartbeats 4000000 in
theorem sM_house {p : Program} {l : Launch} {e : Env} {s : State} {m : MethodId} {args : Array Value} {below : List Frame} {meth : Method} {c : Code} {G : qz_G} (X : qz_X p s m args meth c "ExactCurvesModel" prog_10_method_20_code 2 (some .long) G) {r : (Int64 × qz_N)} (o : Nat) (x1 : Int32) (ho : o < 1) (N : qz_N) (h : fM_house o x1 N = some r) : qz_W p l e (qz_R 1) s m args below meth c 0 0 (MQ below (qz_Q G r.2 (some (.long r.1))) args s 0 0 (qz_A G)) G s.heap 2 N 0 [(0, .ref (G.2.2 7 o)), (1, .int x1)] [] := by
  unfold fM_house at h
  refine qz_iload_n X 1 rfl dq_M_house_0 ?_
  refine qz_bind h (fun q1 e2 h => ?_)
  refine qz_callS X (as := [.int x1]) (st := []) (o := some (.int q1.1)) (N' := q1.2) cq_M_170 (cM_isToken l G X.2.2.2.2.2.2.1 x1 N _ e2) ⟨by decide, by decide⟩ rfl rfl (Nat.le_of_ble_eq_true rfl) ⟨Nat.zero_le _, Nat.zero_le _⟩ dq_M_house_1 ?_
  refine qz_if_eq X (tgt := 16) (by decide) dq_M_house_4 h (fun _ h => ?_) (fun _ h => ?_)
  · refine qz_ldc2 X (v := (-2 : Int64)) wq_742 dq_M_house_16 ?_
    exact qz_lret X h dq_M_house_19
  · refine qz_aload_n X 0 rfl dq_M_house_7 ?_
    refine qz_get X (v := .ref (G.2.2 23 o)) kq_M_13 ho rfl dq_M_house_8 ?_
    refine qz_iload_n X 1 rfl dq_M_house_11 ?_
    refine qz_lald X (c0 := 23) (i := o) (n := 4) rfl ho dq_M_house_12 h (fun h => ?_)
    refine qz_goto X (tgt := 19) (by decide) dq_M_house_13 ?_
    exact qz_lret X h dq_M_house_19
theorem cM_house (l : Launch) (G : qz_G) (hD : qz_D G) (o : Nat) (x1 : Int32) (N : qz_N) (ho : o < 1) (r : (Int64 × qz_N)) (h : fM_house o x1 N = some r) : qz_M l yM_house prog_10_method_20_code 2 (some .long) 1 G [.ref (G.2.2 7 o), .int x1] N (some (.long r.1)) r.2 :=
  qz_enter (lv := [(0, .ref (G.2.2 7 o)), (1, .int x1)]) rfl hD (Nat.le_of_ble_eq_true rfl) rfl (fun p e s m args below meth c X => sM_house X o x1 ho N h)
-- ExactCurvesModel.pool(IIII)I
theorem dq_M_pool_0 : decode prog_10_method_21_code 0 = .ok (.iload_n 1, 1) := by decide +kernel
theorem dq_M_pool_1 : decode prog_10_method_21_code 1 = .ok (.invokestatic 170, 3) := by decide +kernel
theorem dq_M_pool_4 : decode prog_10_method_21_code 4 = .ok (.ifCond .eq 46, 3) := by decide +kernel
theorem dq_M_pool_7 : decode prog_10_method_21_code 7 = .ok (.iload_n 2, 1) := by decide +kernel
theorem dq_M_pool_8 : decode prog_10_method_21_code 8 = .ok (.invokestatic 170, 3) := by decide +kernel
theorem dq_M_pool_11 : decode prog_10_method_21_code 11 = .ok (.ifCond .eq 39, 3) := by decide +kernel
theorem dq_M_pool_14 : decode prog_10_method_21_code 14 = .ok (.iload_n 1, 1) := by decide +kernel
theorem dq_M_pool_15 : decode prog_10_method_21_code 15 = .ok (.iload_n 2, 1) := by decide +kernel
theorem dq_M_pool_16 : decode prog_10_method_21_code 16 = .ok (.if_icmp .eq 34, 3) := by decide +kernel
theorem dq_M_pool_19 : decode prog_10_method_21_code 19 = .ok (.iload_n 3, 1) := by decide +kernel
theorem dq_M_pool_20 : decode prog_10_method_21_code 20 = .ok (.ifCond .lt 30, 3) := by decide +kernel
theorem dq_M_pool_23 : decode prog_10_method_21_code 23 = .ok (.iload_n 3, 1) := by decide +kernel
theorem dq_M_pool_24 : decode prog_10_method_21_code 24 = .ok (.iconst 1, 1) := by decide +kernel
theorem dq_M_pool_25 : decode prog_10_method_21_code 25 = .ok (.if_icmp .gt 25, 3) := by decide +kernel
theorem dq_M_pool_28 : decode prog_10_method_21_code 28 = .ok (.iload 4, 2) := by decide +kernel
theorem dq_M_pool_30 : decode prog_10_method_21_code 30 = .ok (.ifCond .lt 20, 3) := by decide +kernel
theorem dq_M_pool_33 : decode prog_10_method_21_code 33 = .ok (.iload 4, 2) := by decide +kernel
theorem dq_M_pool_35 : decode prog_10_method_21_code 35 = .ok (.sipush 1000, 3) := by decide +kernel
theorem dq_M_pool_38 : decode prog_10_method_21_code 38 = .ok (.if_icmp .gt 12, 3) := by decide +kernel
theorem dq_M_pool_41 : decode prog_10_method_21_code 41 = .ok (.aload_n 0, 1) := by decide +kernel
theorem dq_M_pool_42 : decode prog_10_method_21_code 42 = .ok (.getfield 145, 3) := by decide +kernel
theorem dq_M_pool_45 : decode prog_10_method_21_code 45 = .ok (.bipush 6, 2) := by decide +kernel
theorem dq_M_pool_47 : decode prog_10_method_21_code 47 = .ok (.if_icmp .ne 6, 3) := by decide +kernel
theorem dq_M_pool_50 : decode prog_10_method_21_code 50 = .ok (.bipush (-2), 2) := by decide +kernel
theorem dq_M_pool_52 : decode prog_10_method_21_code 52 = .ok (.ireturn, 1) := by decide +kernel
theorem dq_M_pool_53 : decode prog_10_method_21_code 53 = .ok (.aload_n 0, 1) := by decide +kernel
theorem dq_M_pool_54 : decode prog_10_method_21_code 54 = .ok (.getfield 16, 3) := by decide +kernel
theorem dq_M_pool_57 : decode prog_10_method_21_code 57 = .ok (.iconst 2, 1) := by decide +kernel
theorem dq_M_pool_58 : decode prog_10_method_21_code 58 = .ok (.aload_n 0, 1) := by decide +kernel
theorem dq_M_pool_59 : decode prog_10_method_21_code 59 = .ok (.getfield 145, 3) := by decide +kernel
theorem dq_M_pool_62 : decode prog_10_method_21_code 62 = .ok (.imul, 1) := by decide +kernel
theorem dq_M_pool_63 : decode prog_10_method_21_code 63 = .ok (.iload_n 1, 1) := by decide +kernel
theorem dq_M_pool_64 : decode prog_10_method_21_code 64 = .ok (.iastore, 1) := by decide +kernel
theorem dq_M_pool_65 : decode prog_10_method_21_code 65 = .ok (.aload_n 0, 1) := by decide +kernel
theorem dq_M_pool_66 : decode prog_10_method_21_code 66 = .ok (.getfield 16, 3) := by decide +kernel
theorem dq_M_pool_69 : decode prog_10_method_21_code 69 = .ok (.iconst 2, 1) := by decide +kernel
theorem dq_M_pool_70 : decode prog_10_method_21_code 70 = .ok (.aload_n 0, 1) := by decide +kernel
theorem dq_M_pool_71 : decode prog_10_method_21_code 71 = .ok (.getfield 145, 3) := by decide +kernel
theorem dq_M_pool_74 : decode prog_10_method_21_code 74 = .ok (.imul, 1) := by decide +kernel
theorem dq_M_pool_75 : decode prog_10_method_21_code 75 = .ok (.iconst 1, 1) := by decide +kernel
theorem dq_M_pool_76 : decode prog_10_method_21_code 76 = .ok (.iadd, 1) := by decide +kernel
theorem dq_M_pool_77 : decode prog_10_method_21_code 77 = .ok (.iload_n 2, 1) := by decide +kernel
theorem dq_M_pool_78 : decode prog_10_method_21_code 78 = .ok (.iastore, 1) := by decide +kernel
theorem dq_M_pool_79 : decode prog_10_method_21_code 79 = .ok (.aload_n 0, 1) := by decide +kernel
theorem dq_M_pool_80 : decode prog_10_method_21_code 80 = .ok (.getfield 20, 3) := by decide +kernel
theorem dq_M_pool_83 : decode prog_10_method_21_code 83 = .ok (.aload_n 0, 1) := by decide +kernel
theorem dq_M_pool_84 : decode prog_10_method_21_code 84 = .ok (.getfield 145, 3) := by decide +kernel
theorem dq_M_pool_87 : decode prog_10_method_21_code 87 = .ok (.iload_n 3, 1) := by decide +kernel
theorem dq_M_pool_88 : decode prog_10_method_21_code 88 = .ok (.iastore, 1) := by decide +kernel
theorem dq_M_pool_89 : decode prog_10_method_21_code 89 = .ok (.aload_n 0, 1) := by decide +kernel
theorem dq_M_pool_90 : decode prog_10_method_21_code 90 = .ok (.getfield 23, 3) := by decide +kernel
theorem dq_M_pool_93 : decode prog_10_method_21_code 93 = .ok (.aload_n 0, 1) := by decide +kernel
theorem dq_M_pool_94 : decode prog_10_method_21_code 94 = .ok (.getfield 145, 3) := by decide +kernel
theorem dq_M_pool_97 : decode prog_10_method_21_code 97 = .ok (.iload 4, 2) := by decide +kernel
theorem dq_M_pool_99 : decode prog_10_method_21_code 99 = .ok (.iastore, 1) := by decide +kernel
theorem dq_M_pool_100 : decode prog_10_method_21_code 100 = .ok (.aload_n 0, 1) := by decide +kernel
theorem dq_M_pool_101 : decode prog_10_method_21_code 101 = .ok (.dup, 1) := by decide +kernel
theorem dq_M_pool_102 : decode prog_10_method_21_code 102 = .ok (.getfield 145, 3) := by decide +kernel
theorem dq_M_pool_105 : decode prog_10_method_21_code 105 = .ok (.iconst 1, 1) := by decide +kernel
theorem dq_M_pool_106 : decode prog_10_method_21_code 106 = .ok (.iadd, 1) := by decide +kernel
theorem dq_M_pool_107 : decode prog_10_method_21_code 107 = .ok (.putfield 145, 3) := by decide +kernel
theorem dq_M_pool_110 : decode prog_10_method_21_code 110 = .ok (.aload_n 0, 1) := by decide +kernel
theorem dq_M_pool_111 : decode prog_10_method_21_code 111 = .ok (.getfield 145, 3) := by decide +kernel
theorem dq_M_pool_114 : decode prog_10_method_21_code 114 = .ok (.iconst 1, 1) := by decide +kernel
theorem dq_M_pool_115 : decode prog_10_method_21_code 115 = .ok (.isub, 1) := by decide +kernel
theorem dq_M_pool_116 : decode prog_10_method_21_code 116 = .ok (.ireturn, 1) := by decide +kernel
def fM_pool (o : Nat) (x1 : Int32) (x2 : Int32) (x3 : Int32) (x4 : Int32) (N : qz_N) : Option (Int32 × qz_N) :=
  (fM_isToken x1 N).bind fun q1 =>
  if q1.1 = 0 then
    some ((-2 : Int32), q1.2)
  else
  (fM_isToken x2 q1.2).bind fun q3 =>
  if q3.1 = 0 then
    some ((-2 : Int32), q3.2)
  else
  if x1 = x2 then
    some ((-2 : Int32), q3.2)
  else
  if x3 < 0 then
    some ((-2 : Int32), q3.2)
  else
  if (1 : Int32) < x3 then
    some ((-2 : Int32), q3.2)
  else
  if x4 < 0 then
    some ((-2 : Int32), q3.2)
  else
  if (1000 : Int32) < x4 then
    some ((-2 : Int32), q3.2)
  else
  if (qz_gi q3.2 7 o 3) = (6 : Int32) then
    some ((-2 : Int32), q3.2)
  else
  if ((2 : Int32) * (qz_gi q3.2 7 o 3)) < 0 ∨ 12 ≤ ((2 : Int32) * (qz_gi q3.2 7 o 3)).toNatClampNeg then none else
  qz_let (qz_si q3.2 24 o ((2 : Int32) * (qz_gi q3.2 7 o 3)).toNatClampNeg x1) fun N5 =>
  if (((2 : Int32) * (qz_gi N5 7 o 3)) + (1 : Int32)) < 0 ∨ 12 ≤ (((2 : Int32) * (qz_gi N5 7 o 3)) + (1 : Int32)).toNatClampNeg then none else
  qz_let (qz_si N5 24 o (((2 : Int32) * (qz_gi N5 7 o 3)) + (1 : Int32)).toNatClampNeg x2) fun N6 =>
  if (qz_gi N6 7 o 3) < 0 ∨ 6 ≤ (qz_gi N6 7 o 3).toNatClampNeg then none else
  qz_let (qz_si N6 25 o (qz_gi N6 7 o 3).toNatClampNeg x3) fun N7 =>
  if (qz_gi N7 7 o 3) < 0 ∨ 6 ≤ (qz_gi N7 7 o 3).toNatClampNeg then none else
  qz_let (qz_si N7 26 o (qz_gi N7 7 o 3).toNatClampNeg x4) fun N8 =>
  qz_let (qz_si N8 7 o 3 ((qz_gi N8 7 o 3) + (1 : Int32))) fun N9 =>
  some ((qz_gi N9 7 o 3) - (1 : Int32), N9)
set_option maxRecDepth 100000 in
set_option maxHeartbeats 4000000 in
theorem sM_pool {p : Program} {l : Launch} {e : Env} {s : State} {m : MethodId} {args : Array Value} {below : List Frame} {meth : Method} {c : Code} {G : qz_G} (X : qz_X p s m args meth c "ExactCurvesModel" prog_10_method_21_code 5 (some .int) G) {r : (Int32 × qz_N)} (o : Nat) (x1 : Int32) (x2 : Int32) (x3 : Int32) (x4 : Int32) (ho : o < 1) (N : qz_N) (h : fM_pool o x1 x2 x3 x4 N = some r) : qz_W p l e (qz_R 1) s m args below meth c 0 0 (MQ below (qz_Q G r.2 (some (.int r.1))) args s 0 0 (qz_A G)) G s.heap 5 N 0 [(0, .ref (G.2.2 7 o)), (1, .int x1), (2, .int x2), (3, .int x3), (4, .int x4)] [] := by
  unfold fM_pool at h
  refine qz_iload_n X 1 rfl dq_M_pool_0 ?_
  refine qz_bind h (fun q1 e2 h => ?_)
  refine qz_callS X (as := [.int x1]) (st := []) (o := some (.int q1.1)) (N' := q1.2) cq_M_170 (cM_isToken l G X.2.2.2.2.2.2.1 x1 N _ e2) ⟨by decide, by decide⟩ rfl rfl (Nat.le_of_ble_eq_true rfl) ⟨Nat.zero_le _, Nat.zero_le _⟩ dq_M_pool_1 ?_
  refine qz_if_eq X (tgt := 50) (by decide) dq_M_pool_4 h (fun _ h => ?_) (fun _ h => ?_)
  · refine qz_bipush X (v := (-2 : Int32)) (by decide) dq_M_pool_50 ?_
    exact qz_iret X h dq_M_pool_52
  · refine qz_iload_n X 2 rfl dq_M_pool_7 ?_
    refine qz_bind h (fun q3 e4 h => ?_)
    refine qz_callS X (as := [.int x2]) (st := []) (o := some (.int q3.1)) (N' := q3.2) cq_M_170 (cM_isToken l G X.2.2.2.2.2.2.1 x2 q1.2 _ e4) ⟨by decide, by decide⟩ rfl rfl (Nat.le_of_ble_eq_true rfl) ⟨Nat.zero_le _, Nat.zero_le _⟩ dq_M_pool_8 ?_
    refine qz_if_eq X (tgt := 50) (by decide) dq_M_pool_11 h (fun _ h => ?_) (fun _ h => ?_)
    · refine qz_bipush X (v := (-2 : Int32)) (by decide) dq_M_pool_50 ?_
      exact qz_iret X h dq_M_pool_52
    · refine qz_iload_n X 1 rfl dq_M_pool_14 ?_
      refine qz_iload_n X 2 rfl dq_M_pool_15 ?_
      refine qz_icmp_eq X (tgt := 50) (by decide) dq_M_pool_16 h (fun _ h => ?_) (fun _ h => ?_)
      · refine qz_bipush X (v := (-2 : Int32)) (by decide) dq_M_pool_50 ?_
        exact qz_iret X h dq_M_pool_52
      · refine qz_iload_n X 3 rfl dq_M_pool_19 ?_
        refine qz_if_lt X (tgt := 50) (by decide) dq_M_pool_20 h (fun _ h => ?_) (fun _ h => ?_)
        · refine qz_bipush X (v := (-2 : Int32)) (by decide) dq_M_pool_50 ?_
          exact qz_iret X h dq_M_pool_52
        · refine qz_iload_n X 3 rfl dq_M_pool_23 ?_
          refine qz_iconst X (v := (1 : Int32)) (by decide) dq_M_pool_24 ?_
          refine qz_icmp_gt X (tgt := 50) (by decide) dq_M_pool_25 h (fun _ h => ?_) (fun _ h => ?_)
          · refine qz_bipush X (v := (-2 : Int32)) (by decide) dq_M_pool_50 ?_
            exact qz_iret X h dq_M_pool_52
          · refine qz_iload X 4 rfl dq_M_pool_28 ?_
            refine qz_if_lt X (tgt := 50) (by decide) dq_M_pool_30 h (fun _ h => ?_) (fun _ h => ?_)
            · refine qz_bipush X (v := (-2 : Int32)) (by decide) dq_M_pool_50 ?_
              exact qz_iret X h dq_M_pool_52
            · refine qz_iload X 4 rfl dq_M_pool_33 ?_
              refine qz_sipush X (v := (1000 : Int32)) (by decide) dq_M_pool_35 ?_
              refine qz_icmp_gt X (tgt := 50) (by decide) dq_M_pool_38 h (fun _ h => ?_) (fun _ h => ?_)
              · refine qz_bipush X (v := (-2 : Int32)) (by decide) dq_M_pool_50 ?_
                exact qz_iret X h dq_M_pool_52
              · refine qz_aload_n X 0 rfl dq_M_pool_41 ?_
                refine qz_get X (v := .int (qz_gi q3.2 7 o 3)) kq_M_145 ho rfl dq_M_pool_42 ?_
                refine qz_bipush X (v := (6 : Int32)) (by decide) dq_M_pool_45 ?_
                refine qz_icmp_ne X (tgt := 53) (by decide) dq_M_pool_47 h (fun _ h => ?_) (fun _ h => ?_)
                · refine qz_aload_n X 0 rfl dq_M_pool_53 ?_
                  refine qz_get X (v := .ref (G.2.2 24 o)) kq_M_16 ho rfl dq_M_pool_54 ?_
                  refine qz_iconst X (v := (2 : Int32)) (by decide) dq_M_pool_57 ?_
                  refine qz_aload_n X 0 rfl dq_M_pool_58 ?_
                  refine qz_get X (v := .int (qz_gi q3.2 7 o 3)) kq_M_145 ho rfl dq_M_pool_59 ?_
                  refine qz_imul X dq_M_pool_62 ?_
                  refine qz_iload_n X 1 rfl dq_M_pool_63 ?_
                  refine qz_iast X (c0 := 24) (i := o) (n := 12) rfl ho dq_M_pool_64 h (fun N5 h => ?_)
                  refine qz_aload_n X 0 rfl dq_M_pool_65 ?_
                  refine qz_get X (v := .ref (G.2.2 24 o)) kq_M_16 ho rfl dq_M_pool_66 ?_
                  refine qz_iconst X (v := (2 : Int32)) (by decide) dq_M_pool_69 ?_
                  refine qz_aload_n X 0 rfl dq_M_pool_70 ?_
                  refine qz_get X (v := .int (qz_gi N5 7 o 3)) kq_M_145 ho rfl dq_M_pool_71 ?_
                  refine qz_imul X dq_M_pool_74 ?_
                  refine qz_iconst X (v := (1 : Int32)) (by decide) dq_M_pool_75 ?_
                  refine qz_iadd X dq_M_pool_76 ?_
                  refine qz_iload_n X 2 rfl dq_M_pool_77 ?_
                  refine qz_iast X (c0 := 24) (i := o) (n := 12) rfl ho dq_M_pool_78 h (fun N6 h => ?_)
                  refine qz_aload_n X 0 rfl dq_M_pool_79 ?_
                  refine qz_get X (v := .ref (G.2.2 25 o)) kq_M_20 ho rfl dq_M_pool_80 ?_
                  refine qz_aload_n X 0 rfl dq_M_pool_83 ?_
                  refine qz_get X (v := .int (qz_gi N6 7 o 3)) kq_M_145 ho rfl dq_M_pool_84 ?_
                  refine qz_iload_n X 3 rfl dq_M_pool_87 ?_
                  refine qz_iast X (c0 := 25) (i := o) (n := 6) rfl ho dq_M_pool_88 h (fun N7 h => ?_)
                  refine qz_aload_n X 0 rfl dq_M_pool_89 ?_
                  refine qz_get X (v := .ref (G.2.2 26 o)) kq_M_23 ho rfl dq_M_pool_90 ?_
                  refine qz_aload_n X 0 rfl dq_M_pool_93 ?_
                  refine qz_get X (v := .int (qz_gi N7 7 o 3)) kq_M_145 ho rfl dq_M_pool_94 ?_
                  refine qz_iload X 4 rfl dq_M_pool_97 ?_
                  refine qz_iast X (c0 := 26) (i := o) (n := 6) rfl ho dq_M_pool_99 h (fun N8 h => ?_)
                  refine qz_aload_n X 0 rfl dq_M_pool_100 ?_
                  refine qz_dup X rfl dq_M_pool_101 ?_
                  refine qz_get X (v := .int (qz_gi N8 7 o 3)) kq_M_145 ho rfl dq_M_pool_102 ?_
                  refine qz_iconst X (v := (1 : Int32)) (by decide) dq_M_pool_105 ?_
                  refine qz_iadd X dq_M_pool_106 ?_
                  refine qz_putI X kq_M_145 ho dq_M_pool_107 h (fun N9 h => ?_)
                  refine qz_aload_n X 0 rfl dq_M_pool_110 ?_
                  refine qz_get X (v := .int (qz_gi N9 7 o 3)) kq_M_145 ho rfl dq_M_pool_111 ?_
                  refine qz_iconst X (v := (1 : Int32)) (by decide) dq_M_pool_114 ?_
                  refine qz_isub X dq_M_pool_115 ?_
                  exact qz_iret X h dq_M_pool_116
                · refine qz_bipush X (v := (-2 : Int32)) (by decide) dq_M_pool_50 ?_
                  exact qz_iret X h dq_M_pool_52
theorem cM_pool (l : Launch) (G : qz_G) (hD : qz_D G) (o : Nat) (x1 : Int32) (x2 : Int32) (x3 : Int32) (x4 : Int32) (N : qz_N) (ho : o < 1) (r : (Int32 × qz_N)) (h : fM_pool o x1 x2 x3 x4 N = some r) : qz_M l yM_pool prog_10_method_21_code 5 (some .int) 1 G [.ref (G.2.2 7 o), .int x1, .int x2, .int x3, .int x4] N (some (.int r.1)) r.2 :=
  qz_enter (lv := [(0, .ref (G.2.2 7 o)), (1, .int x1), (2, .int x2), (3, .int x3), (4, .int x4)]) rfl hD (Nat.le_of_ble_eq_true rfl) rfl (fun p e s m args below meth c X => sM_pool X o x1 x2 x3 x4 ho N h)
-- ExactCurvesModel.of(II)J
theorem dq_M_of_0 : decode prog_10_method_22_code 0 = .ok (.aload_n 0, 1) := by decide +kernel
theorem dq_M_of_1 : decode prog_10_method_22_code 1 = .ok (.iload_n 1, 1) := by decide +kernel
theorem dq_M_of_2 : decode prog_10_method_22_code 2 = .ok (.invokevirtual 186, 3) := by decide +kernel
theorem dq_M_of_5 : decode prog_10_method_22_code 5 = .ok (.ifCond .ne 7, 3) := by decide +kernel
theorem dq_M_of_8 : decode prog_10_method_22_code 8 = .ok (.ldc2_w 175, 3) := by decide +kernel
theorem dq_M_of_11 : decode prog_10_method_22_code 11 = .ok (.lreturn, 1) := by decide +kernel
theorem dq_M_of_12 : decode prog_10_method_22_code 12 = .ok (.iload_n 2, 1) := by decide +kernel
theorem dq_M_of_13 : decode prog_10_method_22_code 13 = .ok (.bipush 9, 2) := by decide +kernel
theorem dq_M_of_15 : decode prog_10_method_22_code 15 = .ok (.if_icmp .lt 24, 3) := by decide +kernel
theorem dq_M_of_18 : decode prog_10_method_22_code 18 = .ok (.iload_n 2, 1) := by decide +kernel
theorem dq_M_of_19 : decode prog_10_method_22_code 19 = .ok (.bipush 15, 2) := by decide +kernel
theorem dq_M_of_21 : decode prog_10_method_22_code 21 = .ok (.if_icmp .ge 18, 3) := by decide +kernel
theorem dq_M_of_24 : decode prog_10_method_22_code 24 = .ok (.aload_n 0, 1) := by decide +kernel
theorem dq_M_of_25 : decode prog_10_method_22_code 25 = .ok (.getfield 32, 3) := by decide +kernel
theorem dq_M_of_28 : decode prog_10_method_22_code 28 = .ok (.bipush 6, 2) := by decide +kernel
theorem dq_M_of_30 : decode prog_10_method_22_code 30 = .ok (.iload_n 1, 1) := by decide +kernel
theorem dq_M_of_31 : decode prog_10_method_22_code 31 = .ok (.imul, 1) := by decide +kernel
theorem dq_M_of_32 : decode prog_10_method_22_code 32 = .ok (.iload_n 2, 1) := by decide +kernel
theorem dq_M_of_33 : decode prog_10_method_22_code 33 = .ok (.iadd, 1) := by decide +kernel
theorem dq_M_of_34 : decode prog_10_method_22_code 34 = .ok (.bipush 9, 2) := by decide +kernel
theorem dq_M_of_36 : decode prog_10_method_22_code 36 = .ok (.isub, 1) := by decide +kernel
theorem dq_M_of_37 : decode prog_10_method_22_code 37 = .ok (.laload, 1) := by decide +kernel
theorem dq_M_of_38 : decode prog_10_method_22_code 38 = .ok (.lreturn, 1) := by decide +kernel
theorem dq_M_of_39 : decode prog_10_method_22_code 39 = .ok (.iload_n 2, 1) := by decide +kernel
theorem dq_M_of_40 : decode prog_10_method_22_code 40 = .ok (.tableswitch 115 0 8 #[52, 52, 63, 70, 77, 84, 92, 100, 100], 52) := by decide +kernel
theorem dq_M_of_92 : decode prog_10_method_22_code 92 = .ok (.aload_n 0, 1) := by decide +kernel
theorem dq_M_of_93 : decode prog_10_method_22_code 93 = .ok (.getfield 26, 3) := by decide +kernel
theorem dq_M_of_96 : decode prog_10_method_22_code 96 = .ok (.iconst 2, 1) := by decide +kernel
theorem dq_M_of_97 : decode prog_10_method_22_code 97 = .ok (.iload_n 1, 1) := by decide +kernel
theorem dq_M_of_98 : decode prog_10_method_22_code 98 = .ok (.imul, 1) := by decide +kernel
theorem dq_M_of_99 : decode prog_10_method_22_code 99 = .ok (.iload_n 2, 1) := by decide +kernel
theorem dq_M_of_100 : decode prog_10_method_22_code 100 = .ok (.iadd, 1) := by decide +kernel
theorem dq_M_of_101 : decode prog_10_method_22_code 101 = .ok (.laload, 1) := by decide +kernel
theorem dq_M_of_102 : decode prog_10_method_22_code 102 = .ok (.lreturn, 1) := by decide +kernel
theorem dq_M_of_103 : decode prog_10_method_22_code 103 = .ok (.aload_n 0, 1) := by decide +kernel
theorem dq_M_of_104 : decode prog_10_method_22_code 104 = .ok (.getfield 29, 3) := by decide +kernel
theorem dq_M_of_107 : decode prog_10_method_22_code 107 = .ok (.iload_n 1, 1) := by decide +kernel
theorem dq_M_of_108 : decode prog_10_method_22_code 108 = .ok (.laload, 1) := by decide +kernel
theorem dq_M_of_109 : decode prog_10_method_22_code 109 = .ok (.lreturn, 1) := by decide +kernel
theorem dq_M_of_110 : decode prog_10_method_22_code 110 = .ok (.aload_n 0, 1) := by decide +kernel
theorem dq_M_of_111 : decode prog_10_method_22_code 111 = .ok (.getfield 35, 3) := by decide +kernel
theorem dq_M_of_114 : decode prog_10_method_22_code 114 = .ok (.iload_n 1, 1) := by decide +kernel
theorem dq_M_of_115 : decode prog_10_method_22_code 115 = .ok (.laload, 1) := by decide +kernel
theorem dq_M_of_116 : decode prog_10_method_22_code 116 = .ok (.lreturn, 1) := by decide +kernel
theorem dq_M_of_117 : decode prog_10_method_22_code 117 = .ok (.aload_n 0, 1) := by decide +kernel
theorem dq_M_of_118 : decode prog_10_method_22_code 118 = .ok (.getfield 38, 3) := by decide +kernel
theorem dq_M_of_121 : decode prog_10_method_22_code 121 = .ok (.iload_n 1, 1) := by decide +kernel
theorem dq_M_of_122 : decode prog_10_method_22_code 122 = .ok (.laload, 1) := by decide +kernel
theorem dq_M_of_123 : decode prog_10_method_22_code 123 = .ok (.lreturn, 1) := by decide +kernel
theorem dq_M_of_124 : decode prog_10_method_22_code 124 = .ok (.aload_n 0, 1) := by decide +kernel
theorem dq_M_of_125 : decode prog_10_method_22_code 125 = .ok (.getfield 20, 3) := by decide +kernel
theorem dq_M_of_128 : decode prog_10_method_22_code 128 = .ok (.iload_n 1, 1) := by decide +kernel
theorem dq_M_of_129 : decode prog_10_method_22_code 129 = .ok (.iaload, 1) := by decide +kernel
theorem dq_M_of_130 : decode prog_10_method_22_code 130 = .ok (.i2l, 1) := by decide +kernel
theorem dq_M_of_131 : decode prog_10_method_22_code 131 = .ok (.lreturn, 1) := by decide +kernel
theorem dq_M_of_132 : decode prog_10_method_22_code 132 = .ok (.aload_n 0, 1) := by decide +kernel
theorem dq_M_of_133 : decode prog_10_method_22_code 133 = .ok (.getfield 23, 3) := by decide +kernel
theorem dq_M_of_136 : decode prog_10_method_22_code 136 = .ok (.iload_n 1, 1) := by decide +kernel
theorem dq_M_of_137 : decode prog_10_method_22_code 137 = .ok (.iaload, 1) := by decide +kernel
theorem dq_M_of_138 : decode prog_10_method_22_code 138 = .ok (.i2l, 1) := by decide +kernel
theorem dq_M_of_139 : decode prog_10_method_22_code 139 = .ok (.lreturn, 1) := by decide +kernel
theorem dq_M_of_140 : decode prog_10_method_22_code 140 = .ok (.aload_n 0, 1) := by decide +kernel
theorem dq_M_of_141 : decode prog_10_method_22_code 141 = .ok (.getfield 16, 3) := by decide +kernel
theorem dq_M_of_144 : decode prog_10_method_22_code 144 = .ok (.iconst 2, 1) := by decide +kernel
theorem dq_M_of_145 : decode prog_10_method_22_code 145 = .ok (.iload_n 1, 1) := by decide +kernel
theorem dq_M_of_146 : decode prog_10_method_22_code 146 = .ok (.imul, 1) := by decide +kernel
theorem dq_M_of_147 : decode prog_10_method_22_code 147 = .ok (.iload_n 2, 1) := by decide +kernel
theorem dq_M_of_148 : decode prog_10_method_22_code 148 = .ok (.iadd, 1) := by decide +kernel
theorem dq_M_of_149 : decode prog_10_method_22_code 149 = .ok (.bipush 7, 2) := by decide +kernel
theorem dq_M_of_151 : decode prog_10_method_22_code 151 = .ok (.isub, 1) := by decide +kernel
theorem dq_M_of_152 : decode prog_10_method_22_code 152 = .ok (.iaload, 1) := by decide +kernel
theorem dq_M_of_153 : decode prog_10_method_22_code 153 = .ok (.i2l, 1) := by decide +kernel
theorem dq_M_of_154 : decode prog_10_method_22_code 154 = .ok (.lreturn, 1) := by decide +kernel
theorem dq_M_of_155 : decode prog_10_method_22_code 155 = .ok (.ldc2_w 175, 3) := by decide +kernel
theorem dq_M_of_158 : decode prog_10_method_22_code 158 = .ok (.lreturn, 1) := by decide +kernel
def fM_of_39 (y0 : Nat) (N : qz_N) (x1 : Int32) (x2 : Int32) : Option (Int64 × qz_N) :=
  if x2 = (0 : Int32) then
    if (((2 : Int32) * x1) + x2) < 0 ∨ 12 ≤ (((2 : Int32) * x1) + x2).toNatClampNeg then none else
    some (qz_gl N 27 y0 (((2 : Int32) * x1) + x2).toNatClampNeg, N)
  else
  if x2 = (1 : Int32) then
    if (((2 : Int32) * x1) + x2) < 0 ∨ 12 ≤ (((2 : Int32) * x1) + x2).toNatClampNeg then none else
    some (qz_gl N 27 y0 (((2 : Int32) * x1) + x2).toNatClampNeg, N)
  else
  if x2 = (2 : Int32) then
    if x1 < 0 ∨ 6 ≤ x1.toNatClampNeg then none else
    some (qz_gl N 28 y0 x1.toNatClampNeg, N)
  else
  if x2 = (3 : Int32) then
    if x1 < 0 ∨ 6 ≤ x1.toNatClampNeg then none else
    some (qz_gl N 30 y0 x1.toNatClampNeg, N)
  else
  if x2 = (4 : Int32) then
    if x1 < 0 ∨ 6 ≤ x1.toNatClampNeg then none else
    some (qz_gl N 31 y0 x1.toNatClampNeg, N)
  else
  if x2 = (5 : Int32) then
    if x1 < 0 ∨ 6 ≤ x1.toNatClampNeg then none else
    some ((qz_gi N 25 y0 x1.toNatClampNeg).toInt64, N)
  else
  if x2 = (6 : Int32) then
    if x1 < 0 ∨ 6 ≤ x1.toNatClampNeg then none else
    some ((qz_gi N 26 y0 x1.toNatClampNeg).toInt64, N)
  else
  if x2 = (7 : Int32) then
    if ((((2 : Int32) * x1) + x2) - (7 : Int32)) < 0 ∨ 12 ≤ ((((2 : Int32) * x1) + x2) - (7 : Int32)).toNatClampNeg then none else
    some ((qz_gi N 24 y0 ((((2 : Int32) * x1) + x2) - (7 : Int32)).toNatClampNeg).toInt64, N)
  else
  if x2 = (8 : Int32) then
    if ((((2 : Int32) * x1) + x2) - (7 : Int32)) < 0 ∨ 12 ≤ ((((2 : Int32) * x1) + x2) - (7 : Int32)).toNatClampNeg then none else
    some ((qz_gi N 24 y0 ((((2 : Int32) * x1) + x2) - (7 : Int32)).toNatClampNeg).toInt64, N)
  else
  some ((-2 : Int64), N)
def fM_of (o : Nat) (x1 : Int32) (x2 : Int32) (N : qz_N) : Option (Int64 × qz_N) :=
  (fM_isPool o x1 N).bind fun q1 =>
  if q1.1 = 0 then
    some ((-2 : Int64), q1.2)
  else
  if x2 < (9 : Int32) then
    fM_of_39 o q1.2 x1 x2
  else
  if (15 : Int32) ≤ x2 then
    fM_of_39 o q1.2 x1 x2
  else
  if ((((6 : Int32) * x1) + x2) - (9 : Int32)) < 0 ∨ 36 ≤ ((((6 : Int32) * x1) + x2) - (9 : Int32)).toNatClampNeg then none else
  some (qz_gl q1.2 29 o ((((6 : Int32) * x1) + x2) - (9 : Int32)).toNatClampNeg, q1.2)
set_option maxRecDepth 100000 in
set_option maxHeartbeats 4000000 in
theorem sM_of_39 {p : Program} {l : Launch} {e : Env} {s : State} {m : MethodId} {args : Array Value} {below : List Frame} {meth : Method} {c : Code} {G : qz_G} (X : qz_X p s m args meth c "ExactCurvesModel" prog_10_method_22_code 3 (some .long) G) {r : (Int64 × qz_N)} (y0 : Nat) (hy0 : y0 < 1) (N : qz_N) (x1 : Int32) (x2 : Int32) (h : fM_of_39 y0 N x1 x2 = some r) : qz_W p l e (qz_R 1) s m args below meth c 0 0 (MQ below (qz_Q G r.2 (some (.long r.1))) args s 0 0 (qz_A G)) G s.heap 3 N 39 [(1, .int x1), (2, .int x2), (0, .ref (G.2.2 7 y0))] [] := by
  unfold fM_of_39 at h
  refine qz_iload_n X 1 rfl dq_M_of_39 ?_
  refine qz_ite h (fun c0_40 h => ?_) (fun c0_40 h => ?_)
  · refine qz_tabIn X (tgt := 92) c0_40 (by decide) (by decide) rfl (by decide) dq_M_of_40 ?_
    refine qz_aload_n X 2 rfl dq_M_of_92 ?_
    refine qz_get X (v := .ref (G.2.2 27 y0)) kq_M_26 hy0 rfl dq_M_of_93 ?_
    refine qz_iconst X (v := (2 : Int32)) (by decide) dq_M_of_96 ?_
    refine qz_iload_n X 0 rfl dq_M_of_97 ?_
    refine qz_imul X dq_M_of_98 ?_
    refine qz_iload_n X 1 rfl dq_M_of_99 ?_
    refine qz_iadd X dq_M_of_100 ?_
    refine qz_lald X (c0 := 27) (i := y0) (n := 12) rfl hy0 dq_M_of_101 h (fun h => ?_)
    exact qz_lret X h dq_M_of_102
  · refine qz_ite h (fun c1_40 h => ?_) (fun c1_40 h => ?_)
    · refine qz_tabIn X (tgt := 92) c1_40 (by decide) (by decide) rfl (by decide) dq_M_of_40 ?_
      refine qz_aload_n X 2 rfl dq_M_of_92 ?_
      refine qz_get X (v := .ref (G.2.2 27 y0)) kq_M_26 hy0 rfl dq_M_of_93 ?_
      refine qz_iconst X (v := (2 : Int32)) (by decide) dq_M_of_96 ?_
      refine qz_iload_n X 0 rfl dq_M_of_97 ?_
      refine qz_imul X dq_M_of_98 ?_
      refine qz_iload_n X 1 rfl dq_M_of_99 ?_
      refine qz_iadd X dq_M_of_100 ?_
      refine qz_lald X (c0 := 27) (i := y0) (n := 12) rfl hy0 dq_M_of_101 h (fun h => ?_)
      exact qz_lret X h dq_M_of_102
    · refine qz_ite h (fun c2_40 h => ?_) (fun c2_40 h => ?_)
      · refine qz_tabIn X (tgt := 103) c2_40 (by decide) (by decide) rfl (by decide) dq_M_of_40 ?_
        refine qz_aload_n X 2 rfl dq_M_of_103 ?_
        refine qz_get X (v := .ref (G.2.2 28 y0)) kq_M_29 hy0 rfl dq_M_of_104 ?_
        refine qz_iload_n X 0 rfl dq_M_of_107 ?_
        refine qz_lald X (c0 := 28) (i := y0) (n := 6) rfl hy0 dq_M_of_108 h (fun h => ?_)
        exact qz_lret X h dq_M_of_109
      · refine qz_ite h (fun c3_40 h => ?_) (fun c3_40 h => ?_)
        · refine qz_tabIn X (tgt := 110) c3_40 (by decide) (by decide) rfl (by decide) dq_M_of_40 ?_
          refine qz_aload_n X 2 rfl dq_M_of_110 ?_
          refine qz_get X (v := .ref (G.2.2 30 y0)) kq_M_35 hy0 rfl dq_M_of_111 ?_
          refine qz_iload_n X 0 rfl dq_M_of_114 ?_
          refine qz_lald X (c0 := 30) (i := y0) (n := 6) rfl hy0 dq_M_of_115 h (fun h => ?_)
          exact qz_lret X h dq_M_of_116
        · refine qz_ite h (fun c4_40 h => ?_) (fun c4_40 h => ?_)
          · refine qz_tabIn X (tgt := 117) c4_40 (by decide) (by decide) rfl (by decide) dq_M_of_40 ?_
            refine qz_aload_n X 2 rfl dq_M_of_117 ?_
            refine qz_get X (v := .ref (G.2.2 31 y0)) kq_M_38 hy0 rfl dq_M_of_118 ?_
            refine qz_iload_n X 0 rfl dq_M_of_121 ?_
            refine qz_lald X (c0 := 31) (i := y0) (n := 6) rfl hy0 dq_M_of_122 h (fun h => ?_)
            exact qz_lret X h dq_M_of_123
          · refine qz_ite h (fun c5_40 h => ?_) (fun c5_40 h => ?_)
            · refine qz_tabIn X (tgt := 124) c5_40 (by decide) (by decide) rfl (by decide) dq_M_of_40 ?_
              refine qz_aload_n X 2 rfl dq_M_of_124 ?_
              refine qz_get X (v := .ref (G.2.2 25 y0)) kq_M_20 hy0 rfl dq_M_of_125 ?_
              refine qz_iload_n X 0 rfl dq_M_of_128 ?_
              refine qz_iald X (c0 := 25) (i := y0) (n := 6) rfl hy0 dq_M_of_129 h (fun h => ?_)
              refine qz_i2l X dq_M_of_130 ?_
              exact qz_lret X h dq_M_of_131
            · refine qz_ite h (fun c6_40 h => ?_) (fun c6_40 h => ?_)
              · refine qz_tabIn X (tgt := 132) c6_40 (by decide) (by decide) rfl (by decide) dq_M_of_40 ?_
                refine qz_aload_n X 2 rfl dq_M_of_132 ?_
                refine qz_get X (v := .ref (G.2.2 26 y0)) kq_M_23 hy0 rfl dq_M_of_133 ?_
                refine qz_iload_n X 0 rfl dq_M_of_136 ?_
                refine qz_iald X (c0 := 26) (i := y0) (n := 6) rfl hy0 dq_M_of_137 h (fun h => ?_)
                refine qz_i2l X dq_M_of_138 ?_
                exact qz_lret X h dq_M_of_139
              · refine qz_ite h (fun c7_40 h => ?_) (fun c7_40 h => ?_)
                · refine qz_tabIn X (tgt := 140) c7_40 (by decide) (by decide) rfl (by decide) dq_M_of_40 ?_
                  refine qz_aload_n X 2 rfl dq_M_of_140 ?_
                  refine qz_get X (v := .ref (G.2.2 24 y0)) kq_M_16 hy0 rfl dq_M_of_141 ?_
                  refine qz_iconst X (v := (2 : Int32)) (by decide) dq_M_of_144 ?_
                  refine qz_iload_n X 0 rfl dq_M_of_145 ?_
                  refine qz_imul X dq_M_of_146 ?_
                  refine qz_iload_n X 1 rfl dq_M_of_147 ?_
                  refine qz_iadd X dq_M_of_148 ?_
                  refine qz_bipush X (v := (7 : Int32)) (by decide) dq_M_of_149 ?_
                  refine qz_isub X dq_M_of_151 ?_
                  refine qz_iald X (c0 := 24) (i := y0) (n := 12) rfl hy0 dq_M_of_152 h (fun h => ?_)
                  refine qz_i2l X dq_M_of_153 ?_
                  exact qz_lret X h dq_M_of_154
                · refine qz_ite h (fun c8_40 h => ?_) (fun c8_40 h => ?_)
                  · refine qz_tabIn X (tgt := 140) c8_40 (by decide) (by decide) rfl (by decide) dq_M_of_40 ?_
                    refine qz_aload_n X 2 rfl dq_M_of_140 ?_
                    refine qz_get X (v := .ref (G.2.2 24 y0)) kq_M_16 hy0 rfl dq_M_of_141 ?_
                    refine qz_iconst X (v := (2 : Int32)) (by decide) dq_M_of_144 ?_
                    refine qz_iload_n X 0 rfl dq_M_of_145 ?_
                    refine qz_imul X dq_M_of_146 ?_
                    refine qz_iload_n X 1 rfl dq_M_of_147 ?_
                    refine qz_iadd X dq_M_of_148 ?_
                    refine qz_bipush X (v := (7 : Int32)) (by decide) dq_M_of_149 ?_
                    refine qz_isub X dq_M_of_151 ?_
                    refine qz_iald X (c0 := 24) (i := y0) (n := 12) rfl hy0 dq_M_of_152 h (fun h => ?_)
                    refine qz_i2l X dq_M_of_153 ?_
                    exact qz_lret X h dq_M_of_154
                  · refine qz_tabOut X (tgt := 155) (by decide) (qz_out9 0 c0_40 c1_40 c2_40 c3_40 c4_40 c5_40 c6_40 c7_40 c8_40) dq_M_of_40 ?_
                    refine qz_ldc2 X (v := (-2 : Int64)) wq_742 dq_M_of_155 ?_
                    exact qz_lret X h dq_M_of_158
set_option maxRecDepth 100000 in
set_option maxHeartbeats 4000000 in
theorem sM_of {p : Program} {l : Launch} {e : Env} {s : State} {m : MethodId} {args : Array Value} {below : List Frame} {meth : Method} {c : Code} {G : qz_G} (X : qz_X p s m args meth c "ExactCurvesModel" prog_10_method_22_code 3 (some .long) G) {r : (Int64 × qz_N)} (o : Nat) (x1 : Int32) (x2 : Int32) (ho : o < 1) (N : qz_N) (h : fM_of o x1 x2 N = some r) : qz_W p l e (qz_R 1) s m args below meth c 0 0 (MQ below (qz_Q G r.2 (some (.long r.1))) args s 0 0 (qz_A G)) G s.heap 3 N 0 [(0, .ref (G.2.2 7 o)), (1, .int x1), (2, .int x2)] [] := by
  unfold fM_of at h
  refine qz_aload_n X 0 rfl dq_M_of_0 ?_
  refine qz_iload_n X 1 rfl dq_M_of_1 ?_
  refine qz_bind h (fun q1 e2 h => ?_)
  refine qz_callV X (as := [.int x1]) (st := []) (o := some (.int q1.1)) (N' := q1.2) cq_M_186 ho (cM_isPool l G X.2.2.2.2.2.2.1 o x1 N ho _ e2) ⟨by decide, by decide⟩ rfl rfl (Nat.le_of_ble_eq_true rfl) ⟨Nat.zero_le _, Nat.zero_le _⟩ dq_M_of_2 ?_
  refine qz_if_ne X (tgt := 12) (by decide) dq_M_of_5 h (fun _ h => ?_) (fun _ h => ?_)
  · refine qz_iload_n X 2 rfl dq_M_of_12 ?_
    refine qz_bipush X (v := (9 : Int32)) (by decide) dq_M_of_13 ?_
    refine qz_icmp_lt X (tgt := 39) (by decide) dq_M_of_15 h (fun _ h => ?_) (fun _ h => ?_)
    · refine qz_sub [1, 2, 0] rfl ?_
      exact sM_of_39 X o ho q1.2 x1 x2 h
    · refine qz_iload_n X 2 rfl dq_M_of_18 ?_
      refine qz_bipush X (v := (15 : Int32)) (by decide) dq_M_of_19 ?_
      refine qz_icmp_ge X (tgt := 39) (by decide) dq_M_of_21 h (fun _ h => ?_) (fun _ h => ?_)
      · refine qz_sub [1, 2, 0] rfl ?_
        exact sM_of_39 X o ho q1.2 x1 x2 h
      · refine qz_aload_n X 0 rfl dq_M_of_24 ?_
        refine qz_get X (v := .ref (G.2.2 29 o)) kq_M_32 ho rfl dq_M_of_25 ?_
        refine qz_bipush X (v := (6 : Int32)) (by decide) dq_M_of_28 ?_
        refine qz_iload_n X 1 rfl dq_M_of_30 ?_
        refine qz_imul X dq_M_of_31 ?_
        refine qz_iload_n X 2 rfl dq_M_of_32 ?_
        refine qz_iadd X dq_M_of_33 ?_
        refine qz_bipush X (v := (9 : Int32)) (by decide) dq_M_of_34 ?_
        refine qz_isub X dq_M_of_36 ?_
        refine qz_lald X (c0 := 29) (i := o) (n := 36) rfl ho dq_M_of_37 h (fun h => ?_)
        exact qz_lret X h dq_M_of_38
  · refine qz_ldc2 X (v := (-2 : Int64)) wq_742 dq_M_of_8 ?_
    exact qz_lret X h dq_M_of_11
theorem cM_of (l : Launch) (G : qz_G) (hD : qz_D G) (o : Nat) (x1 : Int32) (x2 : Int32) (N : qz_N) (ho : o < 1) (r : (Int64 × qz_N)) (h : fM_of o x1 x2 N = some r) : qz_M l yM_of prog_10_method_22_code 3 (some .long) 1 G [.ref (G.2.2 7 o), .int x1, .int x2] N (some (.long r.1)) r.2 :=
  qz_enter (lv := [(0, .ref (G.2.2 7 o)), (1, .int x1), (2, .int x2)]) rfl hD (Nat.le_of_ble_eq_true rfl) rfl (fun p e s m args below meth c X => sM_of X o x1 x2 ho N h)
-- ExactCurvesModel.root(JJ)J
theorem dq_M_root_0 : decode prog_10_method_23_code 0 = .ok (.aload_n 0, 1) := by decide +kernel
theorem dq_M_root_1 : decode prog_10_method_23_code 1 = .ok (.lload_n 1, 1) := by decide +kernel
theorem dq_M_root_2 : decode prog_10_method_23_code 2 = .ok (.invokevirtual 130, 3) := by decide +kernel
theorem dq_M_root_5 : decode prog_10_method_23_code 5 = .ok (.aload_n 0, 1) := by decide +kernel
theorem dq_M_root_6 : decode prog_10_method_23_code 6 = .ok (.lload_n 3, 1) := by decide +kernel
theorem dq_M_root_7 : decode prog_10_method_23_code 7 = .ok (.invokevirtual 134, 3) := by decide +kernel
theorem dq_M_root_10 : decode prog_10_method_23_code 10 = .ok (.aload_n 0, 1) := by decide +kernel
theorem dq_M_root_11 : decode prog_10_method_23_code 11 = .ok (.invokevirtual 189, 3) := by decide +kernel
theorem dq_M_root_14 : decode prog_10_method_23_code 14 = .ok (.lconst 0, 1) := by decide +kernel
theorem dq_M_root_15 : decode prog_10_method_23_code 15 = .ok (.lstore 5, 2) := by decide +kernel
theorem dq_M_root_17 : decode prog_10_method_23_code 17 = .ok (.bipush 47, 2) := by decide +kernel
theorem dq_M_root_19 : decode prog_10_method_23_code 19 = .ok (.istore 7, 2) := by decide +kernel
theorem dq_M_root_21 : decode prog_10_method_23_code 21 = .ok (.iload 7, 2) := by decide +kernel
theorem dq_M_root_23 : decode prog_10_method_23_code 23 = .ok (.ifCond .lt 46, 3) := by decide +kernel
theorem dq_M_root_26 : decode prog_10_method_23_code 26 = .ok (.lload 5, 2) := by decide +kernel
theorem dq_M_root_28 : decode prog_10_method_23_code 28 = .ok (.lconst 1, 1) := by decide +kernel
theorem dq_M_root_29 : decode prog_10_method_23_code 29 = .ok (.iload 7, 2) := by decide +kernel
theorem dq_M_root_31 : decode prog_10_method_23_code 31 = .ok (.lshl, 1) := by decide +kernel
theorem dq_M_root_32 : decode prog_10_method_23_code 32 = .ok (.lor, 1) := by decide +kernel
theorem dq_M_root_33 : decode prog_10_method_23_code 33 = .ok (.lstore 8, 2) := by decide +kernel
theorem dq_M_root_35 : decode prog_10_method_23_code 35 = .ok (.aload_n 0, 1) := by decide +kernel
theorem dq_M_root_36 : decode prog_10_method_23_code 36 = .ok (.lload 8, 2) := by decide +kernel
theorem dq_M_root_38 : decode prog_10_method_23_code 38 = .ok (.invokevirtual 130, 3) := by decide +kernel
theorem dq_M_root_41 : decode prog_10_method_23_code 41 = .ok (.aload_n 0, 1) := by decide +kernel
theorem dq_M_root_42 : decode prog_10_method_23_code 42 = .ok (.lload 8, 2) := by decide +kernel
theorem dq_M_root_44 : decode prog_10_method_23_code 44 = .ok (.invokevirtual 134, 3) := by decide +kernel
theorem dq_M_root_47 : decode prog_10_method_23_code 47 = .ok (.aload_n 0, 1) := by decide +kernel
theorem dq_M_root_48 : decode prog_10_method_23_code 48 = .ok (.invokevirtual 192, 3) := by decide +kernel
theorem dq_M_root_51 : decode prog_10_method_23_code 51 = .ok (.ifCond .eq 8, 3) := by decide +kernel
theorem dq_M_root_54 : decode prog_10_method_23_code 54 = .ok (.lload 5, 2) := by decide +kernel
theorem dq_M_root_56 : decode prog_10_method_23_code 56 = .ok (.goto 5, 3) := by decide +kernel
theorem dq_M_root_59 : decode prog_10_method_23_code 59 = .ok (.lload 8, 2) := by decide +kernel
theorem dq_M_root_61 : decode prog_10_method_23_code 61 = .ok (.lstore 5, 2) := by decide +kernel
theorem dq_M_root_63 : decode prog_10_method_23_code 63 = .ok (.iinc 7 (-1), 3) := by decide +kernel
theorem dq_M_root_66 : decode prog_10_method_23_code 66 = .ok (.goto (-45), 3) := by decide +kernel
theorem dq_M_root_69 : decode prog_10_method_23_code 69 = .ok (.lload 5, 2) := by decide +kernel
theorem dq_M_root_71 : decode prog_10_method_23_code 71 = .ok (.lreturn, 1) := by decide +kernel
def fM_root_61 (y0 : Nat) (k21 : qz_N × Int64 × Int32 → Option (Int64 × qz_N)) (N : qz_N) (x7 : Int32) (s0 : Int64) : Option (Int64 × qz_N) :=
  qz_let (x7 + (-1 : Int32)) fun v14 =>
  k21 (N, s0, v14)
def fM_root_21b (y0 : Nat) (k21 : qz_N × Int64 × Int32 → Option (Int64 × qz_N)) (N : qz_N) (x5 : Int64) (x7 : Int32) : Option (Int64 × qz_N) :=
  if x7 < 0 then
    some (x5, N)
  else
  qz_let (x5 ||| ((1 : Int64) <<< (x7.toInt64 &&& 63))) fun v7 =>
  (fM_begin y0 v7 N).bind fun q8 =>
  (fM_times y0 v7 q8.2).bind fun q10 =>
  (fM_keptIsLess y0 q10.2).bind fun q12 =>
  if q12.1 = 0 then
    fM_root_61 y0 k21 q12.2 x7 v7
  else
  fM_root_61 y0 k21 q12.2 x7 x5
def fM_root_21 (y0 : Nat) (n : Nat) (a : qz_N × Int64 × Int32) : Option (Int64 × qz_N) := qz_loop (fun k a => fM_root_21b y0 k a.1 a.2.1 a.2.2) n a
def fM_root (o : Nat) (x1 : Int64) (x3 : Int64) (N : qz_N) : Option (Int64 × qz_N) :=
  (fM_begin o x1 N).bind fun q1 =>
  (fM_times o x3 q1.2).bind fun q3 =>
  (fM_keepBig o q3.2).bind fun q5 =>
  fM_root_21 o 1100 (q5.2, (0 : Int64), (47 : Int32))
set_option maxRecDepth 100000 in
set_option maxHeartbeats 4000000 in
theorem sM_root_61 {p : Program} {l : Launch} {e : Env} {s : State} {m : MethodId} {args : Array Value} {below : List Frame} {meth : Method} {c : Code} {G : qz_G} (X : qz_X p s m args meth c "ExactCurvesModel" prog_10_method_23_code 10 (some .long) G) {r : (Int64 × qz_N)} (y0 : Nat) (hy0 : y0 < 1) (k21 : qz_N × Int64 × Int32 → Option (Int64 × qz_N)) (hk21 : ∀ a, k21 a = some r → qz_W p l e (qz_R 1) s m args below meth c 0 0 (MQ below (qz_Q G r.2 (some (.long r.1))) args s 0 0 (qz_A G)) G s.heap 10 a.1 21 [(5, .long a.2.1), (7, .int a.2.2), (0, .ref (G.2.2 7 y0))] []) (N : qz_N) (x7 : Int32) (s0 : Int64) (h : fM_root_61 y0 k21 N x7 s0 = some r) : qz_W p l e (qz_R 1) s m args below meth c 0 0 (MQ below (qz_Q G r.2 (some (.long r.1))) args s 0 0 (qz_A G)) G s.heap 10 N 61 [(7, .int x7), (0, .ref (G.2.2 7 y0))] [.long s0] := by
  unfold fM_root_61 at h
  refine qz_lstore X (lv' := [(5, .long s0), (7, .int x7), (0, .ref (G.2.2 7 y0))]) (by decide) rfl dq_M_root_61 ?_
  refine qz_iinc_l X (u := (-1 : Int32)) (lv' := fun v14 => [(7, .int v14), (5, .long s0), (0, .ref (G.2.2 7 y0))]) (k := 1) rfl (by decide) (by decide) (fun _ => rfl) dq_M_root_63 h (fun v14 h => ?_)
  refine qz_goto X (tgt := 21) (by decide) dq_M_root_66 ?_
  refine qz_sub [1, 0, 2] rfl ?_
  exact hk21 (N, s0, v14) h
set_option maxRecDepth 100000 in
set_option maxHeartbeats 4000000 in
theorem sM_root_21b {p : Program} {l : Launch} {e : Env} {s : State} {m : MethodId} {args : Array Value} {below : List Frame} {meth : Method} {c : Code} {G : qz_G} (X : qz_X p s m args meth c "ExactCurvesModel" prog_10_method_23_code 10 (some .long) G) {r : (Int64 × qz_N)} (y0 : Nat) (hy0 : y0 < 1) (k21 : qz_N × Int64 × Int32 → Option (Int64 × qz_N)) (hk21 : ∀ a, k21 a = some r → qz_W p l e (qz_R 1) s m args below meth c 0 0 (MQ below (qz_Q G r.2 (some (.long r.1))) args s 0 0 (qz_A G)) G s.heap 10 a.1 21 [(5, .long a.2.1), (7, .int a.2.2), (0, .ref (G.2.2 7 y0))] []) (N : qz_N) (x5 : Int64) (x7 : Int32) (h : fM_root_21b y0 k21 N x5 x7 = some r) : qz_W p l e (qz_R 1) s m args below meth c 0 0 (MQ below (qz_Q G r.2 (some (.long r.1))) args s 0 0 (qz_A G)) G s.heap 10 N 21 [(5, .long x5), (7, .int x7), (0, .ref (G.2.2 7 y0))] [] := by
  unfold fM_root_21b at h
  refine qz_iload X 1 rfl dq_M_root_21 ?_
  refine qz_if_lt X (tgt := 69) (by decide) dq_M_root_23 h (fun _ h => ?_) (fun _ h => ?_)
  · refine qz_lload X 0 rfl dq_M_root_69 ?_
    exact qz_lret X h dq_M_root_71
  · refine qz_lload X 0 rfl dq_M_root_26 ?_
    refine qz_lconst X (v := (1 : Int64)) (by decide) dq_M_root_28 ?_
    refine qz_iload X 1 rfl dq_M_root_29 ?_
    refine qz_lshl X dq_M_root_31 ?_
    refine qz_lor X dq_M_root_32 ?_
    refine qz_letj h (fun v7 h => ?_)
    refine qz_lstore X (lv' := [(8, .long v7), (5, .long x5), (7, .int x7), (0, .ref (G.2.2 7 y0))]) (by decide) rfl dq_M_root_33 ?_
    refine qz_aload_n X 3 rfl dq_M_root_35 ?_
    refine qz_lload X 0 rfl dq_M_root_36 ?_
    refine qz_bind h (fun q8 e9 h => ?_)
    refine qz_callV X (as := [.long v7]) (st := []) (o := none) (N' := q8.2) cq_M_130 hy0 (cM_begin l G X.2.2.2.2.2.2.1 y0 v7 N hy0 _ e9) ⟨by decide, by decide⟩ rfl rfl (Nat.le_of_ble_eq_true rfl) ⟨Nat.zero_le _, Nat.zero_le _⟩ dq_M_root_38 ?_
    refine qz_aload_n X 3 rfl dq_M_root_41 ?_
    refine qz_lload X 0 rfl dq_M_root_42 ?_
    refine qz_bind h (fun q10 e11 h => ?_)
    refine qz_callV X (as := [.long v7]) (st := []) (o := none) (N' := q10.2) cq_M_134 hy0 (cM_times l G X.2.2.2.2.2.2.1 y0 v7 q8.2 hy0 _ e11) ⟨by decide, by decide⟩ rfl rfl (Nat.le_of_ble_eq_true rfl) ⟨Nat.zero_le _, Nat.zero_le _⟩ dq_M_root_44 ?_
    refine qz_aload_n X 3 rfl dq_M_root_47 ?_
    refine qz_bind h (fun q12 e13 h => ?_)
    refine qz_callV X (as := []) (st := []) (o := some (.int q12.1)) (N' := q12.2) cq_M_192 hy0 (cM_keptIsLess l G X.2.2.2.2.2.2.1 y0 q10.2 hy0 _ e13) ⟨by decide, by decide⟩ rfl rfl (Nat.le_of_ble_eq_true rfl) ⟨Nat.zero_le _, Nat.zero_le _⟩ dq_M_root_48 ?_
    refine qz_if_eq X (tgt := 59) (by decide) dq_M_root_51 h (fun _ h => ?_) (fun _ h => ?_)
    · refine qz_lload X 0 rfl dq_M_root_59 ?_
      refine qz_sub [2, 3] rfl ?_
      exact sM_root_61 X y0 hy0 k21 hk21 q12.2 x7 v7 h
    · refine qz_lload X 1 rfl dq_M_root_54 ?_
      refine qz_goto X (tgt := 61) (by decide) dq_M_root_56 ?_
      refine qz_sub [2, 3] rfl ?_
      exact sM_root_61 X y0 hy0 k21 hk21 q12.2 x7 x5 h
theorem sM_root_21 {p : Program} {l : Launch} {e : Env} {s : State} {m : MethodId} {args : Array Value} {below : List Frame} {meth : Method} {c : Code} {G : qz_G} (X : qz_X p s m args meth c "ExactCurvesModel" prog_10_method_23_code 10 (some .long) G) {r : (Int64 × qz_N)} (y0 : Nat) (hy0 : y0 < 1) (n : Nat) (a : qz_N × Int64 × Int32) (h : fM_root_21 y0 n a = some r) : qz_W p l e (qz_R 1) s m args below meth c 0 0 (MQ below (qz_Q G r.2 (some (.long r.1))) args s 0 0 (qz_A G)) G s.heap 10 a.1 21 [(5, .long a.2.1), (7, .int a.2.2), (0, .ref (G.2.2 7 y0))] [] :=
  qz_loop_ind (P := fun a => qz_W p l e (qz_R 1) s m args below meth c 0 0 (MQ below (qz_Q G r.2 (some (.long r.1))) args s 0 0 (qz_A G)) G s.heap 10 a.1 21 [(5, .long a.2.1), (7, .int a.2.2), (0, .ref (G.2.2 7 y0))] []) (fun k hk a h => sM_root_21b X y0 hy0 k hk a.1 a.2.1 a.2.2 h) n a h
set_option maxRecDepth 100000 in
set_option maxHeartbeats 4000000 in
theorem sM_root {p : Program} {l : Launch} {e : Env} {s : State} {m : MethodId} {args : Array Value} {below : List Frame} {meth : Method} {c : Code} {G : qz_G} (X : qz_X p s m args meth c "ExactCurvesModel" prog_10_method_23_code 10 (some .long) G) {r : (Int64 × qz_N)} (o : Nat) (x1 : Int64) (x3 : Int64) (ho : o < 1) (N : qz_N) (h : fM_root o x1 x3 N = some r) : qz_W p l e (qz_R 1) s m args below meth c 0 0 (MQ below (qz_Q G r.2 (some (.long r.1))) args s 0 0 (qz_A G)) G s.heap 10 N 0 [(0, .ref (G.2.2 7 o)), (1, .long x1), (3, .long x3)] [] := by
  unfold fM_root at h
  refine qz_aload_n X 0 rfl dq_M_root_0 ?_
  refine qz_lload_n X 1 rfl dq_M_root_1 ?_
  refine qz_bind h (fun q1 e2 h => ?_)
  refine qz_callV X (as := [.long x1]) (st := []) (o := none) (N' := q1.2) cq_M_130 ho (cM_begin l G X.2.2.2.2.2.2.1 o x1 N ho _ e2) ⟨by decide, by decide⟩ rfl rfl (Nat.le_of_ble_eq_true rfl) ⟨Nat.zero_le _, Nat.zero_le _⟩ dq_M_root_2 ?_
  refine qz_aload_n X 0 rfl dq_M_root_5 ?_
  refine qz_lload_n X 2 rfl dq_M_root_6 ?_
  refine qz_bind h (fun q3 e4 h => ?_)
  refine qz_callV X (as := [.long x3]) (st := []) (o := none) (N' := q3.2) cq_M_134 ho (cM_times l G X.2.2.2.2.2.2.1 o x3 q1.2 ho _ e4) ⟨by decide, by decide⟩ rfl rfl (Nat.le_of_ble_eq_true rfl) ⟨Nat.zero_le _, Nat.zero_le _⟩ dq_M_root_7 ?_
  refine qz_aload_n X 0 rfl dq_M_root_10 ?_
  refine qz_bind h (fun q5 e6 h => ?_)
  refine qz_callV X (as := []) (st := []) (o := none) (N' := q5.2) cq_M_189 ho (cM_keepBig l G X.2.2.2.2.2.2.1 o q3.2 ho _ e6) ⟨by decide, by decide⟩ rfl rfl (Nat.le_of_ble_eq_true rfl) ⟨Nat.zero_le _, Nat.zero_le _⟩ dq_M_root_11 ?_
  refine qz_lconst X (v := (0 : Int64)) (by decide) dq_M_root_14 ?_
  refine qz_lstore X (lv' := [(5, .long (0 : Int64)), (0, .ref (G.2.2 7 o)), (1, .long x1), (3, .long x3)]) (by decide) rfl dq_M_root_15 ?_
  refine qz_bipush X (v := (47 : Int32)) (by decide) dq_M_root_17 ?_
  refine qz_istore X (lv' := [(7, .int (47 : Int32)), (5, .long (0 : Int64)), (0, .ref (G.2.2 7 o)), (1, .long x1), (3, .long x3)]) (by decide) rfl dq_M_root_19 ?_
  refine qz_sub [1, 0, 2] rfl ?_
  exact sM_root_21 X o ho 1100 (q5.2, (0 : Int64), (47 : Int32)) h
theorem cM_root (l : Launch) (G : qz_G) (hD : qz_D G) (o : Nat) (x1 : Int64) (x3 : Int64) (N : qz_N) (ho : o < 1) (r : (Int64 × qz_N)) (h : fM_root o x1 x3 N = some r) : qz_M l yM_root prog_10_method_23_code 10 (some .long) 1 G [.ref (G.2.2 7 o), .long x1, .long x3] N (some (.long r.1)) r.2 :=
  qz_enter (lv := [(0, .ref (G.2.2 7 o)), (1, .long x1), (3, .long x3)]) rfl hD (Nat.le_of_ble_eq_true rfl) rfl (fun p e s m args below meth c X => sM_root X o x1 x3 ho N h)
