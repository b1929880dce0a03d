-- ExactCurves.isUncovered(LExactCurves$Loan;)Z
theorem dq_E_isUncovered_0 : decode prog_1_method_45_code 0 = .ok (.ldc2_w 259, 3) := by decide +kernel
theorem dq_E_isUncovered_3 : decode prog_1_method_45_code 3 = .ok (.aload_n 0, 1) := by decide +kernel
theorem dq_E_isUncovered_4 : decode prog_1_method_45_code 4 = .ok (.aload_n 1, 1) := by decide +kernel
theorem dq_E_isUncovered_5 : decode prog_1_method_45_code 5 = .ok (.invokevirtual 291, 3) := by decide +kernel
theorem dq_E_isUncovered_8 : decode prog_1_method_45_code 8 = .ok (.lmul, 1) := by decide +kernel
theorem dq_E_isUncovered_9 : decode prog_1_method_45_code 9 = .ok (.ldc2_w 347, 3) := by decide +kernel
theorem dq_E_isUncovered_12 : decode prog_1_method_45_code 12 = .ok (.aload_n 0, 1) := by decide +kernel
theorem dq_E_isUncovered_13 : decode prog_1_method_45_code 13 = .ok (.aload_n 1, 1) := by decide +kernel
theorem dq_E_isUncovered_14 : decode prog_1_method_45_code 14 = .ok (.invokevirtual 295, 3) := by decide +kernel
theorem dq_E_isUncovered_17 : decode prog_1_method_45_code 17 = .ok (.lmul, 1) := by decide +kernel
theorem dq_E_isUncovered_18 : decode prog_1_method_45_code 18 = .ok (.lcmp, 1) := by decide +kernel
theorem dq_E_isUncovered_19 : decode prog_1_method_45_code 19 = .ok (.ifCond .le 7, 3) := by decide +kernel
theorem dq_E_isUncovered_22 : decode prog_1_method_45_code 22 = .ok (.iconst 1, 1) := by decide +kernel
theorem dq_E_isUncovered_23 : decode prog_1_method_45_code 23 = .ok (.goto 4, 3) := by decide +kernel
theorem dq_E_isUncovered_26 : decode prog_1_method_45_code 26 = .ok (.iconst 0, 1) := by decide +kernel
theorem dq_E_isUncovered_27 : decode prog_1_method_45_code 27 = .ok (.ireturn, 1) := by decide +kernel
def fE_isUncovered (o : Nat) (x1 : Nat) (N : qz_N) : Option (Int32 × qz_N) :=
  (fE_debtOf o x1 N).bind fun q1 =>
  (fE_coverValue o x1 q1.2).bind fun q3 =>
  if ((5 : Int64) * q1.1) ≤ ((4 : Int64) * q3.1) then
    some ((0 : Int32), q3.2)
  else
  some ((1 : Int32), q3.2)
set_option maxRecDepth 100000 in
set_option maxHeartbeats 4000000 in
theorem sE_isUncovered {p : Program} {l : Launch} {e : Env} {s : State} {m : MethodId} {args : Array Value} {below : List Frame} {meth : Method} {c : Code} {G : qz_G} (X : qz_X p s m args meth c "ExactCurves" prog_1_method_45_code 2 (some .boolean) G) {r : (Int32 × qz_N)} (o : Nat) (x1 : Nat) (ho : o < 1) (hx1 : x1 < 10) (N : qz_N) (h : fE_isUncovered o x1 N = some r) : qz_W p l e (qz_R 5) s m args below meth c 0 0 (MQ below (qz_Q G r.2 (some (.int r.1))) args s 0 0 (qz_A G)) G s.heap 2 N 0 [(0, .ref (G.2.2 0 o)), (1, .ref (G.2.2 6 x1))] [] := by
  unfold fE_isUncovered at h
  refine qz_ldc2 X (v := (5 : Int64)) wq_537 dq_E_isUncovered_0 ?_
  refine qz_aload_n X 0 rfl dq_E_isUncovered_3 ?_
  refine qz_aload_n X 1 rfl dq_E_isUncovered_4 ?_
  refine qz_bind h (fun q1 e2 h => ?_)
  refine qz_callV X (as := [.ref (G.2.2 6 x1)]) (st := [.long (5 : Int64)]) (o := some (.long q1.1)) (N' := q1.2) cq_E_291 ho (cE_debtOf l G X.2.2.2.2.2.2.1 o x1 N ho hx1 _ e2) ⟨by decide, by decide⟩ rfl rfl (Nat.le_of_ble_eq_true rfl) ⟨Nat.zero_le _, Nat.zero_le _⟩ dq_E_isUncovered_5 ?_
  refine qz_lmul X dq_E_isUncovered_8 ?_
  refine qz_ldc2 X (v := (4 : Int64)) wq_568 dq_E_isUncovered_9 ?_
  refine qz_aload_n X 0 rfl dq_E_isUncovered_12 ?_
  refine qz_aload_n X 1 rfl dq_E_isUncovered_13 ?_
  refine qz_bind h (fun q3 e4 h => ?_)
  refine qz_callV X (as := [.ref (G.2.2 6 x1)]) (st := [.long (4 : Int64), .long ((5 : Int64) * q1.1)]) (o := some (.long q3.1)) (N' := q3.2) cq_E_295 ho (cE_coverValue l G X.2.2.2.2.2.2.1 o x1 q1.2 ho hx1 _ e4) ⟨by decide, by decide⟩ rfl rfl (Nat.le_of_ble_eq_true rfl) ⟨Nat.zero_le _, Nat.zero_le _⟩ dq_E_isUncovered_14 ?_
  refine qz_lmul X dq_E_isUncovered_17 ?_
  refine qz_lcmp_le X (tgt := 26) (by decide) dq_E_isUncovered_18 dq_E_isUncovered_19 h (fun _ h => ?_) (fun _ h => ?_)
  · refine qz_iconst X (v := (0 : Int32)) (by decide) dq_E_isUncovered_26 ?_
    exact qz_zret X (by decide) h dq_E_isUncovered_27
  · refine qz_iconst X (v := (1 : Int32)) (by decide) dq_E_isUncovered_22 ?_
    refine qz_goto X (tgt := 27) (by decide) dq_E_isUncovered_23 ?_
    exact qz_zret X (by decide) h dq_E_isUncovered_27
theorem cE_isUncovered (l : Launch) (G : qz_G) (hD : qz_D G) (o : Nat) (x1 : Nat) (N : qz_N) (ho : o < 1) (hx1 : x1 < 10) (r : (Int32 × qz_N)) (h : fE_isUncovered o x1 N = some r) : qz_M l yE_isUncovered prog_1_method_45_code 2 (some .boolean) 5 G [.ref (G.2.2 0 o), .ref (G.2.2 6 x1)] N (some (.int r.1)) r.2 :=
  qz_enter (lv := [(0, .ref (G.2.2 0 o)), (1, .ref (G.2.2 6 x1))]) rfl hD (Nat.le_of_ble_eq_true rfl) rfl (fun p e s m args below meth c X => sE_isUncovered X o x1 ho hx1 N h)
-- ExactCurves.ofLoan(II)J
theorem dq_E_ofLoan_0 : decode prog_1_method_25_code 0 = .ok (.aload_n 0, 1) := by decide +kernel
theorem dq_E_ofLoan_1 : decode prog_1_method_25_code 1 = .ok (.iload_n 1, 1) := by decide +kernel
theorem dq_E_ofLoan_2 : decode prog_1_method_25_code 2 = .ok (.invokevirtual 274, 3) := by decide +kernel
theorem dq_E_ofLoan_5 : decode prog_1_method_25_code 5 = .ok (.astore_n 3, 1) := by decide +kernel
theorem dq_E_ofLoan_6 : decode prog_1_method_25_code 6 = .ok (.aload_n 3, 1) := by decide +kernel
theorem dq_E_ofLoan_7 : decode prog_1_method_25_code 7 = .ok (.ifnonnull 7, 3) := by decide +kernel
theorem dq_E_ofLoan_10 : decode prog_1_method_25_code 10 = .ok (.ldc2_w 60, 3) := by decide +kernel
theorem dq_E_ofLoan_13 : decode prog_1_method_25_code 13 = .ok (.lreturn, 1) := by decide +kernel
theorem dq_E_ofLoan_14 : decode prog_1_method_25_code 14 = .ok (.iload_n 2, 1) := by decide +kernel
theorem dq_E_ofLoan_15 : decode prog_1_method_25_code 15 = .ok (.tableswitch 99 0 7 #[45, 51, 57, 63, 68, 73, 79, 85], 45) := by decide +kernel
theorem dq_E_ofLoan_60 : decode prog_1_method_25_code 60 = .ok (.aload_n 3, 1) := by decide +kernel
theorem dq_E_ofLoan_61 : decode prog_1_method_25_code 61 = .ok (.getfield 278, 3) := by decide +kernel
theorem dq_E_ofLoan_64 : decode prog_1_method_25_code 64 = .ok (.i2l, 1) := by decide +kernel
theorem dq_E_ofLoan_65 : decode prog_1_method_25_code 65 = .ok (.lreturn, 1) := by decide +kernel
theorem dq_E_ofLoan_66 : decode prog_1_method_25_code 66 = .ok (.aload_n 3, 1) := by decide +kernel
theorem dq_E_ofLoan_67 : decode prog_1_method_25_code 67 = .ok (.getfield 281, 3) := by decide +kernel
theorem dq_E_ofLoan_70 : decode prog_1_method_25_code 70 = .ok (.i2l, 1) := by decide +kernel
theorem dq_E_ofLoan_71 : decode prog_1_method_25_code 71 = .ok (.lreturn, 1) := by decide +kernel
theorem dq_E_ofLoan_72 : decode prog_1_method_25_code 72 = .ok (.aload_n 3, 1) := by decide +kernel
theorem dq_E_ofLoan_73 : decode prog_1_method_25_code 73 = .ok (.getfield 282, 3) := by decide +kernel
theorem dq_E_ofLoan_76 : decode prog_1_method_25_code 76 = .ok (.i2l, 1) := by decide +kernel
theorem dq_E_ofLoan_77 : decode prog_1_method_25_code 77 = .ok (.lreturn, 1) := by decide +kernel
theorem dq_E_ofLoan_78 : decode prog_1_method_25_code 78 = .ok (.aload_n 3, 1) := by decide +kernel
theorem dq_E_ofLoan_79 : decode prog_1_method_25_code 79 = .ok (.getfield 285, 3) := by decide +kernel
theorem dq_E_ofLoan_82 : decode prog_1_method_25_code 82 = .ok (.lreturn, 1) := by decide +kernel
theorem dq_E_ofLoan_83 : decode prog_1_method_25_code 83 = .ok (.aload_n 3, 1) := by decide +kernel
theorem dq_E_ofLoan_84 : decode prog_1_method_25_code 84 = .ok (.getfield 288, 3) := by decide +kernel
theorem dq_E_ofLoan_87 : decode prog_1_method_25_code 87 = .ok (.lreturn, 1) := by decide +kernel
theorem dq_E_ofLoan_88 : decode prog_1_method_25_code 88 = .ok (.aload_n 0, 1) := by decide +kernel
theorem dq_E_ofLoan_89 : decode prog_1_method_25_code 89 = .ok (.aload_n 3, 1) := by decide +kernel
theorem dq_E_ofLoan_90 : decode prog_1_method_25_code 90 = .ok (.invokevirtual 291, 3) := by decide +kernel
theorem dq_E_ofLoan_93 : decode prog_1_method_25_code 93 = .ok (.lreturn, 1) := by decide +kernel
theorem dq_E_ofLoan_94 : decode prog_1_method_25_code 94 = .ok (.aload_n 0, 1) := by decide +kernel
theorem dq_E_ofLoan_95 : decode prog_1_method_25_code 95 = .ok (.aload_n 3, 1) := by decide +kernel
theorem dq_E_ofLoan_96 : decode prog_1_method_25_code 96 = .ok (.invokevirtual 295, 3) := by decide +kernel
theorem dq_E_ofLoan_99 : decode prog_1_method_25_code 99 = .ok (.lreturn, 1) := by decide +kernel
theorem dq_E_ofLoan_100 : decode prog_1_method_25_code 100 = .ok (.aload_n 0, 1) := by decide +kernel
theorem dq_E_ofLoan_101 : decode prog_1_method_25_code 101 = .ok (.aload_n 3, 1) := by decide +kernel
theorem dq_E_ofLoan_102 : decode prog_1_method_25_code 102 = .ok (.invokevirtual 298, 3) := by decide +kernel
theorem dq_E_ofLoan_105 : decode prog_1_method_25_code 105 = .ok (.ifCond .eq 7, 3) := by decide +kernel
theorem dq_E_ofLoan_108 : decode prog_1_method_25_code 108 = .ok (.lconst 1, 1) := by decide +kernel
theorem dq_E_ofLoan_109 : decode prog_1_method_25_code 109 = .ok (.goto 4, 3) := by decide +kernel
theorem dq_E_ofLoan_112 : decode prog_1_method_25_code 112 = .ok (.lconst 0, 1) := by decide +kernel
theorem dq_E_ofLoan_113 : decode prog_1_method_25_code 113 = .ok (.lreturn, 1) := by decide +kernel
theorem dq_E_ofLoan_114 : decode prog_1_method_25_code 114 = .ok (.ldc2_w 60, 3) := by decide +kernel
theorem dq_E_ofLoan_117 : decode prog_1_method_25_code 117 = .ok (.lreturn, 1) := by decide +kernel
def fE_ofLoan (o : Nat) (x1 : Int32) (x2 : Int32) (N : qz_N) : Option (Int64 × qz_N) :=
  (fE_loanAt o x1 N).bind fun q1 => qz_oc q1
    (fun N3 =>
    some ((-2 : Int64), N3))
    fun N3 j4 =>
    if x2 = (0 : Int32) then
      some ((qz_gi N3 6 j4 1).toInt64, N3)
    else
    if x2 = (1 : Int32) then
      some ((qz_gi N3 6 j4 2).toInt64, N3)
    else
    if x2 = (2 : Int32) then
      some ((qz_gi N3 6 j4 3).toInt64, N3)
    else
    if x2 = (3 : Int32) then
      some (qz_gl N3 6 j4 4, N3)
    else
    if x2 = (4 : Int32) then
      some (qz_gl N3 6 j4 5, N3)
    else
    if x2 = (5 : Int32) then
      (fE_debtOf o j4 N3).bind fun q5 =>
      some (q5.1, q5.2)
    else
    if x2 = (6 : Int32) then
      (fE_coverValue o j4 N3).bind fun q7 =>
      some (q7.1, q7.2)
    else
    if x2 = (7 : Int32) then
      (fE_isUncovered o j4 N3).bind fun q9 =>
      if q9.1 = 0 then
        some ((0 : Int64), q9.2)
      else
      some ((1 : Int64), q9.2)
    else
    some ((-2 : Int64), N3)
set_option maxRecDepth 100000 in
set_option maxHeartbeats 4000000 in
theorem sE_ofLoan {p : Program} {l : Launch} {e : Env} {s : State} {m : MethodId} {args : Array Value} {below : List Frame} {meth : Method} {c : Code} {G : qz_G} (X : qz_X p s m args meth c "ExactCurves" prog_1_method_25_code 4 (some .long) G) {r : (Int64 × qz_N)} (o : Nat) (x1 : Int32) (x2 : Int32) (ho : o < 1) (N : qz_N) (h : fE_ofLoan o x1 x2 N = some r) : qz_W p l e (qz_R 6) s m args below meth c 0 0 (MQ below (qz_Q G r.2 (some (.long r.1))) args s 0 0 (qz_A G)) G s.heap 4 N 0 [(0, .ref (G.2.2 0 o)), (1, .int x1), (2, .int x2)] [] := by
  unfold fE_ofLoan at h
  refine qz_aload_n X 0 rfl dq_E_ofLoan_0 ?_
  refine qz_iload_n X 1 rfl dq_E_ofLoan_1 ?_
  refine qz_bind h (fun q1 e2 h => ?_)
  obtain ⟨rq1, N3⟩ := q1
  cases rq1 with
  | none =>
    replace h := qz_ocN h
    refine qz_callV X (as := [.int x1]) (st := []) (o := some .null) (N' := N3) cq_E_274 ho (cE_loanAt l G X.2.2.2.2.2.2.1 o x1 N ho _ e2) ⟨by decide, by decide⟩ rfl rfl (Nat.le_of_ble_eq_true rfl) ⟨Nat.zero_le _, Nat.zero_le _⟩ dq_E_ofLoan_2 ?_
    refine qz_astore_nN X (lv' := [(3, .null), (0, .ref (G.2.2 0 o)), (1, .int x1), (2, .int x2)]) rfl (by decide) rfl dq_E_ofLoan_5 ?_
    refine qz_aload_nN X 0 rfl dq_E_ofLoan_6 ?_
    refine qz_ifnonnullN X dq_E_ofLoan_7 ?_
    refine qz_ldc2 X (v := (-2 : Int64)) wq_252 dq_E_ofLoan_10 ?_
    exact qz_lret X h dq_E_ofLoan_13
  | some j4 =>
    replace h := qz_ocS h
    refine qz_callV X (as := [.int x1]) (st := []) (o := some (.ref (G.2.2 6 j4))) (N' := N3) cq_E_274 ho (cE_loanAt l G X.2.2.2.2.2.2.1 o x1 N ho _ e2) ⟨by decide, by decide⟩ rfl rfl (Nat.le_of_ble_eq_true rfl) ⟨Nat.zero_le _, Nat.zero_le _⟩ dq_E_ofLoan_2 ?_
    refine qz_astore_n X (lv' := [(3, .ref (G.2.2 6 j4)), (0, .ref (G.2.2 0 o)), (1, .int x1), (2, .int x2)]) rfl (by decide) rfl dq_E_ofLoan_5 ?_
    refine qz_aload_n X 0 rfl dq_E_ofLoan_6 ?_
    refine qz_ifnonnull X (tgt := 14) (by decide) dq_E_ofLoan_7 ?_
    refine qz_iload_n X 3 rfl dq_E_ofLoan_14 ?_
    refine qz_ite h (fun c0_15 h => ?_) (fun c0_15 h => ?_)
    · refine qz_tabIn X (tgt := 60) c0_15 (by decide) (by decide) rfl (by decide) dq_E_ofLoan_15 ?_
      refine qz_aload_n X 0 rfl dq_E_ofLoan_60 ?_
      refine qz_get X (v := .int (qz_gi N3 6 j4 1)) kq_E_278 (vE_loanAt e2 j4 rfl) rfl dq_E_ofLoan_61 ?_
      refine qz_i2l X dq_E_ofLoan_64 ?_
      exact qz_lret X h dq_E_ofLoan_65
    · refine qz_ite h (fun c1_15 h => ?_) (fun c1_15 h => ?_)
      · refine qz_tabIn X (tgt := 66) c1_15 (by decide) (by decide) rfl (by decide) dq_E_ofLoan_15 ?_
        refine qz_aload_n X 0 rfl dq_E_ofLoan_66 ?_
        refine qz_get X (v := .int (qz_gi N3 6 j4 2)) kq_E_281 (vE_loanAt e2 j4 rfl) rfl dq_E_ofLoan_67 ?_
        refine qz_i2l X dq_E_ofLoan_70 ?_
        exact qz_lret X h dq_E_ofLoan_71
      · refine qz_ite h (fun c2_15 h => ?_) (fun c2_15 h => ?_)
        · refine qz_tabIn X (tgt := 72) c2_15 (by decide) (by decide) rfl (by decide) dq_E_ofLoan_15 ?_
          refine qz_aload_n X 0 rfl dq_E_ofLoan_72 ?_
          refine qz_get X (v := .int (qz_gi N3 6 j4 3)) kq_E_282 (vE_loanAt e2 j4 rfl) rfl dq_E_ofLoan_73 ?_
          refine qz_i2l X dq_E_ofLoan_76 ?_
          exact qz_lret X h dq_E_ofLoan_77
        · refine qz_ite h (fun c3_15 h => ?_) (fun c3_15 h => ?_)
          · refine qz_tabIn X (tgt := 78) c3_15 (by decide) (by decide) rfl (by decide) dq_E_ofLoan_15 ?_
            refine qz_aload_n X 0 rfl dq_E_ofLoan_78 ?_
            refine qz_get X (v := .long (qz_gl N3 6 j4 4)) kq_E_285 (vE_loanAt e2 j4 rfl) rfl dq_E_ofLoan_79 ?_
            exact qz_lret X h dq_E_ofLoan_82
          · refine qz_ite h (fun c4_15 h => ?_) (fun c4_15 h => ?_)
            · refine qz_tabIn X (tgt := 83) c4_15 (by decide) (by decide) rfl (by decide) dq_E_ofLoan_15 ?_
              refine qz_aload_n X 0 rfl dq_E_ofLoan_83 ?_
              refine qz_get X (v := .long (qz_gl N3 6 j4 5)) kq_E_288 (vE_loanAt e2 j4 rfl) rfl dq_E_ofLoan_84 ?_
              exact qz_lret X h dq_E_ofLoan_87
            · refine qz_ite h (fun c5_15 h => ?_) (fun c5_15 h => ?_)
              · refine qz_tabIn X (tgt := 88) c5_15 (by decide) (by decide) rfl (by decide) dq_E_ofLoan_15 ?_
                refine qz_aload_n X 1 rfl dq_E_ofLoan_88 ?_
                refine qz_aload_n X 0 rfl dq_E_ofLoan_89 ?_
                refine qz_bind h (fun q5 e6 h => ?_)
                refine qz_callV X (as := [.ref (G.2.2 6 j4)]) (st := []) (o := some (.long q5.1)) (N' := q5.2) cq_E_291 ho (cE_debtOf l G X.2.2.2.2.2.2.1 o j4 N3 ho (vE_loanAt e2 j4 rfl) _ e6) ⟨by decide, by decide⟩ rfl rfl (Nat.le_of_ble_eq_true rfl) ⟨Nat.zero_le _, Nat.zero_le _⟩ dq_E_ofLoan_90 ?_
                exact qz_lret X h dq_E_ofLoan_93
              · refine qz_ite h (fun c6_15 h => ?_) (fun c6_15 h => ?_)
                · refine qz_tabIn X (tgt := 94) c6_15 (by decide) (by decide) rfl (by decide) dq_E_ofLoan_15 ?_
                  refine qz_aload_n X 1 rfl dq_E_ofLoan_94 ?_
                  refine qz_aload_n X 0 rfl dq_E_ofLoan_95 ?_
                  refine qz_bind h (fun q7 e8 h => ?_)
                  refine qz_callV X (as := [.ref (G.2.2 6 j4)]) (st := []) (o := some (.long q7.1)) (N' := q7.2) cq_E_295 ho (cE_coverValue l G X.2.2.2.2.2.2.1 o j4 N3 ho (vE_loanAt e2 j4 rfl) _ e8) ⟨by decide, by decide⟩ rfl rfl (Nat.le_of_ble_eq_true rfl) ⟨Nat.zero_le _, Nat.zero_le _⟩ dq_E_ofLoan_96 ?_
                  exact qz_lret X h dq_E_ofLoan_99
                · refine qz_ite h (fun c7_15 h => ?_) (fun c7_15 h => ?_)
                  · refine qz_tabIn X (tgt := 100) c7_15 (by decide) (by decide) rfl (by decide) dq_E_ofLoan_15 ?_
                    refine qz_aload_n X 1 rfl dq_E_ofLoan_100 ?_
                    refine qz_aload_n X 0 rfl dq_E_ofLoan_101 ?_
                    refine qz_bind h (fun q9 e10 h => ?_)
                    refine qz_callV X (as := [.ref (G.2.2 6 j4)]) (st := []) (o := some (.int q9.1)) (N' := q9.2) cq_E_298 ho (cE_isUncovered l G X.2.2.2.2.2.2.1 o j4 N3 ho (vE_loanAt e2 j4 rfl) _ e10) ⟨by decide, by decide⟩ rfl rfl (Nat.le_of_ble_eq_true rfl) ⟨Nat.zero_le _, Nat.zero_le _⟩ dq_E_ofLoan_102 ?_
                    refine qz_if_eq X (tgt := 112) (by decide) dq_E_ofLoan_105 h (fun _ h => ?_) (fun _ h => ?_)
                    · refine qz_lconst X (v := (0 : Int64)) (by decide) dq_E_ofLoan_112 ?_
                      exact qz_lret X h dq_E_ofLoan_113
                    · refine qz_lconst X (v := (1 : Int64)) (by decide) dq_E_ofLoan_108 ?_
                      refine qz_goto X (tgt := 113) (by decide) dq_E_ofLoan_109 ?_
                      exact qz_lret X h dq_E_ofLoan_113
                  · refine qz_tabOut X (tgt := 114) (by decide) (qz_out8 0 c0_15 c1_15 c2_15 c3_15 c4_15 c5_15 c6_15 c7_15) dq_E_ofLoan_15 ?_
                    refine qz_ldc2 X (v := (-2 : Int64)) wq_252 dq_E_ofLoan_114 ?_
                    exact qz_lret X h dq_E_ofLoan_117
theorem cE_ofLoan (l : Launch) (G : qz_G) (hD : qz_D G) (o : Nat) (x1 : Int32) (x2 : Int32) (N : qz_N) (ho : o < 1) (r : (Int64 × qz_N)) (h : fE_ofLoan o x1 x2 N = some r) : qz_M l yE_ofLoan prog_1_method_25_code 4 (some .long) 6 G [.ref (G.2.2 0 o), .int x1, .int x2] N (some (.long r.1)) r.2 :=
  qz_enter (lv := [(0, .ref (G.2.2 0 o)), (1, .int x1), (2, .int x2)]) rfl hD (Nat.le_of_ble_eq_true rfl) rfl (fun p e s m args below meth c X => sE_ofLoan X o x1 x2 ho N h)
-- ExactCurves.coverToken(LExactCurves$Loan;)I
theorem dq_E_coverToken_0 : decode prog_1_method_41_code 0 = .ok (.aload_n 0, 1) := by decide +kernel
theorem dq_E_coverToken_1 : decode prog_1_method_41_code 1 = .ok (.getfield 18, 3) := by decide +kernel
theorem dq_E_coverToken_4 : decode prog_1_method_41_code 4 = .ok (.aload_n 1, 1) := by decide +kernel
theorem dq_E_coverToken_5 : decode prog_1_method_41_code 5 = .ok (.getfield 281, 3) := by decide +kernel
theorem dq_E_coverToken_8 : decode prog_1_method_41_code 8 = .ok (.aaload, 1) := by decide +kernel
theorem dq_E_coverToken_9 : decode prog_1_method_41_code 9 = .ok (.aload_n 1, 1) := by decide +kernel
theorem dq_E_coverToken_10 : decode prog_1_method_41_code 10 = .ok (.getfield 282, 3) := by decide +kernel
theorem dq_E_coverToken_13 : decode prog_1_method_41_code 13 = .ok (.invokevirtual 135, 3) := by decide +kernel
theorem dq_E_coverToken_16 : decode prog_1_method_41_code 16 = .ok (.ireturn, 1) := by decide +kernel
def fE_coverToken (o : Nat) (x1 : Nat) (N : qz_N) : Option (Int32 × qz_N) :=
  if (qz_gi N 6 x1 2) < 0 ∨ 6 ≤ (qz_gi N 6 x1 2).toNatClampNeg then none else
  (fP_tokenAt ((qz_gi N 6 x1 2).toNatClampNeg) (qz_gi N 6 x1 3) N).bind fun q2 =>
  some (q2.1, q2.2)
set_option maxRecDepth 100000 in
set_option maxHeartbeats 4000000 in
theorem sE_coverToken {p : Program} {l : Launch} {e : Env} {s : State} {m : MethodId} {args : Array Value} {below : List Frame} {meth : Method} {c : Code} {G : qz_G} (X : qz_X p s m args meth c "ExactCurves" prog_1_method_41_code 2 (some .int) G) {r : (Int32 × qz_N)} (o : Nat) (x1 : Nat) (ho : o < 1) (hx1 : x1 < 10) (N : qz_N) (h : fE_coverToken o x1 N = some r) : qz_W p l e (qz_R 1) s m args below meth c 0 0 (MQ below (qz_Q G r.2 (some (.int r.1))) args s 0 0 (qz_A G)) G s.heap 2 N 0 [(0, .ref (G.2.2 0 o)), (1, .ref (G.2.2 6 x1))] [] := by
  unfold fE_coverToken at h
  refine qz_aload_n X 0 rfl dq_E_coverToken_0 ?_
  refine qz_get X (v := .ref (G.2.2 8 o)) kq_E_18 ho rfl dq_E_coverToken_1 ?_
  refine qz_aload_n X 1 rfl dq_E_coverToken_4 ?_
  refine qz_get X (v := .int (qz_gi N 6 x1 2)) kq_E_281 hx1 rfl dq_E_coverToken_5 ?_
  refine qz_aald X (c0 := 8) (i := o) (tg := 2) (n := 6) rfl rfl ho dq_E_coverToken_8 h (fun hb1 h => ?_)
  refine qz_aload_n X 1 rfl dq_E_coverToken_9 ?_
  refine qz_get X (v := .int (qz_gi N 6 x1 3)) kq_E_282 hx1 rfl dq_E_coverToken_10 ?_
  refine qz_bind h (fun q2 e3 h => ?_)
  refine qz_callV X (as := [.int (qz_gi N 6 x1 3)]) (st := []) (o := some (.int q2.1)) (N' := q2.2) cq_E_135 hb1 (cP_tokenAt l G X.2.2.2.2.2.2.1 ((qz_gi N 6 x1 2).toNatClampNeg) (qz_gi N 6 x1 3) N hb1 _ e3) ⟨by decide, by decide⟩ rfl rfl (Nat.le_of_ble_eq_true rfl) ⟨Nat.zero_le _, Nat.zero_le _⟩ dq_E_coverToken_13 ?_
  exact qz_iret X h dq_E_coverToken_16
theorem cE_coverToken (l : Launch) (G : qz_G) (hD : qz_D G) (o : Nat) (x1 : Nat) (N : qz_N) (ho : o < 1) (hx1 : x1 < 10) (r : (Int32 × qz_N)) (h : fE_coverToken o x1 N = some r) : qz_M l yE_coverToken prog_1_method_41_code 2 (some .int) 1 G [.ref (G.2.2 0 o), .ref (G.2.2 6 x1)] N (some (.int r.1)) r.2 :=
  qz_enter (lv := [(0, .ref (G.2.2 0 o)), (1, .ref (G.2.2 6 x1))]) rfl hD (Nat.le_of_ble_eq_true rfl) rfl (fun p e s m args below meth c X => sE_coverToken X o x1 ho hx1 N h)
-- ExactCurves.pay(IIJ)J
theorem dq_E_pay_0 : decode prog_1_method_26_code 0 = .ok (.aload_n 0, 1) := by decide +kernel
theorem dq_E_pay_1 : decode prog_1_method_26_code 1 = .ok (.iload_n 2, 1) := by decide +kernel
theorem dq_E_pay_2 : decode prog_1_method_26_code 2 = .ok (.invokevirtual 274, 3) := by decide +kernel
theorem dq_E_pay_5 : decode prog_1_method_26_code 5 = .ok (.astore 5, 2) := by decide +kernel
theorem dq_E_pay_7 : decode prog_1_method_26_code 7 = .ok (.iload_n 1, 1) := by decide +kernel
theorem dq_E_pay_8 : decode prog_1_method_26_code 8 = .ok (.invokestatic 51, 3) := by decide +kernel
theorem dq_E_pay_11 : decode prog_1_method_26_code 11 = .ok (.ifCond .eq 14, 3) := by decide +kernel
theorem dq_E_pay_14 : decode prog_1_method_26_code 14 = .ok (.aload 5, 2) := by decide +kernel
theorem dq_E_pay_16 : decode prog_1_method_26_code 16 = .ok (.ifnull 9, 3) := by decide +kernel
theorem dq_E_pay_19 : decode prog_1_method_26_code 19 = .ok (.lload_n 3, 1) := by decide +kernel
theorem dq_E_pay_20 : decode prog_1_method_26_code 20 = .ok (.lconst 1, 1) := by decide +kernel
theorem dq_E_pay_21 : decode prog_1_method_26_code 21 = .ok (.lcmp, 1) := by decide +kernel
theorem dq_E_pay_22 : decode prog_1_method_26_code 22 = .ok (.ifCond .ge 7, 3) := by decide +kernel
theorem dq_E_pay_25 : decode prog_1_method_26_code 25 = .ok (.ldc2_w 60, 3) := by decide +kernel
theorem dq_E_pay_28 : decode prog_1_method_26_code 28 = .ok (.lreturn, 1) := by decide +kernel
theorem dq_E_pay_29 : decode prog_1_method_26_code 29 = .ok (.aload_n 0, 1) := by decide +kernel
theorem dq_E_pay_30 : decode prog_1_method_26_code 30 = .ok (.aload 5, 2) := by decide +kernel
theorem dq_E_pay_32 : decode prog_1_method_26_code 32 = .ok (.invokevirtual 291, 3) := by decide +kernel
theorem dq_E_pay_35 : decode prog_1_method_26_code 35 = .ok (.lstore 6, 2) := by decide +kernel
theorem dq_E_pay_37 : decode prog_1_method_26_code 37 = .ok (.lload_n 3, 1) := by decide +kernel
theorem dq_E_pay_38 : decode prog_1_method_26_code 38 = .ok (.lload 6, 2) := by decide +kernel
theorem dq_E_pay_40 : decode prog_1_method_26_code 40 = .ok (.invokestatic 302, 3) := by decide +kernel
theorem dq_E_pay_43 : decode prog_1_method_26_code 43 = .ok (.lstore 8, 2) := by decide +kernel
theorem dq_E_pay_45 : decode prog_1_method_26_code 45 = .ok (.aload_n 0, 1) := by decide +kernel
theorem dq_E_pay_46 : decode prog_1_method_26_code 46 = .ok (.aload 5, 2) := by decide +kernel
theorem dq_E_pay_48 : decode prog_1_method_26_code 48 = .ok (.invokevirtual 307, 3) := by decide +kernel
theorem dq_E_pay_51 : decode prog_1_method_26_code 51 = .ok (.istore 10, 2) := by decide +kernel
theorem dq_E_pay_53 : decode prog_1_method_26_code 53 = .ok (.aload_n 0, 1) := by decide +kernel
theorem dq_E_pay_54 : decode prog_1_method_26_code 54 = .ok (.getfield 10, 3) := by decide +kernel
theorem dq_E_pay_57 : decode prog_1_method_26_code 57 = .ok (.iload_n 1, 1) := by decide +kernel
theorem dq_E_pay_58 : decode prog_1_method_26_code 58 = .ok (.iload 10, 2) := by decide +kernel
theorem dq_E_pay_60 : decode prog_1_method_26_code 60 = .ok (.invokevirtual 72, 3) := by decide +kernel
theorem dq_E_pay_63 : decode prog_1_method_26_code 63 = .ok (.lload 8, 2) := by decide +kernel
theorem dq_E_pay_65 : decode prog_1_method_26_code 65 = .ok (.lcmp, 1) := by decide +kernel
theorem dq_E_pay_66 : decode prog_1_method_26_code 66 = .ok (.ifCond .ge 7, 3) := by decide +kernel
theorem dq_E_pay_69 : decode prog_1_method_26_code 69 = .ok (.ldc2_w 66, 3) := by decide +kernel
theorem dq_E_pay_72 : decode prog_1_method_26_code 72 = .ok (.lreturn, 1) := by decide +kernel
theorem dq_E_pay_73 : decode prog_1_method_26_code 73 = .ok (.aload_n 0, 1) := by decide +kernel
theorem dq_E_pay_74 : decode prog_1_method_26_code 74 = .ok (.getfield 10, 3) := by decide +kernel
theorem dq_E_pay_77 : decode prog_1_method_26_code 77 = .ok (.iload_n 1, 1) := by decide +kernel
theorem dq_E_pay_78 : decode prog_1_method_26_code 78 = .ok (.iload 10, 2) := by decide +kernel
theorem dq_E_pay_80 : decode prog_1_method_26_code 80 = .ok (.lload 8, 2) := by decide +kernel
theorem dq_E_pay_82 : decode prog_1_method_26_code 82 = .ok (.invokevirtual 200, 3) := by decide +kernel
theorem dq_E_pay_85 : decode prog_1_method_26_code 85 = .ok (.aload_n 0, 1) := by decide +kernel
theorem dq_E_pay_86 : decode prog_1_method_26_code 86 = .ok (.getfield 37, 3) := by decide +kernel
theorem dq_E_pay_89 : decode prog_1_method_26_code 89 = .ok (.iload 10, 2) := by decide +kernel
theorem dq_E_pay_91 : decode prog_1_method_26_code 91 = .ok (.aaload, 1) := by decide +kernel
theorem dq_E_pay_92 : decode prog_1_method_26_code 92 = .ok (.dup, 1) := by decide +kernel
theorem dq_E_pay_93 : decode prog_1_method_26_code 93 = .ok (.getfield 245, 3) := by decide +kernel
theorem dq_E_pay_96 : decode prog_1_method_26_code 96 = .ok (.lload 8, 2) := by decide +kernel
theorem dq_E_pay_98 : decode prog_1_method_26_code 98 = .ok (.ladd, 1) := by decide +kernel
theorem dq_E_pay_99 : decode prog_1_method_26_code 99 = .ok (.putfield 245, 3) := by decide +kernel
theorem dq_E_pay_102 : decode prog_1_method_26_code 102 = .ok (.aload 5, 2) := by decide +kernel
theorem dq_E_pay_104 : decode prog_1_method_26_code 104 = .ok (.aload_n 0, 1) := by decide +kernel
theorem dq_E_pay_105 : decode prog_1_method_26_code 105 = .ok (.getfield 37, 3) := by decide +kernel
theorem dq_E_pay_108 : decode prog_1_method_26_code 108 = .ok (.iload 10, 2) := by decide +kernel
theorem dq_E_pay_110 : decode prog_1_method_26_code 110 = .ok (.aaload, 1) := by decide +kernel
theorem dq_E_pay_111 : decode prog_1_method_26_code 111 = .ok (.lload 6, 2) := by decide +kernel
theorem dq_E_pay_113 : decode prog_1_method_26_code 113 = .ok (.lload 8, 2) := by decide +kernel
theorem dq_E_pay_115 : decode prog_1_method_26_code 115 = .ok (.lsub, 1) := by decide +kernel
theorem dq_E_pay_116 : decode prog_1_method_26_code 116 = .ok (.invokevirtual 266, 3) := by decide +kernel
theorem dq_E_pay_119 : decode prog_1_method_26_code 119 = .ok (.putfield 288, 3) := by decide +kernel
theorem dq_E_pay_122 : decode prog_1_method_26_code 122 = .ok (.lload 8, 2) := by decide +kernel
theorem dq_E_pay_124 : decode prog_1_method_26_code 124 = .ok (.lload 6, 2) := by decide +kernel
theorem dq_E_pay_126 : decode prog_1_method_26_code 126 = .ok (.lcmp, 1) := by decide +kernel
theorem dq_E_pay_127 : decode prog_1_method_26_code 127 = .ok (.ifCond .ne 32, 3) := by decide +kernel
theorem dq_E_pay_130 : decode prog_1_method_26_code 130 = .ok (.aload_n 0, 1) := by decide +kernel
theorem dq_E_pay_131 : decode prog_1_method_26_code 131 = .ok (.getfield 10, 3) := by decide +kernel
theorem dq_E_pay_134 : decode prog_1_method_26_code 134 = .ok (.aload 5, 2) := by decide +kernel
theorem dq_E_pay_136 : decode prog_1_method_26_code 136 = .ok (.getfield 278, 3) := by decide +kernel
theorem dq_E_pay_139 : decode prog_1_method_26_code 139 = .ok (.aload_n 0, 1) := by decide +kernel
theorem dq_E_pay_140 : decode prog_1_method_26_code 140 = .ok (.aload 5, 2) := by decide +kernel
theorem dq_E_pay_142 : decode prog_1_method_26_code 142 = .ok (.invokevirtual 311, 3) := by decide +kernel
theorem dq_E_pay_145 : decode prog_1_method_26_code 145 = .ok (.aload 5, 2) := by decide +kernel
theorem dq_E_pay_147 : decode prog_1_method_26_code 147 = .ok (.getfield 285, 3) := by decide +kernel
theorem dq_E_pay_150 : decode prog_1_method_26_code 150 = .ok (.invokevirtual 68, 3) := by decide +kernel
theorem dq_E_pay_153 : decode prog_1_method_26_code 153 = .ok (.aload 5, 2) := by decide +kernel
theorem dq_E_pay_155 : decode prog_1_method_26_code 155 = .ok (.iconst 0, 1) := by decide +kernel
theorem dq_E_pay_156 : decode prog_1_method_26_code 156 = .ok (.putfield 314, 3) := by decide +kernel
theorem dq_E_pay_159 : decode prog_1_method_26_code 159 = .ok (.lload 8, 2) := by decide +kernel
theorem dq_E_pay_161 : decode prog_1_method_26_code 161 = .ok (.lreturn, 1) := by decide +kernel
def fE_pay (o : Nat) (x1 : Int32) (x2 : Int32) (x3 : Int64) (N : qz_N) : Option (Int64 × qz_N) :=
  (fE_loanAt o x2 N).bind fun q1 => qz_oc q1
    (fun N3 =>
    (fE_isPlayer x1 N3).bind fun q5 =>
    if q5.1 = 0 then
      some ((-2 : Int64), q5.2)
    else
    some ((-2 : Int64), q5.2))
    fun N3 j4 =>
    (fE_isPlayer x1 N3).bind fun q7 =>
    if q7.1 = 0 then
      some ((-2 : Int64), q7.2)
    else
    if (1 : Int64) ≤ x3 then
      (fE_debtOf o j4 q7.2).bind fun q9 =>
      qz_let (if q9.1 < x3 then q9.1 else x3) fun v11 =>
      (fE_debtToken o j4 q9.2).bind fun q12 =>
      (fU_held o x1 q12.1 q12.2).bind fun q14 =>
      if v11 ≤ q14.1 then
        (fU_take o x1 q12.1 v11 q14.2).bind fun q16 =>
        if q12.1 < 0 ∨ 4 ≤ q12.1.toNatClampNeg then none else
        qz_let (qz_sl q16.2 5 q12.1.toNatClampNeg 1 ((qz_gl q16.2 5 q12.1.toNatClampNeg 1) + v11)) fun N19 =>
        if q12.1 < 0 ∨ 4 ≤ q12.1.toNatClampNeg then none else
        (fV_unitsOf q12.1.toNatClampNeg (q9.1 - v11) N19).bind fun q21 =>
        qz_let (qz_sl q21.2 6 j4 5 q21.1) fun N23 =>
        if v11 = q9.1 then
          (fE_coverToken o j4 N23).bind fun q24 =>
          (fU_give o (qz_gi N23 6 j4 1) q24.1 (qz_gl q24.2 6 j4 4) q24.2).bind fun q26 =>
          qz_let (qz_si q26.2 6 j4 0 (0 : Int32)) fun N28 =>
          some (v11, N28)
        else
        some (v11, N23)
      else
      some ((-3 : Int64), q14.2)
    else
    some ((-2 : Int64), q7.2)
set_option maxRecDepth 100000 in
set_option maxHeartbeats 4000000 in
theorem sE_pay {p : Program} {l : Launch} {e : Env} {s : State} {m : MethodId} {args : Array Value} {below : List Frame} {meth : Method} {c : Code} {G : qz_G} (X : qz_X p s m args meth c "ExactCurves" prog_1_method_26_code 11 (some .long) G) {r : (Int64 × qz_N)} (o : Nat) (x1 : Int32) (x2 : Int32) (x3 : Int64) (ho : o < 1) (N : qz_N) (h : fE_pay o x1 x2 x3 N = some r) : qz_W p l e (qz_R 5) s m args below meth c 0 0 (MQ below (qz_Q G r.2 (some (.long r.1))) args s 0 0 (qz_A G)) G s.heap 11 N 0 [(0, .ref (G.2.2 0 o)), (1, .int x1), (2, .int x2), (3, .long x3)] [] := by
  unfold fE_pay at h
  refine qz_aload_n X 0 rfl dq_E_pay_0 ?_
  refine qz_iload_n X 2 rfl dq_E_pay_1 ?_
  refine qz_bind h (fun q1 e2 h => ?_)
  obtain ⟨rq1, N3⟩ := q1
  cases rq1 with
  | none =>
    replace h := qz_ocN h
    refine qz_callV X (as := [.int x2]) (st := []) (o := some .null) (N' := N3) cq_E_274 ho (cE_loanAt l G X.2.2.2.2.2.2.1 o x2 N ho _ e2) ⟨by decide, by decide⟩ rfl rfl (Nat.le_of_ble_eq_true rfl) ⟨Nat.zero_le _, Nat.zero_le _⟩ dq_E_pay_2 ?_
    refine qz_astoreN X (lv' := [(5, .null), (0, .ref (G.2.2 0 o)), (1, .int x1), (2, .int x2), (3, .long x3)]) (by decide) rfl dq_E_pay_5 ?_
    refine qz_iload_n X 2 rfl dq_E_pay_7 ?_
    refine qz_bind h (fun q5 e6 h => ?_)
    refine qz_callS X (as := [.int x1]) (st := []) (o := some (.int q5.1)) (N' := q5.2) cq_E_51 (cE_isPlayer l G X.2.2.2.2.2.2.1 x1 N3 _ e6) ⟨by decide, by decide⟩ rfl rfl (Nat.le_of_ble_eq_true rfl) ⟨Nat.zero_le _, Nat.zero_le _⟩ dq_E_pay_8 ?_
    refine qz_if_eq X (tgt := 25) (by decide) dq_E_pay_11 h (fun _ h => ?_) (fun _ h => ?_)
    · refine qz_ldc2 X (v := (-2 : Int64)) wq_252 dq_E_pay_25 ?_
      exact qz_lret X h dq_E_pay_28
    · refine qz_aloadN X 0 rfl dq_E_pay_14 ?_
      refine qz_ifnullN X (tgt := 25) (by decide) dq_E_pay_16 ?_
      refine qz_ldc2 X (v := (-2 : Int64)) wq_252 dq_E_pay_25 ?_
      exact qz_lret X h dq_E_pay_28
  | some j4 =>
    replace h := qz_ocS h
    refine qz_callV X (as := [.int x2]) (st := []) (o := some (.ref (G.2.2 6 j4))) (N' := N3) cq_E_274 ho (cE_loanAt l G X.2.2.2.2.2.2.1 o x2 N ho _ e2) ⟨by decide, by decide⟩ rfl rfl (Nat.le_of_ble_eq_true rfl) ⟨Nat.zero_le _, Nat.zero_le _⟩ dq_E_pay_2 ?_
    refine qz_astore X (lv' := [(5, .ref (G.2.2 6 j4)), (0, .ref (G.2.2 0 o)), (1, .int x1), (2, .int x2), (3, .long x3)]) (by decide) rfl dq_E_pay_5 ?_
    refine qz_iload_n X 2 rfl dq_E_pay_7 ?_
    refine qz_bind h (fun q7 e8 h => ?_)
    refine qz_callS X (as := [.int x1]) (st := []) (o := some (.int q7.1)) (N' := q7.2) cq_E_51 (cE_isPlayer l G X.2.2.2.2.2.2.1 x1 N3 _ e8) ⟨by decide, by decide⟩ rfl rfl (Nat.le_of_ble_eq_true rfl) ⟨Nat.zero_le _, Nat.zero_le _⟩ dq_E_pay_8 ?_
    refine qz_if_eq X (tgt := 25) (by decide) dq_E_pay_11 h (fun _ h => ?_) (fun _ h => ?_)
    · refine qz_ldc2 X (v := (-2 : Int64)) wq_252 dq_E_pay_25 ?_
      exact qz_lret X h dq_E_pay_28
    · refine qz_aload X 0 rfl dq_E_pay_14 ?_
      refine qz_ifnull X dq_E_pay_16 ?_
      refine qz_lload_n X 4 rfl dq_E_pay_19 ?_
      refine qz_lconst X (v := (1 : Int64)) (by decide) dq_E_pay_20 ?_
      refine qz_lcmp_ge X (tgt := 29) (by decide) dq_E_pay_21 dq_E_pay_22 h (fun _ h => ?_) (fun _ h => ?_)
      · refine qz_aload_n X 1 rfl dq_E_pay_29 ?_
        refine qz_aload X 0 rfl dq_E_pay_30 ?_
        refine qz_bind h (fun q9 e10 h => ?_)
        refine qz_callV X (as := [.ref (G.2.2 6 j4)]) (st := []) (o := some (.long q9.1)) (N' := q9.2) cq_E_291 ho (cE_debtOf l G X.2.2.2.2.2.2.1 o j4 q7.2 ho (vE_loanAt e2 j4 rfl) _ e10) ⟨by decide, by decide⟩ rfl rfl (Nat.le_of_ble_eq_true rfl) ⟨Nat.zero_le _, Nat.zero_le _⟩ dq_E_pay_32 ?_
        refine qz_lstore X (lv' := [(6, .long q9.1), (5, .ref (G.2.2 6 j4)), (0, .ref (G.2.2 0 o)), (1, .int x1), (2, .int x2), (3, .long x3)]) (by decide) rfl dq_E_pay_35 ?_
        refine qz_lload_n X 5 rfl dq_E_pay_37 ?_
        refine qz_lload X 0 rfl dq_E_pay_38 ?_
        refine qz_mmin X (st := []) wq_573 ⟨mq_min, wq_327, wq_11⟩ ⟨by decide, by decide⟩ (Nat.le_of_ble_eq_true rfl) ⟨Nat.zero_le _, Nat.zero_le _⟩ dq_E_pay_40 ?_
        refine qz_letj h (fun v11 h => ?_)
        refine qz_lstore X (lv' := [(8, .long v11), (6, .long q9.1), (5, .ref (G.2.2 6 j4)), (0, .ref (G.2.2 0 o)), (1, .int x1), (2, .int x2), (3, .long x3)]) (by decide) rfl dq_E_pay_43 ?_
        refine qz_aload_n X 3 rfl dq_E_pay_45 ?_
        refine qz_aload X 2 rfl dq_E_pay_46 ?_
        refine qz_bind h (fun q12 e13 h => ?_)
        refine qz_callV X (as := [.ref (G.2.2 6 j4)]) (st := []) (o := some (.int q12.1)) (N' := q12.2) cq_E_307 ho (cE_debtToken l G X.2.2.2.2.2.2.1 o j4 q9.2 ho (vE_loanAt e2 j4 rfl) _ e13) ⟨by decide, by decide⟩ rfl rfl (Nat.le_of_ble_eq_true rfl) ⟨Nat.zero_le _, Nat.zero_le _⟩ dq_E_pay_48 ?_
        refine qz_istore X (lv' := [(10, .int q12.1), (8, .long v11), (6, .long q9.1), (5, .ref (G.2.2 6 j4)), (0, .ref (G.2.2 0 o)), (1, .int x1), (2, .int x2), (3, .long x3)]) (by decide) rfl dq_E_pay_51 ?_
        refine qz_aload_n X 4 rfl dq_E_pay_53 ?_
        refine qz_get X (v := .ref (G.2.2 1 o)) kq_E_10 ho rfl dq_E_pay_54 ?_
        refine qz_iload_n X 5 rfl dq_E_pay_57 ?_
        refine qz_iload X 0 rfl dq_E_pay_58 ?_
        refine qz_bind h (fun q14 e15 h => ?_)
        refine qz_callV X (as := [.int x1, .int q12.1]) (st := []) (o := some (.long q14.1)) (N' := q14.2) cq_E_72 ho (cU_held l G X.2.2.2.2.2.2.1 o x1 q12.1 q12.2 ho _ e15) ⟨by decide, by decide⟩ rfl rfl (Nat.le_of_ble_eq_true rfl) ⟨Nat.zero_le _, Nat.zero_le _⟩ dq_E_pay_60 ?_
        refine qz_lload X 1 rfl dq_E_pay_63 ?_
        refine qz_lcmp_ge X (tgt := 73) (by decide) dq_E_pay_65 dq_E_pay_66 h (fun _ h => ?_) (fun _ h => ?_)
        · refine qz_aload_n X 4 rfl dq_E_pay_73 ?_
          refine qz_get X (v := .ref (G.2.2 1 o)) kq_E_10 ho rfl dq_E_pay_74 ?_
          refine qz_iload_n X 5 rfl dq_E_pay_77 ?_
          refine qz_iload X 0 rfl dq_E_pay_78 ?_
          refine qz_lload X 1 rfl dq_E_pay_80 ?_
          refine qz_bind h (fun q16 e17 h => ?_)
          refine qz_callV X (as := [.int x1, .int q12.1, .long v11]) (st := []) (o := none) (N' := q16.2) cq_E_200 ho (cU_take l G X.2.2.2.2.2.2.1 o x1 q12.1 v11 q14.2 ho _ e17) ⟨by decide, by decide⟩ rfl rfl (Nat.le_of_ble_eq_true rfl) ⟨Nat.zero_le _, Nat.zero_le _⟩ dq_E_pay_82 ?_
          refine qz_aload_n X 4 rfl dq_E_pay_85 ?_
          refine qz_get X (v := .ref (G.2.2 10 o)) kq_E_37 ho rfl dq_E_pay_86 ?_
          refine qz_iload X 0 rfl dq_E_pay_89 ?_
          refine qz_aald X (c0 := 10) (i := o) (tg := 5) (n := 4) rfl rfl ho dq_E_pay_91 h (fun hb18 h => ?_)
          refine qz_dup X rfl dq_E_pay_92 ?_
          refine qz_get X (v := .long (qz_gl q16.2 5 q12.1.toNatClampNeg 1)) kq_E_245 hb18 rfl dq_E_pay_93 ?_
          refine qz_lload X 1 rfl dq_E_pay_96 ?_
          refine qz_ladd X dq_E_pay_98 ?_
          refine qz_putJ X kq_E_245 hb18 dq_E_pay_99 h (fun N19 h => ?_)
          refine qz_aload X 3 rfl dq_E_pay_102 ?_
          refine qz_aload_n X 4 rfl dq_E_pay_104 ?_
          refine qz_get X (v := .ref (G.2.2 10 o)) kq_E_37 ho rfl dq_E_pay_105 ?_
          refine qz_iload X 0 rfl dq_E_pay_108 ?_
          refine qz_aald X (c0 := 10) (i := o) (tg := 5) (n := 4) rfl rfl ho dq_E_pay_110 h (fun hb20 h => ?_)
          refine qz_lload X 2 rfl dq_E_pay_111 ?_
          refine qz_lload X 1 rfl dq_E_pay_113 ?_
          refine qz_lsub X dq_E_pay_115 ?_
          refine qz_bind h (fun q21 e22 h => ?_)
          refine qz_callV X (as := [.long (q9.1 - v11)]) (st := [.ref (G.2.2 6 j4)]) (o := some (.long q21.1)) (N' := q21.2) cq_E_266 hb20 (cV_unitsOf l G X.2.2.2.2.2.2.1 q12.1.toNatClampNeg (q9.1 - v11) N19 hb20 _ e22) ⟨by decide, by decide⟩ rfl rfl (Nat.le_of_ble_eq_true rfl) ⟨Nat.zero_le _, Nat.zero_le _⟩ dq_E_pay_116 ?_
          refine qz_putJ X kq_E_288 (vE_loanAt e2 j4 rfl) dq_E_pay_119 h (fun N23 h => ?_)
          refine qz_lload X 1 rfl dq_E_pay_122 ?_
          refine qz_lload X 2 rfl dq_E_pay_124 ?_
          refine qz_lcmp_ne X (tgt := 159) (by decide) dq_E_pay_126 dq_E_pay_127 h (fun _ h => ?_) (fun _ h => ?_)
          · refine qz_lload X 1 rfl dq_E_pay_159 ?_
            exact qz_lret X h dq_E_pay_161
          · refine qz_aload_n X 4 rfl dq_E_pay_130 ?_
            refine qz_get X (v := .ref (G.2.2 1 o)) kq_E_10 ho rfl dq_E_pay_131 ?_
            refine qz_aload X 3 rfl dq_E_pay_134 ?_
            refine qz_get X (v := .int (qz_gi N23 6 j4 1)) kq_E_278 (vE_loanAt e2 j4 rfl) rfl dq_E_pay_136 ?_
            refine qz_aload_n X 4 rfl dq_E_pay_139 ?_
            refine qz_aload X 3 rfl dq_E_pay_140 ?_
            refine qz_bind h (fun q24 e25 h => ?_)
            refine qz_callV X (as := [.ref (G.2.2 6 j4)]) (st := [.int (qz_gi N23 6 j4 1), .ref (G.2.2 1 o)]) (o := some (.int q24.1)) (N' := q24.2) cq_E_311 ho (cE_coverToken l G X.2.2.2.2.2.2.1 o j4 N23 ho (vE_loanAt e2 j4 rfl) _ e25) ⟨by decide, by decide⟩ rfl rfl (Nat.le_of_ble_eq_true rfl) ⟨Nat.zero_le _, Nat.zero_le _⟩ dq_E_pay_142 ?_
            refine qz_aload X 3 rfl dq_E_pay_145 ?_
            refine qz_get X (v := .long (qz_gl q24.2 6 j4 4)) kq_E_285 (vE_loanAt e2 j4 rfl) rfl dq_E_pay_147 ?_
            refine qz_bind h (fun q26 e27 h => ?_)
            refine qz_callV X (as := [.int (qz_gi N23 6 j4 1), .int q24.1, .long (qz_gl q24.2 6 j4 4)]) (st := []) (o := none) (N' := q26.2) cq_E_68 ho (cU_give l G X.2.2.2.2.2.2.1 o (qz_gi N23 6 j4 1) q24.1 (qz_gl q24.2 6 j4 4) q24.2 ho _ e27) ⟨by decide, by decide⟩ rfl rfl (Nat.le_of_ble_eq_true rfl) ⟨Nat.zero_le _, Nat.zero_le _⟩ dq_E_pay_150 ?_
            refine qz_aload X 3 rfl dq_E_pay_153 ?_
            refine qz_iconst X (v := (0 : Int32)) (by decide) dq_E_pay_155 ?_
            refine qz_putZ X kq_E_314 (vE_loanAt e2 j4 rfl) ⟨by decide, by decide⟩ dq_E_pay_156 h (fun N28 h => ?_)
            refine qz_lload X 1 rfl dq_E_pay_159 ?_
            exact qz_lret X h dq_E_pay_161
        · refine qz_ldc2 X (v := (-3 : Int64)) wq_253 dq_E_pay_69 ?_
          exact qz_lret X h dq_E_pay_72
      · refine qz_ldc2 X (v := (-2 : Int64)) wq_252 dq_E_pay_25 ?_
        exact qz_lret X h dq_E_pay_28
theorem cE_pay (l : Launch) (G : qz_G) (hD : qz_D G) (o : Nat) (x1 : Int32) (x2 : Int32) (x3 : Int64) (N : qz_N) (ho : o < 1) (r : (Int64 × qz_N)) (h : fE_pay o x1 x2 x3 N = some r) : qz_M l yE_pay prog_1_method_26_code 11 (some .long) 5 G [.ref (G.2.2 0 o), .int x1, .int x2, .long x3] N (some (.long r.1)) r.2 :=
  qz_enter (lv := [(0, .ref (G.2.2 0 o)), (1, .int x1), (2, .int x2), (3, .long x3)]) rfl hD (Nat.le_of_ble_eq_true rfl) rfl (fun p e s m args below meth c X => sE_pay X o x1 x2 x3 ho N h)
-- ExactCurves$Pool.leastOfValue(IJ)J
theorem dq_P_leastOfValue_0 : decode prog_6_method_15_code 0 = .ok (.aload_n 0, 1) := by decide +kernel
theorem dq_P_leastOfValue_1 : decode prog_6_method_15_code 1 = .ok (.iload_n 1, 1) := by decide +kernel
theorem dq_P_leastOfValue_2 : decode prog_6_method_15_code 2 = .ok (.invokevirtual 68, 3) := by decide +kernel
theorem dq_P_leastOfValue_5 : decode prog_6_method_15_code 5 = .ok (.lstore 4, 2) := by decide +kernel
theorem dq_P_leastOfValue_7 : decode prog_6_method_15_code 7 = .ok (.aload_n 0, 1) := by decide +kernel
theorem dq_P_leastOfValue_8 : decode prog_6_method_15_code 8 = .ok (.iconst 1, 1) := by decide +kernel
theorem dq_P_leastOfValue_9 : decode prog_6_method_15_code 9 = .ok (.iload_n 1, 1) := by decide +kernel
theorem dq_P_leastOfValue_10 : decode prog_6_method_15_code 10 = .ok (.isub, 1) := by decide +kernel
theorem dq_P_leastOfValue_11 : decode prog_6_method_15_code 11 = .ok (.invokevirtual 68, 3) := by decide +kernel
theorem dq_P_leastOfValue_14 : decode prog_6_method_15_code 14 = .ok (.lstore 6, 2) := by decide +kernel
theorem dq_P_leastOfValue_16 : decode prog_6_method_15_code 16 = .ok (.lload 4, 2) := by decide +kernel
theorem dq_P_leastOfValue_18 : decode prog_6_method_15_code 18 = .ok (.lconst 0, 1) := by decide +kernel
theorem dq_P_leastOfValue_19 : decode prog_6_method_15_code 19 = .ok (.lcmp, 1) := by decide +kernel
theorem dq_P_leastOfValue_20 : decode prog_6_method_15_code 20 = .ok (.ifCond .eq 10, 3) := by decide +kernel
theorem dq_P_leastOfValue_23 : decode prog_6_method_15_code 23 = .ok (.lload 6, 2) := by decide +kernel
theorem dq_P_leastOfValue_25 : decode prog_6_method_15_code 25 = .ok (.lconst 0, 1) := by decide +kernel
theorem dq_P_leastOfValue_26 : decode prog_6_method_15_code 26 = .ok (.lcmp, 1) := by decide +kernel
theorem dq_P_leastOfValue_27 : decode prog_6_method_15_code 27 = .ok (.ifCond .ne 7, 3) := by decide +kernel
theorem dq_P_leastOfValue_30 : decode prog_6_method_15_code 30 = .ok (.ldc2_w 62, 3) := by decide +kernel
theorem dq_P_leastOfValue_33 : decode prog_6_method_15_code 33 = .ok (.lreturn, 1) := by decide +kernel
theorem dq_P_leastOfValue_34 : decode prog_6_method_15_code 34 = .ok (.lload_n 2, 1) := by decide +kernel
theorem dq_P_leastOfValue_35 : decode prog_6_method_15_code 35 = .ok (.lload 4, 2) := by decide +kernel
theorem dq_P_leastOfValue_37 : decode prog_6_method_15_code 37 = .ok (.lload 6, 2) := by decide +kernel
theorem dq_P_leastOfValue_39 : decode prog_6_method_15_code 39 = .ok (.invokestatic 72, 3) := by decide +kernel
theorem dq_P_leastOfValue_42 : decode prog_6_method_15_code 42 = .ok (.lreturn, 1) := by decide +kernel
def fP_leastOfValue (o : Nat) (x1 : Int32) (x2 : Int64) (N : qz_N) : Option (Int64 × qz_N) :=
  (fP_reserveAt o x1 N).bind fun q1 =>
  (fP_reserveAt o ((1 : Int32) - x1) q1.2).bind fun q3 =>
  if q1.1 = (0 : Int64) then
    some ((9223372036854775807 : Int64), q3.2)
  else
  if q3.1 = (0 : Int64) then
    some ((9223372036854775807 : Int64), q3.2)
  else
  (fA_timesOverUp x2 q1.1 q3.1 q3.2).bind fun q5 =>
  some (q5.1, q5.2)
set_option maxRecDepth 100000 in
set_option maxHeartbeats 4000000 in
theorem sP_leastOfValue {p : Program} {l : Launch} {e : Env} {s : State} {m : MethodId} {args : Array Value} {below : List Frame} {meth : Method} {c : Code} {G : qz_G} (X : qz_X p s m args meth c "ExactCurves$Pool" prog_6_method_15_code 8 (some .long) G) {r : (Int64 × qz_N)} (o : Nat) (x1 : Int32) (x2 : Int64) (ho : o < 6) (N : qz_N) (h : fP_leastOfValue o x1 x2 N = some r) : qz_W p l e (qz_R 3) s m args below meth c 0 0 (MQ below (qz_Q G r.2 (some (.long r.1))) args s 0 0 (qz_A G)) G s.heap 8 N 0 [(0, .ref (G.2.2 2 o)), (1, .int x1), (2, .long x2)] [] := by
  unfold fP_leastOfValue at h
  refine qz_aload_n X 0 rfl dq_P_leastOfValue_0 ?_
  refine qz_iload_n X 1 rfl dq_P_leastOfValue_1 ?_
  refine qz_bind h (fun q1 e2 h => ?_)
  refine qz_callV X (as := [.int x1]) (st := []) (o := some (.long q1.1)) (N' := q1.2) cq_P_68 ho (cP_reserveAt l G X.2.2.2.2.2.2.1 o x1 N ho _ e2) ⟨by decide, by decide⟩ rfl rfl (Nat.le_of_ble_eq_true rfl) ⟨Nat.zero_le _, Nat.zero_le _⟩ dq_P_leastOfValue_2 ?_
  refine qz_lstore X (lv' := [(4, .long q1.1), (0, .ref (G.2.2 2 o)), (1, .int x1), (2, .long x2)]) (by decide) rfl dq_P_leastOfValue_5 ?_
  refine qz_aload_n X 1 rfl dq_P_leastOfValue_7 ?_
  refine qz_iconst X (v := (1 : Int32)) (by decide) dq_P_leastOfValue_8 ?_
  refine qz_iload_n X 2 rfl dq_P_leastOfValue_9 ?_
  refine qz_isub X dq_P_leastOfValue_10 ?_
  refine qz_bind h (fun q3 e4 h => ?_)
  refine qz_callV X (as := [.int ((1 : Int32) - x1)]) (st := []) (o := some (.long q3.1)) (N' := q3.2) cq_P_68 ho (cP_reserveAt l G X.2.2.2.2.2.2.1 o ((1 : Int32) - x1) q1.2 ho _ e4) ⟨by decide, by decide⟩ rfl rfl (Nat.le_of_ble_eq_true rfl) ⟨Nat.zero_le _, Nat.zero_le _⟩ dq_P_leastOfValue_11 ?_
  refine qz_lstore X (lv' := [(6, .long q3.1), (4, .long q1.1), (0, .ref (G.2.2 2 o)), (1, .int x1), (2, .long x2)]) (by decide) rfl dq_P_leastOfValue_14 ?_
  refine qz_lload X 1 rfl dq_P_leastOfValue_16 ?_
  refine qz_lconst X (v := (0 : Int64)) (by decide) dq_P_leastOfValue_18 ?_
  refine qz_lcmp_eq X (tgt := 30) (by decide) dq_P_leastOfValue_19 dq_P_leastOfValue_20 h (fun _ h => ?_) (fun _ h => ?_)
  · refine qz_ldc2 X (v := (9223372036854775807 : Int64)) wq_318 dq_P_leastOfValue_30 ?_
    exact qz_lret X h dq_P_leastOfValue_33
  · refine qz_lload X 0 rfl dq_P_leastOfValue_23 ?_
    refine qz_lconst X (v := (0 : Int64)) (by decide) dq_P_leastOfValue_25 ?_
    refine qz_lcmp_ne X (tgt := 34) (by decide) dq_P_leastOfValue_26 dq_P_leastOfValue_27 h (fun _ h => ?_) (fun _ h => ?_)
    · refine qz_lload_n X 4 rfl dq_P_leastOfValue_34 ?_
      refine qz_lload X 1 rfl dq_P_leastOfValue_35 ?_
      refine qz_lload X 0 rfl dq_P_leastOfValue_37 ?_
      refine qz_bind h (fun q5 e6 h => ?_)
      refine qz_callS X (as := [.long x2, .long q1.1, .long q3.1]) (st := []) (o := some (.long q5.1)) (N' := q5.2) cq_P_72 (cA_timesOverUp l G X.2.2.2.2.2.2.1 x2 q1.1 q3.1 q3.2 _ e6) ⟨by decide, by decide⟩ rfl rfl (Nat.le_of_ble_eq_true rfl) ⟨Nat.zero_le _, Nat.zero_le _⟩ dq_P_leastOfValue_39 ?_
      exact qz_lret X h dq_P_leastOfValue_42
    · refine qz_ldc2 X (v := (9223372036854775807 : Int64)) wq_318 dq_P_leastOfValue_30 ?_
      exact qz_lret X h dq_P_leastOfValue_33
theorem cP_leastOfValue (l : Launch) (G : qz_G) (hD : qz_D G) (o : Nat) (x1 : Int32) (x2 : Int64) (N : qz_N) (ho : o < 6) (r : (Int64 × qz_N)) (h : fP_leastOfValue o x1 x2 N = some r) : qz_M l yP_leastOfValue prog_6_method_15_code 8 (some .long) 3 G [.ref (G.2.2 2 o), .int x1, .long x2] N (some (.long r.1)) r.2 :=
  qz_enter (lv := [(0, .ref (G.2.2 2 o)), (1, .int x1), (2, .long x2)]) rfl hD (Nat.le_of_ble_eq_true rfl) rfl (fun p e s m args below meth c X => sP_leastOfValue X o x1 x2 ho N h)
-- ExactCurves.close(II)J
theorem dq_E_close_0 : decode prog_1_method_27_code 0 = .ok (.aload_n 0, 1) := by decide +kernel
theorem dq_E_close_1 : decode prog_1_method_27_code 1 = .ok (.iload_n 2, 1) := by decide +kernel
theorem dq_E_close_2 : decode prog_1_method_27_code 2 = .ok (.invokevirtual 274, 3) := by decide +kernel
theorem dq_E_close_5 : decode prog_1_method_27_code 5 = .ok (.astore_n 3, 1) := by decide +kernel
theorem dq_E_close_6 : decode prog_1_method_27_code 6 = .ok (.iload_n 1, 1) := by decide +kernel
theorem dq_E_close_7 : decode prog_1_method_27_code 7 = .ok (.invokestatic 51, 3) := by decide +kernel
theorem dq_E_close_10 : decode prog_1_method_27_code 10 = .ok (.ifCond .eq 7, 3) := by decide +kernel
theorem dq_E_close_13 : decode prog_1_method_27_code 13 = .ok (.aload_n 3, 1) := by decide +kernel
theorem dq_E_close_14 : decode prog_1_method_27_code 14 = .ok (.ifnonnull 7, 3) := by decide +kernel
theorem dq_E_close_17 : decode prog_1_method_27_code 17 = .ok (.ldc2_w 60, 3) := by decide +kernel
theorem dq_E_close_20 : decode prog_1_method_27_code 20 = .ok (.lreturn, 1) := by decide +kernel
theorem dq_E_close_21 : decode prog_1_method_27_code 21 = .ok (.aload_n 0, 1) := by decide +kernel
theorem dq_E_close_22 : decode prog_1_method_27_code 22 = .ok (.aload_n 3, 1) := by decide +kernel
theorem dq_E_close_23 : decode prog_1_method_27_code 23 = .ok (.invokevirtual 291, 3) := by decide +kernel
theorem dq_E_close_26 : decode prog_1_method_27_code 26 = .ok (.lstore 4, 2) := by decide +kernel
theorem dq_E_close_28 : decode prog_1_method_27_code 28 = .ok (.aload_n 0, 1) := by decide +kernel
theorem dq_E_close_29 : decode prog_1_method_27_code 29 = .ok (.aload_n 3, 1) := by decide +kernel
theorem dq_E_close_30 : decode prog_1_method_27_code 30 = .ok (.invokevirtual 307, 3) := by decide +kernel
theorem dq_E_close_33 : decode prog_1_method_27_code 33 = .ok (.istore 6, 2) := by decide +kernel
theorem dq_E_close_35 : decode prog_1_method_27_code 35 = .ok (.aload_n 0, 1) := by decide +kernel
theorem dq_E_close_36 : decode prog_1_method_27_code 36 = .ok (.aload_n 3, 1) := by decide +kernel
theorem dq_E_close_37 : decode prog_1_method_27_code 37 = .ok (.invokevirtual 298, 3) := by decide +kernel
theorem dq_E_close_40 : decode prog_1_method_27_code 40 = .ok (.ifCond .eq 19, 3) := by decide +kernel
theorem dq_E_close_43 : decode prog_1_method_27_code 43 = .ok (.aload_n 0, 1) := by decide +kernel
theorem dq_E_close_44 : decode prog_1_method_27_code 44 = .ok (.getfield 10, 3) := by decide +kernel
theorem dq_E_close_47 : decode prog_1_method_27_code 47 = .ok (.iload_n 1, 1) := by decide +kernel
theorem dq_E_close_48 : decode prog_1_method_27_code 48 = .ok (.iload 6, 2) := by decide +kernel
theorem dq_E_close_50 : decode prog_1_method_27_code 50 = .ok (.invokevirtual 72, 3) := by decide +kernel
theorem dq_E_close_53 : decode prog_1_method_27_code 53 = .ok (.lload 4, 2) := by decide +kernel
theorem dq_E_close_55 : decode prog_1_method_27_code 55 = .ok (.lcmp, 1) := by decide +kernel
theorem dq_E_close_56 : decode prog_1_method_27_code 56 = .ok (.ifCond .ge 7, 3) := by decide +kernel
theorem dq_E_close_59 : decode prog_1_method_27_code 59 = .ok (.ldc2_w 66, 3) := by decide +kernel
theorem dq_E_close_62 : decode prog_1_method_27_code 62 = .ok (.lreturn, 1) := by decide +kernel
theorem dq_E_close_63 : decode prog_1_method_27_code 63 = .ok (.lload 4, 2) := by decide +kernel
theorem dq_E_close_65 : decode prog_1_method_27_code 65 = .ok (.ldc2_w 317, 3) := by decide +kernel
theorem dq_E_close_68 : decode prog_1_method_27_code 68 = .ok (.ldc2_w 319, 3) := by decide +kernel
theorem dq_E_close_71 : decode prog_1_method_27_code 71 = .ok (.invokestatic 321, 3) := by decide +kernel
theorem dq_E_close_74 : decode prog_1_method_27_code 74 = .ok (.lstore 7, 2) := by decide +kernel
theorem dq_E_close_76 : decode prog_1_method_27_code 76 = .ok (.aload_n 3, 1) := by decide +kernel
theorem dq_E_close_77 : decode prog_1_method_27_code 77 = .ok (.getfield 285, 3) := by decide +kernel
theorem dq_E_close_80 : decode prog_1_method_27_code 80 = .ok (.aload_n 0, 1) := by decide +kernel
theorem dq_E_close_81 : decode prog_1_method_27_code 81 = .ok (.getfield 18, 3) := by decide +kernel
theorem dq_E_close_84 : decode prog_1_method_27_code 84 = .ok (.aload_n 3, 1) := by decide +kernel
theorem dq_E_close_85 : decode prog_1_method_27_code 85 = .ok (.getfield 281, 3) := by decide +kernel
theorem dq_E_close_88 : decode prog_1_method_27_code 88 = .ok (.aaload, 1) := by decide +kernel
theorem dq_E_close_89 : decode prog_1_method_27_code 89 = .ok (.aload_n 3, 1) := by decide +kernel
theorem dq_E_close_90 : decode prog_1_method_27_code 90 = .ok (.getfield 282, 3) := by decide +kernel
theorem dq_E_close_93 : decode prog_1_method_27_code 93 = .ok (.lload 7, 2) := by decide +kernel
theorem dq_E_close_95 : decode prog_1_method_27_code 95 = .ok (.invokevirtual 324, 3) := by decide +kernel
theorem dq_E_close_98 : decode prog_1_method_27_code 98 = .ok (.invokestatic 302, 3) := by decide +kernel
theorem dq_E_close_101 : decode prog_1_method_27_code 101 = .ok (.lstore 9, 2) := by decide +kernel
theorem dq_E_close_103 : decode prog_1_method_27_code 103 = .ok (.aload_n 0, 1) := by decide +kernel
theorem dq_E_close_104 : decode prog_1_method_27_code 104 = .ok (.getfield 10, 3) := by decide +kernel
theorem dq_E_close_107 : decode prog_1_method_27_code 107 = .ok (.iload_n 1, 1) := by decide +kernel
theorem dq_E_close_108 : decode prog_1_method_27_code 108 = .ok (.iload 6, 2) := by decide +kernel
theorem dq_E_close_110 : decode prog_1_method_27_code 110 = .ok (.lload 4, 2) := by decide +kernel
theorem dq_E_close_112 : decode prog_1_method_27_code 112 = .ok (.invokevirtual 200, 3) := by decide +kernel
theorem dq_E_close_115 : decode prog_1_method_27_code 115 = .ok (.aload_n 0, 1) := by decide +kernel
theorem dq_E_close_116 : decode prog_1_method_27_code 116 = .ok (.getfield 37, 3) := by decide +kernel
theorem dq_E_close_119 : decode prog_1_method_27_code 119 = .ok (.iload 6, 2) := by decide +kernel
theorem dq_E_close_121 : decode prog_1_method_27_code 121 = .ok (.aaload, 1) := by decide +kernel
theorem dq_E_close_122 : decode prog_1_method_27_code 122 = .ok (.dup, 1) := by decide +kernel
theorem dq_E_close_123 : decode prog_1_method_27_code 123 = .ok (.getfield 245, 3) := by decide +kernel
theorem dq_E_close_126 : decode prog_1_method_27_code 126 = .ok (.lload 4, 2) := by decide +kernel
theorem dq_E_close_128 : decode prog_1_method_27_code 128 = .ok (.ladd, 1) := by decide +kernel
theorem dq_E_close_129 : decode prog_1_method_27_code 129 = .ok (.putfield 245, 3) := by decide +kernel
theorem dq_E_close_132 : decode prog_1_method_27_code 132 = .ok (.aload_n 0, 1) := by decide +kernel
theorem dq_E_close_133 : decode prog_1_method_27_code 133 = .ok (.getfield 10, 3) := by decide +kernel
theorem dq_E_close_136 : decode prog_1_method_27_code 136 = .ok (.iload_n 1, 1) := by decide +kernel
theorem dq_E_close_137 : decode prog_1_method_27_code 137 = .ok (.aload_n 0, 1) := by decide +kernel
theorem dq_E_close_138 : decode prog_1_method_27_code 138 = .ok (.aload_n 3, 1) := by decide +kernel
theorem dq_E_close_139 : decode prog_1_method_27_code 139 = .ok (.invokevirtual 311, 3) := by decide +kernel
theorem dq_E_close_142 : decode prog_1_method_27_code 142 = .ok (.lload 9, 2) := by decide +kernel
theorem dq_E_close_144 : decode prog_1_method_27_code 144 = .ok (.invokevirtual 68, 3) := by decide +kernel
theorem dq_E_close_147 : decode prog_1_method_27_code 147 = .ok (.aload_n 0, 1) := by decide +kernel
theorem dq_E_close_148 : decode prog_1_method_27_code 148 = .ok (.getfield 10, 3) := by decide +kernel
theorem dq_E_close_151 : decode prog_1_method_27_code 151 = .ok (.aload_n 3, 1) := by decide +kernel
theorem dq_E_close_152 : decode prog_1_method_27_code 152 = .ok (.getfield 278, 3) := by decide +kernel
theorem dq_E_close_155 : decode prog_1_method_27_code 155 = .ok (.aload_n 0, 1) := by decide +kernel
theorem dq_E_close_156 : decode prog_1_method_27_code 156 = .ok (.aload_n 3, 1) := by decide +kernel
theorem dq_E_close_157 : decode prog_1_method_27_code 157 = .ok (.invokevirtual 311, 3) := by decide +kernel
theorem dq_E_close_160 : decode prog_1_method_27_code 160 = .ok (.aload_n 3, 1) := by decide +kernel
theorem dq_E_close_161 : decode prog_1_method_27_code 161 = .ok (.getfield 285, 3) := by decide +kernel
theorem dq_E_close_164 : decode prog_1_method_27_code 164 = .ok (.lload 9, 2) := by decide +kernel
theorem dq_E_close_166 : decode prog_1_method_27_code 166 = .ok (.lsub, 1) := by decide +kernel
theorem dq_E_close_167 : decode prog_1_method_27_code 167 = .ok (.invokevirtual 68, 3) := by decide +kernel
theorem dq_E_close_170 : decode prog_1_method_27_code 170 = .ok (.aload_n 3, 1) := by decide +kernel
theorem dq_E_close_171 : decode prog_1_method_27_code 171 = .ok (.iconst 0, 1) := by decide +kernel
theorem dq_E_close_172 : decode prog_1_method_27_code 172 = .ok (.putfield 314, 3) := by decide +kernel
theorem dq_E_close_175 : decode prog_1_method_27_code 175 = .ok (.lload 9, 2) := by decide +kernel
theorem dq_E_close_177 : decode prog_1_method_27_code 177 = .ok (.lreturn, 1) := by decide +kernel
def fE_close (o : Nat) (x1 : Int32) (x2 : Int32) (N : qz_N) : Option (Int64 × qz_N) :=
  (fE_loanAt o x2 N).bind fun q1 => qz_oc q1
    (fun N3 =>
    (fE_isPlayer x1 N3).bind fun q5 =>
    if q5.1 = 0 then
      some ((-2 : Int64), q5.2)
    else
    some ((-2 : Int64), q5.2))
    fun N3 j4 =>
    (fE_isPlayer x1 N3).bind fun q7 =>
    if q7.1 = 0 then
      some ((-2 : Int64), q7.2)
    else
    (fE_debtOf o j4 q7.2).bind fun q9 =>
    (fE_debtToken o j4 q9.2).bind fun q11 =>
    (fE_isUncovered o j4 q11.2).bind fun q13 =>
    if q13.1 = 0 then
      some ((-3 : Int64), q13.2)
    else
    (fU_held o x1 q11.1 q13.2).bind fun q15 =>
    if q9.1 ≤ q15.1 then
      (fA_timesOverUp q9.1 (105 : Int64) (100 : Int64) q15.2).bind fun q17 =>
      if (qz_gi q17.2 6 j4 2) < 0 ∨ 6 ≤ (qz_gi q17.2 6 j4 2).toNatClampNeg then none else
      (fP_leastOfValue ((qz_gi q17.2 6 j4 2).toNatClampNeg) (qz_gi q17.2 6 j4 3) q17.1 q17.2).bind fun q20 =>
      qz_let (if q20.1 < (qz_gl q17.2 6 j4 4) then q20.1 else (qz_gl q17.2 6 j4 4)) fun v22 =>
      (fU_take o x1 q11.1 q9.1 q20.2).bind fun q23 =>
      if q11.1 < 0 ∨ 4 ≤ q11.1.toNatClampNeg then none else
      qz_let (qz_sl q23.2 5 q11.1.toNatClampNeg 1 ((qz_gl q23.2 5 q11.1.toNatClampNeg 1) + q9.1)) fun N26 =>
      (fE_coverToken o j4 N26).bind fun q27 =>
      (fU_give o x1 q27.1 v22 q27.2).bind fun q29 =>
      (fE_coverToken o j4 q29.2).bind fun q31 =>
      (fU_give o (qz_gi q29.2 6 j4 1) q31.1 ((qz_gl q31.2 6 j4 4) - v22) q31.2).bind fun q33 =>
      qz_let (qz_si q33.2 6 j4 0 (0 : Int32)) fun N35 =>
      some (v22, N35)
    else
    some ((-3 : Int64), q15.2)
set_option maxRecDepth 100000 in
set_option maxHeartbeats 4000000 in
theorem sE_close {p : Program} {l : Launch} {e : Env} {s : State} {m : MethodId} {args : Array Value} {below : List Frame} {meth : Method} {c : Code} {G : qz_G} (X : qz_X p s m args meth c "ExactCurves" prog_1_method_27_code 11 (some .long) G) {r : (Int64 × qz_N)} (o : Nat) (x1 : Int32) (x2 : Int32) (ho : o < 1) (N : qz_N) (h : fE_close o x1 x2 N = some r) : qz_W p l e (qz_R 6) s m args below meth c 0 0 (MQ below (qz_Q G r.2 (some (.long r.1))) args s 0 0 (qz_A G)) G s.heap 11 N 0 [(0, .ref (G.2.2 0 o)), (1, .int x1), (2, .int x2)] [] := by
  unfold fE_close at h
  refine qz_aload_n X 0 rfl dq_E_close_0 ?_
  refine qz_iload_n X 2 rfl dq_E_close_1 ?_
  refine qz_bind h (fun q1 e2 h => ?_)
  obtain ⟨rq1, N3⟩ := q1
  cases rq1 with
  | none =>
    replace h := qz_ocN h
    refine qz_callV X (as := [.int x2]) (st := []) (o := some .null) (N' := N3) cq_E_274 ho (cE_loanAt l G X.2.2.2.2.2.2.1 o x2 N ho _ e2) ⟨by decide, by decide⟩ rfl rfl (Nat.le_of_ble_eq_true rfl) ⟨Nat.zero_le _, Nat.zero_le _⟩ dq_E_close_2 ?_
    refine qz_astore_nN X (lv' := [(3, .null), (0, .ref (G.2.2 0 o)), (1, .int x1), (2, .int x2)]) rfl (by decide) rfl dq_E_close_5 ?_
    refine qz_iload_n X 2 rfl dq_E_close_6 ?_
    refine qz_bind h (fun q5 e6 h => ?_)
    refine qz_callS X (as := [.int x1]) (st := []) (o := some (.int q5.1)) (N' := q5.2) cq_E_51 (cE_isPlayer l G X.2.2.2.2.2.2.1 x1 N3 _ e6) ⟨by decide, by decide⟩ rfl rfl (Nat.le_of_ble_eq_true rfl) ⟨Nat.zero_le _, Nat.zero_le _⟩ dq_E_close_7 ?_
    refine qz_if_eq X (tgt := 17) (by decide) dq_E_close_10 h (fun _ h => ?_) (fun _ h => ?_)
    · refine qz_ldc2 X (v := (-2 : Int64)) wq_252 dq_E_close_17 ?_
      exact qz_lret X h dq_E_close_20
    · refine qz_aload_nN X 0 rfl dq_E_close_13 ?_
      refine qz_ifnonnullN X dq_E_close_14 ?_
      refine qz_ldc2 X (v := (-2 : Int64)) wq_252 dq_E_close_17 ?_
      exact qz_lret X h dq_E_close_20
  | some j4 =>
    replace h := qz_ocS h
    refine qz_callV X (as := [.int x2]) (st := []) (o := some (.ref (G.2.2 6 j4))) (N' := N3) cq_E_274 ho (cE_loanAt l G X.2.2.2.2.2.2.1 o x2 N ho _ e2) ⟨by decide, by decide⟩ rfl rfl (Nat.le_of_ble_eq_true rfl) ⟨Nat.zero_le _, Nat.zero_le _⟩ dq_E_close_2 ?_
    refine qz_astore_n X (lv' := [(3, .ref (G.2.2 6 j4)), (0, .ref (G.2.2 0 o)), (1, .int x1), (2, .int x2)]) rfl (by decide) rfl dq_E_close_5 ?_
    refine qz_iload_n X 2 rfl dq_E_close_6 ?_
    refine qz_bind h (fun q7 e8 h => ?_)
    refine qz_callS X (as := [.int x1]) (st := []) (o := some (.int q7.1)) (N' := q7.2) cq_E_51 (cE_isPlayer l G X.2.2.2.2.2.2.1 x1 N3 _ e8) ⟨by decide, by decide⟩ rfl rfl (Nat.le_of_ble_eq_true rfl) ⟨Nat.zero_le _, Nat.zero_le _⟩ dq_E_close_7 ?_
    refine qz_if_eq X (tgt := 17) (by decide) dq_E_close_10 h (fun _ h => ?_) (fun _ h => ?_)
    · refine qz_ldc2 X (v := (-2 : Int64)) wq_252 dq_E_close_17 ?_
      exact qz_lret X h dq_E_close_20
    · refine qz_aload_n X 0 rfl dq_E_close_13 ?_
      refine qz_ifnonnull X (tgt := 21) (by decide) dq_E_close_14 ?_
      refine qz_aload_n X 1 rfl dq_E_close_21 ?_
      refine qz_aload_n X 0 rfl dq_E_close_22 ?_
      refine qz_bind h (fun q9 e10 h => ?_)
      refine qz_callV X (as := [.ref (G.2.2 6 j4)]) (st := []) (o := some (.long q9.1)) (N' := q9.2) cq_E_291 ho (cE_debtOf l G X.2.2.2.2.2.2.1 o j4 q7.2 ho (vE_loanAt e2 j4 rfl) _ e10) ⟨by decide, by decide⟩ rfl rfl (Nat.le_of_ble_eq_true rfl) ⟨Nat.zero_le _, Nat.zero_le _⟩ dq_E_close_23 ?_
      refine qz_lstore X (lv' := [(4, .long q9.1), (3, .ref (G.2.2 6 j4)), (0, .ref (G.2.2 0 o)), (1, .int x1), (2, .int x2)]) (by decide) rfl dq_E_close_26 ?_
      refine qz_aload_n X 2 rfl dq_E_close_28 ?_
      refine qz_aload_n X 1 rfl dq_E_close_29 ?_
      refine qz_bind h (fun q11 e12 h => ?_)
      refine qz_callV X (as := [.ref (G.2.2 6 j4)]) (st := []) (o := some (.int q11.1)) (N' := q11.2) cq_E_307 ho (cE_debtToken l G X.2.2.2.2.2.2.1 o j4 q9.2 ho (vE_loanAt e2 j4 rfl) _ e12) ⟨by decide, by decide⟩ rfl rfl (Nat.le_of_ble_eq_true rfl) ⟨Nat.zero_le _, Nat.zero_le _⟩ dq_E_close_30 ?_
      refine qz_istore X (lv' := [(6, .int q11.1), (4, .long q9.1), (3, .ref (G.2.2 6 j4)), (0, .ref (G.2.2 0 o)), (1, .int x1), (2, .int x2)]) (by decide) rfl dq_E_close_33 ?_
      refine qz_aload_n X 3 rfl dq_E_close_35 ?_
      refine qz_aload_n X 2 rfl dq_E_close_36 ?_
      refine qz_bind h (fun q13 e14 h => ?_)
      refine qz_callV X (as := [.ref (G.2.2 6 j4)]) (st := []) (o := some (.int q13.1)) (N' := q13.2) cq_E_298 ho (cE_isUncovered l G X.2.2.2.2.2.2.1 o j4 q11.2 ho (vE_loanAt e2 j4 rfl) _ e14) ⟨by decide, by decide⟩ rfl rfl (Nat.le_of_ble_eq_true rfl) ⟨Nat.zero_le _, Nat.zero_le _⟩ dq_E_close_37 ?_
      refine qz_if_eq X (tgt := 59) (by decide) dq_E_close_40 h (fun _ h => ?_) (fun _ h => ?_)
      · refine qz_ldc2 X (v := (-3 : Int64)) wq_253 dq_E_close_59 ?_
        exact qz_lret X h dq_E_close_62
      · refine qz_aload_n X 3 rfl dq_E_close_43 ?_
        refine qz_get X (v := .ref (G.2.2 1 o)) kq_E_10 ho rfl dq_E_close_44 ?_
        refine qz_iload_n X 4 rfl dq_E_close_47 ?_
        refine qz_iload X 0 rfl dq_E_close_48 ?_
        refine qz_bind h (fun q15 e16 h => ?_)
        refine qz_callV X (as := [.int x1, .int q11.1]) (st := []) (o := some (.long q15.1)) (N' := q15.2) cq_E_72 ho (cU_held l G X.2.2.2.2.2.2.1 o x1 q11.1 q13.2 ho _ e16) ⟨by decide, by decide⟩ rfl rfl (Nat.le_of_ble_eq_true rfl) ⟨Nat.zero_le _, Nat.zero_le _⟩ dq_E_close_50 ?_
        refine qz_lload X 1 rfl dq_E_close_53 ?_
        refine qz_lcmp_ge X (tgt := 63) (by decide) dq_E_close_55 dq_E_close_56 h (fun _ h => ?_) (fun _ h => ?_)
        · refine qz_lload X 1 rfl dq_E_close_63 ?_
          refine qz_ldc2 X (v := (105 : Int64)) wq_582 dq_E_close_65 ?_
          refine qz_ldc2 X (v := (100 : Int64)) wq_583 dq_E_close_68 ?_
          refine qz_bind h (fun q17 e18 h => ?_)
          refine qz_callS X (as := [.long q9.1, .long (105 : Int64), .long (100 : Int64)]) (st := []) (o := some (.long q17.1)) (N' := q17.2) cq_E_321 (cA_timesOverUp l G X.2.2.2.2.2.2.1 q9.1 (105 : Int64) (100 : Int64) q15.2 _ e18) ⟨by decide, by decide⟩ rfl rfl (Nat.le_of_ble_eq_true rfl) ⟨Nat.zero_le _, Nat.zero_le _⟩ dq_E_close_71 ?_
          refine qz_lstore X (lv' := [(7, .long q17.1), (6, .int q11.1), (4, .long q9.1), (3, .ref (G.2.2 6 j4)), (0, .ref (G.2.2 0 o)), (1, .int x1), (2, .int x2)]) (by decide) rfl dq_E_close_74 ?_
          refine qz_aload_n X 3 rfl dq_E_close_76 ?_
          refine qz_get X (v := .long (qz_gl q17.2 6 j4 4)) kq_E_285 (vE_loanAt e2 j4 rfl) rfl dq_E_close_77 ?_
          refine qz_aload_n X 4 rfl dq_E_close_80 ?_
          refine qz_get X (v := .ref (G.2.2 8 o)) kq_E_18 ho rfl dq_E_close_81 ?_
          refine qz_aload_n X 3 rfl dq_E_close_84 ?_
          refine qz_get X (v := .int (qz_gi q17.2 6 j4 2)) kq_E_281 (vE_loanAt e2 j4 rfl) rfl dq_E_close_85 ?_
          refine qz_aald X (c0 := 8) (i := o) (tg := 2) (n := 6) rfl rfl ho dq_E_close_88 h (fun hb19 h => ?_)
          refine qz_aload_n X 3 rfl dq_E_close_89 ?_
          refine qz_get X (v := .int (qz_gi q17.2 6 j4 3)) kq_E_282 (vE_loanAt e2 j4 rfl) rfl dq_E_close_90 ?_
          refine qz_lload X 0 rfl dq_E_close_93 ?_
          refine qz_bind h (fun q20 e21 h => ?_)
          refine qz_callV X (as := [.int (qz_gi q17.2 6 j4 3), .long q17.1]) (st := [.long (qz_gl q17.2 6 j4 4)]) (o := some (.long q20.1)) (N' := q20.2) cq_E_324 hb19 (cP_leastOfValue l G X.2.2.2.2.2.2.1 ((qz_gi q17.2 6 j4 2).toNatClampNeg) (qz_gi q17.2 6 j4 3) q17.1 q17.2 hb19 _ e21) ⟨by decide, by decide⟩ rfl rfl (Nat.le_of_ble_eq_true rfl) ⟨Nat.zero_le _, Nat.zero_le _⟩ dq_E_close_95 ?_
          refine qz_mmin X (st := []) wq_573 ⟨mq_min, wq_327, wq_11⟩ ⟨by decide, by decide⟩ (Nat.le_of_ble_eq_true rfl) ⟨Nat.zero_le _, Nat.zero_le _⟩ dq_E_close_98 ?_
          refine qz_letj h (fun v22 h => ?_)
          refine qz_lstore X (lv' := [(9, .long v22), (7, .long q17.1), (6, .int q11.1), (4, .long q9.1), (3, .ref (G.2.2 6 j4)), (0, .ref (G.2.2 0 o)), (1, .int x1), (2, .int x2)]) (by decide) rfl dq_E_close_101 ?_
          refine qz_aload_n X 5 rfl dq_E_close_103 ?_
          refine qz_get X (v := .ref (G.2.2 1 o)) kq_E_10 ho rfl dq_E_close_104 ?_
          refine qz_iload_n X 6 rfl dq_E_close_107 ?_
          refine qz_iload X 2 rfl dq_E_close_108 ?_
          refine qz_lload X 3 rfl dq_E_close_110 ?_
          refine qz_bind h (fun q23 e24 h => ?_)
          refine qz_callV X (as := [.int x1, .int q11.1, .long q9.1]) (st := []) (o := none) (N' := q23.2) cq_E_200 ho (cU_take l G X.2.2.2.2.2.2.1 o x1 q11.1 q9.1 q20.2 ho _ e24) ⟨by decide, by decide⟩ rfl rfl (Nat.le_of_ble_eq_true rfl) ⟨Nat.zero_le _, Nat.zero_le _⟩ dq_E_close_112 ?_
          refine qz_aload_n X 5 rfl dq_E_close_115 ?_
          refine qz_get X (v := .ref (G.2.2 10 o)) kq_E_37 ho rfl dq_E_close_116 ?_
          refine qz_iload X 2 rfl dq_E_close_119 ?_
          refine qz_aald X (c0 := 10) (i := o) (tg := 5) (n := 4) rfl rfl ho dq_E_close_121 h (fun hb25 h => ?_)
          refine qz_dup X rfl dq_E_close_122 ?_
          refine qz_get X (v := .long (qz_gl q23.2 5 q11.1.toNatClampNeg 1)) kq_E_245 hb25 rfl dq_E_close_123 ?_
          refine qz_lload X 3 rfl dq_E_close_126 ?_
          refine qz_ladd X dq_E_close_128 ?_
          refine qz_putJ X kq_E_245 hb25 dq_E_close_129 h (fun N26 h => ?_)
          refine qz_aload_n X 5 rfl dq_E_close_132 ?_
          refine qz_get X (v := .ref (G.2.2 1 o)) kq_E_10 ho rfl dq_E_close_133 ?_
          refine qz_iload_n X 6 rfl dq_E_close_136 ?_
          refine qz_aload_n X 5 rfl dq_E_close_137 ?_
          refine qz_aload_n X 4 rfl dq_E_close_138 ?_
          refine qz_bind h (fun q27 e28 h => ?_)
          refine qz_callV X (as := [.ref (G.2.2 6 j4)]) (st := [.int x1, .ref (G.2.2 1 o)]) (o := some (.int q27.1)) (N' := q27.2) cq_E_311 ho (cE_coverToken l G X.2.2.2.2.2.2.1 o j4 N26 ho (vE_loanAt e2 j4 rfl) _ e28) ⟨by decide, by decide⟩ rfl rfl (Nat.le_of_ble_eq_true rfl) ⟨Nat.zero_le _, Nat.zero_le _⟩ dq_E_close_139 ?_
          refine qz_lload X 0 rfl dq_E_close_142 ?_
          refine qz_bind h (fun q29 e30 h => ?_)
          refine qz_callV X (as := [.int x1, .int q27.1, .long v22]) (st := []) (o := none) (N' := q29.2) cq_E_68 ho (cU_give l G X.2.2.2.2.2.2.1 o x1 q27.1 v22 q27.2 ho _ e30) ⟨by decide, by decide⟩ rfl rfl (Nat.le_of_ble_eq_true rfl) ⟨Nat.zero_le _, Nat.zero_le _⟩ dq_E_close_144 ?_
          refine qz_aload_n X 5 rfl dq_E_close_147 ?_
          refine qz_get X (v := .ref (G.2.2 1 o)) kq_E_10 ho rfl dq_E_close_148 ?_
          refine qz_aload_n X 4 rfl dq_E_close_151 ?_
          refine qz_get X (v := .int (qz_gi q29.2 6 j4 1)) kq_E_278 (vE_loanAt e2 j4 rfl) rfl dq_E_close_152 ?_
          refine qz_aload_n X 5 rfl dq_E_close_155 ?_
          refine qz_aload_n X 4 rfl dq_E_close_156 ?_
          refine qz_bind h (fun q31 e32 h => ?_)
          refine qz_callV X (as := [.ref (G.2.2 6 j4)]) (st := [.int (qz_gi q29.2 6 j4 1), .ref (G.2.2 1 o)]) (o := some (.int q31.1)) (N' := q31.2) cq_E_311 ho (cE_coverToken l G X.2.2.2.2.2.2.1 o j4 q29.2 ho (vE_loanAt e2 j4 rfl) _ e32) ⟨by decide, by decide⟩ rfl rfl (Nat.le_of_ble_eq_true rfl) ⟨Nat.zero_le _, Nat.zero_le _⟩ dq_E_close_157 ?_
          refine qz_aload_n X 4 rfl dq_E_close_160 ?_
          refine qz_get X (v := .long (qz_gl q31.2 6 j4 4)) kq_E_285 (vE_loanAt e2 j4 rfl) rfl dq_E_close_161 ?_
          refine qz_lload X 0 rfl dq_E_close_164 ?_
          refine qz_lsub X dq_E_close_166 ?_
          refine qz_bind h (fun q33 e34 h => ?_)
          refine qz_callV X (as := [.int (qz_gi q29.2 6 j4 1), .int q31.1, .long ((qz_gl q31.2 6 j4 4) - v22)]) (st := []) (o := none) (N' := q33.2) cq_E_68 ho (cU_give l G X.2.2.2.2.2.2.1 o (qz_gi q29.2 6 j4 1) q31.1 ((qz_gl q31.2 6 j4 4) - v22) q31.2 ho _ e34) ⟨by decide, by decide⟩ rfl rfl (Nat.le_of_ble_eq_true rfl) ⟨Nat.zero_le _, Nat.zero_le _⟩ dq_E_close_167 ?_
          refine qz_aload_n X 4 rfl dq_E_close_170 ?_
          refine qz_iconst X (v := (0 : Int32)) (by decide) dq_E_close_171 ?_
          refine qz_putZ X kq_E_314 (vE_loanAt e2 j4 rfl) ⟨by decide, by decide⟩ dq_E_close_172 h (fun N35 h => ?_)
          refine qz_lload X 0 rfl dq_E_close_175 ?_
          exact qz_lret X h dq_E_close_177
        · refine qz_ldc2 X (v := (-3 : Int64)) wq_253 dq_E_close_59 ?_
          exact qz_lret X h dq_E_close_62
theorem cE_close (l : Launch) (G : qz_G) (hD : qz_D G) (o : Nat) (x1 : Int32) (x2 : Int32) (N : qz_N) (ho : o < 1) (r : (Int64 × qz_N)) (h : fE_close o x1 x2 N = some r) : qz_M l yE_close prog_1_method_27_code 11 (some .long) 6 G [.ref (G.2.2 0 o), .int x1, .int x2] N (some (.long r.1)) r.2 :=
  qz_enter (lv := [(0, .ref (G.2.2 0 o)), (1, .int x1), (2, .int x2)]) rfl hD (Nat.le_of_ble_eq_true rfl) rfl (fun p e s m args below meth c X => sE_close X o x1 x2 ho N h)
