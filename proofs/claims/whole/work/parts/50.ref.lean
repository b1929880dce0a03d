-- ExactCurvesModel.isOpen(I)Z
theorem dq_M_isOpen_0 : decode prog_10_method_56_code 0 = .ok (.iload_n 1, 1) := by decide +kernel
theorem dq_M_isOpen_1 : decode prog_10_method_56_code 1 = .ok (.ifCond .lt 22, 3) := by decide +kernel
theorem dq_M_isOpen_4 : decode prog_10_method_56_code 4 = .ok (.iload_n 1, 1) := by decide +kernel
theorem dq_M_isOpen_5 : decode prog_10_method_56_code 5 = .ok (.bipush 10, 2) := by decide +kernel
theorem dq_M_isOpen_7 : decode prog_10_method_56_code 7 = .ok (.if_icmp .ge 16, 3) := by decide +kernel
theorem dq_M_isOpen_10 : decode prog_10_method_56_code 10 = .ok (.aload_n 0, 1) := by decide +kernel
theorem dq_M_isOpen_11 : decode prog_10_method_56_code 11 = .ok (.getfield 88, 3) := by decide +kernel
theorem dq_M_isOpen_14 : decode prog_10_method_56_code 14 = .ok (.iload_n 1, 1) := by decide +kernel
theorem dq_M_isOpen_15 : decode prog_10_method_56_code 15 = .ok (.baload, 1) := by decide +kernel
theorem dq_M_isOpen_16 : decode prog_10_method_56_code 16 = .ok (.ifCond .eq 7, 3) := by decide +kernel
theorem dq_M_isOpen_19 : decode prog_10_method_56_code 19 = .ok (.iconst 1, 1) := by decide +kernel
theorem dq_M_isOpen_20 : decode prog_10_method_56_code 20 = .ok (.goto 4, 3) := by decide +kernel
theorem dq_M_isOpen_23 : decode prog_10_method_56_code 23 = .ok (.iconst 0, 1) := by decide +kernel
theorem dq_M_isOpen_24 : decode prog_10_method_56_code 24 = .ok (.ireturn, 1) := by decide +kernel
def fM_isOpen (o : Nat) (x1 : Int32) (N : qz_N) : Option (Int32 × qz_N) :=
  if x1 < 0 then
    some ((0 : Int32), N)
  else
  if (10 : Int32) ≤ x1 then
    some ((0 : Int32), N)
  else
  if x1 < 0 ∨ 10 ≤ x1.toNatClampNeg then none else
  if (qz_gi N 46 o x1.toNatClampNeg) = 0 then
    some ((0 : Int32), N)
  else
  some ((1 : Int32), N)
set_option maxRecDepth 100000 in
set_option maxHeartbeats 4000000 in
theorem sM_isOpen {p : Program} {l : Launch} {e : Env} {s : State} {m : MethodId} {args : Array Value} {below : List Frame} {meth : Method} {c : Code} {G : qz_G} (X : qz_X p s m args meth c "ExactCurvesModel" prog_10_method_56_code 2 (some .boolean) G) {r : (Int32 × qz_N)} (o : Nat) (x1 : Int32) (ho : o < 1) (N : qz_N) (h : fM_isOpen o x1 N = some r) : qz_W p l e (qz_R 0) s m args below meth c 0 0 (MQ below (qz_Q G r.2 (some (.int r.1))) args s 0 0 (qz_A G)) G s.heap 2 N 0 [(0, .ref (G.2.2 7 o)), (1, .int x1)] [] := by
  unfold fM_isOpen at h
  refine qz_iload_n X 1 rfl dq_M_isOpen_0 ?_
  refine qz_if_lt X (tgt := 23) (by decide) dq_M_isOpen_1 h (fun _ h => ?_) (fun _ h => ?_)
  · refine qz_iconst X (v := (0 : Int32)) (by decide) dq_M_isOpen_23 ?_
    exact qz_zret X (by decide) h dq_M_isOpen_24
  · refine qz_iload_n X 1 rfl dq_M_isOpen_4 ?_
    refine qz_bipush X (v := (10 : Int32)) (by decide) dq_M_isOpen_5 ?_
    refine qz_icmp_ge X (tgt := 23) (by decide) dq_M_isOpen_7 h (fun _ h => ?_) (fun _ h => ?_)
    · refine qz_iconst X (v := (0 : Int32)) (by decide) dq_M_isOpen_23 ?_
      exact qz_zret X (by decide) h dq_M_isOpen_24
    · refine qz_aload_n X 0 rfl dq_M_isOpen_10 ?_
      refine qz_get X (v := .ref (G.2.2 46 o)) kq_M_88 ho rfl dq_M_isOpen_11 ?_
      refine qz_iload_n X 1 rfl dq_M_isOpen_14 ?_
      refine qz_zald X (c0 := 46) (i := o) (n := 10) rfl ho dq_M_isOpen_15 h (fun h => ?_)
      refine qz_if_eq X (tgt := 23) (by decide) dq_M_isOpen_16 h (fun _ h => ?_) (fun _ h => ?_)
      · refine qz_iconst X (v := (0 : Int32)) (by decide) dq_M_isOpen_23 ?_
        exact qz_zret X (by decide) h dq_M_isOpen_24
      · refine qz_iconst X (v := (1 : Int32)) (by decide) dq_M_isOpen_19 ?_
        refine qz_goto X (tgt := 24) (by decide) dq_M_isOpen_20 ?_
        exact qz_zret X (by decide) h dq_M_isOpen_24
theorem cM_isOpen (l : Launch) (G : qz_G) (hD : qz_D G) (o : Nat) (x1 : Int32) (N : qz_N) (ho : o < 1) (r : (Int32 × qz_N)) (h : fM_isOpen o x1 N = some r) : qz_M l yM_isOpen prog_10_method_56_code 2 (some .boolean) 0 G [.ref (G.2.2 7 o), .int x1] N (some (.int r.1)) r.2 :=
  qz_enter (lv := [(0, .ref (G.2.2 7 o)), (1, .int x1)]) rfl hD (Nat.le_of_ble_eq_true rfl) rfl (fun p e s m args below meth c X => sM_isOpen X o x1 ho N h)
-- ExactCurvesModel.ofLoan(II)J
theorem dq_M_ofLoan_0 : decode prog_10_method_57_code 0 = .ok (.aload_n 0, 1) := by decide +kernel
theorem dq_M_ofLoan_1 : decode prog_10_method_57_code 1 = .ok (.iload_n 1, 1) := by decide +kernel
theorem dq_M_ofLoan_2 : decode prog_10_method_57_code 2 = .ok (.invokevirtual 279, 3) := by decide +kernel
theorem dq_M_ofLoan_5 : decode prog_10_method_57_code 5 = .ok (.ifCond .ne 7, 3) := by decide +kernel
theorem dq_M_ofLoan_8 : decode prog_10_method_57_code 8 = .ok (.ldc2_w 175, 3) := by decide +kernel
theorem dq_M_ofLoan_11 : decode prog_10_method_57_code 11 = .ok (.lreturn, 1) := by decide +kernel
theorem dq_M_ofLoan_12 : decode prog_10_method_57_code 12 = .ok (.iload_n 2, 1) := by decide +kernel
theorem dq_M_ofLoan_13 : decode prog_10_method_57_code 13 = .ok (.tableswitch 111 0 7 #[47, 55, 63, 71, 78, 85, 91, 97], 47) := by decide +kernel
theorem dq_M_ofLoan_60 : decode prog_10_method_57_code 60 = .ok (.aload_n 0, 1) := by decide +kernel
theorem dq_M_ofLoan_61 : decode prog_10_method_57_code 61 = .ok (.getfield 91, 3) := by decide +kernel
theorem dq_M_ofLoan_64 : decode prog_10_method_57_code 64 = .ok (.iload_n 1, 1) := by decide +kernel
theorem dq_M_ofLoan_65 : decode prog_10_method_57_code 65 = .ok (.iaload, 1) := by decide +kernel
theorem dq_M_ofLoan_66 : decode prog_10_method_57_code 66 = .ok (.i2l, 1) := by decide +kernel
theorem dq_M_ofLoan_67 : decode prog_10_method_57_code 67 = .ok (.lreturn, 1) := by decide +kernel
theorem dq_M_ofLoan_68 : decode prog_10_method_57_code 68 = .ok (.aload_n 0, 1) := by decide +kernel
theorem dq_M_ofLoan_69 : decode prog_10_method_57_code 69 = .ok (.getfield 94, 3) := by decide +kernel
theorem dq_M_ofLoan_72 : decode prog_10_method_57_code 72 = .ok (.iload_n 1, 1) := by decide +kernel
theorem dq_M_ofLoan_73 : decode prog_10_method_57_code 73 = .ok (.iaload, 1) := by decide +kernel
theorem dq_M_ofLoan_74 : decode prog_10_method_57_code 74 = .ok (.i2l, 1) := by decide +kernel
theorem dq_M_ofLoan_75 : decode prog_10_method_57_code 75 = .ok (.lreturn, 1) := by decide +kernel
theorem dq_M_ofLoan_76 : decode prog_10_method_57_code 76 = .ok (.aload_n 0, 1) := by decide +kernel
theorem dq_M_ofLoan_77 : decode prog_10_method_57_code 77 = .ok (.getfield 97, 3) := by decide +kernel
theorem dq_M_ofLoan_80 : decode prog_10_method_57_code 80 = .ok (.iload_n 1, 1) := by decide +kernel
theorem dq_M_ofLoan_81 : decode prog_10_method_57_code 81 = .ok (.iaload, 1) := by decide +kernel
theorem dq_M_ofLoan_82 : decode prog_10_method_57_code 82 = .ok (.i2l, 1) := by decide +kernel
theorem dq_M_ofLoan_83 : decode prog_10_method_57_code 83 = .ok (.lreturn, 1) := by decide +kernel
theorem dq_M_ofLoan_84 : decode prog_10_method_57_code 84 = .ok (.aload_n 0, 1) := by decide +kernel
theorem dq_M_ofLoan_85 : decode prog_10_method_57_code 85 = .ok (.getfield 100, 3) := by decide +kernel
theorem dq_M_ofLoan_88 : decode prog_10_method_57_code 88 = .ok (.iload_n 1, 1) := by decide +kernel
theorem dq_M_ofLoan_89 : decode prog_10_method_57_code 89 = .ok (.laload, 1) := by decide +kernel
theorem dq_M_ofLoan_90 : decode prog_10_method_57_code 90 = .ok (.lreturn, 1) := by decide +kernel
theorem dq_M_ofLoan_91 : decode prog_10_method_57_code 91 = .ok (.aload_n 0, 1) := by decide +kernel
theorem dq_M_ofLoan_92 : decode prog_10_method_57_code 92 = .ok (.getfield 103, 3) := by decide +kernel
theorem dq_M_ofLoan_95 : decode prog_10_method_57_code 95 = .ok (.iload_n 1, 1) := by decide +kernel
theorem dq_M_ofLoan_96 : decode prog_10_method_57_code 96 = .ok (.laload, 1) := by decide +kernel
theorem dq_M_ofLoan_97 : decode prog_10_method_57_code 97 = .ok (.lreturn, 1) := by decide +kernel
theorem dq_M_ofLoan_98 : decode prog_10_method_57_code 98 = .ok (.aload_n 0, 1) := by decide +kernel
theorem dq_M_ofLoan_99 : decode prog_10_method_57_code 99 = .ok (.iload_n 1, 1) := by decide +kernel
theorem dq_M_ofLoan_100 : decode prog_10_method_57_code 100 = .ok (.invokevirtual 255, 3) := by decide +kernel
theorem dq_M_ofLoan_103 : decode prog_10_method_57_code 103 = .ok (.lreturn, 1) := by decide +kernel
theorem dq_M_ofLoan_104 : decode prog_10_method_57_code 104 = .ok (.aload_n 0, 1) := by decide +kernel
theorem dq_M_ofLoan_105 : decode prog_10_method_57_code 105 = .ok (.iload_n 1, 1) := by decide +kernel
theorem dq_M_ofLoan_106 : decode prog_10_method_57_code 106 = .ok (.invokevirtual 270, 3) := by decide +kernel
theorem dq_M_ofLoan_109 : decode prog_10_method_57_code 109 = .ok (.lreturn, 1) := by decide +kernel
theorem dq_M_ofLoan_110 : decode prog_10_method_57_code 110 = .ok (.aload_n 0, 1) := by decide +kernel
theorem dq_M_ofLoan_111 : decode prog_10_method_57_code 111 = .ok (.iload_n 1, 1) := by decide +kernel
theorem dq_M_ofLoan_112 : decode prog_10_method_57_code 112 = .ok (.invokevirtual 282, 3) := by decide +kernel
theorem dq_M_ofLoan_115 : decode prog_10_method_57_code 115 = .ok (.ifCond .eq 7, 3) := by decide +kernel
theorem dq_M_ofLoan_118 : decode prog_10_method_57_code 118 = .ok (.lconst 1, 1) := by decide +kernel
theorem dq_M_ofLoan_119 : decode prog_10_method_57_code 119 = .ok (.goto 4, 3) := by decide +kernel
theorem dq_M_ofLoan_122 : decode prog_10_method_57_code 122 = .ok (.lconst 0, 1) := by decide +kernel
theorem dq_M_ofLoan_123 : decode prog_10_method_57_code 123 = .ok (.lreturn, 1) := by decide +kernel
theorem dq_M_ofLoan_124 : decode prog_10_method_57_code 124 = .ok (.ldc2_w 175, 3) := by decide +kernel
theorem dq_M_ofLoan_127 : decode prog_10_method_57_code 127 = .ok (.lreturn, 1) := by decide +kernel
def fM_ofLoan (o : Nat) (x1 : Int32) (x2 : Int32) (N : qz_N) : Option (Int64 × qz_N) :=
  (fM_isOpen o x1 N).bind fun q1 =>
  if q1.1 = 0 then
    some ((-2 : Int64), q1.2)
  else
  if x2 = (0 : Int32) then
    if x1 < 0 ∨ 10 ≤ x1.toNatClampNeg then none else
    some ((qz_gi q1.2 47 o x1.toNatClampNeg).toInt64, q1.2)
  else
  if x2 = (1 : Int32) then
    if x1 < 0 ∨ 10 ≤ x1.toNatClampNeg then none else
    some ((qz_gi q1.2 48 o x1.toNatClampNeg).toInt64, q1.2)
  else
  if x2 = (2 : Int32) then
    if x1 < 0 ∨ 10 ≤ x1.toNatClampNeg then none else
    some ((qz_gi q1.2 49 o x1.toNatClampNeg).toInt64, q1.2)
  else
  if x2 = (3 : Int32) then
    if x1 < 0 ∨ 10 ≤ x1.toNatClampNeg then none else
    some (qz_gl q1.2 50 o x1.toNatClampNeg, q1.2)
  else
  if x2 = (4 : Int32) then
    if x1 < 0 ∨ 10 ≤ x1.toNatClampNeg then none else
    some (qz_gl q1.2 51 o x1.toNatClampNeg, q1.2)
  else
  if x2 = (5 : Int32) then
    (fM_debtOf o x1 q1.2).bind fun q3 =>
    some (q3.1, q3.2)
  else
  if x2 = (6 : Int32) then
    (fM_coverValue o x1 q1.2).bind fun q5 =>
    some (q5.1, q5.2)
  else
  if x2 = (7 : Int32) then
    (fM_isUncovered o x1 q1.2).bind fun q7 =>
    if q7.1 = 0 then
      some ((0 : Int64), q7.2)
    else
    some ((1 : Int64), q7.2)
  else
  some ((-2 : Int64), q1.2)
set_option maxRecDepth 100000 in
set_option maxHeartbeats 4000000 in
theorem sM_ofLoan {p : Program} {l : Launch} {e : Env} {s : State} {m : MethodId} {args : Array Value} {below : List Frame} {meth : Method} {c : Code} {G : qz_G} (X : qz_X p s m args meth c "ExactCurvesModel" prog_10_method_57_code 3 (some .long) G) {r : (Int64 × qz_N)} (o : Nat) (x1 : Int32) (x2 : Int32) (ho : o < 1) (N : qz_N) (h : fM_ofLoan o x1 x2 N = some r) : qz_W p l e (qz_R 5) s m args below meth c 0 0 (MQ below (qz_Q G r.2 (some (.long r.1))) args s 0 0 (qz_A G)) G s.heap 3 N 0 [(0, .ref (G.2.2 7 o)), (1, .int x1), (2, .int x2)] [] := by
  unfold fM_ofLoan at h
  refine qz_aload_n X 0 rfl dq_M_ofLoan_0 ?_
  refine qz_iload_n X 1 rfl dq_M_ofLoan_1 ?_
  refine qz_bind h (fun q1 e2 h => ?_)
  refine qz_callV X (as := [.int x1]) (st := []) (o := some (.int q1.1)) (N' := q1.2) cq_M_279 ho (cM_isOpen l G X.2.2.2.2.2.2.1 o x1 N ho _ e2) ⟨by decide, by decide⟩ rfl rfl (Nat.le_of_ble_eq_true rfl) ⟨Nat.zero_le _, Nat.zero_le _⟩ dq_M_ofLoan_2 ?_
  refine qz_if_ne X (tgt := 12) (by decide) dq_M_ofLoan_5 h (fun _ h => ?_) (fun _ h => ?_)
  · refine qz_iload_n X 2 rfl dq_M_ofLoan_12 ?_
    refine qz_ite h (fun c0_13 h => ?_) (fun c0_13 h => ?_)
    · refine qz_tabIn X (tgt := 60) c0_13 (by decide) (by decide) rfl (by decide) dq_M_ofLoan_13 ?_
      refine qz_aload_n X 0 rfl dq_M_ofLoan_60 ?_
      refine qz_get X (v := .ref (G.2.2 47 o)) kq_M_91 ho rfl dq_M_ofLoan_61 ?_
      refine qz_iload_n X 1 rfl dq_M_ofLoan_64 ?_
      refine qz_iald X (c0 := 47) (i := o) (n := 10) rfl ho dq_M_ofLoan_65 h (fun h => ?_)
      refine qz_i2l X dq_M_ofLoan_66 ?_
      exact qz_lret X h dq_M_ofLoan_67
    · refine qz_ite h (fun c1_13 h => ?_) (fun c1_13 h => ?_)
      · refine qz_tabIn X (tgt := 68) c1_13 (by decide) (by decide) rfl (by decide) dq_M_ofLoan_13 ?_
        refine qz_aload_n X 0 rfl dq_M_ofLoan_68 ?_
        refine qz_get X (v := .ref (G.2.2 48 o)) kq_M_94 ho rfl dq_M_ofLoan_69 ?_
        refine qz_iload_n X 1 rfl dq_M_ofLoan_72 ?_
        refine qz_iald X (c0 := 48) (i := o) (n := 10) rfl ho dq_M_ofLoan_73 h (fun h => ?_)
        refine qz_i2l X dq_M_ofLoan_74 ?_
        exact qz_lret X h dq_M_ofLoan_75
      · refine qz_ite h (fun c2_13 h => ?_) (fun c2_13 h => ?_)
        · refine qz_tabIn X (tgt := 76) c2_13 (by decide) (by decide) rfl (by decide) dq_M_ofLoan_13 ?_
          refine qz_aload_n X 0 rfl dq_M_ofLoan_76 ?_
          refine qz_get X (v := .ref (G.2.2 49 o)) kq_M_97 ho rfl dq_M_ofLoan_77 ?_
          refine qz_iload_n X 1 rfl dq_M_ofLoan_80 ?_
          refine qz_iald X (c0 := 49) (i := o) (n := 10) rfl ho dq_M_ofLoan_81 h (fun h => ?_)
          refine qz_i2l X dq_M_ofLoan_82 ?_
          exact qz_lret X h dq_M_ofLoan_83
        · refine qz_ite h (fun c3_13 h => ?_) (fun c3_13 h => ?_)
          · refine qz_tabIn X (tgt := 84) c3_13 (by decide) (by decide) rfl (by decide) dq_M_ofLoan_13 ?_
            refine qz_aload_n X 0 rfl dq_M_ofLoan_84 ?_
            refine qz_get X (v := .ref (G.2.2 50 o)) kq_M_100 ho rfl dq_M_ofLoan_85 ?_
            refine qz_iload_n X 1 rfl dq_M_ofLoan_88 ?_
            refine qz_lald X (c0 := 50) (i := o) (n := 10) rfl ho dq_M_ofLoan_89 h (fun h => ?_)
            exact qz_lret X h dq_M_ofLoan_90
          · refine qz_ite h (fun c4_13 h => ?_) (fun c4_13 h => ?_)
            · refine qz_tabIn X (tgt := 91) c4_13 (by decide) (by decide) rfl (by decide) dq_M_ofLoan_13 ?_
              refine qz_aload_n X 0 rfl dq_M_ofLoan_91 ?_
              refine qz_get X (v := .ref (G.2.2 51 o)) kq_M_103 ho rfl dq_M_ofLoan_92 ?_
              refine qz_iload_n X 1 rfl dq_M_ofLoan_95 ?_
              refine qz_lald X (c0 := 51) (i := o) (n := 10) rfl ho dq_M_ofLoan_96 h (fun h => ?_)
              exact qz_lret X h dq_M_ofLoan_97
            · refine qz_ite h (fun c5_13 h => ?_) (fun c5_13 h => ?_)
              · refine qz_tabIn X (tgt := 98) c5_13 (by decide) (by decide) rfl (by decide) dq_M_ofLoan_13 ?_
                refine qz_aload_n X 0 rfl dq_M_ofLoan_98 ?_
                refine qz_iload_n X 1 rfl dq_M_ofLoan_99 ?_
                refine qz_bind h (fun q3 e4 h => ?_)
                refine qz_callV X (as := [.int x1]) (st := []) (o := some (.long q3.1)) (N' := q3.2) cq_M_255 ho (cM_debtOf l G X.2.2.2.2.2.2.1 o x1 q1.2 ho _ e4) ⟨by decide, by decide⟩ rfl rfl (Nat.le_of_ble_eq_true rfl) ⟨Nat.zero_le _, Nat.zero_le _⟩ dq_M_ofLoan_100 ?_
                exact qz_lret X h dq_M_ofLoan_103
              · refine qz_ite h (fun c6_13 h => ?_) (fun c6_13 h => ?_)
                · refine qz_tabIn X (tgt := 104) c6_13 (by decide) (by decide) rfl (by decide) dq_M_ofLoan_13 ?_
                  refine qz_aload_n X 0 rfl dq_M_ofLoan_104 ?_
                  refine qz_iload_n X 1 rfl dq_M_ofLoan_105 ?_
                  refine qz_bind h (fun q5 e6 h => ?_)
                  refine qz_callV X (as := [.int x1]) (st := []) (o := some (.long q5.1)) (N' := q5.2) cq_M_270 ho (cM_coverValue l G X.2.2.2.2.2.2.1 o x1 q1.2 ho _ e6) ⟨by decide, by decide⟩ rfl rfl (Nat.le_of_ble_eq_true rfl) ⟨Nat.zero_le _, Nat.zero_le _⟩ dq_M_ofLoan_106 ?_
                  exact qz_lret X h dq_M_ofLoan_109
                · refine qz_ite h (fun c7_13 h => ?_) (fun c7_13 h => ?_)
                  · refine qz_tabIn X (tgt := 110) c7_13 (by decide) (by decide) rfl (by decide) dq_M_ofLoan_13 ?_
                    refine qz_aload_n X 0 rfl dq_M_ofLoan_110 ?_
                    refine qz_iload_n X 1 rfl dq_M_ofLoan_111 ?_
                    refine qz_bind h (fun q7 e8 h => ?_)
                    refine qz_callV X (as := [.int x1]) (st := []) (o := some (.int q7.1)) (N' := q7.2) cq_M_282 ho (cM_isUncovered l G X.2.2.2.2.2.2.1 o x1 q1.2 ho _ e8) ⟨by decide, by decide⟩ rfl rfl (Nat.le_of_ble_eq_true rfl) ⟨Nat.zero_le _, Nat.zero_le _⟩ dq_M_ofLoan_112 ?_
                    refine qz_if_eq X (tgt := 122) (by decide) dq_M_ofLoan_115 h (fun _ h => ?_) (fun _ h => ?_)
                    · refine qz_lconst X (v := (0 : Int64)) (by decide) dq_M_ofLoan_122 ?_
                      exact qz_lret X h dq_M_ofLoan_123
                    · refine qz_lconst X (v := (1 : Int64)) (by decide) dq_M_ofLoan_118 ?_
                      refine qz_goto X (tgt := 123) (by decide) dq_M_ofLoan_119 ?_
                      exact qz_lret X h dq_M_ofLoan_123
                  · refine qz_tabOut X (tgt := 124) (by decide) (qz_out8 0 c0_13 c1_13 c2_13 c3_13 c4_13 c5_13 c6_13 c7_13) dq_M_ofLoan_13 ?_
                    refine qz_ldc2 X (v := (-2 : Int64)) wq_742 dq_M_ofLoan_124 ?_
                    exact qz_lret X h dq_M_ofLoan_127
  · refine qz_ldc2 X (v := (-2 : Int64)) wq_742 dq_M_ofLoan_8 ?_
    exact qz_lret X h dq_M_ofLoan_11
theorem cM_ofLoan (l : Launch) (G : qz_G) (hD : qz_D G) (o : Nat) (x1 : Int32) (x2 : Int32) (N : qz_N) (ho : o < 1) (r : (Int64 × qz_N)) (h : fM_ofLoan o x1 x2 N = some r) : qz_M l yM_ofLoan prog_10_method_57_code 3 (some .long) 5 G [.ref (G.2.2 7 o), .int x1, .int x2] N (some (.long r.1)) r.2 :=
  qz_enter (lv := [(0, .ref (G.2.2 7 o)), (1, .int x1), (2, .int x2)]) rfl hD (Nat.le_of_ble_eq_true rfl) rfl (fun p e s m args below meth c X => sM_ofLoan X o x1 x2 ho N h)
-- ExactCurvesModel.pay(IIJ)J
theorem dq_M_pay_0 : decode prog_10_method_58_code 0 = .ok (.iload_n 1, 1) := by decide +kernel
theorem dq_M_pay_1 : decode prog_10_method_58_code 1 = .ok (.invokestatic 166, 3) := by decide +kernel
theorem dq_M_pay_4 : decode prog_10_method_58_code 4 = .ok (.ifCond .eq 17, 3) := by decide +kernel
theorem dq_M_pay_7 : decode prog_10_method_58_code 7 = .ok (.aload_n 0, 1) := by decide +kernel
theorem dq_M_pay_8 : decode prog_10_method_58_code 8 = .ok (.iload_n 2, 1) := by decide +kernel
theorem dq_M_pay_9 : decode prog_10_method_58_code 9 = .ok (.invokevirtual 279, 3) := by decide +kernel
theorem dq_M_pay_12 : decode prog_10_method_58_code 12 = .ok (.ifCond .eq 9, 3) := by decide +kernel
theorem dq_M_pay_15 : decode prog_10_method_58_code 15 = .ok (.lload_n 3, 1) := by decide +kernel
theorem dq_M_pay_16 : decode prog_10_method_58_code 16 = .ok (.lconst 1, 1) := by decide +kernel
theorem dq_M_pay_17 : decode prog_10_method_58_code 17 = .ok (.lcmp, 1) := by decide +kernel
theorem dq_M_pay_18 : decode prog_10_method_58_code 18 = .ok (.ifCond .ge 7, 3) := by decide +kernel
theorem dq_M_pay_21 : decode prog_10_method_58_code 21 = .ok (.ldc2_w 175, 3) := by decide +kernel
theorem dq_M_pay_24 : decode prog_10_method_58_code 24 = .ok (.lreturn, 1) := by decide +kernel
theorem dq_M_pay_25 : decode prog_10_method_58_code 25 = .ok (.aload_n 0, 1) := by decide +kernel
theorem dq_M_pay_26 : decode prog_10_method_58_code 26 = .ok (.iload_n 2, 1) := by decide +kernel
theorem dq_M_pay_27 : decode prog_10_method_58_code 27 = .ok (.invokevirtual 252, 3) := by decide +kernel
theorem dq_M_pay_30 : decode prog_10_method_58_code 30 = .ok (.istore 5, 2) := by decide +kernel
theorem dq_M_pay_32 : decode prog_10_method_58_code 32 = .ok (.aload_n 0, 1) := by decide +kernel
theorem dq_M_pay_33 : decode prog_10_method_58_code 33 = .ok (.iload_n 2, 1) := by decide +kernel
theorem dq_M_pay_34 : decode prog_10_method_58_code 34 = .ok (.invokevirtual 255, 3) := by decide +kernel
theorem dq_M_pay_37 : decode prog_10_method_58_code 37 = .ok (.lstore 6, 2) := by decide +kernel
theorem dq_M_pay_39 : decode prog_10_method_58_code 39 = .ok (.lload_n 3, 1) := by decide +kernel
theorem dq_M_pay_40 : decode prog_10_method_58_code 40 = .ok (.lload 6, 2) := by decide +kernel
theorem dq_M_pay_42 : decode prog_10_method_58_code 42 = .ok (.invokestatic 200, 3) := by decide +kernel
theorem dq_M_pay_45 : decode prog_10_method_58_code 45 = .ok (.lstore 8, 2) := by decide +kernel
theorem dq_M_pay_47 : decode prog_10_method_58_code 47 = .ok (.aload_n 0, 1) := by decide +kernel
theorem dq_M_pay_48 : decode prog_10_method_58_code 48 = .ok (.iload_n 1, 1) := by decide +kernel
theorem dq_M_pay_49 : decode prog_10_method_58_code 49 = .ok (.iload 5, 2) := by decide +kernel
theorem dq_M_pay_51 : decode prog_10_method_58_code 51 = .ok (.invokevirtual 148, 3) := by decide +kernel
theorem dq_M_pay_54 : decode prog_10_method_58_code 54 = .ok (.lload 8, 2) := by decide +kernel
theorem dq_M_pay_56 : decode prog_10_method_58_code 56 = .ok (.lcmp, 1) := by decide +kernel
theorem dq_M_pay_57 : decode prog_10_method_58_code 57 = .ok (.ifCond .ge 7, 3) := by decide +kernel
theorem dq_M_pay_60 : decode prog_10_method_58_code 60 = .ok (.ldc2_w 180, 3) := by decide +kernel
theorem dq_M_pay_63 : decode prog_10_method_58_code 63 = .ok (.lreturn, 1) := by decide +kernel
theorem dq_M_pay_64 : decode prog_10_method_58_code 64 = .ok (.aload_n 0, 1) := by decide +kernel
theorem dq_M_pay_65 : decode prog_10_method_58_code 65 = .ok (.iload_n 1, 1) := by decide +kernel
theorem dq_M_pay_66 : decode prog_10_method_58_code 66 = .ok (.iload 5, 2) := by decide +kernel
theorem dq_M_pay_68 : decode prog_10_method_58_code 68 = .ok (.lload 8, 2) := by decide +kernel
theorem dq_M_pay_70 : decode prog_10_method_58_code 70 = .ok (.lneg, 1) := by decide +kernel
theorem dq_M_pay_71 : decode prog_10_method_58_code 71 = .ok (.invokevirtual 182, 3) := by decide +kernel
theorem dq_M_pay_74 : decode prog_10_method_58_code 74 = .ok (.aload_n 0, 1) := by decide +kernel
theorem dq_M_pay_75 : decode prog_10_method_58_code 75 = .ok (.getfield 73, 3) := by decide +kernel
theorem dq_M_pay_78 : decode prog_10_method_58_code 78 = .ok (.iload 5, 2) := by decide +kernel
theorem dq_M_pay_80 : decode prog_10_method_58_code 80 = .ok (.dup2, 1) := by decide +kernel
theorem dq_M_pay_81 : decode prog_10_method_58_code 81 = .ok (.laload, 1) := by decide +kernel
theorem dq_M_pay_82 : decode prog_10_method_58_code 82 = .ok (.lload 8, 2) := by decide +kernel
theorem dq_M_pay_84 : decode prog_10_method_58_code 84 = .ok (.ladd, 1) := by decide +kernel
theorem dq_M_pay_85 : decode prog_10_method_58_code 85 = .ok (.lastore, 1) := by decide +kernel
theorem dq_M_pay_86 : decode prog_10_method_58_code 86 = .ok (.aload_n 0, 1) := by decide +kernel
theorem dq_M_pay_87 : decode prog_10_method_58_code 87 = .ok (.getfield 103, 3) := by decide +kernel
theorem dq_M_pay_90 : decode prog_10_method_58_code 90 = .ok (.iload_n 2, 1) := by decide +kernel
theorem dq_M_pay_91 : decode prog_10_method_58_code 91 = .ok (.aload_n 0, 1) := by decide +kernel
theorem dq_M_pay_92 : decode prog_10_method_58_code 92 = .ok (.lload 6, 2) := by decide +kernel
theorem dq_M_pay_94 : decode prog_10_method_58_code 94 = .ok (.lload 8, 2) := by decide +kernel
theorem dq_M_pay_96 : decode prog_10_method_58_code 96 = .ok (.lsub, 1) := by decide +kernel
theorem dq_M_pay_97 : decode prog_10_method_58_code 97 = .ok (.ldc2_w 118, 3) := by decide +kernel
theorem dq_M_pay_100 : decode prog_10_method_58_code 100 = .ok (.aload_n 0, 1) := by decide +kernel
theorem dq_M_pay_101 : decode prog_10_method_58_code 101 = .ok (.getfield 82, 3) := by decide +kernel
theorem dq_M_pay_104 : decode prog_10_method_58_code 104 = .ok (.iload 5, 2) := by decide +kernel
theorem dq_M_pay_106 : decode prog_10_method_58_code 106 = .ok (.laload, 1) := by decide +kernel
theorem dq_M_pay_107 : decode prog_10_method_58_code 107 = .ok (.invokevirtual 203, 3) := by decide +kernel
theorem dq_M_pay_110 : decode prog_10_method_58_code 110 = .ok (.lastore, 1) := by decide +kernel
theorem dq_M_pay_111 : decode prog_10_method_58_code 111 = .ok (.lload 6, 2) := by decide +kernel
theorem dq_M_pay_113 : decode prog_10_method_58_code 113 = .ok (.lload 8, 2) := by decide +kernel
theorem dq_M_pay_115 : decode prog_10_method_58_code 115 = .ok (.lcmp, 1) := by decide +kernel
theorem dq_M_pay_116 : decode prog_10_method_58_code 116 = .ok (.ifCond .ne 31, 3) := by decide +kernel
theorem dq_M_pay_119 : decode prog_10_method_58_code 119 = .ok (.aload_n 0, 1) := by decide +kernel
theorem dq_M_pay_120 : decode prog_10_method_58_code 120 = .ok (.aload_n 0, 1) := by decide +kernel
theorem dq_M_pay_121 : decode prog_10_method_58_code 121 = .ok (.getfield 91, 3) := by decide +kernel
theorem dq_M_pay_124 : decode prog_10_method_58_code 124 = .ok (.iload_n 2, 1) := by decide +kernel
theorem dq_M_pay_125 : decode prog_10_method_58_code 125 = .ok (.iaload, 1) := by decide +kernel
theorem dq_M_pay_126 : decode prog_10_method_58_code 126 = .ok (.aload_n 0, 1) := by decide +kernel
theorem dq_M_pay_127 : decode prog_10_method_58_code 127 = .ok (.iload_n 2, 1) := by decide +kernel
theorem dq_M_pay_128 : decode prog_10_method_58_code 128 = .ok (.invokevirtual 162, 3) := by decide +kernel
theorem dq_M_pay_131 : decode prog_10_method_58_code 131 = .ok (.aload_n 0, 1) := by decide +kernel
theorem dq_M_pay_132 : decode prog_10_method_58_code 132 = .ok (.getfield 100, 3) := by decide +kernel
theorem dq_M_pay_135 : decode prog_10_method_58_code 135 = .ok (.iload_n 2, 1) := by decide +kernel
theorem dq_M_pay_136 : decode prog_10_method_58_code 136 = .ok (.laload, 1) := by decide +kernel
theorem dq_M_pay_137 : decode prog_10_method_58_code 137 = .ok (.invokevirtual 182, 3) := by decide +kernel
theorem dq_M_pay_140 : decode prog_10_method_58_code 140 = .ok (.aload_n 0, 1) := by decide +kernel
theorem dq_M_pay_141 : decode prog_10_method_58_code 141 = .ok (.getfield 88, 3) := by decide +kernel
theorem dq_M_pay_144 : decode prog_10_method_58_code 144 = .ok (.iload_n 2, 1) := by decide +kernel
theorem dq_M_pay_145 : decode prog_10_method_58_code 145 = .ok (.iconst 0, 1) := by decide +kernel
theorem dq_M_pay_146 : decode prog_10_method_58_code 146 = .ok (.bastore, 1) := by decide +kernel
theorem dq_M_pay_147 : decode prog_10_method_58_code 147 = .ok (.lload 8, 2) := by decide +kernel
theorem dq_M_pay_149 : decode prog_10_method_58_code 149 = .ok (.lreturn, 1) := by decide +kernel
def fM_pay (o : Nat) (x1 : Int32) (x2 : Int32) (x3 : Int64) (N : qz_N) : Option (Int64 × qz_N) :=
  (fM_isPlayer x1 N).bind fun q1 =>
  if q1.1 = 0 then
    some ((-2 : Int64), q1.2)
  else
  (fM_isOpen o x2 q1.2).bind fun q3 =>
  if q3.1 = 0 then
    some ((-2 : Int64), q3.2)
  else
  if (1 : Int64) ≤ x3 then
    (fM_debtToken o x2 q3.2).bind fun q5 =>
    (fM_debtOf o x2 q5.2).bind fun q7 =>
    (fM_least x3 q7.1 q7.2).bind fun q9 =>
    (fM_has o x1 q5.1 q9.2).bind fun q11 =>
    if q9.1 ≤ q11.1 then
      (fM_give o x1 q5.1 (-q9.1) q11.2).bind fun q13 =>
      if q5.1 < 0 ∨ 4 ≤ q5.1.toNatClampNeg then none else
      if q5.1 < 0 ∨ 4 ≤ q5.1.toNatClampNeg then none else
      qz_let (qz_sl q13.2 41 o q5.1.toNatClampNeg ((qz_gl q13.2 41 o q5.1.toNatClampNeg) + q9.1)) fun N15 =>
      if q5.1 < 0 ∨ 4 ≤ q5.1.toNatClampNeg then none else
      (fM_partUp o (q7.1 - q9.1) (1000000000 : Int64) (qz_gl N15 44 o q5.1.toNatClampNeg) N15).bind fun q16 =>
      if x2 < 0 ∨ 10 ≤ x2.toNatClampNeg then none else
      qz_let (qz_sl q16.2 51 o x2.toNatClampNeg q16.1) fun N18 =>
      if q7.1 = q9.1 then
        if x2 < 0 ∨ 10 ≤ x2.toNatClampNeg then none else
        (fM_coverToken o x2 N18).bind fun q19 =>
        if x2 < 0 ∨ 10 ≤ x2.toNatClampNeg then none else
        (fM_give o (qz_gi N18 47 o x2.toNatClampNeg) q19.1 (qz_gl q19.2 50 o x2.toNatClampNeg) q19.2).bind fun q21 =>
        if x2 < 0 ∨ 10 ≤ x2.toNatClampNeg then none else
        qz_let (qz_si q21.2 46 o x2.toNatClampNeg (vp_nar .boolean (0 : Int32))) fun N23 =>
        some (q9.1, N23)
      else
      some (q9.1, N18)
    else
    some ((-3 : Int64), q11.2)
  else
  some ((-2 : Int64), q3.2)
set_option maxRecDepth 100000 in
set_option maxHeartbeats 4000000 in
theorem sM_pay {p : Program} {l : Launch} {e : Env} {s : State} {m : MethodId} {args : Array Value} {below : List Frame} {meth : Method} {c : Code} {G : qz_G} (X : qz_X p s m args meth c "ExactCurvesModel" prog_10_method_58_code 10 (some .long) G) {r : (Int64 × qz_N)} (o : Nat) (x1 : Int32) (x2 : Int32) (x3 : Int64) (ho : o < 1) (N : qz_N) (h : fM_pay o x1 x2 x3 N = some r) : qz_W p l e (qz_R 4) s m args below meth c 0 0 (MQ below (qz_Q G r.2 (some (.long r.1))) args s 0 0 (qz_A G)) G s.heap 10 N 0 [(0, .ref (G.2.2 7 o)), (1, .int x1), (2, .int x2), (3, .long x3)] [] := by
  unfold fM_pay at h
  refine qz_iload_n X 1 rfl dq_M_pay_0 ?_
  refine qz_bind h (fun q1 e2 h => ?_)
  refine qz_callS X (as := [.int x1]) (st := []) (o := some (.int q1.1)) (N' := q1.2) cq_M_166 (cM_isPlayer l G X.2.2.2.2.2.2.1 x1 N _ e2) ⟨by decide, by decide⟩ rfl rfl (Nat.le_of_ble_eq_true rfl) ⟨Nat.zero_le _, Nat.zero_le _⟩ dq_M_pay_1 ?_
  refine qz_if_eq X (tgt := 21) (by decide) dq_M_pay_4 h (fun _ h => ?_) (fun _ h => ?_)
  · refine qz_ldc2 X (v := (-2 : Int64)) wq_742 dq_M_pay_21 ?_
    exact qz_lret X h dq_M_pay_24
  · refine qz_aload_n X 0 rfl dq_M_pay_7 ?_
    refine qz_iload_n X 2 rfl dq_M_pay_8 ?_
    refine qz_bind h (fun q3 e4 h => ?_)
    refine qz_callV X (as := [.int x2]) (st := []) (o := some (.int q3.1)) (N' := q3.2) cq_M_279 ho (cM_isOpen l G X.2.2.2.2.2.2.1 o x2 q1.2 ho _ e4) ⟨by decide, by decide⟩ rfl rfl (Nat.le_of_ble_eq_true rfl) ⟨Nat.zero_le _, Nat.zero_le _⟩ dq_M_pay_9 ?_
    refine qz_if_eq X (tgt := 21) (by decide) dq_M_pay_12 h (fun _ h => ?_) (fun _ h => ?_)
    · refine qz_ldc2 X (v := (-2 : Int64)) wq_742 dq_M_pay_21 ?_
      exact qz_lret X h dq_M_pay_24
    · refine qz_lload_n X 3 rfl dq_M_pay_15 ?_
      refine qz_lconst X (v := (1 : Int64)) (by decide) dq_M_pay_16 ?_
      refine qz_lcmp_ge X (tgt := 25) (by decide) dq_M_pay_17 dq_M_pay_18 h (fun _ h => ?_) (fun _ h => ?_)
      · refine qz_aload_n X 0 rfl dq_M_pay_25 ?_
        refine qz_iload_n X 2 rfl dq_M_pay_26 ?_
        refine qz_bind h (fun q5 e6 h => ?_)
        refine qz_callV X (as := [.int x2]) (st := []) (o := some (.int q5.1)) (N' := q5.2) cq_M_252 ho (cM_debtToken l G X.2.2.2.2.2.2.1 o x2 q3.2 ho _ e6) ⟨by decide, by decide⟩ rfl rfl (Nat.le_of_ble_eq_true rfl) ⟨Nat.zero_le _, Nat.zero_le _⟩ dq_M_pay_27 ?_
        refine qz_istore X (lv' := [(5, .int q5.1), (0, .ref (G.2.2 7 o)), (1, .int x1), (2, .int x2), (3, .long x3)]) (by decide) rfl dq_M_pay_30 ?_
        refine qz_aload_n X 1 rfl dq_M_pay_32 ?_
        refine qz_iload_n X 3 rfl dq_M_pay_33 ?_
        refine qz_bind h (fun q7 e8 h => ?_)
        refine qz_callV X (as := [.int x2]) (st := []) (o := some (.long q7.1)) (N' := q7.2) cq_M_255 ho (cM_debtOf l G X.2.2.2.2.2.2.1 o x2 q5.2 ho _ e8) ⟨by decide, by decide⟩ rfl rfl (Nat.le_of_ble_eq_true rfl) ⟨Nat.zero_le _, Nat.zero_le _⟩ dq_M_pay_34 ?_
        refine qz_lstore X (lv' := [(6, .long q7.1), (5, .int q5.1), (0, .ref (G.2.2 7 o)), (1, .int x1), (2, .int x2), (3, .long x3)]) (by decide) rfl dq_M_pay_37 ?_
        refine qz_lload_n X 5 rfl dq_M_pay_39 ?_
        refine qz_lload X 0 rfl dq_M_pay_40 ?_
        refine qz_bind h (fun q9 e10 h => ?_)
        refine qz_callS X (as := [.long x3, .long q7.1]) (st := []) (o := some (.long q9.1)) (N' := q9.2) cq_M_200 (cM_least l G X.2.2.2.2.2.2.1 x3 q7.1 q7.2 _ e10) ⟨by decide, by decide⟩ rfl rfl (Nat.le_of_ble_eq_true rfl) ⟨Nat.zero_le _, Nat.zero_le _⟩ dq_M_pay_42 ?_
        refine qz_lstore X (lv' := [(8, .long q9.1), (6, .long q7.1), (5, .int q5.1), (0, .ref (G.2.2 7 o)), (1, .int x1), (2, .int x2), (3, .long x3)]) (by decide) rfl dq_M_pay_45 ?_
        refine qz_aload_n X 3 rfl dq_M_pay_47 ?_
        refine qz_iload_n X 4 rfl dq_M_pay_48 ?_
        refine qz_iload X 2 rfl dq_M_pay_49 ?_
        refine qz_bind h (fun q11 e12 h => ?_)
        refine qz_callV X (as := [.int x1, .int q5.1]) (st := []) (o := some (.long q11.1)) (N' := q11.2) cq_M_148 ho (cM_has l G X.2.2.2.2.2.2.1 o x1 q5.1 q9.2 ho _ e12) ⟨by decide, by decide⟩ rfl rfl (Nat.le_of_ble_eq_true rfl) ⟨Nat.zero_le _, Nat.zero_le _⟩ dq_M_pay_51 ?_
        refine qz_lload X 0 rfl dq_M_pay_54 ?_
        refine qz_lcmp_ge X (tgt := 64) (by decide) dq_M_pay_56 dq_M_pay_57 h (fun _ h => ?_) (fun _ h => ?_)
        · refine qz_aload_n X 3 rfl dq_M_pay_64 ?_
          refine qz_iload_n X 4 rfl dq_M_pay_65 ?_
          refine qz_iload X 2 rfl dq_M_pay_66 ?_
          refine qz_lload X 0 rfl dq_M_pay_68 ?_
          refine qz_lneg X dq_M_pay_70 ?_
          refine qz_bind h (fun q13 e14 h => ?_)
          refine qz_callV X (as := [.int x1, .int q5.1, .long (-q9.1)]) (st := []) (o := none) (N' := q13.2) cq_M_182 ho (cM_give l G X.2.2.2.2.2.2.1 o x1 q5.1 (-q9.1) q11.2 ho _ e14) ⟨by decide, by decide⟩ rfl rfl (Nat.le_of_ble_eq_true rfl) ⟨Nat.zero_le _, Nat.zero_le _⟩ dq_M_pay_71 ?_
          refine qz_aload_n X 3 rfl dq_M_pay_74 ?_
          refine qz_get X (v := .ref (G.2.2 41 o)) kq_M_73 ho rfl dq_M_pay_75 ?_
          refine qz_iload X 2 rfl dq_M_pay_78 ?_
          refine qz_dup2_11 X rfl rfl dq_M_pay_80 ?_
          refine qz_lald X (c0 := 41) (i := o) (n := 4) rfl ho dq_M_pay_81 h (fun h => ?_)
          refine qz_lload X 0 rfl dq_M_pay_82 ?_
          refine qz_ladd X dq_M_pay_84 ?_
          refine qz_last X (c0 := 41) (i := o) (n := 4) rfl ho dq_M_pay_85 h (fun N15 h => ?_)
          refine qz_aload_n X 3 rfl dq_M_pay_86 ?_
          refine qz_get X (v := .ref (G.2.2 51 o)) kq_M_103 ho rfl dq_M_pay_87 ?_
          refine qz_iload_n X 5 rfl dq_M_pay_90 ?_
          refine qz_aload_n X 3 rfl dq_M_pay_91 ?_
          refine qz_lload X 1 rfl dq_M_pay_92 ?_
          refine qz_lload X 0 rfl dq_M_pay_94 ?_
          refine qz_lsub X dq_M_pay_96 ?_
          refine qz_ldc2 X (v := (1000000000 : Int64)) wq_603 dq_M_pay_97 ?_
          refine qz_aload_n X 3 rfl dq_M_pay_100 ?_
          refine qz_get X (v := .ref (G.2.2 44 o)) kq_M_82 ho rfl dq_M_pay_101 ?_
          refine qz_iload X 2 rfl dq_M_pay_104 ?_
          refine qz_lald X (c0 := 44) (i := o) (n := 4) rfl ho dq_M_pay_106 h (fun h => ?_)
          refine qz_bind h (fun q16 e17 h => ?_)
          refine qz_callV X (as := [.long (q7.1 - q9.1), .long (1000000000 : Int64), .long (qz_gl N15 44 o q5.1.toNatClampNeg)]) (st := [.int x2, .ref (G.2.2 51 o)]) (o := some (.long q16.1)) (N' := q16.2) cq_M_203 ho (cM_partUp l G X.2.2.2.2.2.2.1 o (q7.1 - q9.1) (1000000000 : Int64) (qz_gl N15 44 o q5.1.toNatClampNeg) N15 ho _ e17) ⟨by decide, by decide⟩ rfl rfl (Nat.le_of_ble_eq_true rfl) ⟨Nat.zero_le _, Nat.zero_le _⟩ dq_M_pay_107 ?_
          refine qz_last X (c0 := 51) (i := o) (n := 10) rfl ho dq_M_pay_110 h (fun N18 h => ?_)
          refine qz_lload X 1 rfl dq_M_pay_111 ?_
          refine qz_lload X 0 rfl dq_M_pay_113 ?_
          refine qz_lcmp_ne X (tgt := 147) (by decide) dq_M_pay_115 dq_M_pay_116 h (fun _ h => ?_) (fun _ h => ?_)
          · refine qz_lload X 0 rfl dq_M_pay_147 ?_
            exact qz_lret X h dq_M_pay_149
          · refine qz_aload_n X 3 rfl dq_M_pay_119 ?_
            refine qz_aload_n X 3 rfl dq_M_pay_120 ?_
            refine qz_get X (v := .ref (G.2.2 47 o)) kq_M_91 ho rfl dq_M_pay_121 ?_
            refine qz_iload_n X 5 rfl dq_M_pay_124 ?_
            refine qz_iald X (c0 := 47) (i := o) (n := 10) rfl ho dq_M_pay_125 h (fun h => ?_)
            refine qz_aload_n X 3 rfl dq_M_pay_126 ?_
            refine qz_iload_n X 5 rfl dq_M_pay_127 ?_
            refine qz_bind h (fun q19 e20 h => ?_)
            refine qz_callV X (as := [.int x2]) (st := [.int (qz_gi N18 47 o x2.toNatClampNeg), .ref (G.2.2 7 o)]) (o := some (.int q19.1)) (N' := q19.2) cq_M_162 ho (cM_coverToken l G X.2.2.2.2.2.2.1 o x2 N18 ho _ e20) ⟨by decide, by decide⟩ rfl rfl (Nat.le_of_ble_eq_true rfl) ⟨Nat.zero_le _, Nat.zero_le _⟩ dq_M_pay_128 ?_
            refine qz_aload_n X 3 rfl dq_M_pay_131 ?_
            refine qz_get X (v := .ref (G.2.2 50 o)) kq_M_100 ho rfl dq_M_pay_132 ?_
            refine qz_iload_n X 5 rfl dq_M_pay_135 ?_
            refine qz_lald X (c0 := 50) (i := o) (n := 10) rfl ho dq_M_pay_136 h (fun h => ?_)
            refine qz_bind h (fun q21 e22 h => ?_)
            refine qz_callV X (as := [.int (qz_gi N18 47 o x2.toNatClampNeg), .int q19.1, .long (qz_gl q19.2 50 o x2.toNatClampNeg)]) (st := []) (o := none) (N' := q21.2) cq_M_182 ho (cM_give l G X.2.2.2.2.2.2.1 o (qz_gi N18 47 o x2.toNatClampNeg) q19.1 (qz_gl q19.2 50 o x2.toNatClampNeg) q19.2 ho _ e22) ⟨by decide, by decide⟩ rfl rfl (Nat.le_of_ble_eq_true rfl) ⟨Nat.zero_le _, Nat.zero_le _⟩ dq_M_pay_137 ?_
            refine qz_aload_n X 3 rfl dq_M_pay_140 ?_
            refine qz_get X (v := .ref (G.2.2 46 o)) kq_M_88 ho rfl dq_M_pay_141 ?_
            refine qz_iload_n X 5 rfl dq_M_pay_144 ?_
            refine qz_iconst X (v := (0 : Int32)) (by decide) dq_M_pay_145 ?_
            refine qz_zast X (c0 := 46) (i := o) (n := 10) rfl ho dq_M_pay_146 h (fun N23 h => ?_)
            refine qz_lload X 0 rfl dq_M_pay_147 ?_
            exact qz_lret X h dq_M_pay_149
        · refine qz_ldc2 X (v := (-3 : Int64)) wq_763 dq_M_pay_60 ?_
          exact qz_lret X h dq_M_pay_63
      · refine qz_ldc2 X (v := (-2 : Int64)) wq_742 dq_M_pay_21 ?_
        exact qz_lret X h dq_M_pay_24
theorem cM_pay (l : Launch) (G : qz_G) (hD : qz_D G) (o : Nat) (x1 : Int32) (x2 : Int32) (x3 : Int64) (N : qz_N) (ho : o < 1) (r : (Int64 × qz_N)) (h : fM_pay o x1 x2 x3 N = some r) : qz_M l yM_pay prog_10_method_58_code 10 (some .long) 4 G [.ref (G.2.2 7 o), .int x1, .int x2, .long x3] N (some (.long r.1)) r.2 :=
  qz_enter (lv := [(0, .ref (G.2.2 7 o)), (1, .int x1), (2, .int x2), (3, .long x3)]) rfl hD (Nat.le_of_ble_eq_true rfl) rfl (fun p e s m args below meth c X => sM_pay X o x1 x2 x3 ho N h)
-- ExactCurvesModel.isAlike()Z
theorem dq_M_isAlike_0 : decode prog_10_method_60_code 0 = .ok (.iconst 1, 1) := by decide +kernel
theorem dq_M_isAlike_1 : decode prog_10_method_60_code 1 = .ok (.istore_n 1, 1) := by decide +kernel
theorem dq_M_isAlike_2 : decode prog_10_method_60_code 2 = .ok (.iconst 0, 1) := by decide +kernel
theorem dq_M_isAlike_3 : decode prog_10_method_60_code 3 = .ok (.istore_n 2, 1) := by decide +kernel
theorem dq_M_isAlike_4 : decode prog_10_method_60_code 4 = .ok (.iload_n 2, 1) := by decide +kernel
theorem dq_M_isAlike_5 : decode prog_10_method_60_code 5 = .ok (.bipush 6, 2) := by decide +kernel
theorem dq_M_isAlike_7 : decode prog_10_method_60_code 7 = .ok (.if_icmp .ge 35, 3) := by decide +kernel
theorem dq_M_isAlike_10 : decode prog_10_method_60_code 10 = .ok (.iload_n 1, 1) := by decide +kernel
theorem dq_M_isAlike_11 : decode prog_10_method_60_code 11 = .ok (.ifCond .eq 23, 3) := by decide +kernel
theorem dq_M_isAlike_14 : decode prog_10_method_60_code 14 = .ok (.aload_n 0, 1) := by decide +kernel
theorem dq_M_isAlike_15 : decode prog_10_method_60_code 15 = .ok (.getfield 109, 3) := by decide +kernel
theorem dq_M_isAlike_18 : decode prog_10_method_60_code 18 = .ok (.iload_n 2, 1) := by decide +kernel
theorem dq_M_isAlike_19 : decode prog_10_method_60_code 19 = .ok (.laload, 1) := by decide +kernel
theorem dq_M_isAlike_20 : decode prog_10_method_60_code 20 = .ok (.aload_n 0, 1) := by decide +kernel
theorem dq_M_isAlike_21 : decode prog_10_method_60_code 21 = .ok (.getfield 106, 3) := by decide +kernel
theorem dq_M_isAlike_24 : decode prog_10_method_60_code 24 = .ok (.iload_n 2, 1) := by decide +kernel
theorem dq_M_isAlike_25 : decode prog_10_method_60_code 25 = .ok (.laload, 1) := by decide +kernel
theorem dq_M_isAlike_26 : decode prog_10_method_60_code 26 = .ok (.lcmp, 1) := by decide +kernel
theorem dq_M_isAlike_27 : decode prog_10_method_60_code 27 = .ok (.ifCond .ne 7, 3) := by decide +kernel
theorem dq_M_isAlike_30 : decode prog_10_method_60_code 30 = .ok (.iconst 1, 1) := by decide +kernel
theorem dq_M_isAlike_31 : decode prog_10_method_60_code 31 = .ok (.goto 4, 3) := by decide +kernel
theorem dq_M_isAlike_34 : decode prog_10_method_60_code 34 = .ok (.iconst 0, 1) := by decide +kernel
theorem dq_M_isAlike_35 : decode prog_10_method_60_code 35 = .ok (.istore_n 1, 1) := by decide +kernel
theorem dq_M_isAlike_36 : decode prog_10_method_60_code 36 = .ok (.iinc 2 1, 3) := by decide +kernel
theorem dq_M_isAlike_39 : decode prog_10_method_60_code 39 = .ok (.goto (-35), 3) := by decide +kernel
theorem dq_M_isAlike_42 : decode prog_10_method_60_code 42 = .ok (.iload_n 1, 1) := by decide +kernel
theorem dq_M_isAlike_43 : decode prog_10_method_60_code 43 = .ok (.ireturn, 1) := by decide +kernel
def fM_isAlike_35 (y0 : Nat) (k4 : qz_N × Int32 × Int32 → Option (Int32 × qz_N)) (N : qz_N) (x2 : Int32) (s0 : Int32) : Option (Int32 × qz_N) :=
  qz_let (x2 + (1 : Int32)) fun v1 =>
  k4 (N, s0, v1)
def fM_isAlike_34 (y0 : Nat) (k4 : qz_N × Int32 × Int32 → Option (Int32 × qz_N)) (N : qz_N) (x2 : Int32) : Option (Int32 × qz_N) :=
  fM_isAlike_35 y0 k4 N x2 (0 : Int32)
def fM_isAlike_4b (y0 : Nat) (k4 : qz_N × Int32 × Int32 → Option (Int32 × qz_N)) (N : qz_N) (x1 : Int32) (x2 : Int32) : Option (Int32 × qz_N) :=
  if (6 : Int32) ≤ x2 then
    if vp_nar .boolean x1 = x1 then some (x1, N) else none
  else
  if x1 = 0 then
    fM_isAlike_34 y0 k4 N x2
  else
  if x2 < 0 ∨ 6 ≤ x2.toNatClampNeg then none else
  if x2 < 0 ∨ 6 ≤ x2.toNatClampNeg then none else
  if (qz_gl N 53 y0 x2.toNatClampNeg) = (qz_gl N 52 y0 x2.toNatClampNeg) then
    fM_isAlike_35 y0 k4 N x2 (1 : Int32)
  else
  fM_isAlike_34 y0 k4 N x2
def fM_isAlike_4 (y0 : Nat) (n : Nat) (a : qz_N × Int32 × Int32) : Option (Int32 × qz_N) := qz_loop (fun k a => fM_isAlike_4b y0 k a.1 a.2.1 a.2.2) n a
def fM_isAlike (o : Nat) (N : qz_N) : Option (Int32 × qz_N) :=
  fM_isAlike_4 o 1100 (N, (1 : Int32), (0 : Int32))
set_option maxRecDepth 100000 in
set_option maxHeartbeats 4000000 in
theorem sM_isAlike_35 {p : Program} {l : Launch} {e : Env} {s : State} {m : MethodId} {args : Array Value} {below : List Frame} {meth : Method} {c : Code} {G : qz_G} (X : qz_X p s m args meth c "ExactCurvesModel" prog_10_method_60_code 3 (some .boolean) G) {r : (Int32 × qz_N)} (y0 : Nat) (hy0 : y0 < 1) (k4 : qz_N × Int32 × Int32 → Option (Int32 × qz_N)) (hk4 : ∀ a, k4 a = some r → qz_W p l e (qz_R 0) s m args below meth c 0 0 (MQ below (qz_Q G r.2 (some (.int r.1))) args s 0 0 (qz_A G)) G s.heap 3 a.1 4 [(1, .int a.2.1), (2, .int a.2.2), (0, .ref (G.2.2 7 y0))] []) (N : qz_N) (x2 : Int32) (s0 : Int32) (h : fM_isAlike_35 y0 k4 N x2 s0 = some r) : qz_W p l e (qz_R 0) s m args below meth c 0 0 (MQ below (qz_Q G r.2 (some (.int r.1))) args s 0 0 (qz_A G)) G s.heap 3 N 35 [(2, .int x2), (0, .ref (G.2.2 7 y0))] [.int s0] := by
  unfold fM_isAlike_35 at h
  refine qz_istore_n X (lv' := [(1, .int s0), (2, .int x2), (0, .ref (G.2.2 7 y0))]) rfl (by decide) rfl dq_M_isAlike_35 ?_
  refine qz_iinc_l X (u := (1 : Int32)) (lv' := fun v1 => [(2, .int v1), (1, .int s0), (0, .ref (G.2.2 7 y0))]) (k := 1) rfl (by decide) (by decide) (fun _ => rfl) dq_M_isAlike_36 h (fun v1 h => ?_)
  refine qz_goto X (tgt := 4) (by decide) dq_M_isAlike_39 ?_
  refine qz_sub [1, 0, 2] rfl ?_
  exact hk4 (N, s0, v1) h
set_option maxRecDepth 100000 in
set_option maxHeartbeats 4000000 in
theorem sM_isAlike_34 {p : Program} {l : Launch} {e : Env} {s : State} {m : MethodId} {args : Array Value} {below : List Frame} {meth : Method} {c : Code} {G : qz_G} (X : qz_X p s m args meth c "ExactCurvesModel" prog_10_method_60_code 3 (some .boolean) G) {r : (Int32 × qz_N)} (y0 : Nat) (hy0 : y0 < 1) (k4 : qz_N × Int32 × Int32 → Option (Int32 × qz_N)) (hk4 : ∀ a, k4 a = some r → qz_W p l e (qz_R 0) s m args below meth c 0 0 (MQ below (qz_Q G r.2 (some (.int r.1))) args s 0 0 (qz_A G)) G s.heap 3 a.1 4 [(1, .int a.2.1), (2, .int a.2.2), (0, .ref (G.2.2 7 y0))] []) (N : qz_N) (x2 : Int32) (h : fM_isAlike_34 y0 k4 N x2 = some r) : qz_W p l e (qz_R 0) s m args below meth c 0 0 (MQ below (qz_Q G r.2 (some (.int r.1))) args s 0 0 (qz_A G)) G s.heap 3 N 34 [(2, .int x2), (0, .ref (G.2.2 7 y0))] [] := by
  unfold fM_isAlike_34 at h
  refine qz_iconst X (v := (0 : Int32)) (by decide) dq_M_isAlike_34 ?_
  refine qz_sub [0, 1] rfl ?_
  exact sM_isAlike_35 X y0 hy0 k4 hk4 N x2 (0 : Int32) h
set_option maxRecDepth 100000 in
set_option maxHeartbeats 4000000 in
theorem sM_isAlike_4b {p : Program} {l : Launch} {e : Env} {s : State} {m : MethodId} {args : Array Value} {below : List Frame} {meth : Method} {c : Code} {G : qz_G} (X : qz_X p s m args meth c "ExactCurvesModel" prog_10_method_60_code 3 (some .boolean) G) {r : (Int32 × qz_N)} (y0 : Nat) (hy0 : y0 < 1) (k4 : qz_N × Int32 × Int32 → Option (Int32 × qz_N)) (hk4 : ∀ a, k4 a = some r → qz_W p l e (qz_R 0) s m args below meth c 0 0 (MQ below (qz_Q G r.2 (some (.int r.1))) args s 0 0 (qz_A G)) G s.heap 3 a.1 4 [(1, .int a.2.1), (2, .int a.2.2), (0, .ref (G.2.2 7 y0))] []) (N : qz_N) (x1 : Int32) (x2 : Int32) (h : fM_isAlike_4b y0 k4 N x1 x2 = some r) : qz_W p l e (qz_R 0) s m args below meth c 0 0 (MQ below (qz_Q G r.2 (some (.int r.1))) args s 0 0 (qz_A G)) G s.heap 3 N 4 [(1, .int x1), (2, .int x2), (0, .ref (G.2.2 7 y0))] [] := by
  unfold fM_isAlike_4b at h
  refine qz_iload_n X 1 rfl dq_M_isAlike_4 ?_
  refine qz_bipush X (v := (6 : Int32)) (by decide) dq_M_isAlike_5 ?_
  refine qz_icmp_ge X (tgt := 42) (by decide) dq_M_isAlike_7 h (fun _ h => ?_) (fun _ h => ?_)
  · refine qz_iload_n X 0 rfl dq_M_isAlike_42 ?_
    exact qz_zretc X h dq_M_isAlike_43
  · refine qz_iload_n X 0 rfl dq_M_isAlike_10 ?_
    refine qz_if_eq X (tgt := 34) (by decide) dq_M_isAlike_11 h (fun _ h => ?_) (fun _ h => ?_)
    · refine qz_sub [1, 2] rfl ?_
      exact sM_isAlike_34 X y0 hy0 k4 hk4 N x2 h
    · refine qz_aload_n X 2 rfl dq_M_isAlike_14 ?_
      refine qz_get X (v := .ref (G.2.2 53 y0)) kq_M_109 hy0 rfl dq_M_isAlike_15 ?_
      refine qz_iload_n X 1 rfl dq_M_isAlike_18 ?_
      refine qz_lald X (c0 := 53) (i := y0) (n := 6) rfl hy0 dq_M_isAlike_19 h (fun h => ?_)
      refine qz_aload_n X 2 rfl dq_M_isAlike_20 ?_
      refine qz_get X (v := .ref (G.2.2 52 y0)) kq_M_106 hy0 rfl dq_M_isAlike_21 ?_
      refine qz_iload_n X 1 rfl dq_M_isAlike_24 ?_
      refine qz_lald X (c0 := 52) (i := y0) (n := 6) rfl hy0 dq_M_isAlike_25 h (fun h => ?_)
      refine qz_lcmp_ne X (tgt := 34) (by decide) dq_M_isAlike_26 dq_M_isAlike_27 h (fun _ h => ?_) (fun _ h => ?_)
      · refine qz_sub [1, 2] rfl ?_
        exact sM_isAlike_34 X y0 hy0 k4 hk4 N x2 h
      · refine qz_iconst X (v := (1 : Int32)) (by decide) dq_M_isAlike_30 ?_
        refine qz_goto X (tgt := 35) (by decide) dq_M_isAlike_31 ?_
        refine qz_sub [1, 2] rfl ?_
        exact sM_isAlike_35 X y0 hy0 k4 hk4 N x2 (1 : Int32) h
theorem sM_isAlike_4 {p : Program} {l : Launch} {e : Env} {s : State} {m : MethodId} {args : Array Value} {below : List Frame} {meth : Method} {c : Code} {G : qz_G} (X : qz_X p s m args meth c "ExactCurvesModel" prog_10_method_60_code 3 (some .boolean) G) {r : (Int32 × qz_N)} (y0 : Nat) (hy0 : y0 < 1) (n : Nat) (a : qz_N × Int32 × Int32) (h : fM_isAlike_4 y0 n a = some r) : qz_W p l e (qz_R 0) s m args below meth c 0 0 (MQ below (qz_Q G r.2 (some (.int r.1))) args s 0 0 (qz_A G)) G s.heap 3 a.1 4 [(1, .int a.2.1), (2, .int a.2.2), (0, .ref (G.2.2 7 y0))] [] :=
  qz_loop_ind (P := fun a => qz_W p l e (qz_R 0) s m args below meth c 0 0 (MQ below (qz_Q G r.2 (some (.int r.1))) args s 0 0 (qz_A G)) G s.heap 3 a.1 4 [(1, .int a.2.1), (2, .int a.2.2), (0, .ref (G.2.2 7 y0))] []) (fun k hk a h => sM_isAlike_4b X y0 hy0 k hk a.1 a.2.1 a.2.2 h) n a h
set_option maxRecDepth 100000 in
set_option maxHeartbeats 4000000 in
theorem sM_isAlike {p : Program} {l : Launch} {e : Env} {s : State} {m : MethodId} {args : Array Value} {below : List Frame} {meth : Method} {c : Code} {G : qz_G} (X : qz_X p s m args meth c "ExactCurvesModel" prog_10_method_60_code 3 (some .boolean) G) {r : (Int32 × qz_N)} (o : Nat) (ho : o < 1) (N : qz_N) (h : fM_isAlike o N = some r) : qz_W p l e (qz_R 0) s m args below meth c 0 0 (MQ below (qz_Q G r.2 (some (.int r.1))) args s 0 0 (qz_A G)) G s.heap 3 N 0 [(0, .ref (G.2.2 7 o))] [] := by
  unfold fM_isAlike at h
  refine qz_iconst X (v := (1 : Int32)) (by decide) dq_M_isAlike_0 ?_
  refine qz_istore_n X (lv' := [(1, .int (1 : Int32)), (0, .ref (G.2.2 7 o))]) rfl (by decide) rfl dq_M_isAlike_1 ?_
  refine qz_iconst X (v := (0 : Int32)) (by decide) dq_M_isAlike_2 ?_
  refine qz_istore_n X (lv' := [(2, .int (0 : Int32)), (1, .int (1 : Int32)), (0, .ref (G.2.2 7 o))]) rfl (by decide) rfl dq_M_isAlike_3 ?_
  refine qz_sub [1, 0, 2] rfl ?_
  exact sM_isAlike_4 X o ho 1100 (N, (1 : Int32), (0 : Int32)) h
theorem cM_isAlike (l : Launch) (G : qz_G) (hD : qz_D G) (o : Nat) (N : qz_N) (ho : o < 1) (r : (Int32 × qz_N)) (h : fM_isAlike o N = some r) : qz_M l yM_isAlike prog_10_method_60_code 3 (some .boolean) 0 G [.ref (G.2.2 7 o)] N (some (.int r.1)) r.2 :=
  qz_enter (lv := [(0, .ref (G.2.2 7 o))]) rfl hD (Nat.le_of_ble_eq_true rfl) rfl (fun p e s m args below meth c X => sM_isAlike X o ho N h)
-- ExactCurvesModel.close(II)J
theorem dq_M_close_0 : decode prog_10_method_59_code 0 = .ok (.iload_n 1, 1) := by decide +kernel
theorem dq_M_close_1 : decode prog_10_method_59_code 1 = .ok (.invokestatic 166, 3) := by decide +kernel
theorem dq_M_close_4 : decode prog_10_method_59_code 4 = .ok (.ifCond .eq 11, 3) := by decide +kernel
theorem dq_M_close_7 : decode prog_10_method_59_code 7 = .ok (.aload_n 0, 1) := by decide +kernel
theorem dq_M_close_8 : decode prog_10_method_59_code 8 = .ok (.iload_n 2, 1) := by decide +kernel
theorem dq_M_close_9 : decode prog_10_method_59_code 9 = .ok (.invokevirtual 279, 3) := by decide +kernel
theorem dq_M_close_12 : decode prog_10_method_59_code 12 = .ok (.ifCond .ne 7, 3) := by decide +kernel
theorem dq_M_close_15 : decode prog_10_method_59_code 15 = .ok (.ldc2_w 175, 3) := by decide +kernel
theorem dq_M_close_18 : decode prog_10_method_59_code 18 = .ok (.lreturn, 1) := by decide +kernel
theorem dq_M_close_19 : decode prog_10_method_59_code 19 = .ok (.aload_n 0, 1) := by decide +kernel
theorem dq_M_close_20 : decode prog_10_method_59_code 20 = .ok (.iload_n 2, 1) := by decide +kernel
theorem dq_M_close_21 : decode prog_10_method_59_code 21 = .ok (.invokevirtual 252, 3) := by decide +kernel
theorem dq_M_close_24 : decode prog_10_method_59_code 24 = .ok (.istore_n 3, 1) := by decide +kernel
theorem dq_M_close_25 : decode prog_10_method_59_code 25 = .ok (.aload_n 0, 1) := by decide +kernel
theorem dq_M_close_26 : decode prog_10_method_59_code 26 = .ok (.iload_n 2, 1) := by decide +kernel
theorem dq_M_close_27 : decode prog_10_method_59_code 27 = .ok (.invokevirtual 255, 3) := by decide +kernel
theorem dq_M_close_30 : decode prog_10_method_59_code 30 = .ok (.lstore 4, 2) := by decide +kernel
theorem dq_M_close_32 : decode prog_10_method_59_code 32 = .ok (.aload_n 0, 1) := by decide +kernel
theorem dq_M_close_33 : decode prog_10_method_59_code 33 = .ok (.iload_n 2, 1) := by decide +kernel
theorem dq_M_close_34 : decode prog_10_method_59_code 34 = .ok (.invokevirtual 282, 3) := by decide +kernel
theorem dq_M_close_37 : decode prog_10_method_59_code 37 = .ok (.ifCond .eq 15, 3) := by decide +kernel
theorem dq_M_close_40 : decode prog_10_method_59_code 40 = .ok (.aload_n 0, 1) := by decide +kernel
theorem dq_M_close_41 : decode prog_10_method_59_code 41 = .ok (.iload_n 1, 1) := by decide +kernel
theorem dq_M_close_42 : decode prog_10_method_59_code 42 = .ok (.iload_n 3, 1) := by decide +kernel
theorem dq_M_close_43 : decode prog_10_method_59_code 43 = .ok (.invokevirtual 148, 3) := by decide +kernel
theorem dq_M_close_46 : decode prog_10_method_59_code 46 = .ok (.lload 4, 2) := by decide +kernel
theorem dq_M_close_48 : decode prog_10_method_59_code 48 = .ok (.lcmp, 1) := by decide +kernel
theorem dq_M_close_49 : decode prog_10_method_59_code 49 = .ok (.ifCond .ge 7, 3) := by decide +kernel
theorem dq_M_close_52 : decode prog_10_method_59_code 52 = .ok (.ldc2_w 180, 3) := by decide +kernel
theorem dq_M_close_55 : decode prog_10_method_59_code 55 = .ok (.lreturn, 1) := by decide +kernel
theorem dq_M_close_56 : decode prog_10_method_59_code 56 = .ok (.aload_n 0, 1) := by decide +kernel
theorem dq_M_close_57 : decode prog_10_method_59_code 57 = .ok (.lload 4, 2) := by decide +kernel
theorem dq_M_close_59 : decode prog_10_method_59_code 59 = .ok (.ldc2_w 285, 3) := by decide +kernel
theorem dq_M_close_62 : decode prog_10_method_59_code 62 = .ok (.ldc2_w 266, 3) := by decide +kernel
theorem dq_M_close_65 : decode prog_10_method_59_code 65 = .ok (.invokevirtual 203, 3) := by decide +kernel
theorem dq_M_close_68 : decode prog_10_method_59_code 68 = .ok (.lstore 6, 2) := by decide +kernel
theorem dq_M_close_70 : decode prog_10_method_59_code 70 = .ok (.aload_n 0, 1) := by decide +kernel
theorem dq_M_close_71 : decode prog_10_method_59_code 71 = .ok (.getfield 26, 3) := by decide +kernel
theorem dq_M_close_74 : decode prog_10_method_59_code 74 = .ok (.iconst 2, 1) := by decide +kernel
theorem dq_M_close_75 : decode prog_10_method_59_code 75 = .ok (.aload_n 0, 1) := by decide +kernel
theorem dq_M_close_76 : decode prog_10_method_59_code 76 = .ok (.getfield 94, 3) := by decide +kernel
theorem dq_M_close_79 : decode prog_10_method_59_code 79 = .ok (.iload_n 2, 1) := by decide +kernel
theorem dq_M_close_80 : decode prog_10_method_59_code 80 = .ok (.iaload, 1) := by decide +kernel
theorem dq_M_close_81 : decode prog_10_method_59_code 81 = .ok (.imul, 1) := by decide +kernel
theorem dq_M_close_82 : decode prog_10_method_59_code 82 = .ok (.aload_n 0, 1) := by decide +kernel
theorem dq_M_close_83 : decode prog_10_method_59_code 83 = .ok (.getfield 97, 3) := by decide +kernel
theorem dq_M_close_86 : decode prog_10_method_59_code 86 = .ok (.iload_n 2, 1) := by decide +kernel
theorem dq_M_close_87 : decode prog_10_method_59_code 87 = .ok (.iaload, 1) := by decide +kernel
theorem dq_M_close_88 : decode prog_10_method_59_code 88 = .ok (.iadd, 1) := by decide +kernel
theorem dq_M_close_89 : decode prog_10_method_59_code 89 = .ok (.laload, 1) := by decide +kernel
theorem dq_M_close_90 : decode prog_10_method_59_code 90 = .ok (.lstore 8, 2) := by decide +kernel
theorem dq_M_close_92 : decode prog_10_method_59_code 92 = .ok (.aload_n 0, 1) := by decide +kernel
theorem dq_M_close_93 : decode prog_10_method_59_code 93 = .ok (.getfield 26, 3) := by decide +kernel
theorem dq_M_close_96 : decode prog_10_method_59_code 96 = .ok (.iconst 2, 1) := by decide +kernel
theorem dq_M_close_97 : decode prog_10_method_59_code 97 = .ok (.aload_n 0, 1) := by decide +kernel
theorem dq_M_close_98 : decode prog_10_method_59_code 98 = .ok (.getfield 94, 3) := by decide +kernel
theorem dq_M_close_101 : decode prog_10_method_59_code 101 = .ok (.iload_n 2, 1) := by decide +kernel
theorem dq_M_close_102 : decode prog_10_method_59_code 102 = .ok (.iaload, 1) := by decide +kernel
theorem dq_M_close_103 : decode prog_10_method_59_code 103 = .ok (.imul, 1) := by decide +kernel
theorem dq_M_close_104 : decode prog_10_method_59_code 104 = .ok (.iconst 1, 1) := by decide +kernel
theorem dq_M_close_105 : decode prog_10_method_59_code 105 = .ok (.iadd, 1) := by decide +kernel
theorem dq_M_close_106 : decode prog_10_method_59_code 106 = .ok (.aload_n 0, 1) := by decide +kernel
theorem dq_M_close_107 : decode prog_10_method_59_code 107 = .ok (.getfield 97, 3) := by decide +kernel
theorem dq_M_close_110 : decode prog_10_method_59_code 110 = .ok (.iload_n 2, 1) := by decide +kernel
theorem dq_M_close_111 : decode prog_10_method_59_code 111 = .ok (.iaload, 1) := by decide +kernel
theorem dq_M_close_112 : decode prog_10_method_59_code 112 = .ok (.isub, 1) := by decide +kernel
theorem dq_M_close_113 : decode prog_10_method_59_code 113 = .ok (.laload, 1) := by decide +kernel
theorem dq_M_close_114 : decode prog_10_method_59_code 114 = .ok (.lstore 10, 2) := by decide +kernel
theorem dq_M_close_116 : decode prog_10_method_59_code 116 = .ok (.aload_n 0, 1) := by decide +kernel
theorem dq_M_close_117 : decode prog_10_method_59_code 117 = .ok (.getfield 100, 3) := by decide +kernel
theorem dq_M_close_120 : decode prog_10_method_59_code 120 = .ok (.iload_n 2, 1) := by decide +kernel
theorem dq_M_close_121 : decode prog_10_method_59_code 121 = .ok (.laload, 1) := by decide +kernel
theorem dq_M_close_122 : decode prog_10_method_59_code 122 = .ok (.lstore 12, 2) := by decide +kernel
theorem dq_M_close_124 : decode prog_10_method_59_code 124 = .ok (.lload 8, 2) := by decide +kernel
theorem dq_M_close_126 : decode prog_10_method_59_code 126 = .ok (.lconst 0, 1) := by decide +kernel
theorem dq_M_close_127 : decode prog_10_method_59_code 127 = .ok (.lcmp, 1) := by decide +kernel
theorem dq_M_close_128 : decode prog_10_method_59_code 128 = .ok (.ifCond .le 115, 3) := by decide +kernel
theorem dq_M_close_131 : decode prog_10_method_59_code 131 = .ok (.lload 10, 2) := by decide +kernel
theorem dq_M_close_133 : decode prog_10_method_59_code 133 = .ok (.lconst 0, 1) := by decide +kernel
theorem dq_M_close_134 : decode prog_10_method_59_code 134 = .ok (.lcmp, 1) := by decide +kernel
theorem dq_M_close_135 : decode prog_10_method_59_code 135 = .ok (.ifCond .le 108, 3) := by decide +kernel
theorem dq_M_close_138 : decode prog_10_method_59_code 138 = .ok (.lload 6, 2) := by decide +kernel
theorem dq_M_close_140 : decode prog_10_method_59_code 140 = .ok (.ldc2_w 261, 3) := by decide +kernel
theorem dq_M_close_143 : decode prog_10_method_59_code 143 = .ok (.lcmp, 1) := by decide +kernel
theorem dq_M_close_144 : decode prog_10_method_59_code 144 = .ok (.ifCond .gt 99, 3) := by decide +kernel
theorem dq_M_close_147 : decode prog_10_method_59_code 147 = .ok (.aload_n 0, 1) := by decide +kernel
theorem dq_M_close_148 : decode prog_10_method_59_code 148 = .ok (.lload 6, 2) := by decide +kernel
theorem dq_M_close_150 : decode prog_10_method_59_code 150 = .ok (.invokevirtual 130, 3) := by decide +kernel
theorem dq_M_close_153 : decode prog_10_method_59_code 153 = .ok (.aload_n 0, 1) := by decide +kernel
theorem dq_M_close_154 : decode prog_10_method_59_code 154 = .ok (.lload 8, 2) := by decide +kernel
theorem dq_M_close_156 : decode prog_10_method_59_code 156 = .ok (.invokevirtual 134, 3) := by decide +kernel
theorem dq_M_close_159 : decode prog_10_method_59_code 159 = .ok (.aload_n 0, 1) := by decide +kernel
theorem dq_M_close_160 : decode prog_10_method_59_code 160 = .ok (.lload 10, 2) := by decide +kernel
theorem dq_M_close_162 : decode prog_10_method_59_code 162 = .ok (.invokevirtual 137, 3) := by decide +kernel
theorem dq_M_close_165 : decode prog_10_method_59_code 165 = .ok (.lstore 14, 2) := by decide +kernel
theorem dq_M_close_167 : decode prog_10_method_59_code 167 = .ok (.aload_n 0, 1) := by decide +kernel
theorem dq_M_close_168 : decode prog_10_method_59_code 168 = .ok (.getfield 122, 3) := by decide +kernel
theorem dq_M_close_171 : decode prog_10_method_59_code 171 = .ok (.lconst 0, 1) := by decide +kernel
theorem dq_M_close_172 : decode prog_10_method_59_code 172 = .ok (.lcmp, 1) := by decide +kernel
theorem dq_M_close_173 : decode prog_10_method_59_code 173 = .ok (.ifCond .le 7, 3) := by decide +kernel
theorem dq_M_close_176 : decode prog_10_method_59_code 176 = .ok (.iconst 1, 1) := by decide +kernel
theorem dq_M_close_177 : decode prog_10_method_59_code 177 = .ok (.goto 4, 3) := by decide +kernel
theorem dq_M_close_180 : decode prog_10_method_59_code 180 = .ok (.iconst 0, 1) := by decide +kernel
theorem dq_M_close_181 : decode prog_10_method_59_code 181 = .ok (.istore 16, 2) := by decide +kernel
theorem dq_M_close_183 : decode prog_10_method_59_code 183 = .ok (.aload_n 0, 1) := by decide +kernel
theorem dq_M_close_184 : decode prog_10_method_59_code 184 = .ok (.invokevirtual 189, 3) := by decide +kernel
theorem dq_M_close_187 : decode prog_10_method_59_code 187 = .ok (.aload_n 0, 1) := by decide +kernel
theorem dq_M_close_188 : decode prog_10_method_59_code 188 = .ok (.aload_n 0, 1) := by decide +kernel
theorem dq_M_close_189 : decode prog_10_method_59_code 189 = .ok (.getfield 100, 3) := by decide +kernel
theorem dq_M_close_192 : decode prog_10_method_59_code 192 = .ok (.iload_n 2, 1) := by decide +kernel
theorem dq_M_close_193 : decode prog_10_method_59_code 193 = .ok (.laload, 1) := by decide +kernel
theorem dq_M_close_194 : decode prog_10_method_59_code 194 = .ok (.invokevirtual 130, 3) := by decide +kernel
theorem dq_M_close_197 : decode prog_10_method_59_code 197 = .ok (.aload_n 0, 1) := by decide +kernel
theorem dq_M_close_198 : decode prog_10_method_59_code 198 = .ok (.lload 10, 2) := by decide +kernel
theorem dq_M_close_200 : decode prog_10_method_59_code 200 = .ok (.invokevirtual 134, 3) := by decide +kernel
theorem dq_M_close_203 : decode prog_10_method_59_code 203 = .ok (.aload_n 0, 1) := by decide +kernel
theorem dq_M_close_204 : decode prog_10_method_59_code 204 = .ok (.invokevirtual 192, 3) := by decide +kernel
theorem dq_M_close_207 : decode prog_10_method_59_code 207 = .ok (.ifCond .ne 10, 3) := by decide +kernel
theorem dq_M_close_210 : decode prog_10_method_59_code 210 = .ok (.aload_n 0, 1) := by decide +kernel
theorem dq_M_close_211 : decode prog_10_method_59_code 211 = .ok (.invokevirtual 287, 3) := by decide +kernel
theorem dq_M_close_214 : decode prog_10_method_59_code 214 = .ok (.ifCond .eq 25, 3) := by decide +kernel
theorem dq_M_close_217 : decode prog_10_method_59_code 217 = .ok (.lload 12, 2) := by decide +kernel
theorem dq_M_close_219 : decode prog_10_method_59_code 219 = .ok (.iload 16, 2) := by decide +kernel
theorem dq_M_close_221 : decode prog_10_method_59_code 221 = .ok (.ifCond .eq 10, 3) := by decide +kernel
theorem dq_M_close_224 : decode prog_10_method_59_code 224 = .ok (.lload 14, 2) := by decide +kernel
theorem dq_M_close_226 : decode prog_10_method_59_code 226 = .ok (.lconst 1, 1) := by decide +kernel
theorem dq_M_close_227 : decode prog_10_method_59_code 227 = .ok (.ladd, 1) := by decide +kernel
theorem dq_M_close_228 : decode prog_10_method_59_code 228 = .ok (.goto 5, 3) := by decide +kernel
theorem dq_M_close_231 : decode prog_10_method_59_code 231 = .ok (.lload 14, 2) := by decide +kernel
theorem dq_M_close_233 : decode prog_10_method_59_code 233 = .ok (.invokestatic 200, 3) := by decide +kernel
theorem dq_M_close_236 : decode prog_10_method_59_code 236 = .ok (.goto 5, 3) := by decide +kernel
theorem dq_M_close_239 : decode prog_10_method_59_code 239 = .ok (.lload 12, 2) := by decide +kernel
theorem dq_M_close_241 : decode prog_10_method_59_code 241 = .ok (.lstore 12, 2) := by decide +kernel
theorem dq_M_close_243 : decode prog_10_method_59_code 243 = .ok (.aload_n 0, 1) := by decide +kernel
theorem dq_M_close_244 : decode prog_10_method_59_code 244 = .ok (.iload_n 1, 1) := by decide +kernel
theorem dq_M_close_245 : decode prog_10_method_59_code 245 = .ok (.iload_n 3, 1) := by decide +kernel
theorem dq_M_close_246 : decode prog_10_method_59_code 246 = .ok (.lload 4, 2) := by decide +kernel
theorem dq_M_close_248 : decode prog_10_method_59_code 248 = .ok (.lneg, 1) := by decide +kernel
theorem dq_M_close_249 : decode prog_10_method_59_code 249 = .ok (.invokevirtual 182, 3) := by decide +kernel
theorem dq_M_close_252 : decode prog_10_method_59_code 252 = .ok (.aload_n 0, 1) := by decide +kernel
theorem dq_M_close_253 : decode prog_10_method_59_code 253 = .ok (.getfield 73, 3) := by decide +kernel
theorem dq_M_close_256 : decode prog_10_method_59_code 256 = .ok (.iload_n 3, 1) := by decide +kernel
theorem dq_M_close_257 : decode prog_10_method_59_code 257 = .ok (.dup2, 1) := by decide +kernel
theorem dq_M_close_258 : decode prog_10_method_59_code 258 = .ok (.laload, 1) := by decide +kernel
theorem dq_M_close_259 : decode prog_10_method_59_code 259 = .ok (.lload 4, 2) := by decide +kernel
theorem dq_M_close_261 : decode prog_10_method_59_code 261 = .ok (.ladd, 1) := by decide +kernel
theorem dq_M_close_262 : decode prog_10_method_59_code 262 = .ok (.lastore, 1) := by decide +kernel
theorem dq_M_close_263 : decode prog_10_method_59_code 263 = .ok (.aload_n 0, 1) := by decide +kernel
theorem dq_M_close_264 : decode prog_10_method_59_code 264 = .ok (.iload_n 1, 1) := by decide +kernel
theorem dq_M_close_265 : decode prog_10_method_59_code 265 = .ok (.aload_n 0, 1) := by decide +kernel
theorem dq_M_close_266 : decode prog_10_method_59_code 266 = .ok (.iload_n 2, 1) := by decide +kernel
theorem dq_M_close_267 : decode prog_10_method_59_code 267 = .ok (.invokevirtual 162, 3) := by decide +kernel
theorem dq_M_close_270 : decode prog_10_method_59_code 270 = .ok (.lload 12, 2) := by decide +kernel
theorem dq_M_close_272 : decode prog_10_method_59_code 272 = .ok (.invokevirtual 182, 3) := by decide +kernel
theorem dq_M_close_275 : decode prog_10_method_59_code 275 = .ok (.aload_n 0, 1) := by decide +kernel
theorem dq_M_close_276 : decode prog_10_method_59_code 276 = .ok (.aload_n 0, 1) := by decide +kernel
theorem dq_M_close_277 : decode prog_10_method_59_code 277 = .ok (.getfield 91, 3) := by decide +kernel
theorem dq_M_close_280 : decode prog_10_method_59_code 280 = .ok (.iload_n 2, 1) := by decide +kernel
theorem dq_M_close_281 : decode prog_10_method_59_code 281 = .ok (.iaload, 1) := by decide +kernel
theorem dq_M_close_282 : decode prog_10_method_59_code 282 = .ok (.aload_n 0, 1) := by decide +kernel
theorem dq_M_close_283 : decode prog_10_method_59_code 283 = .ok (.iload_n 2, 1) := by decide +kernel
theorem dq_M_close_284 : decode prog_10_method_59_code 284 = .ok (.invokevirtual 162, 3) := by decide +kernel
theorem dq_M_close_287 : decode prog_10_method_59_code 287 = .ok (.aload_n 0, 1) := by decide +kernel
theorem dq_M_close_288 : decode prog_10_method_59_code 288 = .ok (.getfield 100, 3) := by decide +kernel
theorem dq_M_close_291 : decode prog_10_method_59_code 291 = .ok (.iload_n 2, 1) := by decide +kernel
theorem dq_M_close_292 : decode prog_10_method_59_code 292 = .ok (.laload, 1) := by decide +kernel
theorem dq_M_close_293 : decode prog_10_method_59_code 293 = .ok (.lload 12, 2) := by decide +kernel
theorem dq_M_close_295 : decode prog_10_method_59_code 295 = .ok (.lsub, 1) := by decide +kernel
theorem dq_M_close_296 : decode prog_10_method_59_code 296 = .ok (.invokevirtual 182, 3) := by decide +kernel
theorem dq_M_close_299 : decode prog_10_method_59_code 299 = .ok (.aload_n 0, 1) := by decide +kernel
theorem dq_M_close_300 : decode prog_10_method_59_code 300 = .ok (.getfield 88, 3) := by decide +kernel
theorem dq_M_close_303 : decode prog_10_method_59_code 303 = .ok (.iload_n 2, 1) := by decide +kernel
theorem dq_M_close_304 : decode prog_10_method_59_code 304 = .ok (.iconst 0, 1) := by decide +kernel
theorem dq_M_close_305 : decode prog_10_method_59_code 305 = .ok (.bastore, 1) := by decide +kernel
theorem dq_M_close_306 : decode prog_10_method_59_code 306 = .ok (.lload 12, 2) := by decide +kernel
theorem dq_M_close_308 : decode prog_10_method_59_code 308 = .ok (.lreturn, 1) := by decide +kernel
def fM_close_243 (y0 : Nat) (N : qz_N) (x1 : Int32) (x2 : Int32) (x3 : Int32) (x4 : Int64) (x12 : Int64) : Option (Int64 × qz_N) :=
  (fM_give y0 x1 x3 (-x4) N).bind fun q18 =>
  if x3 < 0 ∨ 4 ≤ x3.toNatClampNeg then none else
  if x3 < 0 ∨ 4 ≤ x3.toNatClampNeg then none else
  qz_let (qz_sl q18.2 41 y0 x3.toNatClampNeg ((qz_gl q18.2 41 y0 x3.toNatClampNeg) + x4)) fun N20 =>
  (fM_coverToken y0 x2 N20).bind fun q21 =>
  (fM_give y0 x1 q21.1 x12 q21.2).bind fun q23 =>
  if x2 < 0 ∨ 10 ≤ x2.toNatClampNeg then none else
  (fM_coverToken y0 x2 q23.2).bind fun q25 =>
  if x2 < 0 ∨ 10 ≤ x2.toNatClampNeg then none else
  (fM_give y0 (qz_gi q23.2 47 y0 x2.toNatClampNeg) q25.1 ((qz_gl q25.2 50 y0 x2.toNatClampNeg) - x12) q25.2).bind fun q27 =>
  if x2 < 0 ∨ 10 ≤ x2.toNatClampNeg then none else
  qz_let (qz_si q27.2 46 y0 x2.toNatClampNeg (vp_nar .boolean (0 : Int32))) fun N29 =>
  some (x12, N29)
def fM_close_241 (y0 : Nat) (N : qz_N) (x1 : Int32) (x2 : Int32) (x3 : Int32) (x4 : Int64) (s0 : Int64) : Option (Int64 × qz_N) :=
  fM_close_243 y0 N x1 x2 x3 x4 s0
def fM_close_233 (y0 : Nat) (N : qz_N) (x1 : Int32) (x2 : Int32) (x3 : Int32) (x4 : Int64) (s0 : Int64) (s1 : Int64) : Option (Int64 × qz_N) :=
  (fM_least s1 s0 N).bind fun q44 =>
  fM_close_241 y0 q44.2 x1 x2 x3 x4 q44.1
def fM_close_217 (y0 : Nat) (N : qz_N) (x1 : Int32) (x2 : Int32) (x3 : Int32) (x4 : Int64) (x12 : Int64) (x14 : Int64) (x16 : Int32) : Option (Int64 × qz_N) :=
  if x16 = 0 then
    fM_close_233 y0 N x1 x2 x3 x4 x14 x12
  else
  fM_close_233 y0 N x1 x2 x3 x4 (x14 + (1 : Int64)) x12
def fM_close_181 (y0 : Nat) (N : qz_N) (x1 : Int32) (x2 : Int32) (x3 : Int32) (x4 : Int64) (x10 : Int64) (x12 : Int64) (x14 : Int64) (s0 : Int32) : Option (Int64 × qz_N) :=
  (fM_keepBig y0 N).bind fun q36 =>
  if x2 < 0 ∨ 10 ≤ x2.toNatClampNeg then none else
  (fM_begin y0 (qz_gl q36.2 50 y0 x2.toNatClampNeg) q36.2).bind fun q38 =>
  (fM_times y0 x10 q38.2).bind fun q40 =>
  (fM_keptIsLess y0 q40.2).bind fun q42 =>
  if q42.1 = 0 then
    (fM_isAlike y0 q42.2).bind fun q46 =>
    if q46.1 = 0 then
      fM_close_241 y0 q46.2 x1 x2 x3 x4 x12
    else
    fM_close_217 y0 q46.2 x1 x2 x3 x4 x12 x14 s0
  else
  fM_close_217 y0 q42.2 x1 x2 x3 x4 x12 x14 s0
def fM_close (o : Nat) (x1 : Int32) (x2 : Int32) (N : qz_N) : Option (Int64 × qz_N) :=
  (fM_isPlayer x1 N).bind fun q1 =>
  if q1.1 = 0 then
    some ((-2 : Int64), q1.2)
  else
  (fM_isOpen o x2 q1.2).bind fun q3 =>
  if q3.1 = 0 then
    some ((-2 : Int64), q3.2)
  else
  (fM_debtToken o x2 q3.2).bind fun q5 =>
  (fM_debtOf o x2 q5.2).bind fun q7 =>
  (fM_isUncovered o x2 q7.2).bind fun q9 =>
  if q9.1 = 0 then
    some ((-3 : Int64), q9.2)
  else
  (fM_has o x1 q5.1 q9.2).bind fun q11 =>
  if q7.1 ≤ q11.1 then
    (fM_partUp o q7.1 (105 : Int64) (100 : Int64) q11.2).bind fun q13 =>
    if x2 < 0 ∨ 10 ≤ x2.toNatClampNeg then none else
    if x2 < 0 ∨ 10 ≤ x2.toNatClampNeg then none else
    if (((2 : Int32) * (qz_gi q13.2 48 o x2.toNatClampNeg)) + (qz_gi q13.2 49 o x2.toNatClampNeg)) < 0 ∨ 12 ≤ (((2 : Int32) * (qz_gi q13.2 48 o x2.toNatClampNeg)) + (qz_gi q13.2 49 o x2.toNatClampNeg)).toNatClampNeg then none else
    qz_let (qz_gl q13.2 27 o (((2 : Int32) * (qz_gi q13.2 48 o x2.toNatClampNeg)) + (qz_gi q13.2 49 o x2.toNatClampNeg)).toNatClampNeg) fun v15 =>
    if x2 < 0 ∨ 10 ≤ x2.toNatClampNeg then none else
    if x2 < 0 ∨ 10 ≤ x2.toNatClampNeg then none else
    if ((((2 : Int32) * (qz_gi q13.2 48 o x2.toNatClampNeg)) + (1 : Int32)) - (qz_gi q13.2 49 o x2.toNatClampNeg)) < 0 ∨ 12 ≤ ((((2 : Int32) * (qz_gi q13.2 48 o x2.toNatClampNeg)) + (1 : Int32)) - (qz_gi q13.2 49 o x2.toNatClampNeg)).toNatClampNeg then none else
    qz_let (qz_gl q13.2 27 o ((((2 : Int32) * (qz_gi q13.2 48 o x2.toNatClampNeg)) + (1 : Int32)) - (qz_gi q13.2 49 o x2.toNatClampNeg)).toNatClampNeg) fun v16 =>
    if x2 < 0 ∨ 10 ≤ x2.toNatClampNeg then none else
    qz_let (qz_gl q13.2 50 o x2.toNatClampNeg) fun v17 =>
    if v15 ≤ (0 : Int64) then
      fM_close_243 o q13.2 x1 x2 q5.1 q7.1 v17
    else
    if v16 ≤ (0 : Int64) then
      fM_close_243 o q13.2 x1 x2 q5.1 q7.1 v17
    else
    if (1000000000000000000 : Int64) < q13.1 then
      fM_close_243 o q13.2 x1 x2 q5.1 q7.1 v17
    else
    (fM_begin o q13.1 q13.2).bind fun q30 =>
    (fM_times o v15 q30.2).bind fun q32 =>
    (fM_over o v16 q32.2).bind fun q34 =>
    if (qz_gl q34.2 7 o 41) ≤ (0 : Int64) then
      fM_close_181 o q34.2 x1 x2 q5.1 q7.1 v16 v17 q34.1 (0 : Int32)
    else
    fM_close_181 o q34.2 x1 x2 q5.1 q7.1 v16 v17 q34.1 (1 : Int32)
  else
  some ((-3 : Int64), q11.2)
set_option maxRecDepth 100000 in
set_option maxHeartbeats 4000000 in
theorem sM_close_243 {p : Program} {l : Launch} {e : Env} {s : State} {m : MethodId} {args : Array Value} {below : List Frame} {meth : Method} {c : Code} {G : qz_G} (X : qz_X p s m args meth c "ExactCurvesModel" prog_10_method_59_code 17 (some .long) G) {r : (Int64 × qz_N)} (y0 : Nat) (hy0 : y0 < 1) (N : qz_N) (x1 : Int32) (x2 : Int32) (x3 : Int32) (x4 : Int64) (x12 : Int64) (h : fM_close_243 y0 N x1 x2 x3 x4 x12 = some r) : qz_W p l e (qz_R 5) s m args below meth c 0 0 (MQ below (qz_Q G r.2 (some (.long r.1))) args s 0 0 (qz_A G)) G s.heap 17 N 243 [(1, .int x1), (2, .int x2), (3, .int x3), (4, .long x4), (12, .long x12), (0, .ref (G.2.2 7 y0))] [] := by
  unfold fM_close_243 at h
  refine qz_aload_n X 5 rfl dq_M_close_243 ?_
  refine qz_iload_n X 0 rfl dq_M_close_244 ?_
  refine qz_iload_n X 2 rfl dq_M_close_245 ?_
  refine qz_lload X 3 rfl dq_M_close_246 ?_
  refine qz_lneg X dq_M_close_248 ?_
  refine qz_bind h (fun q18 e19 h => ?_)
  refine qz_callV X (as := [.int x1, .int x3, .long (-x4)]) (st := []) (o := none) (N' := q18.2) cq_M_182 hy0 (cM_give l G X.2.2.2.2.2.2.1 y0 x1 x3 (-x4) N hy0 _ e19) ⟨by decide, by decide⟩ rfl rfl (Nat.le_of_ble_eq_true rfl) ⟨Nat.zero_le _, Nat.zero_le _⟩ dq_M_close_249 ?_
  refine qz_aload_n X 5 rfl dq_M_close_252 ?_
  refine qz_get X (v := .ref (G.2.2 41 y0)) kq_M_73 hy0 rfl dq_M_close_253 ?_
  refine qz_iload_n X 2 rfl dq_M_close_256 ?_
  refine qz_dup2_11 X rfl rfl dq_M_close_257 ?_
  refine qz_lald X (c0 := 41) (i := y0) (n := 4) rfl hy0 dq_M_close_258 h (fun h => ?_)
  refine qz_lload X 3 rfl dq_M_close_259 ?_
  refine qz_ladd X dq_M_close_261 ?_
  refine qz_last X (c0 := 41) (i := y0) (n := 4) rfl hy0 dq_M_close_262 h (fun N20 h => ?_)
  refine qz_aload_n X 5 rfl dq_M_close_263 ?_
  refine qz_iload_n X 0 rfl dq_M_close_264 ?_
  refine qz_aload_n X 5 rfl dq_M_close_265 ?_
  refine qz_iload_n X 1 rfl dq_M_close_266 ?_
  refine qz_bind h (fun q21 e22 h => ?_)
  refine qz_callV X (as := [.int x2]) (st := [.int x1, .ref (G.2.2 7 y0)]) (o := some (.int q21.1)) (N' := q21.2) cq_M_162 hy0 (cM_coverToken l G X.2.2.2.2.2.2.1 y0 x2 N20 hy0 _ e22) ⟨by decide, by decide⟩ rfl rfl (Nat.le_of_ble_eq_true rfl) ⟨Nat.zero_le _, Nat.zero_le _⟩ dq_M_close_267 ?_
  refine qz_lload X 4 rfl dq_M_close_270 ?_
  refine qz_bind h (fun q23 e24 h => ?_)
  refine qz_callV X (as := [.int x1, .int q21.1, .long x12]) (st := []) (o := none) (N' := q23.2) cq_M_182 hy0 (cM_give l G X.2.2.2.2.2.2.1 y0 x1 q21.1 x12 q21.2 hy0 _ e24) ⟨by decide, by decide⟩ rfl rfl (Nat.le_of_ble_eq_true rfl) ⟨Nat.zero_le _, Nat.zero_le _⟩ dq_M_close_272 ?_
  refine qz_aload_n X 5 rfl dq_M_close_275 ?_
  refine qz_aload_n X 5 rfl dq_M_close_276 ?_
  refine qz_get X (v := .ref (G.2.2 47 y0)) kq_M_91 hy0 rfl dq_M_close_277 ?_
  refine qz_iload_n X 1 rfl dq_M_close_280 ?_
  refine qz_iald X (c0 := 47) (i := y0) (n := 10) rfl hy0 dq_M_close_281 h (fun h => ?_)
  refine qz_aload_n X 5 rfl dq_M_close_282 ?_
  refine qz_iload_n X 1 rfl dq_M_close_283 ?_
  refine qz_bind h (fun q25 e26 h => ?_)
  refine qz_callV X (as := [.int x2]) (st := [.int (qz_gi q23.2 47 y0 x2.toNatClampNeg), .ref (G.2.2 7 y0)]) (o := some (.int q25.1)) (N' := q25.2) cq_M_162 hy0 (cM_coverToken l G X.2.2.2.2.2.2.1 y0 x2 q23.2 hy0 _ e26) ⟨by decide, by decide⟩ rfl rfl (Nat.le_of_ble_eq_true rfl) ⟨Nat.zero_le _, Nat.zero_le _⟩ dq_M_close_284 ?_
  refine qz_aload_n X 5 rfl dq_M_close_287 ?_
  refine qz_get X (v := .ref (G.2.2 50 y0)) kq_M_100 hy0 rfl dq_M_close_288 ?_
  refine qz_iload_n X 1 rfl dq_M_close_291 ?_
  refine qz_lald X (c0 := 50) (i := y0) (n := 10) rfl hy0 dq_M_close_292 h (fun h => ?_)
  refine qz_lload X 4 rfl dq_M_close_293 ?_
  refine qz_lsub X dq_M_close_295 ?_
  refine qz_bind h (fun q27 e28 h => ?_)
  refine qz_callV X (as := [.int (qz_gi q23.2 47 y0 x2.toNatClampNeg), .int q25.1, .long ((qz_gl q25.2 50 y0 x2.toNatClampNeg) - x12)]) (st := []) (o := none) (N' := q27.2) cq_M_182 hy0 (cM_give l G X.2.2.2.2.2.2.1 y0 (qz_gi q23.2 47 y0 x2.toNatClampNeg) q25.1 ((qz_gl q25.2 50 y0 x2.toNatClampNeg) - x12) q25.2 hy0 _ e28) ⟨by decide, by decide⟩ rfl rfl (Nat.le_of_ble_eq_true rfl) ⟨Nat.zero_le _, Nat.zero_le _⟩ dq_M_close_296 ?_
  refine qz_aload_n X 5 rfl dq_M_close_299 ?_
  refine qz_get X (v := .ref (G.2.2 46 y0)) kq_M_88 hy0 rfl dq_M_close_300 ?_
  refine qz_iload_n X 1 rfl dq_M_close_303 ?_
  refine qz_iconst X (v := (0 : Int32)) (by decide) dq_M_close_304 ?_
  refine qz_zast X (c0 := 46) (i := y0) (n := 10) rfl hy0 dq_M_close_305 h (fun N29 h => ?_)
  refine qz_lload X 4 rfl dq_M_close_306 ?_
  exact qz_lret X h dq_M_close_308
set_option maxRecDepth 100000 in
set_option maxHeartbeats 4000000 in
theorem sM_close_241 {p : Program} {l : Launch} {e : Env} {s : State} {m : MethodId} {args : Array Value} {below : List Frame} {meth : Method} {c : Code} {G : qz_G} (X : qz_X p s m args meth c "ExactCurvesModel" prog_10_method_59_code 17 (some .long) G) {r : (Int64 × qz_N)} (y0 : Nat) (hy0 : y0 < 1) (N : qz_N) (x1 : Int32) (x2 : Int32) (x3 : Int32) (x4 : Int64) (s0 : Int64) (h : fM_close_241 y0 N x1 x2 x3 x4 s0 = some r) : qz_W p l e (qz_R 5) s m args below meth c 0 0 (MQ below (qz_Q G r.2 (some (.long r.1))) args s 0 0 (qz_A G)) G s.heap 17 N 241 [(1, .int x1), (2, .int x2), (3, .int x3), (4, .long x4), (0, .ref (G.2.2 7 y0))] [.long s0] := by
  unfold fM_close_241 at h
  refine qz_lstore X (lv' := [(12, .long s0), (1, .int x1), (2, .int x2), (3, .int x3), (4, .long x4), (0, .ref (G.2.2 7 y0))]) (by decide) rfl dq_M_close_241 ?_
  refine qz_sub [1, 2, 3, 4, 0, 5] rfl ?_
  exact sM_close_243 X y0 hy0 N x1 x2 x3 x4 s0 h
set_option maxRecDepth 100000 in
set_option maxHeartbeats 4000000 in
theorem sM_close_233 {p : Program} {l : Launch} {e : Env} {s : State} {m : MethodId} {args : Array Value} {below : List Frame} {meth : Method} {c : Code} {G : qz_G} (X : qz_X p s m args meth c "ExactCurvesModel" prog_10_method_59_code 17 (some .long) G) {r : (Int64 × qz_N)} (y0 : Nat) (hy0 : y0 < 1) (N : qz_N) (x1 : Int32) (x2 : Int32) (x3 : Int32) (x4 : Int64) (s0 : Int64) (s1 : Int64) (h : fM_close_233 y0 N x1 x2 x3 x4 s0 s1 = some r) : qz_W p l e (qz_R 5) s m args below meth c 0 0 (MQ below (qz_Q G r.2 (some (.long r.1))) args s 0 0 (qz_A G)) G s.heap 17 N 233 [(1, .int x1), (2, .int x2), (3, .int x3), (4, .long x4), (0, .ref (G.2.2 7 y0))] [.long s0, .long s1] := by
  unfold fM_close_233 at h
  refine qz_bind h (fun q44 e45 h => ?_)
  refine qz_callS X (as := [.long s1, .long s0]) (st := []) (o := some (.long q44.1)) (N' := q44.2) cq_M_200 (cM_least l G X.2.2.2.2.2.2.1 s1 s0 N _ e45) ⟨by decide, by decide⟩ rfl rfl (Nat.le_of_ble_eq_true rfl) ⟨Nat.zero_le _, Nat.zero_le _⟩ dq_M_close_233 ?_
  refine qz_goto X (tgt := 241) (by decide) dq_M_close_236 ?_
  refine qz_sub [0, 1, 2, 3, 4] rfl ?_
  exact sM_close_241 X y0 hy0 q44.2 x1 x2 x3 x4 q44.1 h
set_option maxRecDepth 100000 in
set_option maxHeartbeats 4000000 in
theorem sM_close_217 {p : Program} {l : Launch} {e : Env} {s : State} {m : MethodId} {args : Array Value} {below : List Frame} {meth : Method} {c : Code} {G : qz_G} (X : qz_X p s m args meth c "ExactCurvesModel" prog_10_method_59_code 17 (some .long) G) {r : (Int64 × qz_N)} (y0 : Nat) (hy0 : y0 < 1) (N : qz_N) (x1 : Int32) (x2 : Int32) (x3 : Int32) (x4 : Int64) (x12 : Int64) (x14 : Int64) (x16 : Int32) (h : fM_close_217 y0 N x1 x2 x3 x4 x12 x14 x16 = some r) : qz_W p l e (qz_R 5) s m args below meth c 0 0 (MQ below (qz_Q G r.2 (some (.long r.1))) args s 0 0 (qz_A G)) G s.heap 17 N 217 [(1, .int x1), (2, .int x2), (3, .int x3), (4, .long x4), (12, .long x12), (14, .long x14), (16, .int x16), (0, .ref (G.2.2 7 y0))] [] := by
  unfold fM_close_217 at h
  refine qz_lload X 4 rfl dq_M_close_217 ?_
  refine qz_iload X 6 rfl dq_M_close_219 ?_
  refine qz_if_eq X (tgt := 231) (by decide) dq_M_close_221 h (fun _ h => ?_) (fun _ h => ?_)
  · refine qz_lload X 5 rfl dq_M_close_231 ?_
    refine qz_sub [0, 1, 2, 3, 7] rfl ?_
    exact sM_close_233 X y0 hy0 N x1 x2 x3 x4 x14 x12 h
  · refine qz_lload X 5 rfl dq_M_close_224 ?_
    refine qz_lconst X (v := (1 : Int64)) (by decide) dq_M_close_226 ?_
    refine qz_ladd X dq_M_close_227 ?_
    refine qz_goto X (tgt := 233) (by decide) dq_M_close_228 ?_
    refine qz_sub [0, 1, 2, 3, 7] rfl ?_
    exact sM_close_233 X y0 hy0 N x1 x2 x3 x4 (x14 + (1 : Int64)) x12 h
set_option maxRecDepth 100000 in
set_option maxHeartbeats 4000000 in
theorem sM_close_181 {p : Program} {l : Launch} {e : Env} {s : State} {m : MethodId} {args : Array Value} {below : List Frame} {meth : Method} {c : Code} {G : qz_G} (X : qz_X p s m args meth c "ExactCurvesModel" prog_10_method_59_code 17 (some .long) G) {r : (Int64 × qz_N)} (y0 : Nat) (hy0 : y0 < 1) (N : qz_N) (x1 : Int32) (x2 : Int32) (x3 : Int32) (x4 : Int64) (x10 : Int64) (x12 : Int64) (x14 : Int64) (s0 : Int32) (h : fM_close_181 y0 N x1 x2 x3 x4 x10 x12 x14 s0 = some r) : qz_W p l e (qz_R 5) s m args below meth c 0 0 (MQ below (qz_Q G r.2 (some (.long r.1))) args s 0 0 (qz_A G)) G s.heap 17 N 181 [(1, .int x1), (2, .int x2), (3, .int x3), (4, .long x4), (10, .long x10), (12, .long x12), (14, .long x14), (0, .ref (G.2.2 7 y0))] [.int s0] := by
  unfold fM_close_181 at h
  refine qz_istore X (lv' := [(16, .int s0), (1, .int x1), (2, .int x2), (3, .int x3), (4, .long x4), (10, .long x10), (12, .long x12), (14, .long x14), (0, .ref (G.2.2 7 y0))]) (by decide) rfl dq_M_close_181 ?_
  refine qz_aload_n X 8 rfl dq_M_close_183 ?_
  refine qz_bind h (fun q36 e37 h => ?_)
  refine qz_callV X (as := []) (st := []) (o := none) (N' := q36.2) cq_M_189 hy0 (cM_keepBig l G X.2.2.2.2.2.2.1 y0 N hy0 _ e37) ⟨by decide, by decide⟩ rfl rfl (Nat.le_of_ble_eq_true rfl) ⟨Nat.zero_le _, Nat.zero_le _⟩ dq_M_close_184 ?_
  refine qz_aload_n X 8 rfl dq_M_close_187 ?_
  refine qz_aload_n X 8 rfl dq_M_close_188 ?_
  refine qz_get X (v := .ref (G.2.2 50 y0)) kq_M_100 hy0 rfl dq_M_close_189 ?_
  refine qz_iload_n X 2 rfl dq_M_close_192 ?_
  refine qz_lald X (c0 := 50) (i := y0) (n := 10) rfl hy0 dq_M_close_193 h (fun h => ?_)
  refine qz_bind h (fun q38 e39 h => ?_)
  refine qz_callV X (as := [.long (qz_gl q36.2 50 y0 x2.toNatClampNeg)]) (st := []) (o := none) (N' := q38.2) cq_M_130 hy0 (cM_begin l G X.2.2.2.2.2.2.1 y0 (qz_gl q36.2 50 y0 x2.toNatClampNeg) q36.2 hy0 _ e39) ⟨by decide, by decide⟩ rfl rfl (Nat.le_of_ble_eq_true rfl) ⟨Nat.zero_le _, Nat.zero_le _⟩ dq_M_close_194 ?_
  refine qz_aload_n X 8 rfl dq_M_close_197 ?_
  refine qz_lload X 5 rfl dq_M_close_198 ?_
  refine qz_bind h (fun q40 e41 h => ?_)
  refine qz_callV X (as := [.long x10]) (st := []) (o := none) (N' := q40.2) cq_M_134 hy0 (cM_times l G X.2.2.2.2.2.2.1 y0 x10 q38.2 hy0 _ e41) ⟨by decide, by decide⟩ rfl rfl (Nat.le_of_ble_eq_true rfl) ⟨Nat.zero_le _, Nat.zero_le _⟩ dq_M_close_200 ?_
  refine qz_aload_n X 8 rfl dq_M_close_203 ?_
  refine qz_bind h (fun q42 e43 h => ?_)
  refine qz_callV X (as := []) (st := []) (o := some (.int q42.1)) (N' := q42.2) cq_M_192 hy0 (cM_keptIsLess l G X.2.2.2.2.2.2.1 y0 q40.2 hy0 _ e43) ⟨by decide, by decide⟩ rfl rfl (Nat.le_of_ble_eq_true rfl) ⟨Nat.zero_le _, Nat.zero_le _⟩ dq_M_close_204 ?_
  refine qz_if_ne X (tgt := 217) (by decide) dq_M_close_207 h (fun _ h => ?_) (fun _ h => ?_)
  · refine qz_sub [1, 2, 3, 4, 6, 7, 0, 8] rfl ?_
    exact sM_close_217 X y0 hy0 q42.2 x1 x2 x3 x4 x12 x14 s0 h
  · refine qz_aload_n X 8 rfl dq_M_close_210 ?_
    refine qz_bind h (fun q46 e47 h => ?_)
    refine qz_callV X (as := []) (st := []) (o := some (.int q46.1)) (N' := q46.2) cq_M_287 hy0 (cM_isAlike l G X.2.2.2.2.2.2.1 y0 q42.2 hy0 _ e47) ⟨by decide, by decide⟩ rfl rfl (Nat.le_of_ble_eq_true rfl) ⟨Nat.zero_le _, Nat.zero_le _⟩ dq_M_close_211 ?_
    refine qz_if_eq X (tgt := 239) (by decide) dq_M_close_214 h (fun _ h => ?_) (fun _ h => ?_)
    · refine qz_lload X 6 rfl dq_M_close_239 ?_
      refine qz_sub [1, 2, 3, 4, 8] rfl ?_
      exact sM_close_241 X y0 hy0 q46.2 x1 x2 x3 x4 x12 h
    · refine qz_sub [1, 2, 3, 4, 6, 7, 0, 8] rfl ?_
      exact sM_close_217 X y0 hy0 q46.2 x1 x2 x3 x4 x12 x14 s0 h
set_option maxRecDepth 100000 in
set_option maxHeartbeats 4000000 in
theorem sM_close {p : Program} {l : Launch} {e : Env} {s : State} {m : MethodId} {args : Array Value} {below : List Frame} {meth : Method} {c : Code} {G : qz_G} (X : qz_X p s m args meth c "ExactCurvesModel" prog_10_method_59_code 17 (some .long) G) {r : (Int64 × qz_N)} (o : Nat) (x1 : Int32) (x2 : Int32) (ho : o < 1) (N : qz_N) (h : fM_close o x1 x2 N = some r) : qz_W p l e (qz_R 5) s m args below meth c 0 0 (MQ below (qz_Q G r.2 (some (.long r.1))) args s 0 0 (qz_A G)) G s.heap 17 N 0 [(0, .ref (G.2.2 7 o)), (1, .int x1), (2, .int x2)] [] := by
  unfold fM_close at h
  refine qz_iload_n X 1 rfl dq_M_close_0 ?_
  refine qz_bind h (fun q1 e2 h => ?_)
  refine qz_callS X (as := [.int x1]) (st := []) (o := some (.int q1.1)) (N' := q1.2) cq_M_166 (cM_isPlayer l G X.2.2.2.2.2.2.1 x1 N _ e2) ⟨by decide, by decide⟩ rfl rfl (Nat.le_of_ble_eq_true rfl) ⟨Nat.zero_le _, Nat.zero_le _⟩ dq_M_close_1 ?_
  refine qz_if_eq X (tgt := 15) (by decide) dq_M_close_4 h (fun _ h => ?_) (fun _ h => ?_)
  · refine qz_ldc2 X (v := (-2 : Int64)) wq_742 dq_M_close_15 ?_
    exact qz_lret X h dq_M_close_18
  · refine qz_aload_n X 0 rfl dq_M_close_7 ?_
    refine qz_iload_n X 2 rfl dq_M_close_8 ?_
    refine qz_bind h (fun q3 e4 h => ?_)
    refine qz_callV X (as := [.int x2]) (st := []) (o := some (.int q3.1)) (N' := q3.2) cq_M_279 ho (cM_isOpen l G X.2.2.2.2.2.2.1 o x2 q1.2 ho _ e4) ⟨by decide, by decide⟩ rfl rfl (Nat.le_of_ble_eq_true rfl) ⟨Nat.zero_le _, Nat.zero_le _⟩ dq_M_close_9 ?_
    refine qz_if_ne X (tgt := 19) (by decide) dq_M_close_12 h (fun _ h => ?_) (fun _ h => ?_)
    · refine qz_aload_n X 0 rfl dq_M_close_19 ?_
      refine qz_iload_n X 2 rfl dq_M_close_20 ?_
      refine qz_bind h (fun q5 e6 h => ?_)
      refine qz_callV X (as := [.int x2]) (st := []) (o := some (.int q5.1)) (N' := q5.2) cq_M_252 ho (cM_debtToken l G X.2.2.2.2.2.2.1 o x2 q3.2 ho _ e6) ⟨by decide, by decide⟩ rfl rfl (Nat.le_of_ble_eq_true rfl) ⟨Nat.zero_le _, Nat.zero_le _⟩ dq_M_close_21 ?_
      refine qz_istore_n X (lv' := [(3, .int q5.1), (0, .ref (G.2.2 7 o)), (1, .int x1), (2, .int x2)]) rfl (by decide) rfl dq_M_close_24 ?_
      refine qz_aload_n X 1 rfl dq_M_close_25 ?_
      refine qz_iload_n X 3 rfl dq_M_close_26 ?_
      refine qz_bind h (fun q7 e8 h => ?_)
      refine qz_callV X (as := [.int x2]) (st := []) (o := some (.long q7.1)) (N' := q7.2) cq_M_255 ho (cM_debtOf l G X.2.2.2.2.2.2.1 o x2 q5.2 ho _ e8) ⟨by decide, by decide⟩ rfl rfl (Nat.le_of_ble_eq_true rfl) ⟨Nat.zero_le _, Nat.zero_le _⟩ dq_M_close_27 ?_
      refine qz_lstore X (lv' := [(4, .long q7.1), (3, .int q5.1), (0, .ref (G.2.2 7 o)), (1, .int x1), (2, .int x2)]) (by decide) rfl dq_M_close_30 ?_
      refine qz_aload_n X 2 rfl dq_M_close_32 ?_
      refine qz_iload_n X 4 rfl dq_M_close_33 ?_
      refine qz_bind h (fun q9 e10 h => ?_)
      refine qz_callV X (as := [.int x2]) (st := []) (o := some (.int q9.1)) (N' := q9.2) cq_M_282 ho (cM_isUncovered l G X.2.2.2.2.2.2.1 o x2 q7.2 ho _ e10) ⟨by decide, by decide⟩ rfl rfl (Nat.le_of_ble_eq_true rfl) ⟨Nat.zero_le _, Nat.zero_le _⟩ dq_M_close_34 ?_
      refine qz_if_eq X (tgt := 52) (by decide) dq_M_close_37 h (fun _ h => ?_) (fun _ h => ?_)
      · refine qz_ldc2 X (v := (-3 : Int64)) wq_763 dq_M_close_52 ?_
        exact qz_lret X h dq_M_close_55
      · refine qz_aload_n X 2 rfl dq_M_close_40 ?_
        refine qz_iload_n X 3 rfl dq_M_close_41 ?_
        refine qz_iload_n X 1 rfl dq_M_close_42 ?_
        refine qz_bind h (fun q11 e12 h => ?_)
        refine qz_callV X (as := [.int x1, .int q5.1]) (st := []) (o := some (.long q11.1)) (N' := q11.2) cq_M_148 ho (cM_has l G X.2.2.2.2.2.2.1 o x1 q5.1 q9.2 ho _ e12) ⟨by decide, by decide⟩ rfl rfl (Nat.le_of_ble_eq_true rfl) ⟨Nat.zero_le _, Nat.zero_le _⟩ dq_M_close_43 ?_
        refine qz_lload X 0 rfl dq_M_close_46 ?_
        refine qz_lcmp_ge X (tgt := 56) (by decide) dq_M_close_48 dq_M_close_49 h (fun _ h => ?_) (fun _ h => ?_)
        · refine qz_aload_n X 2 rfl dq_M_close_56 ?_
          refine qz_lload X 0 rfl dq_M_close_57 ?_
          refine qz_ldc2 X (v := (105 : Int64)) wq_974 dq_M_close_59 ?_
          refine qz_ldc2 X (v := (100 : Int64)) wq_938 dq_M_close_62 ?_
          refine qz_bind h (fun q13 e14 h => ?_)
          refine qz_callV X (as := [.long q7.1, .long (105 : Int64), .long (100 : Int64)]) (st := []) (o := some (.long q13.1)) (N' := q13.2) cq_M_203 ho (cM_partUp l G X.2.2.2.2.2.2.1 o q7.1 (105 : Int64) (100 : Int64) q11.2 ho _ e14) ⟨by decide, by decide⟩ rfl rfl (Nat.le_of_ble_eq_true rfl) ⟨Nat.zero_le _, Nat.zero_le _⟩ dq_M_close_65 ?_
          refine qz_lstore X (lv' := [(6, .long q13.1), (4, .long q7.1), (3, .int q5.1), (0, .ref (G.2.2 7 o)), (1, .int x1), (2, .int x2)]) (by decide) rfl dq_M_close_68 ?_
          refine qz_aload_n X 3 rfl dq_M_close_70 ?_
          refine qz_get X (v := .ref (G.2.2 27 o)) kq_M_26 ho rfl dq_M_close_71 ?_
          refine qz_iconst X (v := (2 : Int32)) (by decide) dq_M_close_74 ?_
          refine qz_aload_n X 3 rfl dq_M_close_75 ?_
          refine qz_get X (v := .ref (G.2.2 48 o)) kq_M_94 ho rfl dq_M_close_76 ?_
          refine qz_iload_n X 5 rfl dq_M_close_79 ?_
          refine qz_iald X (c0 := 48) (i := o) (n := 10) rfl ho dq_M_close_80 h (fun h => ?_)
          refine qz_imul X dq_M_close_81 ?_
          refine qz_aload_n X 3 rfl dq_M_close_82 ?_
          refine qz_get X (v := .ref (G.2.2 49 o)) kq_M_97 ho rfl dq_M_close_83 ?_
          refine qz_iload_n X 5 rfl dq_M_close_86 ?_
          refine qz_iald X (c0 := 49) (i := o) (n := 10) rfl ho dq_M_close_87 h (fun h => ?_)
          refine qz_iadd X dq_M_close_88 ?_
          refine qz_lald X (c0 := 27) (i := o) (n := 12) rfl ho dq_M_close_89 h (fun h => ?_)
          refine qz_letj h (fun v15 h => ?_)
          refine qz_lstore X (lv' := [(8, .long v15), (6, .long q13.1), (4, .long q7.1), (3, .int q5.1), (0, .ref (G.2.2 7 o)), (1, .int x1), (2, .int x2)]) (by decide) rfl dq_M_close_90 ?_
          refine qz_aload_n X 4 rfl dq_M_close_92 ?_
          refine qz_get X (v := .ref (G.2.2 27 o)) kq_M_26 ho rfl dq_M_close_93 ?_
          refine qz_iconst X (v := (2 : Int32)) (by decide) dq_M_close_96 ?_
          refine qz_aload_n X 4 rfl dq_M_close_97 ?_
          refine qz_get X (v := .ref (G.2.2 48 o)) kq_M_94 ho rfl dq_M_close_98 ?_
          refine qz_iload_n X 6 rfl dq_M_close_101 ?_
          refine qz_iald X (c0 := 48) (i := o) (n := 10) rfl ho dq_M_close_102 h (fun h => ?_)
          refine qz_imul X dq_M_close_103 ?_
          refine qz_iconst X (v := (1 : Int32)) (by decide) dq_M_close_104 ?_
          refine qz_iadd X dq_M_close_105 ?_
          refine qz_aload_n X 4 rfl dq_M_close_106 ?_
          refine qz_get X (v := .ref (G.2.2 49 o)) kq_M_97 ho rfl dq_M_close_107 ?_
          refine qz_iload_n X 6 rfl dq_M_close_110 ?_
          refine qz_iald X (c0 := 49) (i := o) (n := 10) rfl ho dq_M_close_111 h (fun h => ?_)
          refine qz_isub X dq_M_close_112 ?_
          refine qz_lald X (c0 := 27) (i := o) (n := 12) rfl ho dq_M_close_113 h (fun h => ?_)
          refine qz_letj h (fun v16 h => ?_)
          refine qz_lstore X (lv' := [(10, .long v16), (8, .long v15), (6, .long q13.1), (4, .long q7.1), (3, .int q5.1), (0, .ref (G.2.2 7 o)), (1, .int x1), (2, .int x2)]) (by decide) rfl dq_M_close_114 ?_
          refine qz_aload_n X 5 rfl dq_M_close_116 ?_
          refine qz_get X (v := .ref (G.2.2 50 o)) kq_M_100 ho rfl dq_M_close_117 ?_
          refine qz_iload_n X 7 rfl dq_M_close_120 ?_
          refine qz_lald X (c0 := 50) (i := o) (n := 10) rfl ho dq_M_close_121 h (fun h => ?_)
          refine qz_letj h (fun v17 h => ?_)
          refine qz_lstore X (lv' := [(12, .long v17), (10, .long v16), (8, .long v15), (6, .long q13.1), (4, .long q7.1), (3, .int q5.1), (0, .ref (G.2.2 7 o)), (1, .int x1), (2, .int x2)]) (by decide) rfl dq_M_close_122 ?_
          refine qz_lload X 2 rfl dq_M_close_124 ?_
          refine qz_lconst X (v := (0 : Int64)) (by decide) dq_M_close_126 ?_
          refine qz_lcmp_le X (tgt := 243) (by decide) dq_M_close_127 dq_M_close_128 h (fun _ h => ?_) (fun _ h => ?_)
          · refine qz_sub [7, 8, 5, 4, 0, 6] rfl ?_
            exact sM_close_243 X o ho q13.2 x1 x2 q5.1 q7.1 v17 h
          · refine qz_lload X 1 rfl dq_M_close_131 ?_
            refine qz_lconst X (v := (0 : Int64)) (by decide) dq_M_close_133 ?_
            refine qz_lcmp_le X (tgt := 243) (by decide) dq_M_close_134 dq_M_close_135 h (fun _ h => ?_) (fun _ h => ?_)
            · refine qz_sub [7, 8, 5, 4, 0, 6] rfl ?_
              exact sM_close_243 X o ho q13.2 x1 x2 q5.1 q7.1 v17 h
            · refine qz_lload X 3 rfl dq_M_close_138 ?_
              refine qz_ldc2 X (v := (1000000000000000000 : Int64)) wq_944 dq_M_close_140 ?_
              refine qz_lcmp_gt X (tgt := 243) (by decide) dq_M_close_143 dq_M_close_144 h (fun _ h => ?_) (fun _ h => ?_)
              · refine qz_sub [7, 8, 5, 4, 0, 6] rfl ?_
                exact sM_close_243 X o ho q13.2 x1 x2 q5.1 q7.1 v17 h
              · refine qz_aload_n X 6 rfl dq_M_close_147 ?_
                refine qz_lload X 3 rfl dq_M_close_148 ?_
                refine qz_bind h (fun q30 e31 h => ?_)
                refine qz_callV X (as := [.long q13.1]) (st := []) (o := none) (N' := q30.2) cq_M_130 ho (cM_begin l G X.2.2.2.2.2.2.1 o q13.1 q13.2 ho _ e31) ⟨by decide, by decide⟩ rfl rfl (Nat.le_of_ble_eq_true rfl) ⟨Nat.zero_le _, Nat.zero_le _⟩ dq_M_close_150 ?_
                refine qz_aload_n X 6 rfl dq_M_close_153 ?_
                refine qz_lload X 2 rfl dq_M_close_154 ?_
                refine qz_bind h (fun q32 e33 h => ?_)
                refine qz_callV X (as := [.long v15]) (st := []) (o := none) (N' := q32.2) cq_M_134 ho (cM_times l G X.2.2.2.2.2.2.1 o v15 q30.2 ho _ e33) ⟨by decide, by decide⟩ rfl rfl (Nat.le_of_ble_eq_true rfl) ⟨Nat.zero_le _, Nat.zero_le _⟩ dq_M_close_156 ?_
                refine qz_aload_n X 6 rfl dq_M_close_159 ?_
                refine qz_lload X 1 rfl dq_M_close_160 ?_
                refine qz_bind h (fun q34 e35 h => ?_)
                refine qz_callV X (as := [.long v16]) (st := []) (o := some (.long q34.1)) (N' := q34.2) cq_M_137 ho (cM_over l G X.2.2.2.2.2.2.1 o v16 q32.2 ho _ e35) ⟨by decide, by decide⟩ rfl rfl (Nat.le_of_ble_eq_true rfl) ⟨Nat.zero_le _, Nat.zero_le _⟩ dq_M_close_162 ?_
                refine qz_lstore X (lv' := [(14, .long q34.1), (12, .long v17), (10, .long v16), (8, .long v15), (6, .long q13.1), (4, .long q7.1), (3, .int q5.1), (0, .ref (G.2.2 7 o)), (1, .int x1), (2, .int x2)]) (by decide) rfl dq_M_close_165 ?_
                refine qz_aload_n X 7 rfl dq_M_close_167 ?_
                refine qz_get X (v := .long (qz_gl q34.2 7 o 41)) kq_M_122 ho rfl dq_M_close_168 ?_
                refine qz_lconst X (v := (0 : Int64)) (by decide) dq_M_close_171 ?_
                refine qz_lcmp_le X (tgt := 180) (by decide) dq_M_close_172 dq_M_close_173 h (fun _ h => ?_) (fun _ h => ?_)
                · refine qz_iconst X (v := (0 : Int32)) (by decide) dq_M_close_180 ?_
                  refine qz_sub [8, 9, 6, 5, 2, 1, 0, 7] rfl ?_
                  exact sM_close_181 X o ho q34.2 x1 x2 q5.1 q7.1 v16 v17 q34.1 (0 : Int32) h
                · refine qz_iconst X (v := (1 : Int32)) (by decide) dq_M_close_176 ?_
                  refine qz_goto X (tgt := 181) (by decide) dq_M_close_177 ?_
                  refine qz_sub [8, 9, 6, 5, 2, 1, 0, 7] rfl ?_
                  exact sM_close_181 X o ho q34.2 x1 x2 q5.1 q7.1 v16 v17 q34.1 (1 : Int32) h
        · refine qz_ldc2 X (v := (-3 : Int64)) wq_763 dq_M_close_52 ?_
          exact qz_lret X h dq_M_close_55
    · refine qz_ldc2 X (v := (-2 : Int64)) wq_742 dq_M_close_15 ?_
      exact qz_lret X h dq_M_close_18
theorem cM_close (l : Launch) (G : qz_G) (hD : qz_D G) (o : Nat) (x1 : Int32) (x2 : Int32) (N : qz_N) (ho : o < 1) (r : (Int64 × qz_N)) (h : fM_close o x1 x2 N = some r) : qz_M l yM_close prog_10_method_59_code 17 (some .long) 5 G [.ref (G.2.2 7 o), .int x1, .int x2] N (some (.long r.1)) r.2 :=
  qz_enter (lv := [(0, .ref (G.2.2 7 o)), (1, .int x1), (2, .int x2)]) rfl hD (Nat.le_of_ble_eq_true rfl) rfl (fun p e s m args below meth c X => sM_close X o x1 x2 ho N h)
