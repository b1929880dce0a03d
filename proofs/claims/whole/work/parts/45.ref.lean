-- ExactCurvesModel.tickOnce()V
theorem dq_M_tickOnce_0 : decode prog_10_method_30_code 0 = .ok (.aload_n 0, 1) := by decide +kernel
theorem dq_M_tickOnce_1 : decode prog_10_method_30_code 1 = .ok (.dup, 1) := by decide +kernel
theorem dq_M_tickOnce_2 : decode prog_10_method_30_code 2 = .ok (.getfield 215, 3) := by decide +kernel
theorem dq_M_tickOnce_5 : decode prog_10_method_30_code 5 = .ok (.iconst 1, 1) := by decide +kernel
theorem dq_M_tickOnce_6 : decode prog_10_method_30_code 6 = .ok (.iadd, 1) := by decide +kernel
theorem dq_M_tickOnce_7 : decode prog_10_method_30_code 7 = .ok (.putfield 215, 3) := by decide +kernel
theorem dq_M_tickOnce_10 : decode prog_10_method_30_code 10 = .ok (.iconst 0, 1) := by decide +kernel
theorem dq_M_tickOnce_11 : decode prog_10_method_30_code 11 = .ok (.istore_n 1, 1) := by decide +kernel
theorem dq_M_tickOnce_12 : decode prog_10_method_30_code 12 = .ok (.iload_n 1, 1) := by decide +kernel
theorem dq_M_tickOnce_13 : decode prog_10_method_30_code 13 = .ok (.aload_n 0, 1) := by decide +kernel
theorem dq_M_tickOnce_14 : decode prog_10_method_30_code 14 = .ok (.getfield 145, 3) := by decide +kernel
theorem dq_M_tickOnce_17 : decode prog_10_method_30_code 17 = .ok (.if_icmp .ge 79, 3) := by decide +kernel
theorem dq_M_tickOnce_20 : decode prog_10_method_30_code 20 = .ok (.aload_n 0, 1) := by decide +kernel
theorem dq_M_tickOnce_21 : decode prog_10_method_30_code 21 = .ok (.getfield 26, 3) := by decide +kernel
theorem dq_M_tickOnce_24 : decode prog_10_method_30_code 24 = .ok (.iconst 2, 1) := by decide +kernel
theorem dq_M_tickOnce_25 : decode prog_10_method_30_code 25 = .ok (.iload_n 1, 1) := by decide +kernel
theorem dq_M_tickOnce_26 : decode prog_10_method_30_code 26 = .ok (.imul, 1) := by decide +kernel
theorem dq_M_tickOnce_27 : decode prog_10_method_30_code 27 = .ok (.laload, 1) := by decide +kernel
theorem dq_M_tickOnce_28 : decode prog_10_method_30_code 28 = .ok (.lconst 0, 1) := by decide +kernel
theorem dq_M_tickOnce_29 : decode prog_10_method_30_code 29 = .ok (.lcmp, 1) := by decide +kernel
theorem dq_M_tickOnce_30 : decode prog_10_method_30_code 30 = .ok (.ifCond .le 60, 3) := by decide +kernel
theorem dq_M_tickOnce_33 : decode prog_10_method_30_code 33 = .ok (.aload_n 0, 1) := by decide +kernel
theorem dq_M_tickOnce_34 : decode prog_10_method_30_code 34 = .ok (.getfield 26, 3) := by decide +kernel
theorem dq_M_tickOnce_37 : decode prog_10_method_30_code 37 = .ok (.iconst 2, 1) := by decide +kernel
theorem dq_M_tickOnce_38 : decode prog_10_method_30_code 38 = .ok (.iload_n 1, 1) := by decide +kernel
theorem dq_M_tickOnce_39 : decode prog_10_method_30_code 39 = .ok (.imul, 1) := by decide +kernel
theorem dq_M_tickOnce_40 : decode prog_10_method_30_code 40 = .ok (.iconst 1, 1) := by decide +kernel
theorem dq_M_tickOnce_41 : decode prog_10_method_30_code 41 = .ok (.iadd, 1) := by decide +kernel
theorem dq_M_tickOnce_42 : decode prog_10_method_30_code 42 = .ok (.laload, 1) := by decide +kernel
theorem dq_M_tickOnce_43 : decode prog_10_method_30_code 43 = .ok (.lconst 0, 1) := by decide +kernel
theorem dq_M_tickOnce_44 : decode prog_10_method_30_code 44 = .ok (.lcmp, 1) := by decide +kernel
theorem dq_M_tickOnce_45 : decode prog_10_method_30_code 45 = .ok (.ifCond .le 45, 3) := by decide +kernel
theorem dq_M_tickOnce_48 : decode prog_10_method_30_code 48 = .ok (.aload_n 0, 1) := by decide +kernel
theorem dq_M_tickOnce_49 : decode prog_10_method_30_code 49 = .ok (.getfield 35, 3) := by decide +kernel
theorem dq_M_tickOnce_52 : decode prog_10_method_30_code 52 = .ok (.iload_n 1, 1) := by decide +kernel
theorem dq_M_tickOnce_53 : decode prog_10_method_30_code 53 = .ok (.dup2, 1) := by decide +kernel
theorem dq_M_tickOnce_54 : decode prog_10_method_30_code 54 = .ok (.laload, 1) := by decide +kernel
theorem dq_M_tickOnce_55 : decode prog_10_method_30_code 55 = .ok (.ldc2_w 218, 3) := by decide +kernel
theorem dq_M_tickOnce_58 : decode prog_10_method_30_code 58 = .ok (.aload_n 0, 1) := by decide +kernel
theorem dq_M_tickOnce_59 : decode prog_10_method_30_code 59 = .ok (.getfield 26, 3) := by decide +kernel
theorem dq_M_tickOnce_62 : decode prog_10_method_30_code 62 = .ok (.iconst 2, 1) := by decide +kernel
theorem dq_M_tickOnce_63 : decode prog_10_method_30_code 63 = .ok (.iload_n 1, 1) := by decide +kernel
theorem dq_M_tickOnce_64 : decode prog_10_method_30_code 64 = .ok (.imul, 1) := by decide +kernel
theorem dq_M_tickOnce_65 : decode prog_10_method_30_code 65 = .ok (.iconst 1, 1) := by decide +kernel
theorem dq_M_tickOnce_66 : decode prog_10_method_30_code 66 = .ok (.iadd, 1) := by decide +kernel
theorem dq_M_tickOnce_67 : decode prog_10_method_30_code 67 = .ok (.laload, 1) := by decide +kernel
theorem dq_M_tickOnce_68 : decode prog_10_method_30_code 68 = .ok (.lmul, 1) := by decide +kernel
theorem dq_M_tickOnce_69 : decode prog_10_method_30_code 69 = .ok (.aload_n 0, 1) := by decide +kernel
theorem dq_M_tickOnce_70 : decode prog_10_method_30_code 70 = .ok (.getfield 26, 3) := by decide +kernel
theorem dq_M_tickOnce_73 : decode prog_10_method_30_code 73 = .ok (.iconst 2, 1) := by decide +kernel
theorem dq_M_tickOnce_74 : decode prog_10_method_30_code 74 = .ok (.iload_n 1, 1) := by decide +kernel
theorem dq_M_tickOnce_75 : decode prog_10_method_30_code 75 = .ok (.imul, 1) := by decide +kernel
theorem dq_M_tickOnce_76 : decode prog_10_method_30_code 76 = .ok (.laload, 1) := by decide +kernel
theorem dq_M_tickOnce_77 : decode prog_10_method_30_code 77 = .ok (.ldiv, 1) := by decide +kernel
theorem dq_M_tickOnce_78 : decode prog_10_method_30_code 78 = .ok (.ladd, 1) := by decide +kernel
theorem dq_M_tickOnce_79 : decode prog_10_method_30_code 79 = .ok (.lastore, 1) := by decide +kernel
theorem dq_M_tickOnce_80 : decode prog_10_method_30_code 80 = .ok (.aload_n 0, 1) := by decide +kernel
theorem dq_M_tickOnce_81 : decode prog_10_method_30_code 81 = .ok (.getfield 38, 3) := by decide +kernel
theorem dq_M_tickOnce_84 : decode prog_10_method_30_code 84 = .ok (.iload_n 1, 1) := by decide +kernel
theorem dq_M_tickOnce_85 : decode prog_10_method_30_code 85 = .ok (.dup2, 1) := by decide +kernel
theorem dq_M_tickOnce_86 : decode prog_10_method_30_code 86 = .ok (.laload, 1) := by decide +kernel
theorem dq_M_tickOnce_87 : decode prog_10_method_30_code 87 = .ok (.lconst 1, 1) := by decide +kernel
theorem dq_M_tickOnce_88 : decode prog_10_method_30_code 88 = .ok (.ladd, 1) := by decide +kernel
theorem dq_M_tickOnce_89 : decode prog_10_method_30_code 89 = .ok (.lastore, 1) := by decide +kernel
theorem dq_M_tickOnce_90 : decode prog_10_method_30_code 90 = .ok (.iinc 1 1, 3) := by decide +kernel
theorem dq_M_tickOnce_93 : decode prog_10_method_30_code 93 = .ok (.goto (-81), 3) := by decide +kernel
theorem dq_M_tickOnce_96 : decode prog_10_method_30_code 96 = .ok (.iconst 0, 1) := by decide +kernel
theorem dq_M_tickOnce_97 : decode prog_10_method_30_code 97 = .ok (.istore_n 1, 1) := by decide +kernel
theorem dq_M_tickOnce_98 : decode prog_10_method_30_code 98 = .ok (.iload_n 1, 1) := by decide +kernel
theorem dq_M_tickOnce_99 : decode prog_10_method_30_code 99 = .ok (.iconst 4, 1) := by decide +kernel
theorem dq_M_tickOnce_100 : decode prog_10_method_30_code 100 = .ok (.if_icmp .ge 45, 3) := by decide +kernel
theorem dq_M_tickOnce_103 : decode prog_10_method_30_code 103 = .ok (.aload_n 0, 1) := by decide +kernel
theorem dq_M_tickOnce_104 : decode prog_10_method_30_code 104 = .ok (.getfield 82, 3) := by decide +kernel
theorem dq_M_tickOnce_107 : decode prog_10_method_30_code 107 = .ok (.iload_n 1, 1) := by decide +kernel
theorem dq_M_tickOnce_108 : decode prog_10_method_30_code 108 = .ok (.ldc2_w 220, 3) := by decide +kernel
theorem dq_M_tickOnce_111 : decode prog_10_method_30_code 111 = .ok (.aload_n 0, 1) := by decide +kernel
theorem dq_M_tickOnce_112 : decode prog_10_method_30_code 112 = .ok (.getfield 82, 3) := by decide +kernel
theorem dq_M_tickOnce_115 : decode prog_10_method_30_code 115 = .ok (.iload_n 1, 1) := by decide +kernel
theorem dq_M_tickOnce_116 : decode prog_10_method_30_code 116 = .ok (.laload, 1) := by decide +kernel
theorem dq_M_tickOnce_117 : decode prog_10_method_30_code 117 = .ok (.aload_n 0, 1) := by decide +kernel
theorem dq_M_tickOnce_118 : decode prog_10_method_30_code 118 = .ok (.getfield 82, 3) := by decide +kernel
theorem dq_M_tickOnce_121 : decode prog_10_method_30_code 121 = .ok (.iload_n 1, 1) := by decide +kernel
theorem dq_M_tickOnce_122 : decode prog_10_method_30_code 122 = .ok (.laload, 1) := by decide +kernel
theorem dq_M_tickOnce_123 : decode prog_10_method_30_code 123 = .ok (.aload_n 0, 1) := by decide +kernel
theorem dq_M_tickOnce_124 : decode prog_10_method_30_code 124 = .ok (.getfield 85, 3) := by decide +kernel
theorem dq_M_tickOnce_127 : decode prog_10_method_30_code 127 = .ok (.iload_n 1, 1) := by decide +kernel
theorem dq_M_tickOnce_128 : decode prog_10_method_30_code 128 = .ok (.laload, 1) := by decide +kernel
theorem dq_M_tickOnce_129 : decode prog_10_method_30_code 129 = .ok (.lmul, 1) := by decide +kernel
theorem dq_M_tickOnce_130 : decode prog_10_method_30_code 130 = .ok (.ldc2_w 118, 3) := by decide +kernel
theorem dq_M_tickOnce_133 : decode prog_10_method_30_code 133 = .ok (.ldiv, 1) := by decide +kernel
theorem dq_M_tickOnce_134 : decode prog_10_method_30_code 134 = .ok (.ladd, 1) := by decide +kernel
theorem dq_M_tickOnce_135 : decode prog_10_method_30_code 135 = .ok (.invokestatic 200, 3) := by decide +kernel
theorem dq_M_tickOnce_138 : decode prog_10_method_30_code 138 = .ok (.lastore, 1) := by decide +kernel
theorem dq_M_tickOnce_139 : decode prog_10_method_30_code 139 = .ok (.iinc 1 1, 3) := by decide +kernel
theorem dq_M_tickOnce_142 : decode prog_10_method_30_code 142 = .ok (.goto (-44), 3) := by decide +kernel
theorem dq_M_tickOnce_145 : decode prog_10_method_30_code 145 = .ok (.return_, 1) := by decide +kernel
def fM_tickOnce_98b (y0 : Nat) (k98 : qz_N × Int32 → Option (Unit × qz_N)) (N : qz_N) (x1 : Int32) : Option (Unit × qz_N) :=
  if (4 : Int32) ≤ x1 then
    some ((), N)
  else
  if x1 < 0 ∨ 4 ≤ x1.toNatClampNeg then none else
  if x1 < 0 ∨ 4 ≤ x1.toNatClampNeg then none else
  if x1 < 0 ∨ 4 ≤ x1.toNatClampNeg then none else
  (fM_least (1000000000000 : Int64) ((qz_gl N 44 y0 x1.toNatClampNeg) + (((qz_gl N 44 y0 x1.toNatClampNeg) * (qz_gl N 45 y0 x1.toNatClampNeg)) / (1000000000 : Int64))) N).bind fun q2 =>
  if x1 < 0 ∨ 4 ≤ x1.toNatClampNeg then none else
  qz_let (qz_sl q2.2 44 y0 x1.toNatClampNeg q2.1) fun N4 =>
  qz_let (x1 + (1 : Int32)) fun v5 =>
  k98 (N4, v5)
def fM_tickOnce_98 (y0 : Nat) (n : Nat) (a : qz_N × Int32) : Option (Unit × qz_N) := qz_loop (fun k a => fM_tickOnce_98b y0 k a.1 a.2) n a
def fM_tickOnce_90 (y0 : Nat) (k12 : qz_N × Int32 → Option (Unit × qz_N)) (N : qz_N) (x1 : Int32) : Option (Unit × qz_N) :=
  qz_let (x1 + (1 : Int32)) fun v6 =>
  k12 (N, v6)
def fM_tickOnce_12b (y0 : Nat) (k12 : qz_N × Int32 → Option (Unit × qz_N)) (N : qz_N) (x1 : Int32) : Option (Unit × qz_N) :=
  if (qz_gi N 7 y0 3) ≤ x1 then
    fM_tickOnce_98 y0 1100 (N, (0 : Int32))
  else
  if ((2 : Int32) * x1) < 0 ∨ 12 ≤ ((2 : Int32) * x1).toNatClampNeg then none else
  if (qz_gl N 27 y0 ((2 : Int32) * x1).toNatClampNeg) ≤ (0 : Int64) then
    fM_tickOnce_90 y0 k12 N x1
  else
  if (((2 : Int32) * x1) + (1 : Int32)) < 0 ∨ 12 ≤ (((2 : Int32) * x1) + (1 : Int32)).toNatClampNeg then none else
  if (qz_gl N 27 y0 (((2 : Int32) * x1) + (1 : Int32)).toNatClampNeg) ≤ (0 : Int64) then
    fM_tickOnce_90 y0 k12 N x1
  else
  if x1 < 0 ∨ 6 ≤ x1.toNatClampNeg then none else
  if (((2 : Int32) * x1) + (1 : Int32)) < 0 ∨ 12 ≤ (((2 : Int32) * x1) + (1 : Int32)).toNatClampNeg then none else
  if ((2 : Int32) * x1) < 0 ∨ 12 ≤ ((2 : Int32) * x1).toNatClampNeg then none else
  if (qz_gl N 27 y0 ((2 : Int32) * x1).toNatClampNeg) = 0 then none else
  if x1 < 0 ∨ 6 ≤ x1.toNatClampNeg then none else
  qz_let (qz_sl N 30 y0 x1.toNatClampNeg ((qz_gl N 30 y0 x1.toNatClampNeg) + (((1000 : Int64) * (qz_gl N 27 y0 (((2 : Int32) * x1) + (1 : Int32)).toNatClampNeg)) / (qz_gl N 27 y0 ((2 : Int32) * x1).toNatClampNeg)))) fun N7 =>
  if x1 < 0 ∨ 6 ≤ x1.toNatClampNeg then none else
  if x1 < 0 ∨ 6 ≤ x1.toNatClampNeg then none else
  qz_let (qz_sl N7 31 y0 x1.toNatClampNeg ((qz_gl N7 31 y0 x1.toNatClampNeg) + (1 : Int64))) fun N8 =>
  fM_tickOnce_90 y0 k12 N8 x1
def fM_tickOnce_12 (y0 : Nat) (n : Nat) (a : qz_N × Int32) : Option (Unit × qz_N) := qz_loop (fun k a => fM_tickOnce_12b y0 k a.1 a.2) n a
def fM_tickOnce (o : Nat) (N : qz_N) : Option (Unit × qz_N) :=
  qz_let (qz_si N 7 o 2 ((qz_gi N 7 o 2) + (1 : Int32))) fun N1 =>
  fM_tickOnce_12 o 1100 (N1, (0 : Int32))
set_option maxRecDepth 100000 in
set_option maxHeartbeats 4000000 in
theorem sM_tickOnce_98b {p : Program} {l : Launch} {e : Env} {s : State} {m : MethodId} {args : Array Value} {below : List Frame} {meth : Method} {c : Code} {G : qz_G} (X : qz_X p s m args meth c "ExactCurvesModel" prog_10_method_30_code 2 none G) {r : (Unit × qz_N)} (y0 : Nat) (hy0 : y0 < 1) (k98 : qz_N × Int32 → Option (Unit × qz_N)) (hk98 : ∀ a, k98 a = some r → qz_W p l e (qz_R 1) s m args below meth c 0 0 (MQ below (qz_Q G r.2 none) args s 0 0 (qz_A G)) G s.heap 2 a.1 98 [(1, .int a.2), (0, .ref (G.2.2 7 y0))] []) (N : qz_N) (x1 : Int32) (h : fM_tickOnce_98b y0 k98 N x1 = some r) : qz_W p l e (qz_R 1) s m args below meth c 0 0 (MQ below (qz_Q G r.2 none) args s 0 0 (qz_A G)) G s.heap 2 N 98 [(1, .int x1), (0, .ref (G.2.2 7 y0))] [] := by
  unfold fM_tickOnce_98b at h
  refine qz_iload_n X 0 rfl dq_M_tickOnce_98 ?_
  refine qz_iconst X (v := (4 : Int32)) (by decide) dq_M_tickOnce_99 ?_
  refine qz_icmp_ge X (tgt := 145) (by decide) dq_M_tickOnce_100 h (fun _ h => ?_) (fun _ h => ?_)
  · exact qz_vret X h dq_M_tickOnce_145
  · refine qz_aload_n X 1 rfl dq_M_tickOnce_103 ?_
    refine qz_get X (v := .ref (G.2.2 44 y0)) kq_M_82 hy0 rfl dq_M_tickOnce_104 ?_
    refine qz_iload_n X 0 rfl dq_M_tickOnce_107 ?_
    refine qz_ldc2 X (v := (1000000000000 : Int64)) wq_866 dq_M_tickOnce_108 ?_
    refine qz_aload_n X 1 rfl dq_M_tickOnce_111 ?_
    refine qz_get X (v := .ref (G.2.2 44 y0)) kq_M_82 hy0 rfl dq_M_tickOnce_112 ?_
    refine qz_iload_n X 0 rfl dq_M_tickOnce_115 ?_
    refine qz_lald X (c0 := 44) (i := y0) (n := 4) rfl hy0 dq_M_tickOnce_116 h (fun h => ?_)
    refine qz_aload_n X 1 rfl dq_M_tickOnce_117 ?_
    refine qz_get X (v := .ref (G.2.2 44 y0)) kq_M_82 hy0 rfl dq_M_tickOnce_118 ?_
    refine qz_iload_n X 0 rfl dq_M_tickOnce_121 ?_
    refine qz_lald X (c0 := 44) (i := y0) (n := 4) rfl hy0 dq_M_tickOnce_122 h (fun h => ?_)
    refine qz_aload_n X 1 rfl dq_M_tickOnce_123 ?_
    refine qz_get X (v := .ref (G.2.2 45 y0)) kq_M_85 hy0 rfl dq_M_tickOnce_124 ?_
    refine qz_iload_n X 0 rfl dq_M_tickOnce_127 ?_
    refine qz_lald X (c0 := 45) (i := y0) (n := 4) rfl hy0 dq_M_tickOnce_128 h (fun h => ?_)
    refine qz_lmul X dq_M_tickOnce_129 ?_
    refine qz_ldc2 X (v := (1000000000 : Int64)) wq_603 dq_M_tickOnce_130 ?_
    refine qz_ldiv X (by decide) dq_M_tickOnce_133 ?_
    refine qz_ladd X dq_M_tickOnce_134 ?_
    refine qz_bind h (fun q2 e3 h => ?_)
    refine qz_callS X (as := [.long (1000000000000 : Int64), .long ((qz_gl N 44 y0 x1.toNatClampNeg) + (((qz_gl N 44 y0 x1.toNatClampNeg) * (qz_gl N 45 y0 x1.toNatClampNeg)) / (1000000000 : Int64)))]) (st := [.int x1, .ref (G.2.2 44 y0)]) (o := some (.long q2.1)) (N' := q2.2) cq_M_200 (cM_least l G X.2.2.2.2.2.2.1 (1000000000000 : Int64) ((qz_gl N 44 y0 x1.toNatClampNeg) + (((qz_gl N 44 y0 x1.toNatClampNeg) * (qz_gl N 45 y0 x1.toNatClampNeg)) / (1000000000 : Int64))) N _ e3) ⟨by decide, by decide⟩ rfl rfl (Nat.le_of_ble_eq_true rfl) ⟨Nat.zero_le _, Nat.zero_le _⟩ dq_M_tickOnce_135 ?_
    refine qz_last X (c0 := 44) (i := y0) (n := 4) rfl hy0 dq_M_tickOnce_138 h (fun N4 h => ?_)
    refine qz_iinc_l X (u := (1 : Int32)) (lv' := fun v5 => [(1, .int v5), (0, .ref (G.2.2 7 y0))]) (k := 0) rfl (by decide) (by decide) (fun _ => rfl) dq_M_tickOnce_139 h (fun v5 h => ?_)
    refine qz_goto X (tgt := 98) (by decide) dq_M_tickOnce_142 ?_
    refine qz_sub [0, 1] rfl ?_
    exact hk98 (N4, v5) h
theorem sM_tickOnce_98 {p : Program} {l : Launch} {e : Env} {s : State} {m : MethodId} {args : Array Value} {below : List Frame} {meth : Method} {c : Code} {G : qz_G} (X : qz_X p s m args meth c "ExactCurvesModel" prog_10_method_30_code 2 none G) {r : (Unit × qz_N)} (y0 : Nat) (hy0 : y0 < 1) (n : Nat) (a : qz_N × Int32) (h : fM_tickOnce_98 y0 n a = some r) : qz_W p l e (qz_R 1) s m args below meth c 0 0 (MQ below (qz_Q G r.2 none) args s 0 0 (qz_A G)) G s.heap 2 a.1 98 [(1, .int a.2), (0, .ref (G.2.2 7 y0))] [] :=
  qz_loop_ind (P := fun a => qz_W p l e (qz_R 1) s m args below meth c 0 0 (MQ below (qz_Q G r.2 none) args s 0 0 (qz_A G)) G s.heap 2 a.1 98 [(1, .int a.2), (0, .ref (G.2.2 7 y0))] []) (fun k hk a h => sM_tickOnce_98b X y0 hy0 k hk a.1 a.2 h) n a h
set_option maxRecDepth 100000 in
set_option maxHeartbeats 4000000 in
theorem sM_tickOnce_90 {p : Program} {l : Launch} {e : Env} {s : State} {m : MethodId} {args : Array Value} {below : List Frame} {meth : Method} {c : Code} {G : qz_G} (X : qz_X p s m args meth c "ExactCurvesModel" prog_10_method_30_code 2 none G) {r : (Unit × qz_N)} (y0 : Nat) (hy0 : y0 < 1) (k12 : qz_N × Int32 → Option (Unit × qz_N)) (hk12 : ∀ a, k12 a = some r → qz_W p l e (qz_R 1) s m args below meth c 0 0 (MQ below (qz_Q G r.2 none) args s 0 0 (qz_A G)) G s.heap 2 a.1 12 [(1, .int a.2), (0, .ref (G.2.2 7 y0))] []) (N : qz_N) (x1 : Int32) (h : fM_tickOnce_90 y0 k12 N x1 = some r) : qz_W p l e (qz_R 1) s m args below meth c 0 0 (MQ below (qz_Q G r.2 none) args s 0 0 (qz_A G)) G s.heap 2 N 90 [(1, .int x1), (0, .ref (G.2.2 7 y0))] [] := by
  unfold fM_tickOnce_90 at h
  refine qz_iinc_l X (u := (1 : Int32)) (lv' := fun v6 => [(1, .int v6), (0, .ref (G.2.2 7 y0))]) (k := 0) rfl (by decide) (by decide) (fun _ => rfl) dq_M_tickOnce_90 h (fun v6 h => ?_)
  refine qz_goto X (tgt := 12) (by decide) dq_M_tickOnce_93 ?_
  refine qz_sub [0, 1] rfl ?_
  exact hk12 (N, v6) h
set_option maxRecDepth 100000 in
set_option maxHeartbeats 4000000 in
theorem sM_tickOnce_12b {p : Program} {l : Launch} {e : Env} {s : State} {m : MethodId} {args : Array Value} {below : List Frame} {meth : Method} {c : Code} {G : qz_G} (X : qz_X p s m args meth c "ExactCurvesModel" prog_10_method_30_code 2 none G) {r : (Unit × qz_N)} (y0 : Nat) (hy0 : y0 < 1) (k12 : qz_N × Int32 → Option (Unit × qz_N)) (hk12 : ∀ a, k12 a = some r → qz_W p l e (qz_R 1) s m args below meth c 0 0 (MQ below (qz_Q G r.2 none) args s 0 0 (qz_A G)) G s.heap 2 a.1 12 [(1, .int a.2), (0, .ref (G.2.2 7 y0))] []) (N : qz_N) (x1 : Int32) (h : fM_tickOnce_12b y0 k12 N x1 = some r) : qz_W p l e (qz_R 1) s m args below meth c 0 0 (MQ below (qz_Q G r.2 none) args s 0 0 (qz_A G)) G s.heap 2 N 12 [(1, .int x1), (0, .ref (G.2.2 7 y0))] [] := by
  unfold fM_tickOnce_12b at h
  refine qz_iload_n X 0 rfl dq_M_tickOnce_12 ?_
  refine qz_aload_n X 1 rfl dq_M_tickOnce_13 ?_
  refine qz_get X (v := .int (qz_gi N 7 y0 3)) kq_M_145 hy0 rfl dq_M_tickOnce_14 ?_
  refine qz_icmp_ge X (tgt := 96) (by decide) dq_M_tickOnce_17 h (fun _ h => ?_) (fun _ h => ?_)
  · refine qz_iconst X (v := (0 : Int32)) (by decide) dq_M_tickOnce_96 ?_
    refine qz_istore_n X (lv' := [(1, .int (0 : Int32)), (0, .ref (G.2.2 7 y0))]) rfl (by decide) rfl dq_M_tickOnce_97 ?_
    refine qz_sub [0, 1] rfl ?_
    exact sM_tickOnce_98 X y0 hy0 1100 (N, (0 : Int32)) h
  · refine qz_aload_n X 1 rfl dq_M_tickOnce_20 ?_
    refine qz_get X (v := .ref (G.2.2 27 y0)) kq_M_26 hy0 rfl dq_M_tickOnce_21 ?_
    refine qz_iconst X (v := (2 : Int32)) (by decide) dq_M_tickOnce_24 ?_
    refine qz_iload_n X 0 rfl dq_M_tickOnce_25 ?_
    refine qz_imul X dq_M_tickOnce_26 ?_
    refine qz_lald X (c0 := 27) (i := y0) (n := 12) rfl hy0 dq_M_tickOnce_27 h (fun h => ?_)
    refine qz_lconst X (v := (0 : Int64)) (by decide) dq_M_tickOnce_28 ?_
    refine qz_lcmp_le X (tgt := 90) (by decide) dq_M_tickOnce_29 dq_M_tickOnce_30 h (fun _ h => ?_) (fun _ h => ?_)
    · refine qz_sub [0, 1] rfl ?_
      exact sM_tickOnce_90 X y0 hy0 k12 hk12 N x1 h
    · refine qz_aload_n X 1 rfl dq_M_tickOnce_33 ?_
      refine qz_get X (v := .ref (G.2.2 27 y0)) kq_M_26 hy0 rfl dq_M_tickOnce_34 ?_
      refine qz_iconst X (v := (2 : Int32)) (by decide) dq_M_tickOnce_37 ?_
      refine qz_iload_n X 0 rfl dq_M_tickOnce_38 ?_
      refine qz_imul X dq_M_tickOnce_39 ?_
      refine qz_iconst X (v := (1 : Int32)) (by decide) dq_M_tickOnce_40 ?_
      refine qz_iadd X dq_M_tickOnce_41 ?_
      refine qz_lald X (c0 := 27) (i := y0) (n := 12) rfl hy0 dq_M_tickOnce_42 h (fun h => ?_)
      refine qz_lconst X (v := (0 : Int64)) (by decide) dq_M_tickOnce_43 ?_
      refine qz_lcmp_le X (tgt := 90) (by decide) dq_M_tickOnce_44 dq_M_tickOnce_45 h (fun _ h => ?_) (fun _ h => ?_)
      · refine qz_sub [0, 1] rfl ?_
        exact sM_tickOnce_90 X y0 hy0 k12 hk12 N x1 h
      · refine qz_aload_n X 1 rfl dq_M_tickOnce_48 ?_
        refine qz_get X (v := .ref (G.2.2 30 y0)) kq_M_35 hy0 rfl dq_M_tickOnce_49 ?_
        refine qz_iload_n X 0 rfl dq_M_tickOnce_52 ?_
        refine qz_dup2_11 X rfl rfl dq_M_tickOnce_53 ?_
        refine qz_lald X (c0 := 30) (i := y0) (n := 6) rfl hy0 dq_M_tickOnce_54 h (fun h => ?_)
        refine qz_ldc2 X (v := (1000 : Int64)) wq_755 dq_M_tickOnce_55 ?_
        refine qz_aload_n X 1 rfl dq_M_tickOnce_58 ?_
        refine qz_get X (v := .ref (G.2.2 27 y0)) kq_M_26 hy0 rfl dq_M_tickOnce_59 ?_
        refine qz_iconst X (v := (2 : Int32)) (by decide) dq_M_tickOnce_62 ?_
        refine qz_iload_n X 0 rfl dq_M_tickOnce_63 ?_
        refine qz_imul X dq_M_tickOnce_64 ?_
        refine qz_iconst X (v := (1 : Int32)) (by decide) dq_M_tickOnce_65 ?_
        refine qz_iadd X dq_M_tickOnce_66 ?_
        refine qz_lald X (c0 := 27) (i := y0) (n := 12) rfl hy0 dq_M_tickOnce_67 h (fun h => ?_)
        refine qz_lmul X dq_M_tickOnce_68 ?_
        refine qz_aload_n X 1 rfl dq_M_tickOnce_69 ?_
        refine qz_get X (v := .ref (G.2.2 27 y0)) kq_M_26 hy0 rfl dq_M_tickOnce_70 ?_
        refine qz_iconst X (v := (2 : Int32)) (by decide) dq_M_tickOnce_73 ?_
        refine qz_iload_n X 0 rfl dq_M_tickOnce_74 ?_
        refine qz_imul X dq_M_tickOnce_75 ?_
        refine qz_lald X (c0 := 27) (i := y0) (n := 12) rfl hy0 dq_M_tickOnce_76 h (fun h => ?_)
        refine qz_ldivc X dq_M_tickOnce_77 h (fun h => ?_)
        refine qz_ladd X dq_M_tickOnce_78 ?_
        refine qz_last X (c0 := 30) (i := y0) (n := 6) rfl hy0 dq_M_tickOnce_79 h (fun N7 h => ?_)
        refine qz_aload_n X 1 rfl dq_M_tickOnce_80 ?_
        refine qz_get X (v := .ref (G.2.2 31 y0)) kq_M_38 hy0 rfl dq_M_tickOnce_81 ?_
        refine qz_iload_n X 0 rfl dq_M_tickOnce_84 ?_
        refine qz_dup2_11 X rfl rfl dq_M_tickOnce_85 ?_
        refine qz_lald X (c0 := 31) (i := y0) (n := 6) rfl hy0 dq_M_tickOnce_86 h (fun h => ?_)
        refine qz_lconst X (v := (1 : Int64)) (by decide) dq_M_tickOnce_87 ?_
        refine qz_ladd X dq_M_tickOnce_88 ?_
        refine qz_last X (c0 := 31) (i := y0) (n := 6) rfl hy0 dq_M_tickOnce_89 h (fun N8 h => ?_)
        refine qz_sub [0, 1] rfl ?_
        exact sM_tickOnce_90 X y0 hy0 k12 hk12 N8 x1 h
theorem sM_tickOnce_12 {p : Program} {l : Launch} {e : Env} {s : State} {m : MethodId} {args : Array Value} {below : List Frame} {meth : Method} {c : Code} {G : qz_G} (X : qz_X p s m args meth c "ExactCurvesModel" prog_10_method_30_code 2 none G) {r : (Unit × qz_N)} (y0 : Nat) (hy0 : y0 < 1) (n : Nat) (a : qz_N × Int32) (h : fM_tickOnce_12 y0 n a = some r) : qz_W p l e (qz_R 1) s m args below meth c 0 0 (MQ below (qz_Q G r.2 none) args s 0 0 (qz_A G)) G s.heap 2 a.1 12 [(1, .int a.2), (0, .ref (G.2.2 7 y0))] [] :=
  qz_loop_ind (P := fun a => qz_W p l e (qz_R 1) s m args below meth c 0 0 (MQ below (qz_Q G r.2 none) args s 0 0 (qz_A G)) G s.heap 2 a.1 12 [(1, .int a.2), (0, .ref (G.2.2 7 y0))] []) (fun k hk a h => sM_tickOnce_12b X y0 hy0 k hk a.1 a.2 h) n a h
set_option maxRecDepth 100000 in
set_option maxHeartbeats 4000000 in
theorem sM_tickOnce {p : Program} {l : Launch} {e : Env} {s : State} {m : MethodId} {args : Array Value} {below : List Frame} {meth : Method} {c : Code} {G : qz_G} (X : qz_X p s m args meth c "ExactCurvesModel" prog_10_method_30_code 2 none G) {r : (Unit × qz_N)} (o : Nat) (ho : o < 1) (N : qz_N) (h : fM_tickOnce o N = some r) : qz_W p l e (qz_R 1) s m args below meth c 0 0 (MQ below (qz_Q G r.2 none) args s 0 0 (qz_A G)) G s.heap 2 N 0 [(0, .ref (G.2.2 7 o))] [] := by
  unfold fM_tickOnce at h
  refine qz_aload_n X 0 rfl dq_M_tickOnce_0 ?_
  refine qz_dup X rfl dq_M_tickOnce_1 ?_
  refine qz_get X (v := .int (qz_gi N 7 o 2)) kq_M_215 ho rfl dq_M_tickOnce_2 ?_
  refine qz_iconst X (v := (1 : Int32)) (by decide) dq_M_tickOnce_5 ?_
  refine qz_iadd X dq_M_tickOnce_6 ?_
  refine qz_putI X kq_M_215 ho dq_M_tickOnce_7 h (fun N1 h => ?_)
  refine qz_iconst X (v := (0 : Int32)) (by decide) dq_M_tickOnce_10 ?_
  refine qz_istore_n X (lv' := [(1, .int (0 : Int32)), (0, .ref (G.2.2 7 o))]) rfl (by decide) rfl dq_M_tickOnce_11 ?_
  refine qz_sub [0, 1] rfl ?_
  exact sM_tickOnce_12 X o ho 1100 (N1, (0 : Int32)) h
theorem cM_tickOnce (l : Launch) (G : qz_G) (hD : qz_D G) (o : Nat) (N : qz_N) (ho : o < 1) (r : (Unit × qz_N)) (h : fM_tickOnce o N = some r) : qz_M l yM_tickOnce prog_10_method_30_code 2 none 1 G [.ref (G.2.2 7 o)] N none r.2 :=
  qz_enter (lv := [(0, .ref (G.2.2 7 o))]) rfl hD (Nat.le_of_ble_eq_true rfl) rfl (fun p e s m args below meth c X => sM_tickOnce X o ho N h)
-- ExactCurvesModel.tick(I)I
theorem dq_M_tick_0 : decode prog_10_method_31_code 0 = .ok (.iload_n 1, 1) := by decide +kernel
theorem dq_M_tick_1 : decode prog_10_method_31_code 1 = .ok (.ifCond .lt 10, 3) := by decide +kernel
theorem dq_M_tick_4 : decode prog_10_method_31_code 4 = .ok (.iload_n 1, 1) := by decide +kernel
theorem dq_M_tick_5 : decode prog_10_method_31_code 5 = .ok (.sipush 1000, 3) := by decide +kernel
theorem dq_M_tick_8 : decode prog_10_method_31_code 8 = .ok (.if_icmp .le 6, 3) := by decide +kernel
theorem dq_M_tick_11 : decode prog_10_method_31_code 11 = .ok (.bipush (-2), 2) := by decide +kernel
theorem dq_M_tick_13 : decode prog_10_method_31_code 13 = .ok (.ireturn, 1) := by decide +kernel
theorem dq_M_tick_14 : decode prog_10_method_31_code 14 = .ok (.iconst 0, 1) := by decide +kernel
theorem dq_M_tick_15 : decode prog_10_method_31_code 15 = .ok (.istore_n 2, 1) := by decide +kernel
theorem dq_M_tick_16 : decode prog_10_method_31_code 16 = .ok (.iload_n 2, 1) := by decide +kernel
theorem dq_M_tick_17 : decode prog_10_method_31_code 17 = .ok (.iload_n 1, 1) := by decide +kernel
theorem dq_M_tick_18 : decode prog_10_method_31_code 18 = .ok (.if_icmp .ge 13, 3) := by decide +kernel
theorem dq_M_tick_21 : decode prog_10_method_31_code 21 = .ok (.aload_n 0, 1) := by decide +kernel
theorem dq_M_tick_22 : decode prog_10_method_31_code 22 = .ok (.invokevirtual 222, 3) := by decide +kernel
theorem dq_M_tick_25 : decode prog_10_method_31_code 25 = .ok (.iinc 2 1, 3) := by decide +kernel
theorem dq_M_tick_28 : decode prog_10_method_31_code 28 = .ok (.goto (-12), 3) := by decide +kernel
theorem dq_M_tick_31 : decode prog_10_method_31_code 31 = .ok (.aload_n 0, 1) := by decide +kernel
theorem dq_M_tick_32 : decode prog_10_method_31_code 32 = .ok (.getfield 215, 3) := by decide +kernel
theorem dq_M_tick_35 : decode prog_10_method_31_code 35 = .ok (.ireturn, 1) := by decide +kernel
def fM_tick_16b (y0 : Nat) (k16 : qz_N × Int32 × Int32 → Option (Int32 × qz_N)) (N : qz_N) (x1 : Int32) (x2 : Int32) : Option (Int32 × qz_N) :=
  if x1 ≤ x2 then
    some (qz_gi N 7 y0 2, N)
  else
  (fM_tickOnce y0 N).bind fun q1 =>
  qz_let (x2 + (1 : Int32)) fun v3 =>
  k16 (q1.2, x1, v3)
def fM_tick_16 (y0 : Nat) (n : Nat) (a : qz_N × Int32 × Int32) : Option (Int32 × qz_N) := qz_loop (fun k a => fM_tick_16b y0 k a.1 a.2.1 a.2.2) n a
def fM_tick (o : Nat) (x1 : Int32) (N : qz_N) : Option (Int32 × qz_N) :=
  if x1 < 0 then
    some ((-2 : Int32), N)
  else
  if x1 ≤ (1000 : Int32) then
    fM_tick_16 o 1100 (N, x1, (0 : Int32))
  else
  some ((-2 : Int32), N)
set_option maxRecDepth 100000 in
set_option maxHeartbeats 4000000 in
theorem sM_tick_16b {p : Program} {l : Launch} {e : Env} {s : State} {m : MethodId} {args : Array Value} {below : List Frame} {meth : Method} {c : Code} {G : qz_G} (X : qz_X p s m args meth c "ExactCurvesModel" prog_10_method_31_code 3 (some .int) G) {r : (Int32 × qz_N)} (y0 : Nat) (hy0 : y0 < 1) (k16 : qz_N × Int32 × Int32 → Option (Int32 × qz_N)) (hk16 : ∀ a, k16 a = some r → qz_W p l e (qz_R 2) s m args below meth c 0 0 (MQ below (qz_Q G r.2 (some (.int r.1))) args s 0 0 (qz_A G)) G s.heap 3 a.1 16 [(1, .int a.2.1), (2, .int a.2.2), (0, .ref (G.2.2 7 y0))] []) (N : qz_N) (x1 : Int32) (x2 : Int32) (h : fM_tick_16b y0 k16 N x1 x2 = some r) : qz_W p l e (qz_R 2) s m args below meth c 0 0 (MQ below (qz_Q G r.2 (some (.int r.1))) args s 0 0 (qz_A G)) G s.heap 3 N 16 [(1, .int x1), (2, .int x2), (0, .ref (G.2.2 7 y0))] [] := by
  unfold fM_tick_16b at h
  refine qz_iload_n X 1 rfl dq_M_tick_16 ?_
  refine qz_iload_n X 0 rfl dq_M_tick_17 ?_
  refine qz_icmp_ge X (tgt := 31) (by decide) dq_M_tick_18 h (fun _ h => ?_) (fun _ h => ?_)
  · refine qz_aload_n X 2 rfl dq_M_tick_31 ?_
    refine qz_get X (v := .int (qz_gi N 7 y0 2)) kq_M_215 hy0 rfl dq_M_tick_32 ?_
    exact qz_iret X h dq_M_tick_35
  · refine qz_aload_n X 2 rfl dq_M_tick_21 ?_
    refine qz_bind h (fun q1 e2 h => ?_)
    refine qz_callV X (as := []) (st := []) (o := none) (N' := q1.2) cq_M_222 hy0 (cM_tickOnce l G X.2.2.2.2.2.2.1 y0 N hy0 _ e2) ⟨by decide, by decide⟩ rfl rfl (Nat.le_of_ble_eq_true rfl) ⟨Nat.zero_le _, Nat.zero_le _⟩ dq_M_tick_22 ?_
    refine qz_iinc_l X (u := (1 : Int32)) (lv' := fun v3 => [(2, .int v3), (1, .int x1), (0, .ref (G.2.2 7 y0))]) (k := 1) rfl (by decide) (by decide) (fun _ => rfl) dq_M_tick_25 h (fun v3 h => ?_)
    refine qz_goto X (tgt := 16) (by decide) dq_M_tick_28 ?_
    refine qz_sub [1, 0, 2] rfl ?_
    exact hk16 (q1.2, x1, v3) h
theorem sM_tick_16 {p : Program} {l : Launch} {e : Env} {s : State} {m : MethodId} {args : Array Value} {below : List Frame} {meth : Method} {c : Code} {G : qz_G} (X : qz_X p s m args meth c "ExactCurvesModel" prog_10_method_31_code 3 (some .int) G) {r : (Int32 × qz_N)} (y0 : Nat) (hy0 : y0 < 1) (n : Nat) (a : qz_N × Int32 × Int32) (h : fM_tick_16 y0 n a = some r) : qz_W p l e (qz_R 2) s m args below meth c 0 0 (MQ below (qz_Q G r.2 (some (.int r.1))) args s 0 0 (qz_A G)) G s.heap 3 a.1 16 [(1, .int a.2.1), (2, .int a.2.2), (0, .ref (G.2.2 7 y0))] [] :=
  qz_loop_ind (P := fun a => qz_W p l e (qz_R 2) s m args below meth c 0 0 (MQ below (qz_Q G r.2 (some (.int r.1))) args s 0 0 (qz_A G)) G s.heap 3 a.1 16 [(1, .int a.2.1), (2, .int a.2.2), (0, .ref (G.2.2 7 y0))] []) (fun k hk a h => sM_tick_16b X y0 hy0 k hk a.1 a.2.1 a.2.2 h) n a h
set_option maxRecDepth 100000 in
set_option maxHeartbeats 4000000 in
theorem sM_tick {p : Program} {l : Launch} {e : Env} {s : State} {m : MethodId} {args : Array Value} {below : List Frame} {meth : Method} {c : Code} {G : qz_G} (X : qz_X p s m args meth c "ExactCurvesModel" prog_10_method_31_code 3 (some .int) G) {r : (Int32 × qz_N)} (o : Nat) (x1 : Int32) (ho : o < 1) (N : qz_N) (h : fM_tick o x1 N = some r) : qz_W p l e (qz_R 2) s m args below meth c 0 0 (MQ below (qz_Q G r.2 (some (.int r.1))) args s 0 0 (qz_A G)) G s.heap 3 N 0 [(0, .ref (G.2.2 7 o)), (1, .int x1)] [] := by
  unfold fM_tick at h
  refine qz_iload_n X 1 rfl dq_M_tick_0 ?_
  refine qz_if_lt X (tgt := 11) (by decide) dq_M_tick_1 h (fun _ h => ?_) (fun _ h => ?_)
  · refine qz_bipush X (v := (-2 : Int32)) (by decide) dq_M_tick_11 ?_
    exact qz_iret X h dq_M_tick_13
  · refine qz_iload_n X 1 rfl dq_M_tick_4 ?_
    refine qz_sipush X (v := (1000 : Int32)) (by decide) dq_M_tick_5 ?_
    refine qz_icmp_le X (tgt := 14) (by decide) dq_M_tick_8 h (fun _ h => ?_) (fun _ h => ?_)
    · refine qz_iconst X (v := (0 : Int32)) (by decide) dq_M_tick_14 ?_
      refine qz_istore_n X (lv' := [(2, .int (0 : Int32)), (0, .ref (G.2.2 7 o)), (1, .int x1)]) rfl (by decide) rfl dq_M_tick_15 ?_
      refine qz_sub [2, 0, 1] rfl ?_
      exact sM_tick_16 X o ho 1100 (N, x1, (0 : Int32)) h
    · refine qz_bipush X (v := (-2 : Int32)) (by decide) dq_M_tick_11 ?_
      exact qz_iret X h dq_M_tick_13
theorem cM_tick (l : Launch) (G : qz_G) (hD : qz_D G) (o : Nat) (x1 : Int32) (N : qz_N) (ho : o < 1) (r : (Int32 × qz_N)) (h : fM_tick o x1 N = some r) : qz_M l yM_tick prog_10_method_31_code 3 (some .int) 2 G [.ref (G.2.2 7 o), .int x1] N (some (.int r.1)) r.2 :=
  qz_enter (lv := [(0, .ref (G.2.2 7 o)), (1, .int x1)]) rfl hD (Nat.le_of_ble_eq_true rfl) rfl (fun p e s m args below meth c X => sM_tick X o x1 ho N h)
-- ExactCurvesModel.mark(II)I
theorem dq_M_mark_0 : decode prog_10_method_32_code 0 = .ok (.iload_n 1, 1) := by decide +kernel
theorem dq_M_mark_1 : decode prog_10_method_32_code 1 = .ok (.ifCond .lt 17, 3) := by decide +kernel
theorem dq_M_mark_4 : decode prog_10_method_32_code 4 = .ok (.iload_n 1, 1) := by decide +kernel
theorem dq_M_mark_5 : decode prog_10_method_32_code 5 = .ok (.bipush 8, 2) := by decide +kernel
theorem dq_M_mark_7 : decode prog_10_method_32_code 7 = .ok (.if_icmp .ge 11, 3) := by decide +kernel
theorem dq_M_mark_10 : decode prog_10_method_32_code 10 = .ok (.aload_n 0, 1) := by decide +kernel
theorem dq_M_mark_11 : decode prog_10_method_32_code 11 = .ok (.iload_n 2, 1) := by decide +kernel
theorem dq_M_mark_12 : decode prog_10_method_32_code 12 = .ok (.invokevirtual 186, 3) := by decide +kernel
theorem dq_M_mark_15 : decode prog_10_method_32_code 15 = .ok (.ifCond .ne 6, 3) := by decide +kernel
theorem dq_M_mark_18 : decode prog_10_method_32_code 18 = .ok (.bipush (-2), 2) := by decide +kernel
theorem dq_M_mark_20 : decode prog_10_method_32_code 20 = .ok (.ireturn, 1) := by decide +kernel
theorem dq_M_mark_21 : decode prog_10_method_32_code 21 = .ok (.aload_n 0, 1) := by decide +kernel
theorem dq_M_mark_22 : decode prog_10_method_32_code 22 = .ok (.getfield 41, 3) := by decide +kernel
theorem dq_M_mark_25 : decode prog_10_method_32_code 25 = .ok (.iload_n 1, 1) := by decide +kernel
theorem dq_M_mark_26 : decode prog_10_method_32_code 26 = .ok (.iload_n 2, 1) := by decide +kernel
theorem dq_M_mark_27 : decode prog_10_method_32_code 27 = .ok (.iastore, 1) := by decide +kernel
theorem dq_M_mark_28 : decode prog_10_method_32_code 28 = .ok (.aload_n 0, 1) := by decide +kernel
theorem dq_M_mark_29 : decode prog_10_method_32_code 29 = .ok (.getfield 44, 3) := by decide +kernel
theorem dq_M_mark_32 : decode prog_10_method_32_code 32 = .ok (.iload_n 1, 1) := by decide +kernel
theorem dq_M_mark_33 : decode prog_10_method_32_code 33 = .ok (.aload_n 0, 1) := by decide +kernel
theorem dq_M_mark_34 : decode prog_10_method_32_code 34 = .ok (.getfield 35, 3) := by decide +kernel
theorem dq_M_mark_37 : decode prog_10_method_32_code 37 = .ok (.iload_n 2, 1) := by decide +kernel
theorem dq_M_mark_38 : decode prog_10_method_32_code 38 = .ok (.laload, 1) := by decide +kernel
theorem dq_M_mark_39 : decode prog_10_method_32_code 39 = .ok (.lastore, 1) := by decide +kernel
theorem dq_M_mark_40 : decode prog_10_method_32_code 40 = .ok (.aload_n 0, 1) := by decide +kernel
theorem dq_M_mark_41 : decode prog_10_method_32_code 41 = .ok (.getfield 47, 3) := by decide +kernel
theorem dq_M_mark_44 : decode prog_10_method_32_code 44 = .ok (.iload_n 1, 1) := by decide +kernel
theorem dq_M_mark_45 : decode prog_10_method_32_code 45 = .ok (.aload_n 0, 1) := by decide +kernel
theorem dq_M_mark_46 : decode prog_10_method_32_code 46 = .ok (.getfield 38, 3) := by decide +kernel
theorem dq_M_mark_49 : decode prog_10_method_32_code 49 = .ok (.iload_n 2, 1) := by decide +kernel
theorem dq_M_mark_50 : decode prog_10_method_32_code 50 = .ok (.laload, 1) := by decide +kernel
theorem dq_M_mark_51 : decode prog_10_method_32_code 51 = .ok (.lastore, 1) := by decide +kernel
theorem dq_M_mark_52 : decode prog_10_method_32_code 52 = .ok (.iconst 1, 1) := by decide +kernel
theorem dq_M_mark_53 : decode prog_10_method_32_code 53 = .ok (.ireturn, 1) := by decide +kernel
def fM_mark (o : Nat) (x1 : Int32) (x2 : Int32) (N : qz_N) : Option (Int32 × qz_N) :=
  if x1 < 0 then
    some ((-2 : Int32), N)
  else
  if (8 : Int32) ≤ x1 then
    some ((-2 : Int32), N)
  else
  (fM_isPool o x2 N).bind fun q1 =>
  if q1.1 = 0 then
    some ((-2 : Int32), q1.2)
  else
  if x1 < 0 ∨ 8 ≤ x1.toNatClampNeg then none else
  qz_let (qz_si q1.2 32 o x1.toNatClampNeg x2) fun N3 =>
  if x2 < 0 ∨ 6 ≤ x2.toNatClampNeg then none else
  if x1 < 0 ∨ 8 ≤ x1.toNatClampNeg then none else
  qz_let (qz_sl N3 33 o x1.toNatClampNeg (qz_gl N3 30 o x2.toNatClampNeg)) fun N4 =>
  if x2 < 0 ∨ 6 ≤ x2.toNatClampNeg then none else
  if x1 < 0 ∨ 8 ≤ x1.toNatClampNeg then none else
  qz_let (qz_sl N4 34 o x1.toNatClampNeg (qz_gl N4 31 o x2.toNatClampNeg)) fun N5 =>
  some ((1 : Int32), N5)
set_option maxRecDepth 100000 in
set_option maxHeartbeats 4000000 in
theorem sM_mark {p : Program} {l : Launch} {e : Env} {s : State} {m : MethodId} {args : Array Value} {below : List Frame} {meth : Method} {c : Code} {G : qz_G} (X : qz_X p s m args meth c "ExactCurvesModel" prog_10_method_32_code 3 (some .int) G) {r : (Int32 × qz_N)} (o : Nat) (x1 : Int32) (x2 : Int32) (ho : o < 1) (N : qz_N) (h : fM_mark o x1 x2 N = some r) : qz_W p l e (qz_R 1) s m args below meth c 0 0 (MQ below (qz_Q G r.2 (some (.int r.1))) args s 0 0 (qz_A G)) G s.heap 3 N 0 [(0, .ref (G.2.2 7 o)), (1, .int x1), (2, .int x2)] [] := by
  unfold fM_mark at h
  refine qz_iload_n X 1 rfl dq_M_mark_0 ?_
  refine qz_if_lt X (tgt := 18) (by decide) dq_M_mark_1 h (fun _ h => ?_) (fun _ h => ?_)
  · refine qz_bipush X (v := (-2 : Int32)) (by decide) dq_M_mark_18 ?_
    exact qz_iret X h dq_M_mark_20
  · refine qz_iload_n X 1 rfl dq_M_mark_4 ?_
    refine qz_bipush X (v := (8 : Int32)) (by decide) dq_M_mark_5 ?_
    refine qz_icmp_ge X (tgt := 18) (by decide) dq_M_mark_7 h (fun _ h => ?_) (fun _ h => ?_)
    · refine qz_bipush X (v := (-2 : Int32)) (by decide) dq_M_mark_18 ?_
      exact qz_iret X h dq_M_mark_20
    · refine qz_aload_n X 0 rfl dq_M_mark_10 ?_
      refine qz_iload_n X 2 rfl dq_M_mark_11 ?_
      refine qz_bind h (fun q1 e2 h => ?_)
      refine qz_callV X (as := [.int x2]) (st := []) (o := some (.int q1.1)) (N' := q1.2) cq_M_186 ho (cM_isPool l G X.2.2.2.2.2.2.1 o x2 N ho _ e2) ⟨by decide, by decide⟩ rfl rfl (Nat.le_of_ble_eq_true rfl) ⟨Nat.zero_le _, Nat.zero_le _⟩ dq_M_mark_12 ?_
      refine qz_if_ne X (tgt := 21) (by decide) dq_M_mark_15 h (fun _ h => ?_) (fun _ h => ?_)
      · refine qz_aload_n X 0 rfl dq_M_mark_21 ?_
        refine qz_get X (v := .ref (G.2.2 32 o)) kq_M_41 ho rfl dq_M_mark_22 ?_
        refine qz_iload_n X 1 rfl dq_M_mark_25 ?_
        refine qz_iload_n X 2 rfl dq_M_mark_26 ?_
        refine qz_iast X (c0 := 32) (i := o) (n := 8) rfl ho dq_M_mark_27 h (fun N3 h => ?_)
        refine qz_aload_n X 0 rfl dq_M_mark_28 ?_
        refine qz_get X (v := .ref (G.2.2 33 o)) kq_M_44 ho rfl dq_M_mark_29 ?_
        refine qz_iload_n X 1 rfl dq_M_mark_32 ?_
        refine qz_aload_n X 0 rfl dq_M_mark_33 ?_
        refine qz_get X (v := .ref (G.2.2 30 o)) kq_M_35 ho rfl dq_M_mark_34 ?_
        refine qz_iload_n X 2 rfl dq_M_mark_37 ?_
        refine qz_lald X (c0 := 30) (i := o) (n := 6) rfl ho dq_M_mark_38 h (fun h => ?_)
        refine qz_last X (c0 := 33) (i := o) (n := 8) rfl ho dq_M_mark_39 h (fun N4 h => ?_)
        refine qz_aload_n X 0 rfl dq_M_mark_40 ?_
        refine qz_get X (v := .ref (G.2.2 34 o)) kq_M_47 ho rfl dq_M_mark_41 ?_
        refine qz_iload_n X 1 rfl dq_M_mark_44 ?_
        refine qz_aload_n X 0 rfl dq_M_mark_45 ?_
        refine qz_get X (v := .ref (G.2.2 31 o)) kq_M_38 ho rfl dq_M_mark_46 ?_
        refine qz_iload_n X 2 rfl dq_M_mark_49 ?_
        refine qz_lald X (c0 := 31) (i := o) (n := 6) rfl ho dq_M_mark_50 h (fun h => ?_)
        refine qz_last X (c0 := 34) (i := o) (n := 8) rfl ho dq_M_mark_51 h (fun N5 h => ?_)
        refine qz_iconst X (v := (1 : Int32)) (by decide) dq_M_mark_52 ?_
        exact qz_iret X h dq_M_mark_53
      · refine qz_bipush X (v := (-2 : Int32)) (by decide) dq_M_mark_18 ?_
        exact qz_iret X h dq_M_mark_20
theorem cM_mark (l : Launch) (G : qz_G) (hD : qz_D G) (o : Nat) (x1 : Int32) (x2 : Int32) (N : qz_N) (ho : o < 1) (r : (Int32 × qz_N)) (h : fM_mark o x1 x2 N = some r) : qz_M l yM_mark prog_10_method_32_code 3 (some .int) 1 G [.ref (G.2.2 7 o), .int x1, .int x2] N (some (.int r.1)) r.2 :=
  qz_enter (lv := [(0, .ref (G.2.2 7 o)), (1, .int x1), (2, .int x2)]) rfl hD (Nat.le_of_ble_eq_true rfl) rfl (fun p e s m args below meth c X => sM_mark X o x1 x2 ho N h)
-- ExactCurvesModel.mean(I)J
theorem dq_M_mean_0 : decode prog_10_method_33_code 0 = .ok (.iload_n 1, 1) := by decide +kernel
theorem dq_M_mean_1 : decode prog_10_method_33_code 1 = .ok (.ifCond .lt 18, 3) := by decide +kernel
theorem dq_M_mean_4 : decode prog_10_method_33_code 4 = .ok (.iload_n 1, 1) := by decide +kernel
theorem dq_M_mean_5 : decode prog_10_method_33_code 5 = .ok (.bipush 8, 2) := by decide +kernel
theorem dq_M_mean_7 : decode prog_10_method_33_code 7 = .ok (.if_icmp .ge 12, 3) := by decide +kernel
theorem dq_M_mean_10 : decode prog_10_method_33_code 10 = .ok (.aload_n 0, 1) := by decide +kernel
theorem dq_M_mean_11 : decode prog_10_method_33_code 11 = .ok (.getfield 41, 3) := by decide +kernel
theorem dq_M_mean_14 : decode prog_10_method_33_code 14 = .ok (.iload_n 1, 1) := by decide +kernel
theorem dq_M_mean_15 : decode prog_10_method_33_code 15 = .ok (.iaload, 1) := by decide +kernel
theorem dq_M_mean_16 : decode prog_10_method_33_code 16 = .ok (.ifCond .ge 7, 3) := by decide +kernel
theorem dq_M_mean_19 : decode prog_10_method_33_code 19 = .ok (.ldc2_w 175, 3) := by decide +kernel
theorem dq_M_mean_22 : decode prog_10_method_33_code 22 = .ok (.lreturn, 1) := by decide +kernel
theorem dq_M_mean_23 : decode prog_10_method_33_code 23 = .ok (.aload_n 0, 1) := by decide +kernel
theorem dq_M_mean_24 : decode prog_10_method_33_code 24 = .ok (.getfield 38, 3) := by decide +kernel
theorem dq_M_mean_27 : decode prog_10_method_33_code 27 = .ok (.aload_n 0, 1) := by decide +kernel
theorem dq_M_mean_28 : decode prog_10_method_33_code 28 = .ok (.getfield 41, 3) := by decide +kernel
theorem dq_M_mean_31 : decode prog_10_method_33_code 31 = .ok (.iload_n 1, 1) := by decide +kernel
theorem dq_M_mean_32 : decode prog_10_method_33_code 32 = .ok (.iaload, 1) := by decide +kernel
theorem dq_M_mean_33 : decode prog_10_method_33_code 33 = .ok (.laload, 1) := by decide +kernel
theorem dq_M_mean_34 : decode prog_10_method_33_code 34 = .ok (.aload_n 0, 1) := by decide +kernel
theorem dq_M_mean_35 : decode prog_10_method_33_code 35 = .ok (.getfield 47, 3) := by decide +kernel
theorem dq_M_mean_38 : decode prog_10_method_33_code 38 = .ok (.iload_n 1, 1) := by decide +kernel
theorem dq_M_mean_39 : decode prog_10_method_33_code 39 = .ok (.laload, 1) := by decide +kernel
theorem dq_M_mean_40 : decode prog_10_method_33_code 40 = .ok (.lsub, 1) := by decide +kernel
theorem dq_M_mean_41 : decode prog_10_method_33_code 41 = .ok (.lstore_n 2, 1) := by decide +kernel
theorem dq_M_mean_42 : decode prog_10_method_33_code 42 = .ok (.lload_n 2, 1) := by decide +kernel
theorem dq_M_mean_43 : decode prog_10_method_33_code 43 = .ok (.lconst 0, 1) := by decide +kernel
theorem dq_M_mean_44 : decode prog_10_method_33_code 44 = .ok (.lcmp, 1) := by decide +kernel
theorem dq_M_mean_45 : decode prog_10_method_33_code 45 = .ok (.ifCond .ne 7, 3) := by decide +kernel
theorem dq_M_mean_48 : decode prog_10_method_33_code 48 = .ok (.ldc2_w 225, 3) := by decide +kernel
theorem dq_M_mean_51 : decode prog_10_method_33_code 51 = .ok (.lreturn, 1) := by decide +kernel
theorem dq_M_mean_52 : decode prog_10_method_33_code 52 = .ok (.aload_n 0, 1) := by decide +kernel
theorem dq_M_mean_53 : decode prog_10_method_33_code 53 = .ok (.aload_n 0, 1) := by decide +kernel
theorem dq_M_mean_54 : decode prog_10_method_33_code 54 = .ok (.getfield 35, 3) := by decide +kernel
theorem dq_M_mean_57 : decode prog_10_method_33_code 57 = .ok (.aload_n 0, 1) := by decide +kernel
theorem dq_M_mean_58 : decode prog_10_method_33_code 58 = .ok (.getfield 41, 3) := by decide +kernel
theorem dq_M_mean_61 : decode prog_10_method_33_code 61 = .ok (.iload_n 1, 1) := by decide +kernel
theorem dq_M_mean_62 : decode prog_10_method_33_code 62 = .ok (.iaload, 1) := by decide +kernel
theorem dq_M_mean_63 : decode prog_10_method_33_code 63 = .ok (.laload, 1) := by decide +kernel
theorem dq_M_mean_64 : decode prog_10_method_33_code 64 = .ok (.aload_n 0, 1) := by decide +kernel
theorem dq_M_mean_65 : decode prog_10_method_33_code 65 = .ok (.getfield 44, 3) := by decide +kernel
theorem dq_M_mean_68 : decode prog_10_method_33_code 68 = .ok (.iload_n 1, 1) := by decide +kernel
theorem dq_M_mean_69 : decode prog_10_method_33_code 69 = .ok (.laload, 1) := by decide +kernel
theorem dq_M_mean_70 : decode prog_10_method_33_code 70 = .ok (.lsub, 1) := by decide +kernel
theorem dq_M_mean_71 : decode prog_10_method_33_code 71 = .ok (.invokevirtual 130, 3) := by decide +kernel
theorem dq_M_mean_74 : decode prog_10_method_33_code 74 = .ok (.aload_n 0, 1) := by decide +kernel
theorem dq_M_mean_75 : decode prog_10_method_33_code 75 = .ok (.lload_n 2, 1) := by decide +kernel
theorem dq_M_mean_76 : decode prog_10_method_33_code 76 = .ok (.invokevirtual 137, 3) := by decide +kernel
theorem dq_M_mean_79 : decode prog_10_method_33_code 79 = .ok (.lreturn, 1) := by decide +kernel
def fM_mean (o : Nat) (x1 : Int32) (N : qz_N) : Option (Int64 × qz_N) :=
  if x1 < 0 then
    some ((-2 : Int64), N)
  else
  if (8 : Int32) ≤ x1 then
    some ((-2 : Int64), N)
  else
  if x1 < 0 ∨ 8 ≤ x1.toNatClampNeg then none else
  if 0 ≤ (qz_gi N 32 o x1.toNatClampNeg) then
    if x1 < 0 ∨ 8 ≤ x1.toNatClampNeg then none else
    if (qz_gi N 32 o x1.toNatClampNeg) < 0 ∨ 6 ≤ (qz_gi N 32 o x1.toNatClampNeg).toNatClampNeg then none else
    if x1 < 0 ∨ 8 ≤ x1.toNatClampNeg then none else
    qz_let ((qz_gl N 31 o (qz_gi N 32 o x1.toNatClampNeg).toNatClampNeg) - (qz_gl N 34 o x1.toNatClampNeg)) fun v1 =>
    if v1 = (0 : Int64) then
      some ((-1 : Int64), N)
    else
    if x1 < 0 ∨ 8 ≤ x1.toNatClampNeg then none else
    if (qz_gi N 32 o x1.toNatClampNeg) < 0 ∨ 6 ≤ (qz_gi N 32 o x1.toNatClampNeg).toNatClampNeg then none else
    if x1 < 0 ∨ 8 ≤ x1.toNatClampNeg then none else
    (fM_begin o ((qz_gl N 30 o (qz_gi N 32 o x1.toNatClampNeg).toNatClampNeg) - (qz_gl N 33 o x1.toNatClampNeg)) N).bind fun q2 =>
    (fM_over o v1 q2.2).bind fun q4 =>
    some (q4.1, q4.2)
  else
  some ((-2 : Int64), N)
set_option maxRecDepth 100000 in
set_option maxHeartbeats 4000000 in
theorem sM_mean {p : Program} {l : Launch} {e : Env} {s : State} {m : MethodId} {args : Array Value} {below : List Frame} {meth : Method} {c : Code} {G : qz_G} (X : qz_X p s m args meth c "ExactCurvesModel" prog_10_method_33_code 4 (some .long) G) {r : (Int64 × qz_N)} (o : Nat) (x1 : Int32) (ho : o < 1) (N : qz_N) (h : fM_mean o x1 N = some r) : qz_W p l e (qz_R 1) s m args below meth c 0 0 (MQ below (qz_Q G r.2 (some (.long r.1))) args s 0 0 (qz_A G)) G s.heap 4 N 0 [(0, .ref (G.2.2 7 o)), (1, .int x1)] [] := by
  unfold fM_mean at h
  refine qz_iload_n X 1 rfl dq_M_mean_0 ?_
  refine qz_if_lt X (tgt := 19) (by decide) dq_M_mean_1 h (fun _ h => ?_) (fun _ h => ?_)
  · refine qz_ldc2 X (v := (-2 : Int64)) wq_742 dq_M_mean_19 ?_
    exact qz_lret X h dq_M_mean_22
  · refine qz_iload_n X 1 rfl dq_M_mean_4 ?_
    refine qz_bipush X (v := (8 : Int32)) (by decide) dq_M_mean_5 ?_
    refine qz_icmp_ge X (tgt := 19) (by decide) dq_M_mean_7 h (fun _ h => ?_) (fun _ h => ?_)
    · refine qz_ldc2 X (v := (-2 : Int64)) wq_742 dq_M_mean_19 ?_
      exact qz_lret X h dq_M_mean_22
    · refine qz_aload_n X 0 rfl dq_M_mean_10 ?_
      refine qz_get X (v := .ref (G.2.2 32 o)) kq_M_41 ho rfl dq_M_mean_11 ?_
      refine qz_iload_n X 1 rfl dq_M_mean_14 ?_
      refine qz_iald X (c0 := 32) (i := o) (n := 8) rfl ho dq_M_mean_15 h (fun h => ?_)
      refine qz_if_ge X (tgt := 23) (by decide) dq_M_mean_16 h (fun _ h => ?_) (fun _ h => ?_)
      · refine qz_aload_n X 0 rfl dq_M_mean_23 ?_
        refine qz_get X (v := .ref (G.2.2 31 o)) kq_M_38 ho rfl dq_M_mean_24 ?_
        refine qz_aload_n X 0 rfl dq_M_mean_27 ?_
        refine qz_get X (v := .ref (G.2.2 32 o)) kq_M_41 ho rfl dq_M_mean_28 ?_
        refine qz_iload_n X 1 rfl dq_M_mean_31 ?_
        refine qz_iald X (c0 := 32) (i := o) (n := 8) rfl ho dq_M_mean_32 h (fun h => ?_)
        refine qz_lald X (c0 := 31) (i := o) (n := 6) rfl ho dq_M_mean_33 h (fun h => ?_)
        refine qz_aload_n X 0 rfl dq_M_mean_34 ?_
        refine qz_get X (v := .ref (G.2.2 34 o)) kq_M_47 ho rfl dq_M_mean_35 ?_
        refine qz_iload_n X 1 rfl dq_M_mean_38 ?_
        refine qz_lald X (c0 := 34) (i := o) (n := 8) rfl ho dq_M_mean_39 h (fun h => ?_)
        refine qz_lsub X dq_M_mean_40 ?_
        refine qz_letj h (fun v1 h => ?_)
        refine qz_lstore_n X (lv' := [(2, .long v1), (0, .ref (G.2.2 7 o)), (1, .int x1)]) rfl (by decide) rfl dq_M_mean_41 ?_
        refine qz_lload_n X 0 rfl dq_M_mean_42 ?_
        refine qz_lconst X (v := (0 : Int64)) (by decide) dq_M_mean_43 ?_
        refine qz_lcmp_ne X (tgt := 52) (by decide) dq_M_mean_44 dq_M_mean_45 h (fun _ h => ?_) (fun _ h => ?_)
        · refine qz_aload_n X 1 rfl dq_M_mean_52 ?_
          refine qz_aload_n X 1 rfl dq_M_mean_53 ?_
          refine qz_get X (v := .ref (G.2.2 30 o)) kq_M_35 ho rfl dq_M_mean_54 ?_
          refine qz_aload_n X 1 rfl dq_M_mean_57 ?_
          refine qz_get X (v := .ref (G.2.2 32 o)) kq_M_41 ho rfl dq_M_mean_58 ?_
          refine qz_iload_n X 2 rfl dq_M_mean_61 ?_
          refine qz_iald X (c0 := 32) (i := o) (n := 8) rfl ho dq_M_mean_62 h (fun h => ?_)
          refine qz_lald X (c0 := 30) (i := o) (n := 6) rfl ho dq_M_mean_63 h (fun h => ?_)
          refine qz_aload_n X 1 rfl dq_M_mean_64 ?_
          refine qz_get X (v := .ref (G.2.2 33 o)) kq_M_44 ho rfl dq_M_mean_65 ?_
          refine qz_iload_n X 2 rfl dq_M_mean_68 ?_
          refine qz_lald X (c0 := 33) (i := o) (n := 8) rfl ho dq_M_mean_69 h (fun h => ?_)
          refine qz_lsub X dq_M_mean_70 ?_
          refine qz_bind h (fun q2 e3 h => ?_)
          refine qz_callV X (as := [.long ((qz_gl N 30 o (qz_gi N 32 o x1.toNatClampNeg).toNatClampNeg) - (qz_gl N 33 o x1.toNatClampNeg))]) (st := []) (o := none) (N' := q2.2) cq_M_130 ho (cM_begin l G X.2.2.2.2.2.2.1 o ((qz_gl N 30 o (qz_gi N 32 o x1.toNatClampNeg).toNatClampNeg) - (qz_gl N 33 o x1.toNatClampNeg)) N ho _ e3) ⟨by decide, by decide⟩ rfl rfl (Nat.le_of_ble_eq_true rfl) ⟨Nat.zero_le _, Nat.zero_le _⟩ dq_M_mean_71 ?_
          refine qz_aload_n X 1 rfl dq_M_mean_74 ?_
          refine qz_lload_n X 0 rfl dq_M_mean_75 ?_
          refine qz_bind h (fun q4 e5 h => ?_)
          refine qz_callV X (as := [.long v1]) (st := []) (o := some (.long q4.1)) (N' := q4.2) cq_M_137 ho (cM_over l G X.2.2.2.2.2.2.1 o v1 q2.2 ho _ e5) ⟨by decide, by decide⟩ rfl rfl (Nat.le_of_ble_eq_true rfl) ⟨Nat.zero_le _, Nat.zero_le _⟩ dq_M_mean_76 ?_
          exact qz_lret X h dq_M_mean_79
        · refine qz_ldc2 X (v := (-1 : Int64)) wq_875 dq_M_mean_48 ?_
          exact qz_lret X h dq_M_mean_51
      · refine qz_ldc2 X (v := (-2 : Int64)) wq_742 dq_M_mean_19 ?_
        exact qz_lret X h dq_M_mean_22
theorem cM_mean (l : Launch) (G : qz_G) (hD : qz_D G) (o : Nat) (x1 : Int32) (N : qz_N) (ho : o < 1) (r : (Int64 × qz_N)) (h : fM_mean o x1 N = some r) : qz_M l yM_mean prog_10_method_33_code 4 (some .long) 1 G [.ref (G.2.2 7 o), .int x1] N (some (.long r.1)) r.2 :=
  qz_enter (lv := [(0, .ref (G.2.2 7 o)), (1, .int x1)]) rfl hD (Nat.le_of_ble_eq_true rfl) rfl (fun p e s m args below meth c X => sM_mean X o x1 ho N h)
-- ExactCurvesModel.batch(II)I
theorem dq_M_batch_0 : decode prog_10_method_34_code 0 = .ok (.iload_n 1, 1) := by decide +kernel
theorem dq_M_batch_1 : decode prog_10_method_34_code 1 = .ok (.invokestatic 170, 3) := by decide +kernel
theorem dq_M_batch_4 : decode prog_10_method_34_code 4 = .ok (.ifCond .eq 15, 3) := by decide +kernel
theorem dq_M_batch_7 : decode prog_10_method_34_code 7 = .ok (.iload_n 2, 1) := by decide +kernel
theorem dq_M_batch_8 : decode prog_10_method_34_code 8 = .ok (.invokestatic 170, 3) := by decide +kernel
theorem dq_M_batch_11 : decode prog_10_method_34_code 11 = .ok (.ifCond .eq 8, 3) := by decide +kernel
theorem dq_M_batch_14 : decode prog_10_method_34_code 14 = .ok (.iload_n 1, 1) := by decide +kernel
theorem dq_M_batch_15 : decode prog_10_method_34_code 15 = .ok (.iload_n 2, 1) := by decide +kernel
theorem dq_M_batch_16 : decode prog_10_method_34_code 16 = .ok (.if_icmp .ne 6, 3) := by decide +kernel
theorem dq_M_batch_19 : decode prog_10_method_34_code 19 = .ok (.bipush (-2), 2) := by decide +kernel
theorem dq_M_batch_21 : decode prog_10_method_34_code 21 = .ok (.ireturn, 1) := by decide +kernel
theorem dq_M_batch_22 : decode prog_10_method_34_code 22 = .ok (.aload_n 0, 1) := by decide +kernel
theorem dq_M_batch_23 : decode prog_10_method_34_code 23 = .ok (.getfield 152, 3) := by decide +kernel
theorem dq_M_batch_26 : decode prog_10_method_34_code 26 = .ok (.ifCond .le 6, 3) := by decide +kernel
theorem dq_M_batch_29 : decode prog_10_method_34_code 29 = .ok (.bipush (-3), 2) := by decide +kernel
theorem dq_M_batch_31 : decode prog_10_method_34_code 31 = .ok (.ireturn, 1) := by decide +kernel
theorem dq_M_batch_32 : decode prog_10_method_34_code 32 = .ok (.aload_n 0, 1) := by decide +kernel
theorem dq_M_batch_33 : decode prog_10_method_34_code 33 = .ok (.iload_n 1, 1) := by decide +kernel
theorem dq_M_batch_34 : decode prog_10_method_34_code 34 = .ok (.putfield 155, 3) := by decide +kernel
theorem dq_M_batch_37 : decode prog_10_method_34_code 37 = .ok (.aload_n 0, 1) := by decide +kernel
theorem dq_M_batch_38 : decode prog_10_method_34_code 38 = .ok (.iload_n 2, 1) := by decide +kernel
theorem dq_M_batch_39 : decode prog_10_method_34_code 39 = .ok (.putfield 50, 3) := by decide +kernel
theorem dq_M_batch_42 : decode prog_10_method_34_code 42 = .ok (.iconst 1, 1) := by decide +kernel
theorem dq_M_batch_43 : decode prog_10_method_34_code 43 = .ok (.ireturn, 1) := by decide +kernel
def fM_batch (o : Nat) (x1 : Int32) (x2 : Int32) (N : qz_N) : Option (Int32 × qz_N) :=
  (fM_isToken x1 N).bind fun q1 =>
  if q1.1 = 0 then
    some ((-2 : Int32), q1.2)
  else
  (fM_isToken x2 q1.2).bind fun q3 =>
  if q3.1 = 0 then
    some ((-2 : Int32), q3.2)
  else
  if x1 = x2 then
    some ((-2 : Int32), q3.2)
  else
  if (qz_gi q3.2 7 o 17) ≤ 0 then
    qz_let (qz_si q3.2 7 o 15 x1) fun N5 =>
    qz_let (qz_si N5 7 o 16 x2) fun N6 =>
    some ((1 : Int32), N6)
  else
  some ((-3 : Int32), q3.2)
set_option maxRecDepth 100000 in
set_option maxHeartbeats 4000000 in
theorem sM_batch {p : Program} {l : Launch} {e : Env} {s : State} {m : MethodId} {args : Array Value} {below : List Frame} {meth : Method} {c : Code} {G : qz_G} (X : qz_X p s m args meth c "ExactCurvesModel" prog_10_method_34_code 3 (some .int) G) {r : (Int32 × qz_N)} (o : Nat) (x1 : Int32) (x2 : Int32) (ho : o < 1) (N : qz_N) (h : fM_batch o x1 x2 N = some r) : qz_W p l e (qz_R 1) s m args below meth c 0 0 (MQ below (qz_Q G r.2 (some (.int r.1))) args s 0 0 (qz_A G)) G s.heap 3 N 0 [(0, .ref (G.2.2 7 o)), (1, .int x1), (2, .int x2)] [] := by
  unfold fM_batch at h
  refine qz_iload_n X 1 rfl dq_M_batch_0 ?_
  refine qz_bind h (fun q1 e2 h => ?_)
  refine qz_callS X (as := [.int x1]) (st := []) (o := some (.int q1.1)) (N' := q1.2) cq_M_170 (cM_isToken l G X.2.2.2.2.2.2.1 x1 N _ e2) ⟨by decide, by decide⟩ rfl rfl (Nat.le_of_ble_eq_true rfl) ⟨Nat.zero_le _, Nat.zero_le _⟩ dq_M_batch_1 ?_
  refine qz_if_eq X (tgt := 19) (by decide) dq_M_batch_4 h (fun _ h => ?_) (fun _ h => ?_)
  · refine qz_bipush X (v := (-2 : Int32)) (by decide) dq_M_batch_19 ?_
    exact qz_iret X h dq_M_batch_21
  · refine qz_iload_n X 2 rfl dq_M_batch_7 ?_
    refine qz_bind h (fun q3 e4 h => ?_)
    refine qz_callS X (as := [.int x2]) (st := []) (o := some (.int q3.1)) (N' := q3.2) cq_M_170 (cM_isToken l G X.2.2.2.2.2.2.1 x2 q1.2 _ e4) ⟨by decide, by decide⟩ rfl rfl (Nat.le_of_ble_eq_true rfl) ⟨Nat.zero_le _, Nat.zero_le _⟩ dq_M_batch_8 ?_
    refine qz_if_eq X (tgt := 19) (by decide) dq_M_batch_11 h (fun _ h => ?_) (fun _ h => ?_)
    · refine qz_bipush X (v := (-2 : Int32)) (by decide) dq_M_batch_19 ?_
      exact qz_iret X h dq_M_batch_21
    · refine qz_iload_n X 1 rfl dq_M_batch_14 ?_
      refine qz_iload_n X 2 rfl dq_M_batch_15 ?_
      refine qz_icmp_ne X (tgt := 22) (by decide) dq_M_batch_16 h (fun _ h => ?_) (fun _ h => ?_)
      · refine qz_aload_n X 0 rfl dq_M_batch_22 ?_
        refine qz_get X (v := .int (qz_gi q3.2 7 o 17)) kq_M_152 ho rfl dq_M_batch_23 ?_
        refine qz_if_le X (tgt := 32) (by decide) dq_M_batch_26 h (fun _ h => ?_) (fun _ h => ?_)
        · refine qz_aload_n X 0 rfl dq_M_batch_32 ?_
          refine qz_iload_n X 1 rfl dq_M_batch_33 ?_
          refine qz_putI X kq_M_155 ho dq_M_batch_34 h (fun N5 h => ?_)
          refine qz_aload_n X 0 rfl dq_M_batch_37 ?_
          refine qz_iload_n X 2 rfl dq_M_batch_38 ?_
          refine qz_putI X kq_M_50 ho dq_M_batch_39 h (fun N6 h => ?_)
          refine qz_iconst X (v := (1 : Int32)) (by decide) dq_M_batch_42 ?_
          exact qz_iret X h dq_M_batch_43
        · refine qz_bipush X (v := (-3 : Int32)) (by decide) dq_M_batch_29 ?_
          exact qz_iret X h dq_M_batch_31
      · refine qz_bipush X (v := (-2 : Int32)) (by decide) dq_M_batch_19 ?_
        exact qz_iret X h dq_M_batch_21
theorem cM_batch (l : Launch) (G : qz_G) (hD : qz_D G) (o : Nat) (x1 : Int32) (x2 : Int32) (N : qz_N) (ho : o < 1) (r : (Int32 × qz_N)) (h : fM_batch o x1 x2 N = some r) : qz_M l yM_batch prog_10_method_34_code 3 (some .int) 1 G [.ref (G.2.2 7 o), .int x1, .int x2] N (some (.int r.1)) r.2 :=
  qz_enter (lv := [(0, .ref (G.2.2 7 o)), (1, .int x1), (2, .int x2)]) rfl hD (Nat.le_of_ble_eq_true rfl) rfl (fun p e s m args below meth c X => sM_batch X o x1 x2 ho N h)
-- ExactCurvesModel.order(IIJJ)I
theorem dq_M_order_0 : decode prog_10_method_37_code 0 = .ok (.iload_n 1, 1) := by decide +kernel
theorem dq_M_order_1 : decode prog_10_method_37_code 1 = .ok (.invokestatic 166, 3) := by decide +kernel
theorem dq_M_order_4 : decode prog_10_method_37_code 4 = .ok (.ifCond .eq 42, 3) := by decide +kernel
theorem dq_M_order_7 : decode prog_10_method_37_code 7 = .ok (.iload_n 2, 1) := by decide +kernel
theorem dq_M_order_8 : decode prog_10_method_37_code 8 = .ok (.ifCond .lt 38, 3) := by decide +kernel
theorem dq_M_order_11 : decode prog_10_method_37_code 11 = .ok (.iload_n 2, 1) := by decide +kernel
theorem dq_M_order_12 : decode prog_10_method_37_code 12 = .ok (.iconst 1, 1) := by decide +kernel
theorem dq_M_order_13 : decode prog_10_method_37_code 13 = .ok (.if_icmp .gt 33, 3) := by decide +kernel
theorem dq_M_order_16 : decode prog_10_method_37_code 16 = .ok (.lload_n 3, 1) := by decide +kernel
theorem dq_M_order_17 : decode prog_10_method_37_code 17 = .ok (.lconst 1, 1) := by decide +kernel
theorem dq_M_order_18 : decode prog_10_method_37_code 18 = .ok (.lcmp, 1) := by decide +kernel
theorem dq_M_order_19 : decode prog_10_method_37_code 19 = .ok (.ifCond .lt 27, 3) := by decide +kernel
theorem dq_M_order_22 : decode prog_10_method_37_code 22 = .ok (.lload_n 3, 1) := by decide +kernel
theorem dq_M_order_23 : decode prog_10_method_37_code 23 = .ok (.ldc2_w 230, 3) := by decide +kernel
theorem dq_M_order_26 : decode prog_10_method_37_code 26 = .ok (.lcmp, 1) := by decide +kernel
theorem dq_M_order_27 : decode prog_10_method_37_code 27 = .ok (.ifCond .gt 19, 3) := by decide +kernel
theorem dq_M_order_30 : decode prog_10_method_37_code 30 = .ok (.lload 5, 2) := by decide +kernel
theorem dq_M_order_32 : decode prog_10_method_37_code 32 = .ok (.lconst 1, 1) := by decide +kernel
theorem dq_M_order_33 : decode prog_10_method_37_code 33 = .ok (.lcmp, 1) := by decide +kernel
theorem dq_M_order_34 : decode prog_10_method_37_code 34 = .ok (.ifCond .lt 12, 3) := by decide +kernel
theorem dq_M_order_37 : decode prog_10_method_37_code 37 = .ok (.lload 5, 2) := by decide +kernel
theorem dq_M_order_39 : decode prog_10_method_37_code 39 = .ok (.ldc2_w 232, 3) := by decide +kernel
theorem dq_M_order_42 : decode prog_10_method_37_code 42 = .ok (.lcmp, 1) := by decide +kernel
theorem dq_M_order_43 : decode prog_10_method_37_code 43 = .ok (.ifCond .le 6, 3) := by decide +kernel
theorem dq_M_order_46 : decode prog_10_method_37_code 46 = .ok (.bipush (-2), 2) := by decide +kernel
theorem dq_M_order_48 : decode prog_10_method_37_code 48 = .ok (.ireturn, 1) := by decide +kernel
theorem dq_M_order_49 : decode prog_10_method_37_code 49 = .ok (.aload_n 0, 1) := by decide +kernel
theorem dq_M_order_50 : decode prog_10_method_37_code 50 = .ok (.getfield 152, 3) := by decide +kernel
theorem dq_M_order_53 : decode prog_10_method_37_code 53 = .ok (.bipush 40, 2) := by decide +kernel
theorem dq_M_order_55 : decode prog_10_method_37_code 55 = .ok (.if_icmp .ne 6, 3) := by decide +kernel
theorem dq_M_order_58 : decode prog_10_method_37_code 58 = .ok (.bipush (-3), 2) := by decide +kernel
theorem dq_M_order_60 : decode prog_10_method_37_code 60 = .ok (.ireturn, 1) := by decide +kernel
theorem dq_M_order_61 : decode prog_10_method_37_code 61 = .ok (.aload_n 0, 1) := by decide +kernel
theorem dq_M_order_62 : decode prog_10_method_37_code 62 = .ok (.getfield 152, 3) := by decide +kernel
theorem dq_M_order_65 : decode prog_10_method_37_code 65 = .ok (.istore 7, 2) := by decide +kernel
theorem dq_M_order_67 : decode prog_10_method_37_code 67 = .ok (.aload_n 0, 1) := by decide +kernel
theorem dq_M_order_68 : decode prog_10_method_37_code 68 = .ok (.getfield 57, 3) := by decide +kernel
theorem dq_M_order_71 : decode prog_10_method_37_code 71 = .ok (.iload 7, 2) := by decide +kernel
theorem dq_M_order_73 : decode prog_10_method_37_code 73 = .ok (.iload_n 2, 1) := by decide +kernel
theorem dq_M_order_74 : decode prog_10_method_37_code 74 = .ok (.iconst 1, 1) := by decide +kernel
theorem dq_M_order_75 : decode prog_10_method_37_code 75 = .ok (.if_icmp .ne 7, 3) := by decide +kernel
theorem dq_M_order_78 : decode prog_10_method_37_code 78 = .ok (.iconst 1, 1) := by decide +kernel
theorem dq_M_order_79 : decode prog_10_method_37_code 79 = .ok (.goto 4, 3) := by decide +kernel
theorem dq_M_order_82 : decode prog_10_method_37_code 82 = .ok (.iconst 0, 1) := by decide +kernel
theorem dq_M_order_83 : decode prog_10_method_37_code 83 = .ok (.bastore, 1) := by decide +kernel
theorem dq_M_order_84 : decode prog_10_method_37_code 84 = .ok (.aload_n 0, 1) := by decide +kernel
theorem dq_M_order_85 : decode prog_10_method_37_code 85 = .ok (.getfield 61, 3) := by decide +kernel
theorem dq_M_order_88 : decode prog_10_method_37_code 88 = .ok (.iload 7, 2) := by decide +kernel
theorem dq_M_order_90 : decode prog_10_method_37_code 90 = .ok (.lload_n 3, 1) := by decide +kernel
theorem dq_M_order_91 : decode prog_10_method_37_code 91 = .ok (.lastore, 1) := by decide +kernel
theorem dq_M_order_92 : decode prog_10_method_37_code 92 = .ok (.aload_n 0, 1) := by decide +kernel
theorem dq_M_order_93 : decode prog_10_method_37_code 93 = .ok (.getfield 64, 3) := by decide +kernel
theorem dq_M_order_96 : decode prog_10_method_37_code 96 = .ok (.iload 7, 2) := by decide +kernel
theorem dq_M_order_98 : decode prog_10_method_37_code 98 = .ok (.lload 5, 2) := by decide +kernel
theorem dq_M_order_100 : decode prog_10_method_37_code 100 = .ok (.lastore, 1) := by decide +kernel
theorem dq_M_order_101 : decode prog_10_method_37_code 101 = .ok (.aload_n 0, 1) := by decide +kernel
theorem dq_M_order_102 : decode prog_10_method_37_code 102 = .ok (.getfield 57, 3) := by decide +kernel
theorem dq_M_order_105 : decode prog_10_method_37_code 105 = .ok (.iload 7, 2) := by decide +kernel
theorem dq_M_order_107 : decode prog_10_method_37_code 107 = .ok (.baload, 1) := by decide +kernel
theorem dq_M_order_108 : decode prog_10_method_37_code 108 = .ok (.ifCond .eq 10, 3) := by decide +kernel
theorem dq_M_order_111 : decode prog_10_method_37_code 111 = .ok (.aload_n 0, 1) := by decide +kernel
theorem dq_M_order_112 : decode prog_10_method_37_code 112 = .ok (.getfield 50, 3) := by decide +kernel
theorem dq_M_order_115 : decode prog_10_method_37_code 115 = .ok (.goto 7, 3) := by decide +kernel
theorem dq_M_order_118 : decode prog_10_method_37_code 118 = .ok (.aload_n 0, 1) := by decide +kernel
theorem dq_M_order_119 : decode prog_10_method_37_code 119 = .ok (.getfield 155, 3) := by decide +kernel
theorem dq_M_order_122 : decode prog_10_method_37_code 122 = .ok (.istore 8, 2) := by decide +kernel
theorem dq_M_order_124 : decode prog_10_method_37_code 124 = .ok (.aload_n 0, 1) := by decide +kernel
theorem dq_M_order_125 : decode prog_10_method_37_code 125 = .ok (.iload_n 1, 1) := by decide +kernel
theorem dq_M_order_126 : decode prog_10_method_37_code 126 = .ok (.iload 8, 2) := by decide +kernel
theorem dq_M_order_128 : decode prog_10_method_37_code 128 = .ok (.invokevirtual 148, 3) := by decide +kernel
theorem dq_M_order_131 : decode prog_10_method_37_code 131 = .ok (.aload_n 0, 1) := by decide +kernel
theorem dq_M_order_132 : decode prog_10_method_37_code 132 = .ok (.iload 7, 2) := by decide +kernel
theorem dq_M_order_134 : decode prog_10_method_37_code 134 = .ok (.invokevirtual 158, 3) := by decide +kernel
theorem dq_M_order_137 : decode prog_10_method_37_code 137 = .ok (.lcmp, 1) := by decide +kernel
theorem dq_M_order_138 : decode prog_10_method_37_code 138 = .ok (.ifCond .ge 6, 3) := by decide +kernel
theorem dq_M_order_141 : decode prog_10_method_37_code 141 = .ok (.bipush (-3), 2) := by decide +kernel
theorem dq_M_order_143 : decode prog_10_method_37_code 143 = .ok (.ireturn, 1) := by decide +kernel
theorem dq_M_order_144 : decode prog_10_method_37_code 144 = .ok (.aload_n 0, 1) := by decide +kernel
theorem dq_M_order_145 : decode prog_10_method_37_code 145 = .ok (.getfield 54, 3) := by decide +kernel
theorem dq_M_order_148 : decode prog_10_method_37_code 148 = .ok (.iload 7, 2) := by decide +kernel
theorem dq_M_order_150 : decode prog_10_method_37_code 150 = .ok (.iload_n 1, 1) := by decide +kernel
theorem dq_M_order_151 : decode prog_10_method_37_code 151 = .ok (.iastore, 1) := by decide +kernel
theorem dq_M_order_152 : decode prog_10_method_37_code 152 = .ok (.aload_n 0, 1) := by decide +kernel
theorem dq_M_order_153 : decode prog_10_method_37_code 153 = .ok (.iload_n 1, 1) := by decide +kernel
theorem dq_M_order_154 : decode prog_10_method_37_code 154 = .ok (.iload 8, 2) := by decide +kernel
theorem dq_M_order_156 : decode prog_10_method_37_code 156 = .ok (.aload_n 0, 1) := by decide +kernel
theorem dq_M_order_157 : decode prog_10_method_37_code 157 = .ok (.iload 7, 2) := by decide +kernel
theorem dq_M_order_159 : decode prog_10_method_37_code 159 = .ok (.invokevirtual 158, 3) := by decide +kernel
theorem dq_M_order_162 : decode prog_10_method_37_code 162 = .ok (.lneg, 1) := by decide +kernel
theorem dq_M_order_163 : decode prog_10_method_37_code 163 = .ok (.invokevirtual 182, 3) := by decide +kernel
theorem dq_M_order_166 : decode prog_10_method_37_code 166 = .ok (.aload_n 0, 1) := by decide +kernel
theorem dq_M_order_167 : decode prog_10_method_37_code 167 = .ok (.dup, 1) := by decide +kernel
theorem dq_M_order_168 : decode prog_10_method_37_code 168 = .ok (.getfield 152, 3) := by decide +kernel
theorem dq_M_order_171 : decode prog_10_method_37_code 171 = .ok (.iconst 1, 1) := by decide +kernel
theorem dq_M_order_172 : decode prog_10_method_37_code 172 = .ok (.iadd, 1) := by decide +kernel
theorem dq_M_order_173 : decode prog_10_method_37_code 173 = .ok (.putfield 152, 3) := by decide +kernel
theorem dq_M_order_176 : decode prog_10_method_37_code 176 = .ok (.iload 7, 2) := by decide +kernel
theorem dq_M_order_178 : decode prog_10_method_37_code 178 = .ok (.ireturn, 1) := by decide +kernel
def fM_order_122 (y0 : Nat) (N : qz_N) (x1 : Int32) (x7 : Int32) (s0 : Int32) : Option (Int32 × qz_N) :=
  (fM_has y0 x1 s0 N).bind fun q7 =>
  (fM_heldBy y0 x7 q7.2).bind fun q9 =>
  if q9.1 ≤ q7.1 then
    if x7 < 0 ∨ 40 ≤ x7.toNatClampNeg then none else
    qz_let (qz_si q9.2 35 y0 x7.toNatClampNeg x1) fun N11 =>
    (fM_heldBy y0 x7 N11).bind fun q12 =>
    (fM_give y0 x1 s0 (-q12.1) q12.2).bind fun q14 =>
    qz_let (qz_si q14.2 7 y0 17 ((qz_gi q14.2 7 y0 17) + (1 : Int32))) fun N16 =>
    some (x7, N16)
  else
  some ((-3 : Int32), q9.2)
def fM_order_83 (y0 : Nat) (N : qz_N) (x1 : Int32) (x3 : Int64) (x5 : Int64) (x7 : Int32) (s0 : Int32) (s1 : Int32) (s2 : Nat) : Option (Int32 × qz_N) :=
  if s1 < 0 ∨ 40 ≤ s1.toNatClampNeg then none else
  qz_let (qz_si N 36 s2 s1.toNatClampNeg (vp_nar .boolean s0)) fun N4 =>
  if x7 < 0 ∨ 40 ≤ x7.toNatClampNeg then none else
  qz_let (qz_sl N4 37 y0 x7.toNatClampNeg x3) fun N5 =>
  if x7 < 0 ∨ 40 ≤ x7.toNatClampNeg then none else
  qz_let (qz_sl N5 38 y0 x7.toNatClampNeg x5) fun N6 =>
  if x7 < 0 ∨ 40 ≤ x7.toNatClampNeg then none else
  if (qz_gi N6 36 y0 x7.toNatClampNeg) = 0 then
    fM_order_122 y0 N6 x1 x7 (qz_gi N6 7 y0 15)
  else
  fM_order_122 y0 N6 x1 x7 (qz_gi N6 7 y0 16)
def fM_order (o : Nat) (x1 : Int32) (x2 : Int32) (x3 : Int64) (x5 : Int64) (N : qz_N) : Option (Int32 × qz_N) :=
  (fM_isPlayer x1 N).bind fun q1 =>
  if q1.1 = 0 then
    some ((-2 : Int32), q1.2)
  else
  if x2 < 0 then
    some ((-2 : Int32), q1.2)
  else
  if (1 : Int32) < x2 then
    some ((-2 : Int32), q1.2)
  else
  if x3 < (1 : Int64) then
    some ((-2 : Int32), q1.2)
  else
  if (10000000000 : Int64) < x3 then
    some ((-2 : Int32), q1.2)
  else
  if x5 < (1 : Int64) then
    some ((-2 : Int32), q1.2)
  else
  if x5 ≤ (1000000 : Int64) then
    if (qz_gi q1.2 7 o 17) = (40 : Int32) then
      some ((-3 : Int32), q1.2)
    else
    qz_let (qz_gi q1.2 7 o 17) fun v3 =>
    if x2 = (1 : Int32) then
      fM_order_83 o q1.2 x1 x3 x5 v3 (1 : Int32) v3 o
    else
    fM_order_83 o q1.2 x1 x3 x5 v3 (0 : Int32) v3 o
  else
  some ((-2 : Int32), q1.2)
set_option maxRecDepth 100000 in
set_option maxHeartbeats 4000000 in
theorem sM_order_122 {p : Program} {l : Launch} {e : Env} {s : State} {m : MethodId} {args : Array Value} {below : List Frame} {meth : Method} {c : Code} {G : qz_G} (X : qz_X p s m args meth c "ExactCurvesModel" prog_10_method_37_code 9 (some .int) G) {r : (Int32 × qz_N)} (y0 : Nat) (hy0 : y0 < 1) (N : qz_N) (x1 : Int32) (x7 : Int32) (s0 : Int32) (h : fM_order_122 y0 N x1 x7 s0 = some r) : qz_W p l e (qz_R 2) s m args below meth c 0 0 (MQ below (qz_Q G r.2 (some (.int r.1))) args s 0 0 (qz_A G)) G s.heap 9 N 122 [(1, .int x1), (7, .int x7), (0, .ref (G.2.2 7 y0))] [.int s0] := by
  unfold fM_order_122 at h
  refine qz_istore X (lv' := [(8, .int s0), (1, .int x1), (7, .int x7), (0, .ref (G.2.2 7 y0))]) (by decide) rfl dq_M_order_122 ?_
  refine qz_aload_n X 3 rfl dq_M_order_124 ?_
  refine qz_iload_n X 1 rfl dq_M_order_125 ?_
  refine qz_iload X 0 rfl dq_M_order_126 ?_
  refine qz_bind h (fun q7 e8 h => ?_)
  refine qz_callV X (as := [.int x1, .int s0]) (st := []) (o := some (.long q7.1)) (N' := q7.2) cq_M_148 hy0 (cM_has l G X.2.2.2.2.2.2.1 y0 x1 s0 N hy0 _ e8) ⟨by decide, by decide⟩ rfl rfl (Nat.le_of_ble_eq_true rfl) ⟨Nat.zero_le _, Nat.zero_le _⟩ dq_M_order_128 ?_
  refine qz_aload_n X 3 rfl dq_M_order_131 ?_
  refine qz_iload X 2 rfl dq_M_order_132 ?_
  refine qz_bind h (fun q9 e10 h => ?_)
  refine qz_callV X (as := [.int x7]) (st := [.long q7.1]) (o := some (.long q9.1)) (N' := q9.2) cq_M_158 hy0 (cM_heldBy l G X.2.2.2.2.2.2.1 y0 x7 q7.2 hy0 _ e10) ⟨by decide, by decide⟩ rfl rfl (Nat.le_of_ble_eq_true rfl) ⟨Nat.zero_le _, Nat.zero_le _⟩ dq_M_order_134 ?_
  refine qz_lcmp_ge X (tgt := 144) (by decide) dq_M_order_137 dq_M_order_138 h (fun _ h => ?_) (fun _ h => ?_)
  · refine qz_aload_n X 3 rfl dq_M_order_144 ?_
    refine qz_get X (v := .ref (G.2.2 35 y0)) kq_M_54 hy0 rfl dq_M_order_145 ?_
    refine qz_iload X 2 rfl dq_M_order_148 ?_
    refine qz_iload_n X 1 rfl dq_M_order_150 ?_
    refine qz_iast X (c0 := 35) (i := y0) (n := 40) rfl hy0 dq_M_order_151 h (fun N11 h => ?_)
    refine qz_aload_n X 3 rfl dq_M_order_152 ?_
    refine qz_iload_n X 1 rfl dq_M_order_153 ?_
    refine qz_iload X 0 rfl dq_M_order_154 ?_
    refine qz_aload_n X 3 rfl dq_M_order_156 ?_
    refine qz_iload X 2 rfl dq_M_order_157 ?_
    refine qz_bind h (fun q12 e13 h => ?_)
    refine qz_callV X (as := [.int x7]) (st := [.int s0, .int x1, .ref (G.2.2 7 y0)]) (o := some (.long q12.1)) (N' := q12.2) cq_M_158 hy0 (cM_heldBy l G X.2.2.2.2.2.2.1 y0 x7 N11 hy0 _ e13) ⟨by decide, by decide⟩ rfl rfl (Nat.le_of_ble_eq_true rfl) ⟨Nat.zero_le _, Nat.zero_le _⟩ dq_M_order_159 ?_
    refine qz_lneg X dq_M_order_162 ?_
    refine qz_bind h (fun q14 e15 h => ?_)
    refine qz_callV X (as := [.int x1, .int s0, .long (-q12.1)]) (st := []) (o := none) (N' := q14.2) cq_M_182 hy0 (cM_give l G X.2.2.2.2.2.2.1 y0 x1 s0 (-q12.1) q12.2 hy0 _ e15) ⟨by decide, by decide⟩ rfl rfl (Nat.le_of_ble_eq_true rfl) ⟨Nat.zero_le _, Nat.zero_le _⟩ dq_M_order_163 ?_
    refine qz_aload_n X 3 rfl dq_M_order_166 ?_
    refine qz_dup X rfl dq_M_order_167 ?_
    refine qz_get X (v := .int (qz_gi q14.2 7 y0 17)) kq_M_152 hy0 rfl dq_M_order_168 ?_
    refine qz_iconst X (v := (1 : Int32)) (by decide) dq_M_order_171 ?_
    refine qz_iadd X dq_M_order_172 ?_
    refine qz_putI X kq_M_152 hy0 dq_M_order_173 h (fun N16 h => ?_)
    refine qz_iload X 2 rfl dq_M_order_176 ?_
    exact qz_iret X h dq_M_order_178
  · refine qz_bipush X (v := (-3 : Int32)) (by decide) dq_M_order_141 ?_
    exact qz_iret X h dq_M_order_143
set_option maxRecDepth 100000 in
set_option maxHeartbeats 4000000 in
theorem sM_order_83 {p : Program} {l : Launch} {e : Env} {s : State} {m : MethodId} {args : Array Value} {below : List Frame} {meth : Method} {c : Code} {G : qz_G} (X : qz_X p s m args meth c "ExactCurvesModel" prog_10_method_37_code 9 (some .int) G) {r : (Int32 × qz_N)} (y0 : Nat) (hy0 : y0 < 1) (N : qz_N) (x1 : Int32) (x3 : Int64) (x5 : Int64) (x7 : Int32) (s0 : Int32) (s1 : Int32) (s2 : Nat) (hs2 : s2 < 1) (h : fM_order_83 y0 N x1 x3 x5 x7 s0 s1 s2 = some r) : qz_W p l e (qz_R 2) s m args below meth c 0 0 (MQ below (qz_Q G r.2 (some (.int r.1))) args s 0 0 (qz_A G)) G s.heap 9 N 83 [(1, .int x1), (3, .long x3), (5, .long x5), (7, .int x7), (0, .ref (G.2.2 7 y0))] [.int s0, .int s1, .ref (G.2.2 36 s2)] := by
  unfold fM_order_83 at h
  refine qz_zast X (c0 := 36) (i := s2) (n := 40) rfl hs2 dq_M_order_83 h (fun N4 h => ?_)
  refine qz_aload_n X 4 rfl dq_M_order_84 ?_
  refine qz_get X (v := .ref (G.2.2 37 y0)) kq_M_61 hy0 rfl dq_M_order_85 ?_
  refine qz_iload X 3 rfl dq_M_order_88 ?_
  refine qz_lload_n X 1 rfl dq_M_order_90 ?_
  refine qz_last X (c0 := 37) (i := y0) (n := 40) rfl hy0 dq_M_order_91 h (fun N5 h => ?_)
  refine qz_aload_n X 4 rfl dq_M_order_92 ?_
  refine qz_get X (v := .ref (G.2.2 38 y0)) kq_M_64 hy0 rfl dq_M_order_93 ?_
  refine qz_iload X 3 rfl dq_M_order_96 ?_
  refine qz_lload X 2 rfl dq_M_order_98 ?_
  refine qz_last X (c0 := 38) (i := y0) (n := 40) rfl hy0 dq_M_order_100 h (fun N6 h => ?_)
  refine qz_aload_n X 4 rfl dq_M_order_101 ?_
  refine qz_get X (v := .ref (G.2.2 36 y0)) kq_M_57 hy0 rfl dq_M_order_102 ?_
  refine qz_iload X 3 rfl dq_M_order_105 ?_
  refine qz_zald X (c0 := 36) (i := y0) (n := 40) rfl hy0 dq_M_order_107 h (fun h => ?_)
  refine qz_if_eq X (tgt := 118) (by decide) dq_M_order_108 h (fun _ h => ?_) (fun _ h => ?_)
  · refine qz_aload_n X 4 rfl dq_M_order_118 ?_
    refine qz_get X (v := .int (qz_gi N6 7 y0 15)) kq_M_155 hy0 rfl dq_M_order_119 ?_
    refine qz_sub [0, 3, 4] rfl ?_
    exact sM_order_122 X y0 hy0 N6 x1 x7 (qz_gi N6 7 y0 15) h
  · refine qz_aload_n X 4 rfl dq_M_order_111 ?_
    refine qz_get X (v := .int (qz_gi N6 7 y0 16)) kq_M_50 hy0 rfl dq_M_order_112 ?_
    refine qz_goto X (tgt := 122) (by decide) dq_M_order_115 ?_
    refine qz_sub [0, 3, 4] rfl ?_
    exact sM_order_122 X y0 hy0 N6 x1 x7 (qz_gi N6 7 y0 16) h
set_option maxRecDepth 100000 in
set_option maxHeartbeats 4000000 in
theorem sM_order {p : Program} {l : Launch} {e : Env} {s : State} {m : MethodId} {args : Array Value} {below : List Frame} {meth : Method} {c : Code} {G : qz_G} (X : qz_X p s m args meth c "ExactCurvesModel" prog_10_method_37_code 9 (some .int) G) {r : (Int32 × qz_N)} (o : Nat) (x1 : Int32) (x2 : Int32) (x3 : Int64) (x5 : Int64) (ho : o < 1) (N : qz_N) (h : fM_order o x1 x2 x3 x5 N = some r) : qz_W p l e (qz_R 2) s m args below meth c 0 0 (MQ below (qz_Q G r.2 (some (.int r.1))) args s 0 0 (qz_A G)) G s.heap 9 N 0 [(0, .ref (G.2.2 7 o)), (1, .int x1), (2, .int x2), (3, .long x3), (5, .long x5)] [] := by
  unfold fM_order at h
  refine qz_iload_n X 1 rfl dq_M_order_0 ?_
  refine qz_bind h (fun q1 e2 h => ?_)
  refine qz_callS X (as := [.int x1]) (st := []) (o := some (.int q1.1)) (N' := q1.2) cq_M_166 (cM_isPlayer l G X.2.2.2.2.2.2.1 x1 N _ e2) ⟨by decide, by decide⟩ rfl rfl (Nat.le_of_ble_eq_true rfl) ⟨Nat.zero_le _, Nat.zero_le _⟩ dq_M_order_1 ?_
  refine qz_if_eq X (tgt := 46) (by decide) dq_M_order_4 h (fun _ h => ?_) (fun _ h => ?_)
  · refine qz_bipush X (v := (-2 : Int32)) (by decide) dq_M_order_46 ?_
    exact qz_iret X h dq_M_order_48
  · refine qz_iload_n X 2 rfl dq_M_order_7 ?_
    refine qz_if_lt X (tgt := 46) (by decide) dq_M_order_8 h (fun _ h => ?_) (fun _ h => ?_)
    · refine qz_bipush X (v := (-2 : Int32)) (by decide) dq_M_order_46 ?_
      exact qz_iret X h dq_M_order_48
    · refine qz_iload_n X 2 rfl dq_M_order_11 ?_
      refine qz_iconst X (v := (1 : Int32)) (by decide) dq_M_order_12 ?_
      refine qz_icmp_gt X (tgt := 46) (by decide) dq_M_order_13 h (fun _ h => ?_) (fun _ h => ?_)
      · refine qz_bipush X (v := (-2 : Int32)) (by decide) dq_M_order_46 ?_
        exact qz_iret X h dq_M_order_48
      · refine qz_lload_n X 3 rfl dq_M_order_16 ?_
        refine qz_lconst X (v := (1 : Int64)) (by decide) dq_M_order_17 ?_
        refine qz_lcmp_lt X (tgt := 46) (by decide) dq_M_order_18 dq_M_order_19 h (fun _ h => ?_) (fun _ h => ?_)
        · refine qz_bipush X (v := (-2 : Int32)) (by decide) dq_M_order_46 ?_
          exact qz_iret X h dq_M_order_48
        · refine qz_lload_n X 3 rfl dq_M_order_22 ?_
          refine qz_ldc2 X (v := (10000000000 : Int64)) wq_884 dq_M_order_23 ?_
          refine qz_lcmp_gt X (tgt := 46) (by decide) dq_M_order_26 dq_M_order_27 h (fun _ h => ?_) (fun _ h => ?_)
          · refine qz_bipush X (v := (-2 : Int32)) (by decide) dq_M_order_46 ?_
            exact qz_iret X h dq_M_order_48
          · refine qz_lload X 4 rfl dq_M_order_30 ?_
            refine qz_lconst X (v := (1 : Int64)) (by decide) dq_M_order_32 ?_
            refine qz_lcmp_lt X (tgt := 46) (by decide) dq_M_order_33 dq_M_order_34 h (fun _ h => ?_) (fun _ h => ?_)
            · refine qz_bipush X (v := (-2 : Int32)) (by decide) dq_M_order_46 ?_
              exact qz_iret X h dq_M_order_48
            · refine qz_lload X 4 rfl dq_M_order_37 ?_
              refine qz_ldc2 X (v := (1000000 : Int64)) wq_885 dq_M_order_39 ?_
              refine qz_lcmp_le X (tgt := 49) (by decide) dq_M_order_42 dq_M_order_43 h (fun _ h => ?_) (fun _ h => ?_)
              · refine qz_aload_n X 0 rfl dq_M_order_49 ?_
                refine qz_get X (v := .int (qz_gi q1.2 7 o 17)) kq_M_152 ho rfl dq_M_order_50 ?_
                refine qz_bipush X (v := (40 : Int32)) (by decide) dq_M_order_53 ?_
                refine qz_icmp_ne X (tgt := 61) (by decide) dq_M_order_55 h (fun _ h => ?_) (fun _ h => ?_)
                · refine qz_aload_n X 0 rfl dq_M_order_61 ?_
                  refine qz_get X (v := .int (qz_gi q1.2 7 o 17)) kq_M_152 ho rfl dq_M_order_62 ?_
                  refine qz_leti h (fun v3 h => ?_)
                  refine qz_istore X (lv' := [(7, .int v3), (0, .ref (G.2.2 7 o)), (1, .int x1), (2, .int x2), (3, .long x3), (5, .long x5)]) (by decide) rfl dq_M_order_65 ?_
                  refine qz_aload_n X 1 rfl dq_M_order_67 ?_
                  refine qz_get X (v := .ref (G.2.2 36 o)) kq_M_57 ho rfl dq_M_order_68 ?_
                  refine qz_iload X 0 rfl dq_M_order_71 ?_
                  refine qz_iload_n X 3 rfl dq_M_order_73 ?_
                  refine qz_iconst X (v := (1 : Int32)) (by decide) dq_M_order_74 ?_
                  refine qz_icmp_ne X (tgt := 82) (by decide) dq_M_order_75 h (fun _ h => ?_) (fun _ h => ?_)
                  · refine qz_iconst X (v := (0 : Int32)) (by decide) dq_M_order_82 ?_
                    refine qz_sub [2, 4, 5, 0, 1] rfl ?_
                    exact sM_order_83 X o ho q1.2 x1 x3 x5 v3 (0 : Int32) v3 o ho h
                  · refine qz_iconst X (v := (1 : Int32)) (by decide) dq_M_order_78 ?_
                    refine qz_goto X (tgt := 83) (by decide) dq_M_order_79 ?_
                    refine qz_sub [2, 4, 5, 0, 1] rfl ?_
                    exact sM_order_83 X o ho q1.2 x1 x3 x5 v3 (1 : Int32) v3 o ho h
                · refine qz_bipush X (v := (-3 : Int32)) (by decide) dq_M_order_58 ?_
                  exact qz_iret X h dq_M_order_60
              · refine qz_bipush X (v := (-2 : Int32)) (by decide) dq_M_order_46 ?_
                exact qz_iret X h dq_M_order_48
theorem cM_order (l : Launch) (G : qz_G) (hD : qz_D G) (o : Nat) (x1 : Int32) (x2 : Int32) (x3 : Int64) (x5 : Int64) (N : qz_N) (ho : o < 1) (r : (Int32 × qz_N)) (h : fM_order o x1 x2 x3 x5 N = some r) : qz_M l yM_order prog_10_method_37_code 9 (some .int) 2 G [.ref (G.2.2 7 o), .int x1, .int x2, .long x3, .long x5] N (some (.int r.1)) r.2 :=
  qz_enter (lv := [(0, .ref (G.2.2 7 o)), (1, .int x1), (2, .int x2), (3, .long x3), (5, .long x5)]) rfl hD (Nat.le_of_ble_eq_true rfl) rfl (fun p e s m args below meth c X => sM_order X o x1 x2 x3 x5 ho N h)
