-- ExactCurves.flash(IIJJJJ)I
theorem dq_E_flash_0 : decode prog_1_method_12_code 0 = .ok (.aload_n 0, 1) := by decide +kernel
theorem dq_E_flash_1 : decode prog_1_method_12_code 1 = .ok (.iload_n 2, 1) := by decide +kernel
theorem dq_E_flash_2 : decode prog_1_method_12_code 2 = .ok (.invokevirtual 95, 3) := by decide +kernel
theorem dq_E_flash_5 : decode prog_1_method_12_code 5 = .ok (.astore 11, 2) := by decide +kernel
theorem dq_E_flash_7 : decode prog_1_method_12_code 7 = .ok (.iload_n 1, 1) := by decide +kernel
theorem dq_E_flash_8 : decode prog_1_method_12_code 8 = .ok (.invokestatic 51, 3) := by decide +kernel
theorem dq_E_flash_11 : decode prog_1_method_12_code 11 = .ok (.ifCond .eq 35, 3) := by decide +kernel
theorem dq_E_flash_14 : decode prog_1_method_12_code 14 = .ok (.aload 11, 2) := by decide +kernel
theorem dq_E_flash_16 : decode prog_1_method_12_code 16 = .ok (.ifnull 30, 3) := by decide +kernel
theorem dq_E_flash_19 : decode prog_1_method_12_code 19 = .ok (.lload_n 3, 1) := by decide +kernel
theorem dq_E_flash_20 : decode prog_1_method_12_code 20 = .ok (.lconst 0, 1) := by decide +kernel
theorem dq_E_flash_21 : decode prog_1_method_12_code 21 = .ok (.lcmp, 1) := by decide +kernel
theorem dq_E_flash_22 : decode prog_1_method_12_code 22 = .ok (.ifCond .lt 24, 3) := by decide +kernel
theorem dq_E_flash_25 : decode prog_1_method_12_code 25 = .ok (.lload 5, 2) := by decide +kernel
theorem dq_E_flash_27 : decode prog_1_method_12_code 27 = .ok (.lconst 0, 1) := by decide +kernel
theorem dq_E_flash_28 : decode prog_1_method_12_code 28 = .ok (.lcmp, 1) := by decide +kernel
theorem dq_E_flash_29 : decode prog_1_method_12_code 29 = .ok (.ifCond .lt 17, 3) := by decide +kernel
theorem dq_E_flash_32 : decode prog_1_method_12_code 32 = .ok (.lload 7, 2) := by decide +kernel
theorem dq_E_flash_34 : decode prog_1_method_12_code 34 = .ok (.lconst 0, 1) := by decide +kernel
theorem dq_E_flash_35 : decode prog_1_method_12_code 35 = .ok (.lcmp, 1) := by decide +kernel
theorem dq_E_flash_36 : decode prog_1_method_12_code 36 = .ok (.ifCond .lt 10, 3) := by decide +kernel
theorem dq_E_flash_39 : decode prog_1_method_12_code 39 = .ok (.lload 9, 2) := by decide +kernel
theorem dq_E_flash_41 : decode prog_1_method_12_code 41 = .ok (.lconst 0, 1) := by decide +kernel
theorem dq_E_flash_42 : decode prog_1_method_12_code 42 = .ok (.lcmp, 1) := by decide +kernel
theorem dq_E_flash_43 : decode prog_1_method_12_code 43 = .ok (.ifCond .ge 6, 3) := by decide +kernel
theorem dq_E_flash_46 : decode prog_1_method_12_code 46 = .ok (.bipush (-2), 2) := by decide +kernel
theorem dq_E_flash_48 : decode prog_1_method_12_code 48 = .ok (.ireturn, 1) := by decide +kernel
theorem dq_E_flash_49 : decode prog_1_method_12_code 49 = .ok (.lload_n 3, 1) := by decide +kernel
theorem dq_E_flash_50 : decode prog_1_method_12_code 50 = .ok (.lconst 0, 1) := by decide +kernel
theorem dq_E_flash_51 : decode prog_1_method_12_code 51 = .ok (.lcmp, 1) := by decide +kernel
theorem dq_E_flash_52 : decode prog_1_method_12_code 52 = .ok (.ifCond .ne 10, 3) := by decide +kernel
theorem dq_E_flash_55 : decode prog_1_method_12_code 55 = .ok (.lload 5, 2) := by decide +kernel
theorem dq_E_flash_57 : decode prog_1_method_12_code 57 = .ok (.lconst 0, 1) := by decide +kernel
theorem dq_E_flash_58 : decode prog_1_method_12_code 58 = .ok (.lcmp, 1) := by decide +kernel
theorem dq_E_flash_59 : decode prog_1_method_12_code 59 = .ok (.ifCond .eq 24, 3) := by decide +kernel
theorem dq_E_flash_62 : decode prog_1_method_12_code 62 = .ok (.lload_n 3, 1) := by decide +kernel
theorem dq_E_flash_63 : decode prog_1_method_12_code 63 = .ok (.aload 11, 2) := by decide +kernel
theorem dq_E_flash_65 : decode prog_1_method_12_code 65 = .ok (.getfield 143, 3) := by decide +kernel
theorem dq_E_flash_68 : decode prog_1_method_12_code 68 = .ok (.lcmp, 1) := by decide +kernel
theorem dq_E_flash_69 : decode prog_1_method_12_code 69 = .ok (.ifCond .gt 14, 3) := by decide +kernel
theorem dq_E_flash_72 : decode prog_1_method_12_code 72 = .ok (.lload 5, 2) := by decide +kernel
theorem dq_E_flash_74 : decode prog_1_method_12_code 74 = .ok (.aload 11, 2) := by decide +kernel
theorem dq_E_flash_76 : decode prog_1_method_12_code 76 = .ok (.getfield 146, 3) := by decide +kernel
theorem dq_E_flash_79 : decode prog_1_method_12_code 79 = .ok (.lcmp, 1) := by decide +kernel
theorem dq_E_flash_80 : decode prog_1_method_12_code 80 = .ok (.ifCond .le 6, 3) := by decide +kernel
theorem dq_E_flash_83 : decode prog_1_method_12_code 83 = .ok (.bipush (-2), 2) := by decide +kernel
theorem dq_E_flash_85 : decode prog_1_method_12_code 85 = .ok (.ireturn, 1) := by decide +kernel
theorem dq_E_flash_86 : decode prog_1_method_12_code 86 = .ok (.aload_n 0, 1) := by decide +kernel
theorem dq_E_flash_87 : decode prog_1_method_12_code 87 = .ok (.getfield 10, 3) := by decide +kernel
theorem dq_E_flash_90 : decode prog_1_method_12_code 90 = .ok (.iload_n 1, 1) := by decide +kernel
theorem dq_E_flash_91 : decode prog_1_method_12_code 91 = .ok (.aload 11, 2) := by decide +kernel
theorem dq_E_flash_93 : decode prog_1_method_12_code 93 = .ok (.getfield 83, 3) := by decide +kernel
theorem dq_E_flash_96 : decode prog_1_method_12_code 96 = .ok (.invokevirtual 72, 3) := by decide +kernel
theorem dq_E_flash_99 : decode prog_1_method_12_code 99 = .ok (.lload_n 3, 1) := by decide +kernel
theorem dq_E_flash_100 : decode prog_1_method_12_code 100 = .ok (.ladd, 1) := by decide +kernel
theorem dq_E_flash_101 : decode prog_1_method_12_code 101 = .ok (.lload 7, 2) := by decide +kernel
theorem dq_E_flash_103 : decode prog_1_method_12_code 103 = .ok (.lcmp, 1) := by decide +kernel
theorem dq_E_flash_104 : decode prog_1_method_12_code 104 = .ok (.ifCond .lt 25, 3) := by decide +kernel
theorem dq_E_flash_107 : decode prog_1_method_12_code 107 = .ok (.aload_n 0, 1) := by decide +kernel
theorem dq_E_flash_108 : decode prog_1_method_12_code 108 = .ok (.getfield 10, 3) := by decide +kernel
theorem dq_E_flash_111 : decode prog_1_method_12_code 111 = .ok (.iload_n 1, 1) := by decide +kernel
theorem dq_E_flash_112 : decode prog_1_method_12_code 112 = .ok (.aload 11, 2) := by decide +kernel
theorem dq_E_flash_114 : decode prog_1_method_12_code 114 = .ok (.getfield 86, 3) := by decide +kernel
theorem dq_E_flash_117 : decode prog_1_method_12_code 117 = .ok (.invokevirtual 72, 3) := by decide +kernel
theorem dq_E_flash_120 : decode prog_1_method_12_code 120 = .ok (.lload 5, 2) := by decide +kernel
theorem dq_E_flash_122 : decode prog_1_method_12_code 122 = .ok (.ladd, 1) := by decide +kernel
theorem dq_E_flash_123 : decode prog_1_method_12_code 123 = .ok (.lload 9, 2) := by decide +kernel
theorem dq_E_flash_125 : decode prog_1_method_12_code 125 = .ok (.lcmp, 1) := by decide +kernel
theorem dq_E_flash_126 : decode prog_1_method_12_code 126 = .ok (.ifCond .ge 6, 3) := by decide +kernel
theorem dq_E_flash_129 : decode prog_1_method_12_code 129 = .ok (.bipush (-3), 2) := by decide +kernel
theorem dq_E_flash_131 : decode prog_1_method_12_code 131 = .ok (.ireturn, 1) := by decide +kernel
theorem dq_E_flash_132 : decode prog_1_method_12_code 132 = .ok (.aload 11, 2) := by decide +kernel
theorem dq_E_flash_134 : decode prog_1_method_12_code 134 = .ok (.aload 11, 2) := by decide +kernel
theorem dq_E_flash_136 : decode prog_1_method_12_code 136 = .ok (.getfield 143, 3) := by decide +kernel
theorem dq_E_flash_139 : decode prog_1_method_12_code 139 = .ok (.lload_n 3, 1) := by decide +kernel
theorem dq_E_flash_140 : decode prog_1_method_12_code 140 = .ok (.lsub, 1) := by decide +kernel
theorem dq_E_flash_141 : decode prog_1_method_12_code 141 = .ok (.lload 7, 2) := by decide +kernel
theorem dq_E_flash_143 : decode prog_1_method_12_code 143 = .ok (.ladd, 1) := by decide +kernel
theorem dq_E_flash_144 : decode prog_1_method_12_code 144 = .ok (.aload 11, 2) := by decide +kernel
theorem dq_E_flash_146 : decode prog_1_method_12_code 146 = .ok (.getfield 146, 3) := by decide +kernel
theorem dq_E_flash_149 : decode prog_1_method_12_code 149 = .ok (.lload 5, 2) := by decide +kernel
theorem dq_E_flash_151 : decode prog_1_method_12_code 151 = .ok (.lsub, 1) := by decide +kernel
theorem dq_E_flash_152 : decode prog_1_method_12_code 152 = .ok (.lload 9, 2) := by decide +kernel
theorem dq_E_flash_154 : decode prog_1_method_12_code 154 = .ok (.ladd, 1) := by decide +kernel
theorem dq_E_flash_155 : decode prog_1_method_12_code 155 = .ok (.lload 7, 2) := by decide +kernel
theorem dq_E_flash_157 : decode prog_1_method_12_code 157 = .ok (.lload 9, 2) := by decide +kernel
theorem dq_E_flash_159 : decode prog_1_method_12_code 159 = .ok (.invokevirtual 149, 3) := by decide +kernel
theorem dq_E_flash_162 : decode prog_1_method_12_code 162 = .ok (.ifCond .ne 6, 3) := by decide +kernel
theorem dq_E_flash_165 : decode prog_1_method_12_code 165 = .ok (.bipush (-3), 2) := by decide +kernel
theorem dq_E_flash_167 : decode prog_1_method_12_code 167 = .ok (.ireturn, 1) := by decide +kernel
theorem dq_E_flash_168 : decode prog_1_method_12_code 168 = .ok (.aload_n 0, 1) := by decide +kernel
theorem dq_E_flash_169 : decode prog_1_method_12_code 169 = .ok (.iload_n 1, 1) := by decide +kernel
theorem dq_E_flash_170 : decode prog_1_method_12_code 170 = .ok (.aload 11, 2) := by decide +kernel
theorem dq_E_flash_172 : decode prog_1_method_12_code 172 = .ok (.iconst 0, 1) := by decide +kernel
theorem dq_E_flash_173 : decode prog_1_method_12_code 173 = .ok (.lload_n 3, 1) := by decide +kernel
theorem dq_E_flash_174 : decode prog_1_method_12_code 174 = .ok (.invokevirtual 129, 3) := by decide +kernel
theorem dq_E_flash_177 : decode prog_1_method_12_code 177 = .ok (.aload_n 0, 1) := by decide +kernel
theorem dq_E_flash_178 : decode prog_1_method_12_code 178 = .ok (.iload_n 1, 1) := by decide +kernel
theorem dq_E_flash_179 : decode prog_1_method_12_code 179 = .ok (.aload 11, 2) := by decide +kernel
theorem dq_E_flash_181 : decode prog_1_method_12_code 181 = .ok (.iconst 1, 1) := by decide +kernel
theorem dq_E_flash_182 : decode prog_1_method_12_code 182 = .ok (.lload 5, 2) := by decide +kernel
theorem dq_E_flash_184 : decode prog_1_method_12_code 184 = .ok (.invokevirtual 129, 3) := by decide +kernel
theorem dq_E_flash_187 : decode prog_1_method_12_code 187 = .ok (.aload_n 0, 1) := by decide +kernel
theorem dq_E_flash_188 : decode prog_1_method_12_code 188 = .ok (.iload_n 1, 1) := by decide +kernel
theorem dq_E_flash_189 : decode prog_1_method_12_code 189 = .ok (.aload 11, 2) := by decide +kernel
theorem dq_E_flash_191 : decode prog_1_method_12_code 191 = .ok (.iconst 0, 1) := by decide +kernel
theorem dq_E_flash_192 : decode prog_1_method_12_code 192 = .ok (.lload 7, 2) := by decide +kernel
theorem dq_E_flash_194 : decode prog_1_method_12_code 194 = .ok (.invokevirtual 115, 3) := by decide +kernel
theorem dq_E_flash_197 : decode prog_1_method_12_code 197 = .ok (.aload_n 0, 1) := by decide +kernel
theorem dq_E_flash_198 : decode prog_1_method_12_code 198 = .ok (.iload_n 1, 1) := by decide +kernel
theorem dq_E_flash_199 : decode prog_1_method_12_code 199 = .ok (.aload 11, 2) := by decide +kernel
theorem dq_E_flash_201 : decode prog_1_method_12_code 201 = .ok (.iconst 1, 1) := by decide +kernel
theorem dq_E_flash_202 : decode prog_1_method_12_code 202 = .ok (.lload 9, 2) := by decide +kernel
theorem dq_E_flash_204 : decode prog_1_method_12_code 204 = .ok (.invokevirtual 115, 3) := by decide +kernel
theorem dq_E_flash_207 : decode prog_1_method_12_code 207 = .ok (.iconst 1, 1) := by decide +kernel
theorem dq_E_flash_208 : decode prog_1_method_12_code 208 = .ok (.ireturn, 1) := by decide +kernel
def fE_flash_62 (y0 : Nat) (y11 : Nat) (N : qz_N) (x1 : Int32) (x3 : Int64) (x5 : Int64) (x7 : Int64) (x9 : Int64) : Option (Int32 × qz_N) :=
  if (qz_gl N 2 y11 5) < x3 then
    some ((-2 : Int32), N)
  else
  if x5 ≤ (qz_gl N 2 y11 6) then
    (fU_held y0 x1 (qz_gi N 2 y11 1) N).bind fun q9 =>
    if (q9.1 + x3) < x7 then
      some ((-3 : Int32), q9.2)
    else
    (fU_held y0 x1 (qz_gi q9.2 2 y11 2) q9.2).bind fun q11 =>
    if x9 ≤ (q11.1 + x5) then
      (fP_mayBecome y11 (((qz_gl q11.2 2 y11 5) - x3) + x7) (((qz_gl q11.2 2 y11 6) - x5) + x9) x7 x9 q11.2).bind fun q13 =>
      if q13.1 = 0 then
        some ((-3 : Int32), q13.2)
      else
      (fE_takeOut y0 x1 y11 (0 : Int32) x3 q13.2).bind fun q15 =>
      (fE_takeOut y0 x1 y11 (1 : Int32) x5 q15.2).bind fun q17 =>
      (fE_bringIn y0 x1 y11 (0 : Int32) x7 q17.2).bind fun q19 =>
      (fE_bringIn y0 x1 y11 (1 : Int32) x9 q19.2).bind fun q21 =>
      some ((1 : Int32), q21.2)
    else
    some ((-3 : Int32), q11.2)
  else
  some ((-2 : Int32), N)
def fE_flash (o : Nat) (x1 : Int32) (x2 : Int32) (x3 : Int64) (x5 : Int64) (x7 : Int64) (x9 : Int64) (N : qz_N) : Option (Int32 × qz_N) :=
  (fE_poolAt o x2 N).bind fun q1 => qz_oc q1
    (fun N3 =>
    (fE_isPlayer x1 N3).bind fun q5 =>
    if q5.1 = 0 then
      some ((-2 : Int32), q5.2)
    else
    some ((-2 : Int32), q5.2))
    fun N3 j4 =>
    (fE_isPlayer x1 N3).bind fun q7 =>
    if q7.1 = 0 then
      some ((-2 : Int32), q7.2)
    else
    if x3 < (0 : Int64) then
      some ((-2 : Int32), q7.2)
    else
    if x5 < (0 : Int64) then
      some ((-2 : Int32), q7.2)
    else
    if x7 < (0 : Int64) then
      some ((-2 : Int32), q7.2)
    else
    if (0 : Int64) ≤ x9 then
      if x3 = (0 : Int64) then
        if x5 = (0 : Int64) then
          some ((-2 : Int32), q7.2)
        else
        fE_flash_62 o j4 q7.2 x1 x3 x5 x7 x9
      else
      fE_flash_62 o j4 q7.2 x1 x3 x5 x7 x9
    else
    some ((-2 : Int32), q7.2)
set_option maxRecDepth 100000 in
set_option maxHeartbeats 4000000 in
theorem sE_flash_62 {p : Program} {l : Launch} {e : Env} {s : State} {m : MethodId} {args : Array Value} {below : List Frame} {meth : Method} {c : Code} {G : qz_G} (X : qz_X p s m args meth c "ExactCurves" prog_1_method_12_code 12 (some .int) G) {r : (Int32 × qz_N)} (y0 : Nat) (y11 : Nat) (hy0 : y0 < 1) (hy11 : y11 < 6) (N : qz_N) (x1 : Int32) (x3 : Int64) (x5 : Int64) (x7 : Int64) (x9 : Int64) (h : fE_flash_62 y0 y11 N x1 x3 x5 x7 x9 = some r) : qz_W p l e (qz_R 3) s m args below meth c 0 0 (MQ below (qz_Q G r.2 (some (.int r.1))) args s 0 0 (qz_A G)) G s.heap 12 N 62 [(1, .int x1), (3, .long x3), (5, .long x5), (7, .long x7), (9, .long x9), (0, .ref (G.2.2 0 y0)), (11, .ref (G.2.2 2 y11))] [] := by
  unfold fE_flash_62 at h
  refine qz_lload_n X 1 rfl dq_E_flash_62 ?_
  refine qz_aload X 6 rfl dq_E_flash_63 ?_
  refine qz_get X (v := .long (qz_gl N 2 y11 5)) kq_E_143 hy11 rfl dq_E_flash_65 ?_
  refine qz_lcmp_gt X (tgt := 83) (by decide) dq_E_flash_68 dq_E_flash_69 h (fun _ h => ?_) (fun _ h => ?_)
  · refine qz_bipush X (v := (-2 : Int32)) (by decide) dq_E_flash_83 ?_
    exact qz_iret X h dq_E_flash_85
  · refine qz_lload X 2 rfl dq_E_flash_72 ?_
    refine qz_aload X 6 rfl dq_E_flash_74 ?_
    refine qz_get X (v := .long (qz_gl N 2 y11 6)) kq_E_146 hy11 rfl dq_E_flash_76 ?_
    refine qz_lcmp_le X (tgt := 86) (by decide) dq_E_flash_79 dq_E_flash_80 h (fun _ h => ?_) (fun _ h => ?_)
    · refine qz_aload_n X 5 rfl dq_E_flash_86 ?_
      refine qz_get X (v := .ref (G.2.2 1 y0)) kq_E_10 hy0 rfl dq_E_flash_87 ?_
      refine qz_iload_n X 0 rfl dq_E_flash_90 ?_
      refine qz_aload X 6 rfl dq_E_flash_91 ?_
      refine qz_get X (v := .int (qz_gi N 2 y11 1)) kq_E_83 hy11 rfl dq_E_flash_93 ?_
      refine qz_bind h (fun q9 e10 h => ?_)
      refine qz_callV X (as := [.int x1, .int (qz_gi N 2 y11 1)]) (st := []) (o := some (.long q9.1)) (N' := q9.2) cq_E_72 hy0 (cU_held l G X.2.2.2.2.2.2.1 y0 x1 (qz_gi N 2 y11 1) N hy0 _ e10) ⟨by decide, by decide⟩ rfl rfl (Nat.le_of_ble_eq_true rfl) ⟨Nat.zero_le _, Nat.zero_le _⟩ dq_E_flash_96 ?_
      refine qz_lload_n X 1 rfl dq_E_flash_99 ?_
      refine qz_ladd X dq_E_flash_100 ?_
      refine qz_lload X 3 rfl dq_E_flash_101 ?_
      refine qz_lcmp_lt X (tgt := 129) (by decide) dq_E_flash_103 dq_E_flash_104 h (fun _ h => ?_) (fun _ h => ?_)
      · refine qz_bipush X (v := (-3 : Int32)) (by decide) dq_E_flash_129 ?_
        exact qz_iret X h dq_E_flash_131
      · refine qz_aload_n X 5 rfl dq_E_flash_107 ?_
        refine qz_get X (v := .ref (G.2.2 1 y0)) kq_E_10 hy0 rfl dq_E_flash_108 ?_
        refine qz_iload_n X 0 rfl dq_E_flash_111 ?_
        refine qz_aload X 6 rfl dq_E_flash_112 ?_
        refine qz_get X (v := .int (qz_gi q9.2 2 y11 2)) kq_E_86 hy11 rfl dq_E_flash_114 ?_
        refine qz_bind h (fun q11 e12 h => ?_)
        refine qz_callV X (as := [.int x1, .int (qz_gi q9.2 2 y11 2)]) (st := []) (o := some (.long q11.1)) (N' := q11.2) cq_E_72 hy0 (cU_held l G X.2.2.2.2.2.2.1 y0 x1 (qz_gi q9.2 2 y11 2) q9.2 hy0 _ e12) ⟨by decide, by decide⟩ rfl rfl (Nat.le_of_ble_eq_true rfl) ⟨Nat.zero_le _, Nat.zero_le _⟩ dq_E_flash_117 ?_
        refine qz_lload X 2 rfl dq_E_flash_120 ?_
        refine qz_ladd X dq_E_flash_122 ?_
        refine qz_lload X 4 rfl dq_E_flash_123 ?_
        refine qz_lcmp_ge X (tgt := 132) (by decide) dq_E_flash_125 dq_E_flash_126 h (fun _ h => ?_) (fun _ h => ?_)
        · refine qz_aload X 6 rfl dq_E_flash_132 ?_
          refine qz_aload X 6 rfl dq_E_flash_134 ?_
          refine qz_get X (v := .long (qz_gl q11.2 2 y11 5)) kq_E_143 hy11 rfl dq_E_flash_136 ?_
          refine qz_lload_n X 1 rfl dq_E_flash_139 ?_
          refine qz_lsub X dq_E_flash_140 ?_
          refine qz_lload X 3 rfl dq_E_flash_141 ?_
          refine qz_ladd X dq_E_flash_143 ?_
          refine qz_aload X 6 rfl dq_E_flash_144 ?_
          refine qz_get X (v := .long (qz_gl q11.2 2 y11 6)) kq_E_146 hy11 rfl dq_E_flash_146 ?_
          refine qz_lload X 2 rfl dq_E_flash_149 ?_
          refine qz_lsub X dq_E_flash_151 ?_
          refine qz_lload X 4 rfl dq_E_flash_152 ?_
          refine qz_ladd X dq_E_flash_154 ?_
          refine qz_lload X 3 rfl dq_E_flash_155 ?_
          refine qz_lload X 4 rfl dq_E_flash_157 ?_
          refine qz_bind h (fun q13 e14 h => ?_)
          refine qz_callV X (as := [.long (((qz_gl q11.2 2 y11 5) - x3) + x7), .long (((qz_gl q11.2 2 y11 6) - x5) + x9), .long x7, .long x9]) (st := []) (o := some (.int q13.1)) (N' := q13.2) cq_E_149 hy11 (cP_mayBecome l G X.2.2.2.2.2.2.1 y11 (((qz_gl q11.2 2 y11 5) - x3) + x7) (((qz_gl q11.2 2 y11 6) - x5) + x9) x7 x9 q11.2 hy11 _ e14) ⟨by decide, by decide⟩ rfl rfl (Nat.le_of_ble_eq_true rfl) ⟨Nat.zero_le _, Nat.zero_le _⟩ dq_E_flash_159 ?_
          refine qz_if_ne X (tgt := 168) (by decide) dq_E_flash_162 h (fun _ h => ?_) (fun _ h => ?_)
          · refine qz_aload_n X 5 rfl dq_E_flash_168 ?_
            refine qz_iload_n X 0 rfl dq_E_flash_169 ?_
            refine qz_aload X 6 rfl dq_E_flash_170 ?_
            refine qz_iconst X (v := (0 : Int32)) (by decide) dq_E_flash_172 ?_
            refine qz_lload_n X 1 rfl dq_E_flash_173 ?_
            refine qz_bind h (fun q15 e16 h => ?_)
            refine qz_callV X (as := [.int x1, .ref (G.2.2 2 y11), .int (0 : Int32), .long x3]) (st := []) (o := none) (N' := q15.2) cq_E_129 hy0 (cE_takeOut l G X.2.2.2.2.2.2.1 y0 x1 y11 (0 : Int32) x3 q13.2 hy0 hy11 _ e16) ⟨by decide, by decide⟩ rfl rfl (Nat.le_of_ble_eq_true rfl) ⟨Nat.zero_le _, Nat.zero_le _⟩ dq_E_flash_174 ?_
            refine qz_aload_n X 5 rfl dq_E_flash_177 ?_
            refine qz_iload_n X 0 rfl dq_E_flash_178 ?_
            refine qz_aload X 6 rfl dq_E_flash_179 ?_
            refine qz_iconst X (v := (1 : Int32)) (by decide) dq_E_flash_181 ?_
            refine qz_lload X 2 rfl dq_E_flash_182 ?_
            refine qz_bind h (fun q17 e18 h => ?_)
            refine qz_callV X (as := [.int x1, .ref (G.2.2 2 y11), .int (1 : Int32), .long x5]) (st := []) (o := none) (N' := q17.2) cq_E_129 hy0 (cE_takeOut l G X.2.2.2.2.2.2.1 y0 x1 y11 (1 : Int32) x5 q15.2 hy0 hy11 _ e18) ⟨by decide, by decide⟩ rfl rfl (Nat.le_of_ble_eq_true rfl) ⟨Nat.zero_le _, Nat.zero_le _⟩ dq_E_flash_184 ?_
            refine qz_aload_n X 5 rfl dq_E_flash_187 ?_
            refine qz_iload_n X 0 rfl dq_E_flash_188 ?_
            refine qz_aload X 6 rfl dq_E_flash_189 ?_
            refine qz_iconst X (v := (0 : Int32)) (by decide) dq_E_flash_191 ?_
            refine qz_lload X 3 rfl dq_E_flash_192 ?_
            refine qz_bind h (fun q19 e20 h => ?_)
            refine qz_callV X (as := [.int x1, .ref (G.2.2 2 y11), .int (0 : Int32), .long x7]) (st := []) (o := none) (N' := q19.2) cq_E_115 hy0 (cE_bringIn l G X.2.2.2.2.2.2.1 y0 x1 y11 (0 : Int32) x7 q17.2 hy0 hy11 _ e20) ⟨by decide, by decide⟩ rfl rfl (Nat.le_of_ble_eq_true rfl) ⟨Nat.zero_le _, Nat.zero_le _⟩ dq_E_flash_194 ?_
            refine qz_aload_n X 5 rfl dq_E_flash_197 ?_
            refine qz_iload_n X 0 rfl dq_E_flash_198 ?_
            refine qz_aload X 6 rfl dq_E_flash_199 ?_
            refine qz_iconst X (v := (1 : Int32)) (by decide) dq_E_flash_201 ?_
            refine qz_lload X 4 rfl dq_E_flash_202 ?_
            refine qz_bind h (fun q21 e22 h => ?_)
            refine qz_callV X (as := [.int x1, .ref (G.2.2 2 y11), .int (1 : Int32), .long x9]) (st := []) (o := none) (N' := q21.2) cq_E_115 hy0 (cE_bringIn l G X.2.2.2.2.2.2.1 y0 x1 y11 (1 : Int32) x9 q19.2 hy0 hy11 _ e22) ⟨by decide, by decide⟩ rfl rfl (Nat.le_of_ble_eq_true rfl) ⟨Nat.zero_le _, Nat.zero_le _⟩ dq_E_flash_204 ?_
            refine qz_iconst X (v := (1 : Int32)) (by decide) dq_E_flash_207 ?_
            exact qz_iret X h dq_E_flash_208
          · refine qz_bipush X (v := (-3 : Int32)) (by decide) dq_E_flash_165 ?_
            exact qz_iret X h dq_E_flash_167
        · refine qz_bipush X (v := (-3 : Int32)) (by decide) dq_E_flash_129 ?_
          exact qz_iret X h dq_E_flash_131
    · refine qz_bipush X (v := (-2 : Int32)) (by decide) dq_E_flash_83 ?_
      exact qz_iret X h dq_E_flash_85
set_option maxRecDepth 100000 in
set_option maxHeartbeats 4000000 in
theorem sE_flash {p : Program} {l : Launch} {e : Env} {s : State} {m : MethodId} {args : Array Value} {below : List Frame} {meth : Method} {c : Code} {G : qz_G} (X : qz_X p s m args meth c "ExactCurves" prog_1_method_12_code 12 (some .int) G) {r : (Int32 × qz_N)} (o : Nat) (x1 : Int32) (x2 : Int32) (x3 : Int64) (x5 : Int64) (x7 : Int64) (x9 : Int64) (ho : o < 1) (N : qz_N) (h : fE_flash o x1 x2 x3 x5 x7 x9 N = some r) : qz_W p l e (qz_R 3) s m args below meth c 0 0 (MQ below (qz_Q G r.2 (some (.int r.1))) args s 0 0 (qz_A G)) G s.heap 12 N 0 [(0, .ref (G.2.2 0 o)), (1, .int x1), (2, .int x2), (3, .long x3), (5, .long x5), (7, .long x7), (9, .long x9)] [] := by
  unfold fE_flash at h
  refine qz_aload_n X 0 rfl dq_E_flash_0 ?_
  refine qz_iload_n X 2 rfl dq_E_flash_1 ?_
  refine qz_bind h (fun q1 e2 h => ?_)
  obtain ⟨rq1, N3⟩ := q1
  cases rq1 with
  | none =>
    replace h := qz_ocN h
    refine qz_callV X (as := [.int x2]) (st := []) (o := some .null) (N' := N3) cq_E_95 ho (cE_poolAt l G X.2.2.2.2.2.2.1 o x2 N ho _ e2) ⟨by decide, by decide⟩ rfl rfl (Nat.le_of_ble_eq_true rfl) ⟨Nat.zero_le _, Nat.zero_le _⟩ dq_E_flash_2 ?_
    refine qz_astoreN X (lv' := [(11, .null), (0, .ref (G.2.2 0 o)), (1, .int x1), (2, .int x2), (3, .long x3), (5, .long x5), (7, .long x7), (9, .long x9)]) (by decide) rfl dq_E_flash_5 ?_
    refine qz_iload_n X 2 rfl dq_E_flash_7 ?_
    refine qz_bind h (fun q5 e6 h => ?_)
    refine qz_callS X (as := [.int x1]) (st := []) (o := some (.int q5.1)) (N' := q5.2) cq_E_51 (cE_isPlayer l G X.2.2.2.2.2.2.1 x1 N3 _ e6) ⟨by decide, by decide⟩ rfl rfl (Nat.le_of_ble_eq_true rfl) ⟨Nat.zero_le _, Nat.zero_le _⟩ dq_E_flash_8 ?_
    refine qz_if_eq X (tgt := 46) (by decide) dq_E_flash_11 h (fun _ h => ?_) (fun _ h => ?_)
    · refine qz_bipush X (v := (-2 : Int32)) (by decide) dq_E_flash_46 ?_
      exact qz_iret X h dq_E_flash_48
    · refine qz_aloadN X 0 rfl dq_E_flash_14 ?_
      refine qz_ifnullN X (tgt := 46) (by decide) dq_E_flash_16 ?_
      refine qz_bipush X (v := (-2 : Int32)) (by decide) dq_E_flash_46 ?_
      exact qz_iret X h dq_E_flash_48
  | some j4 =>
    replace h := qz_ocS h
    refine qz_callV X (as := [.int x2]) (st := []) (o := some (.ref (G.2.2 2 j4))) (N' := N3) cq_E_95 ho (cE_poolAt l G X.2.2.2.2.2.2.1 o x2 N ho _ e2) ⟨by decide, by decide⟩ rfl rfl (Nat.le_of_ble_eq_true rfl) ⟨Nat.zero_le _, Nat.zero_le _⟩ dq_E_flash_2 ?_
    refine qz_astore X (lv' := [(11, .ref (G.2.2 2 j4)), (0, .ref (G.2.2 0 o)), (1, .int x1), (2, .int x2), (3, .long x3), (5, .long x5), (7, .long x7), (9, .long x9)]) (by decide) rfl dq_E_flash_5 ?_
    refine qz_iload_n X 2 rfl dq_E_flash_7 ?_
    refine qz_bind h (fun q7 e8 h => ?_)
    refine qz_callS X (as := [.int x1]) (st := []) (o := some (.int q7.1)) (N' := q7.2) cq_E_51 (cE_isPlayer l G X.2.2.2.2.2.2.1 x1 N3 _ e8) ⟨by decide, by decide⟩ rfl rfl (Nat.le_of_ble_eq_true rfl) ⟨Nat.zero_le _, Nat.zero_le _⟩ dq_E_flash_8 ?_
    refine qz_if_eq X (tgt := 46) (by decide) dq_E_flash_11 h (fun _ h => ?_) (fun _ h => ?_)
    · refine qz_bipush X (v := (-2 : Int32)) (by decide) dq_E_flash_46 ?_
      exact qz_iret X h dq_E_flash_48
    · refine qz_aload X 0 rfl dq_E_flash_14 ?_
      refine qz_ifnull X dq_E_flash_16 ?_
      refine qz_lload_n X 4 rfl dq_E_flash_19 ?_
      refine qz_lconst X (v := (0 : Int64)) (by decide) dq_E_flash_20 ?_
      refine qz_lcmp_lt X (tgt := 46) (by decide) dq_E_flash_21 dq_E_flash_22 h (fun _ h => ?_) (fun _ h => ?_)
      · refine qz_bipush X (v := (-2 : Int32)) (by decide) dq_E_flash_46 ?_
        exact qz_iret X h dq_E_flash_48
      · refine qz_lload X 5 rfl dq_E_flash_25 ?_
        refine qz_lconst X (v := (0 : Int64)) (by decide) dq_E_flash_27 ?_
        refine qz_lcmp_lt X (tgt := 46) (by decide) dq_E_flash_28 dq_E_flash_29 h (fun _ h => ?_) (fun _ h => ?_)
        · refine qz_bipush X (v := (-2 : Int32)) (by decide) dq_E_flash_46 ?_
          exact qz_iret X h dq_E_flash_48
        · refine qz_lload X 6 rfl dq_E_flash_32 ?_
          refine qz_lconst X (v := (0 : Int64)) (by decide) dq_E_flash_34 ?_
          refine qz_lcmp_lt X (tgt := 46) (by decide) dq_E_flash_35 dq_E_flash_36 h (fun _ h => ?_) (fun _ h => ?_)
          · refine qz_bipush X (v := (-2 : Int32)) (by decide) dq_E_flash_46 ?_
            exact qz_iret X h dq_E_flash_48
          · refine qz_lload X 7 rfl dq_E_flash_39 ?_
            refine qz_lconst X (v := (0 : Int64)) (by decide) dq_E_flash_41 ?_
            refine qz_lcmp_ge X (tgt := 49) (by decide) dq_E_flash_42 dq_E_flash_43 h (fun _ h => ?_) (fun _ h => ?_)
            · refine qz_lload_n X 4 rfl dq_E_flash_49 ?_
              refine qz_lconst X (v := (0 : Int64)) (by decide) dq_E_flash_50 ?_
              refine qz_lcmp_ne X (tgt := 62) (by decide) dq_E_flash_51 dq_E_flash_52 h (fun _ h => ?_) (fun _ h => ?_)
              · refine qz_sub [2, 4, 5, 6, 7, 1, 0] rfl ?_
                exact sE_flash_62 X o j4 ho (vE_poolAt e2 j4 rfl) q7.2 x1 x3 x5 x7 x9 h
              · refine qz_lload X 5 rfl dq_E_flash_55 ?_
                refine qz_lconst X (v := (0 : Int64)) (by decide) dq_E_flash_57 ?_
                refine qz_lcmp_eq X (tgt := 83) (by decide) dq_E_flash_58 dq_E_flash_59 h (fun _ h => ?_) (fun _ h => ?_)
                · refine qz_bipush X (v := (-2 : Int32)) (by decide) dq_E_flash_83 ?_
                  exact qz_iret X h dq_E_flash_85
                · refine qz_sub [2, 4, 5, 6, 7, 1, 0] rfl ?_
                  exact sE_flash_62 X o j4 ho (vE_poolAt e2 j4 rfl) q7.2 x1 x3 x5 x7 x9 h
            · refine qz_bipush X (v := (-2 : Int32)) (by decide) dq_E_flash_46 ?_
              exact qz_iret X h dq_E_flash_48
theorem cE_flash (l : Launch) (G : qz_G) (hD : qz_D G) (o : Nat) (x1 : Int32) (x2 : Int32) (x3 : Int64) (x5 : Int64) (x7 : Int64) (x9 : Int64) (N : qz_N) (ho : o < 1) (r : (Int32 × qz_N)) (h : fE_flash o x1 x2 x3 x5 x7 x9 N = some r) : qz_M l yE_flash prog_1_method_12_code 12 (some .int) 3 G [.ref (G.2.2 0 o), .int x1, .int x2, .long x3, .long x5, .long x7, .long x9] N (some (.int r.1)) r.2 :=
  qz_enter (lv := [(0, .ref (G.2.2 0 o)), (1, .int x1), (2, .int x2), (3, .long x3), (5, .long x5), (7, .long x7), (9, .long x9)]) rfl hD (Nat.le_of_ble_eq_true rfl) rfl (fun p e s m args below meth c X => sE_flash X o x1 x2 x3 x5 x7 x9 ho N h)
-- ExactCurves$Pool.grow(I)V
theorem dq_P_grow_0 : decode prog_6_method_13_code 0 = .ok (.aload_n 0, 1) := by decide +kernel
theorem dq_P_grow_1 : decode prog_6_method_13_code 1 = .ok (.getfield 22, 3) := by decide +kernel
theorem dq_P_grow_4 : decode prog_6_method_13_code 4 = .ok (.lconst 0, 1) := by decide +kernel
theorem dq_P_grow_5 : decode prog_6_method_13_code 5 = .ok (.lcmp, 1) := by decide +kernel
theorem dq_P_grow_6 : decode prog_6_method_13_code 6 = .ok (.ifCond .le 48, 3) := by decide +kernel
theorem dq_P_grow_9 : decode prog_6_method_13_code 9 = .ok (.aload_n 0, 1) := by decide +kernel
theorem dq_P_grow_10 : decode prog_6_method_13_code 10 = .ok (.getfield 26, 3) := by decide +kernel
theorem dq_P_grow_13 : decode prog_6_method_13_code 13 = .ok (.lconst 0, 1) := by decide +kernel
theorem dq_P_grow_14 : decode prog_6_method_13_code 14 = .ok (.lcmp, 1) := by decide +kernel
theorem dq_P_grow_15 : decode prog_6_method_13_code 15 = .ok (.ifCond .le 39, 3) := by decide +kernel
theorem dq_P_grow_18 : decode prog_6_method_13_code 18 = .ok (.aload_n 0, 1) := by decide +kernel
theorem dq_P_grow_19 : decode prog_6_method_13_code 19 = .ok (.dup, 1) := by decide +kernel
theorem dq_P_grow_20 : decode prog_6_method_13_code 20 = .ok (.getfield 32, 3) := by decide +kernel
theorem dq_P_grow_23 : decode prog_6_method_13_code 23 = .ok (.iload_n 1, 1) := by decide +kernel
theorem dq_P_grow_24 : decode prog_6_method_13_code 24 = .ok (.i2l, 1) := by decide +kernel
theorem dq_P_grow_25 : decode prog_6_method_13_code 25 = .ok (.ldc2_w 81, 3) := by decide +kernel
theorem dq_P_grow_28 : decode prog_6_method_13_code 28 = .ok (.aload_n 0, 1) := by decide +kernel
theorem dq_P_grow_29 : decode prog_6_method_13_code 29 = .ok (.getfield 26, 3) := by decide +kernel
theorem dq_P_grow_32 : decode prog_6_method_13_code 32 = .ok (.lmul, 1) := by decide +kernel
theorem dq_P_grow_33 : decode prog_6_method_13_code 33 = .ok (.aload_n 0, 1) := by decide +kernel
theorem dq_P_grow_34 : decode prog_6_method_13_code 34 = .ok (.getfield 22, 3) := by decide +kernel
theorem dq_P_grow_37 : decode prog_6_method_13_code 37 = .ok (.ldiv, 1) := by decide +kernel
theorem dq_P_grow_38 : decode prog_6_method_13_code 38 = .ok (.lmul, 1) := by decide +kernel
theorem dq_P_grow_39 : decode prog_6_method_13_code 39 = .ok (.ladd, 1) := by decide +kernel
theorem dq_P_grow_40 : decode prog_6_method_13_code 40 = .ok (.putfield 32, 3) := by decide +kernel
theorem dq_P_grow_43 : decode prog_6_method_13_code 43 = .ok (.aload_n 0, 1) := by decide +kernel
theorem dq_P_grow_44 : decode prog_6_method_13_code 44 = .ok (.dup, 1) := by decide +kernel
theorem dq_P_grow_45 : decode prog_6_method_13_code 45 = .ok (.getfield 35, 3) := by decide +kernel
theorem dq_P_grow_48 : decode prog_6_method_13_code 48 = .ok (.iload_n 1, 1) := by decide +kernel
theorem dq_P_grow_49 : decode prog_6_method_13_code 49 = .ok (.i2l, 1) := by decide +kernel
theorem dq_P_grow_50 : decode prog_6_method_13_code 50 = .ok (.ladd, 1) := by decide +kernel
theorem dq_P_grow_51 : decode prog_6_method_13_code 51 = .ok (.putfield 35, 3) := by decide +kernel
theorem dq_P_grow_54 : decode prog_6_method_13_code 54 = .ok (.return_, 1) := by decide +kernel
def fP_grow (o : Nat) (x1 : Int32) (N : qz_N) : Option (Unit × qz_N) :=
  if (qz_gl N 2 o 5) ≤ (0 : Int64) then
    some ((), N)
  else
  if (qz_gl N 2 o 6) ≤ (0 : Int64) then
    some ((), N)
  else
  if (qz_gl N 2 o 5) = 0 then none else
  qz_let (qz_sl N 2 o 8 ((qz_gl N 2 o 8) + (x1.toInt64 * (((1000 : Int64) * (qz_gl N 2 o 6)) / (qz_gl N 2 o 5))))) fun N1 =>
  qz_let (qz_sl N1 2 o 9 ((qz_gl N1 2 o 9) + x1.toInt64)) fun N2 =>
  some ((), N2)
set_option maxRecDepth 100000 in
set_option maxHeartbeats 4000000 in
theorem sP_grow {p : Program} {l : Launch} {e : Env} {s : State} {m : MethodId} {args : Array Value} {below : List Frame} {meth : Method} {c : Code} {G : qz_G} (X : qz_X p s m args meth c "ExactCurves$Pool" prog_6_method_13_code 2 none G) {r : (Unit × qz_N)} (o : Nat) (x1 : Int32) (ho : o < 6) (N : qz_N) (h : fP_grow o x1 N = some r) : qz_W p l e (qz_R 0) s m args below meth c 0 0 (MQ below (qz_Q G r.2 none) args s 0 0 (qz_A G)) G s.heap 2 N 0 [(0, .ref (G.2.2 2 o)), (1, .int x1)] [] := by
  unfold fP_grow at h
  refine qz_aload_n X 0 rfl dq_P_grow_0 ?_
  refine qz_get X (v := .long (qz_gl N 2 o 5)) kq_P_22 ho rfl dq_P_grow_1 ?_
  refine qz_lconst X (v := (0 : Int64)) (by decide) dq_P_grow_4 ?_
  refine qz_lcmp_le X (tgt := 54) (by decide) dq_P_grow_5 dq_P_grow_6 h (fun _ h => ?_) (fun _ h => ?_)
  · exact qz_vret X h dq_P_grow_54
  · refine qz_aload_n X 0 rfl dq_P_grow_9 ?_
    refine qz_get X (v := .long (qz_gl N 2 o 6)) kq_P_26 ho rfl dq_P_grow_10 ?_
    refine qz_lconst X (v := (0 : Int64)) (by decide) dq_P_grow_13 ?_
    refine qz_lcmp_le X (tgt := 54) (by decide) dq_P_grow_14 dq_P_grow_15 h (fun _ h => ?_) (fun _ h => ?_)
    · exact qz_vret X h dq_P_grow_54
    · refine qz_aload_n X 0 rfl dq_P_grow_18 ?_
      refine qz_dup X rfl dq_P_grow_19 ?_
      refine qz_get X (v := .long (qz_gl N 2 o 8)) kq_P_32 ho rfl dq_P_grow_20 ?_
      refine qz_iload_n X 1 rfl dq_P_grow_23 ?_
      refine qz_i2l X dq_P_grow_24 ?_
      refine qz_ldc2 X (v := (1000 : Int64)) wq_406 dq_P_grow_25 ?_
      refine qz_aload_n X 0 rfl dq_P_grow_28 ?_
      refine qz_get X (v := .long (qz_gl N 2 o 6)) kq_P_26 ho rfl dq_P_grow_29 ?_
      refine qz_lmul X dq_P_grow_32 ?_
      refine qz_aload_n X 0 rfl dq_P_grow_33 ?_
      refine qz_get X (v := .long (qz_gl N 2 o 5)) kq_P_22 ho rfl dq_P_grow_34 ?_
      refine qz_ldivc X dq_P_grow_37 h (fun h => ?_)
      refine qz_lmul X dq_P_grow_38 ?_
      refine qz_ladd X dq_P_grow_39 ?_
      refine qz_putJ X kq_P_32 ho dq_P_grow_40 h (fun N1 h => ?_)
      refine qz_aload_n X 0 rfl dq_P_grow_43 ?_
      refine qz_dup X rfl dq_P_grow_44 ?_
      refine qz_get X (v := .long (qz_gl N1 2 o 9)) kq_P_35 ho rfl dq_P_grow_45 ?_
      refine qz_iload_n X 1 rfl dq_P_grow_48 ?_
      refine qz_i2l X dq_P_grow_49 ?_
      refine qz_ladd X dq_P_grow_50 ?_
      refine qz_putJ X kq_P_35 ho dq_P_grow_51 h (fun N2 h => ?_)
      exact qz_vret X h dq_P_grow_54
theorem cP_grow (l : Launch) (G : qz_G) (hD : qz_D G) (o : Nat) (x1 : Int32) (N : qz_N) (ho : o < 6) (r : (Unit × qz_N)) (h : fP_grow o x1 N = some r) : qz_M l yP_grow prog_6_method_13_code 2 none 0 G [.ref (G.2.2 2 o), .int x1] N none r.2 :=
  qz_enter (lv := [(0, .ref (G.2.2 2 o)), (1, .int x1)]) rfl hD (Nat.le_of_ble_eq_true rfl) rfl (fun p e s m args below meth c X => sP_grow X o x1 ho N h)
-- ExactCurves$Vault.grow(I)V
theorem dq_V_grow_0 : decode prog_8_method_4_code 0 = .ok (.iconst 0, 1) := by decide +kernel
theorem dq_V_grow_1 : decode prog_8_method_4_code 1 = .ok (.istore_n 2, 1) := by decide +kernel
theorem dq_V_grow_2 : decode prog_8_method_4_code 2 = .ok (.iload_n 2, 1) := by decide +kernel
theorem dq_V_grow_3 : decode prog_8_method_4_code 3 = .ok (.iload_n 1, 1) := by decide +kernel
theorem dq_V_grow_4 : decode prog_8_method_4_code 4 = .ok (.if_icmp .ge 57, 3) := by decide +kernel
theorem dq_V_grow_7 : decode prog_8_method_4_code 7 = .ok (.aload_n 0, 1) := by decide +kernel
theorem dq_V_grow_8 : decode prog_8_method_4_code 8 = .ok (.getfield 27, 3) := by decide +kernel
theorem dq_V_grow_11 : decode prog_8_method_4_code 11 = .ok (.lconst 0, 1) := by decide +kernel
theorem dq_V_grow_12 : decode prog_8_method_4_code 12 = .ok (.lcmp, 1) := by decide +kernel
theorem dq_V_grow_13 : decode prog_8_method_4_code 13 = .ok (.ifCond .le 48, 3) := by decide +kernel
theorem dq_V_grow_16 : decode prog_8_method_4_code 16 = .ok (.aload_n 0, 1) := by decide +kernel
theorem dq_V_grow_17 : decode prog_8_method_4_code 17 = .ok (.getfield 17, 3) := by decide +kernel
theorem dq_V_grow_20 : decode prog_8_method_4_code 20 = .ok (.ldc2_w 32, 3) := by decide +kernel
theorem dq_V_grow_23 : decode prog_8_method_4_code 23 = .ok (.lcmp, 1) := by decide +kernel
theorem dq_V_grow_24 : decode prog_8_method_4_code 24 = .ok (.ifCond .ge 37, 3) := by decide +kernel
theorem dq_V_grow_27 : decode prog_8_method_4_code 27 = .ok (.aload_n 0, 1) := by decide +kernel
theorem dq_V_grow_28 : decode prog_8_method_4_code 28 = .ok (.ldc2_w 32, 3) := by decide +kernel
theorem dq_V_grow_31 : decode prog_8_method_4_code 31 = .ok (.aload_n 0, 1) := by decide +kernel
theorem dq_V_grow_32 : decode prog_8_method_4_code 32 = .ok (.getfield 17, 3) := by decide +kernel
theorem dq_V_grow_35 : decode prog_8_method_4_code 35 = .ok (.aload_n 0, 1) := by decide +kernel
theorem dq_V_grow_36 : decode prog_8_method_4_code 36 = .ok (.getfield 17, 3) := by decide +kernel
theorem dq_V_grow_39 : decode prog_8_method_4_code 39 = .ok (.aload_n 0, 1) := by decide +kernel
theorem dq_V_grow_40 : decode prog_8_method_4_code 40 = .ok (.getfield 27, 3) := by decide +kernel
theorem dq_V_grow_43 : decode prog_8_method_4_code 43 = .ok (.lmul, 1) := by decide +kernel
theorem dq_V_grow_44 : decode prog_8_method_4_code 44 = .ok (.ldc2_w 15, 3) := by decide +kernel
theorem dq_V_grow_47 : decode prog_8_method_4_code 47 = .ok (.ldiv, 1) := by decide +kernel
theorem dq_V_grow_48 : decode prog_8_method_4_code 48 = .ok (.ladd, 1) := by decide +kernel
theorem dq_V_grow_49 : decode prog_8_method_4_code 49 = .ok (.invokestatic 34, 3) := by decide +kernel
theorem dq_V_grow_52 : decode prog_8_method_4_code 52 = .ok (.putfield 17, 3) := by decide +kernel
theorem dq_V_grow_55 : decode prog_8_method_4_code 55 = .ok (.iinc 2 1, 3) := by decide +kernel
theorem dq_V_grow_58 : decode prog_8_method_4_code 58 = .ok (.goto (-56), 3) := by decide +kernel
theorem dq_V_grow_61 : decode prog_8_method_4_code 61 = .ok (.return_, 1) := by decide +kernel
def fV_grow_2b (y0 : Nat) (k2 : qz_N × Int32 × Int32 → Option (Unit × qz_N)) (N : qz_N) (x1 : Int32) (x2 : Int32) : Option (Unit × qz_N) :=
  if x1 ≤ x2 then
    some ((), N)
  else
  if (qz_gl N 5 y0 3) ≤ (0 : Int64) then
    some ((), N)
  else
  if (1000000000000 : Int64) ≤ (qz_gl N 5 y0 4) then
    some ((), N)
  else
  qz_let (qz_sl N 5 y0 4 (if ((qz_gl N 5 y0 4) + (((qz_gl N 5 y0 4) * (qz_gl N 5 y0 3)) / (1000000000 : Int64))) < (1000000000000 : Int64) then ((qz_gl N 5 y0 4) + (((qz_gl N 5 y0 4) * (qz_gl N 5 y0 3)) / (1000000000 : Int64))) else (1000000000000 : Int64))) fun N1 =>
  qz_let (x2 + (1 : Int32)) fun v2 =>
  k2 (N1, x1, v2)
def fV_grow_2 (y0 : Nat) (n : Nat) (a : qz_N × Int32 × Int32) : Option (Unit × qz_N) := qz_loop (fun k a => fV_grow_2b y0 k a.1 a.2.1 a.2.2) n a
def fV_grow (o : Nat) (x1 : Int32) (N : qz_N) : Option (Unit × qz_N) :=
  fV_grow_2 o 1100 (N, x1, (0 : Int32))
set_option maxRecDepth 100000 in
set_option maxHeartbeats 4000000 in
theorem sV_grow_2b {p : Program} {l : Launch} {e : Env} {s : State} {m : MethodId} {args : Array Value} {below : List Frame} {meth : Method} {c : Code} {G : qz_G} (X : qz_X p s m args meth c "ExactCurves$Vault" prog_8_method_4_code 3 none G) {r : (Unit × qz_N)} (y0 : Nat) (hy0 : y0 < 4) (k2 : qz_N × Int32 × Int32 → Option (Unit × qz_N)) (hk2 : ∀ a, k2 a = some r → qz_W p l e (qz_R 1) s m args below meth c 0 0 (MQ below (qz_Q G r.2 none) args s 0 0 (qz_A G)) G s.heap 3 a.1 2 [(1, .int a.2.1), (2, .int a.2.2), (0, .ref (G.2.2 5 y0))] []) (N : qz_N) (x1 : Int32) (x2 : Int32) (h : fV_grow_2b y0 k2 N x1 x2 = some r) : qz_W p l e (qz_R 1) s m args below meth c 0 0 (MQ below (qz_Q G r.2 none) args s 0 0 (qz_A G)) G s.heap 3 N 2 [(1, .int x1), (2, .int x2), (0, .ref (G.2.2 5 y0))] [] := by
  unfold fV_grow_2b at h
  refine qz_iload_n X 1 rfl dq_V_grow_2 ?_
  refine qz_iload_n X 0 rfl dq_V_grow_3 ?_
  refine qz_icmp_ge X (tgt := 61) (by decide) dq_V_grow_4 h (fun _ h => ?_) (fun _ h => ?_)
  · exact qz_vret X h dq_V_grow_61
  · refine qz_aload_n X 2 rfl dq_V_grow_7 ?_
    refine qz_get X (v := .long (qz_gl N 5 y0 3)) kq_V_27 hy0 rfl dq_V_grow_8 ?_
    refine qz_lconst X (v := (0 : Int64)) (by decide) dq_V_grow_11 ?_
    refine qz_lcmp_le X (tgt := 61) (by decide) dq_V_grow_12 dq_V_grow_13 h (fun _ h => ?_) (fun _ h => ?_)
    · exact qz_vret X h dq_V_grow_61
    · refine qz_aload_n X 2 rfl dq_V_grow_16 ?_
      refine qz_get X (v := .long (qz_gl N 5 y0 4)) kq_V_17 hy0 rfl dq_V_grow_17 ?_
      refine qz_ldc2 X (v := (1000000000000 : Int64)) wq_411 dq_V_grow_20 ?_
      refine qz_lcmp_ge X (tgt := 61) (by decide) dq_V_grow_23 dq_V_grow_24 h (fun _ h => ?_) (fun _ h => ?_)
      · exact qz_vret X h dq_V_grow_61
      · refine qz_aload_n X 2 rfl dq_V_grow_27 ?_
        refine qz_ldc2 X (v := (1000000000000 : Int64)) wq_411 dq_V_grow_28 ?_
        refine qz_aload_n X 2 rfl dq_V_grow_31 ?_
        refine qz_get X (v := .long (qz_gl N 5 y0 4)) kq_V_17 hy0 rfl dq_V_grow_32 ?_
        refine qz_aload_n X 2 rfl dq_V_grow_35 ?_
        refine qz_get X (v := .long (qz_gl N 5 y0 4)) kq_V_17 hy0 rfl dq_V_grow_36 ?_
        refine qz_aload_n X 2 rfl dq_V_grow_39 ?_
        refine qz_get X (v := .long (qz_gl N 5 y0 3)) kq_V_27 hy0 rfl dq_V_grow_40 ?_
        refine qz_lmul X dq_V_grow_43 ?_
        refine qz_ldc2 X (v := (1000000000 : Int64)) wq_165 dq_V_grow_44 ?_
        refine qz_ldiv X (by decide) dq_V_grow_47 ?_
        refine qz_ladd X dq_V_grow_48 ?_
        refine qz_mmin X (st := [.ref (G.2.2 5 y0)]) wq_412 ⟨mq_min, wq_327, wq_11⟩ ⟨by decide, by decide⟩ (Nat.le_of_ble_eq_true rfl) ⟨Nat.zero_le _, Nat.zero_le _⟩ dq_V_grow_49 ?_
        refine qz_putJ X kq_V_17 hy0 dq_V_grow_52 h (fun N1 h => ?_)
        refine qz_iinc_l X (u := (1 : Int32)) (lv' := fun v2 => [(2, .int v2), (1, .int x1), (0, .ref (G.2.2 5 y0))]) (k := 1) rfl (by decide) (by decide) (fun _ => rfl) dq_V_grow_55 h (fun v2 h => ?_)
        refine qz_goto X (tgt := 2) (by decide) dq_V_grow_58 ?_
        refine qz_sub [1, 0, 2] rfl ?_
        exact hk2 (N1, x1, v2) h
theorem sV_grow_2 {p : Program} {l : Launch} {e : Env} {s : State} {m : MethodId} {args : Array Value} {below : List Frame} {meth : Method} {c : Code} {G : qz_G} (X : qz_X p s m args meth c "ExactCurves$Vault" prog_8_method_4_code 3 none G) {r : (Unit × qz_N)} (y0 : Nat) (hy0 : y0 < 4) (n : Nat) (a : qz_N × Int32 × Int32) (h : fV_grow_2 y0 n a = some r) : qz_W p l e (qz_R 1) s m args below meth c 0 0 (MQ below (qz_Q G r.2 none) args s 0 0 (qz_A G)) G s.heap 3 a.1 2 [(1, .int a.2.1), (2, .int a.2.2), (0, .ref (G.2.2 5 y0))] [] :=
  qz_loop_ind (P := fun a => qz_W p l e (qz_R 1) s m args below meth c 0 0 (MQ below (qz_Q G r.2 none) args s 0 0 (qz_A G)) G s.heap 3 a.1 2 [(1, .int a.2.1), (2, .int a.2.2), (0, .ref (G.2.2 5 y0))] []) (fun k hk a h => sV_grow_2b X y0 hy0 k hk a.1 a.2.1 a.2.2 h) n a h
set_option maxRecDepth 100000 in
set_option maxHeartbeats 4000000 in
theorem sV_grow {p : Program} {l : Launch} {e : Env} {s : State} {m : MethodId} {args : Array Value} {below : List Frame} {meth : Method} {c : Code} {G : qz_G} (X : qz_X p s m args meth c "ExactCurves$Vault" prog_8_method_4_code 3 none G) {r : (Unit × qz_N)} (o : Nat) (x1 : Int32) (ho : o < 4) (N : qz_N) (h : fV_grow o x1 N = some r) : qz_W p l e (qz_R 1) s m args below meth c 0 0 (MQ below (qz_Q G r.2 none) args s 0 0 (qz_A G)) G s.heap 3 N 0 [(0, .ref (G.2.2 5 o)), (1, .int x1)] [] := by
  unfold fV_grow at h
  refine qz_iconst X (v := (0 : Int32)) (by decide) dq_V_grow_0 ?_
  refine qz_istore_n X (lv' := [(2, .int (0 : Int32)), (0, .ref (G.2.2 5 o)), (1, .int x1)]) rfl (by decide) rfl dq_V_grow_1 ?_
  refine qz_sub [2, 0, 1] rfl ?_
  exact sV_grow_2 X o ho 1100 (N, x1, (0 : Int32)) h
theorem cV_grow (l : Launch) (G : qz_G) (hD : qz_D G) (o : Nat) (x1 : Int32) (N : qz_N) (ho : o < 4) (r : (Unit × qz_N)) (h : fV_grow o x1 N = some r) : qz_M l yV_grow prog_8_method_4_code 3 none 1 G [.ref (G.2.2 5 o), .int x1] N none r.2 :=
  qz_enter (lv := [(0, .ref (G.2.2 5 o)), (1, .int x1)]) rfl hD (Nat.le_of_ble_eq_true rfl) rfl (fun p e s m args below meth c X => sV_grow X o x1 ho N h)
-- ExactCurves.tick(I)I
theorem dq_E_tick_0 : decode prog_1_method_13_code 0 = .ok (.iload_n 1, 1) := by decide +kernel
theorem dq_E_tick_1 : decode prog_1_method_13_code 1 = .ok (.ifCond .lt 10, 3) := by decide +kernel
theorem dq_E_tick_4 : decode prog_1_method_13_code 4 = .ok (.iload_n 1, 1) := by decide +kernel
theorem dq_E_tick_5 : decode prog_1_method_13_code 5 = .ok (.sipush 1000, 3) := by decide +kernel
theorem dq_E_tick_8 : decode prog_1_method_13_code 8 = .ok (.if_icmp .le 6, 3) := by decide +kernel
theorem dq_E_tick_11 : decode prog_1_method_13_code 11 = .ok (.bipush (-2), 2) := by decide +kernel
theorem dq_E_tick_13 : decode prog_1_method_13_code 13 = .ok (.ireturn, 1) := by decide +kernel
theorem dq_E_tick_14 : decode prog_1_method_13_code 14 = .ok (.iconst 0, 1) := by decide +kernel
theorem dq_E_tick_15 : decode prog_1_method_13_code 15 = .ok (.istore_n 2, 1) := by decide +kernel
theorem dq_E_tick_16 : decode prog_1_method_13_code 16 = .ok (.iload_n 2, 1) := by decide +kernel
theorem dq_E_tick_17 : decode prog_1_method_13_code 17 = .ok (.aload_n 0, 1) := by decide +kernel
theorem dq_E_tick_18 : decode prog_1_method_13_code 18 = .ok (.getfield 79, 3) := by decide +kernel
theorem dq_E_tick_21 : decode prog_1_method_13_code 21 = .ok (.if_icmp .ge 19, 3) := by decide +kernel
theorem dq_E_tick_24 : decode prog_1_method_13_code 24 = .ok (.aload_n 0, 1) := by decide +kernel
theorem dq_E_tick_25 : decode prog_1_method_13_code 25 = .ok (.getfield 18, 3) := by decide +kernel
theorem dq_E_tick_28 : decode prog_1_method_13_code 28 = .ok (.iload_n 2, 1) := by decide +kernel
theorem dq_E_tick_29 : decode prog_1_method_13_code 29 = .ok (.aaload, 1) := by decide +kernel
theorem dq_E_tick_30 : decode prog_1_method_13_code 30 = .ok (.iload_n 1, 1) := by decide +kernel
theorem dq_E_tick_31 : decode prog_1_method_13_code 31 = .ok (.invokevirtual 153, 3) := by decide +kernel
theorem dq_E_tick_34 : decode prog_1_method_13_code 34 = .ok (.iinc 2 1, 3) := by decide +kernel
theorem dq_E_tick_37 : decode prog_1_method_13_code 37 = .ok (.goto (-21), 3) := by decide +kernel
theorem dq_E_tick_40 : decode prog_1_method_13_code 40 = .ok (.iconst 0, 1) := by decide +kernel
theorem dq_E_tick_41 : decode prog_1_method_13_code 41 = .ok (.istore_n 2, 1) := by decide +kernel
theorem dq_E_tick_42 : decode prog_1_method_13_code 42 = .ok (.iload_n 2, 1) := by decide +kernel
theorem dq_E_tick_43 : decode prog_1_method_13_code 43 = .ok (.iconst 4, 1) := by decide +kernel
theorem dq_E_tick_44 : decode prog_1_method_13_code 44 = .ok (.if_icmp .ge 19, 3) := by decide +kernel
theorem dq_E_tick_47 : decode prog_1_method_13_code 47 = .ok (.aload_n 0, 1) := by decide +kernel
theorem dq_E_tick_48 : decode prog_1_method_13_code 48 = .ok (.getfield 37, 3) := by decide +kernel
theorem dq_E_tick_51 : decode prog_1_method_13_code 51 = .ok (.iload_n 2, 1) := by decide +kernel
theorem dq_E_tick_52 : decode prog_1_method_13_code 52 = .ok (.aaload, 1) := by decide +kernel
theorem dq_E_tick_53 : decode prog_1_method_13_code 53 = .ok (.iload_n 1, 1) := by decide +kernel
theorem dq_E_tick_54 : decode prog_1_method_13_code 54 = .ok (.invokevirtual 157, 3) := by decide +kernel
theorem dq_E_tick_57 : decode prog_1_method_13_code 57 = .ok (.iinc 2 1, 3) := by decide +kernel
theorem dq_E_tick_60 : decode prog_1_method_13_code 60 = .ok (.goto (-18), 3) := by decide +kernel
theorem dq_E_tick_63 : decode prog_1_method_13_code 63 = .ok (.aload_n 0, 1) := by decide +kernel
theorem dq_E_tick_64 : decode prog_1_method_13_code 64 = .ok (.dup, 1) := by decide +kernel
theorem dq_E_tick_65 : decode prog_1_method_13_code 65 = .ok (.getfield 158, 3) := by decide +kernel
theorem dq_E_tick_68 : decode prog_1_method_13_code 68 = .ok (.iload_n 1, 1) := by decide +kernel
theorem dq_E_tick_69 : decode prog_1_method_13_code 69 = .ok (.iadd, 1) := by decide +kernel
theorem dq_E_tick_70 : decode prog_1_method_13_code 70 = .ok (.putfield 158, 3) := by decide +kernel
theorem dq_E_tick_73 : decode prog_1_method_13_code 73 = .ok (.aload_n 0, 1) := by decide +kernel
theorem dq_E_tick_74 : decode prog_1_method_13_code 74 = .ok (.getfield 158, 3) := by decide +kernel
theorem dq_E_tick_77 : decode prog_1_method_13_code 77 = .ok (.ireturn, 1) := by decide +kernel
def fE_tick_42b (y0 : Nat) (k42 : qz_N × Int32 × Int32 → Option (Int32 × qz_N)) (N : qz_N) (x1 : Int32) (x2 : Int32) : Option (Int32 × qz_N) :=
  if (4 : Int32) ≤ x2 then
    qz_let (qz_si N 0 y0 7 ((qz_gi N 0 y0 7) + x1)) fun N1 =>
    some (qz_gi N1 0 y0 7, N1)
  else
  if x2 < 0 ∨ 4 ≤ x2.toNatClampNeg then none else
  (fV_grow x2.toNatClampNeg x1 N).bind fun q3 =>
  qz_let (x2 + (1 : Int32)) fun v5 =>
  k42 (q3.2, x1, v5)
def fE_tick_42 (y0 : Nat) (n : Nat) (a : qz_N × Int32 × Int32) : Option (Int32 × qz_N) := qz_loop (fun k a => fE_tick_42b y0 k a.1 a.2.1 a.2.2) n a
def fE_tick_16b (y0 : Nat) (k16 : qz_N × Int32 × Int32 → Option (Int32 × qz_N)) (N : qz_N) (x1 : Int32) (x2 : Int32) : Option (Int32 × qz_N) :=
  if (qz_gi N 0 y0 6) ≤ x2 then
    fE_tick_42 y0 1100 (N, x1, (0 : Int32))
  else
  if x2 < 0 ∨ 6 ≤ x2.toNatClampNeg then none else
  (fP_grow x2.toNatClampNeg x1 N).bind fun q7 =>
  qz_let (x2 + (1 : Int32)) fun v9 =>
  k16 (q7.2, x1, v9)
def fE_tick_16 (y0 : Nat) (n : Nat) (a : qz_N × Int32 × Int32) : Option (Int32 × qz_N) := qz_loop (fun k a => fE_tick_16b y0 k a.1 a.2.1 a.2.2) n a
def fE_tick (o : Nat) (x1 : Int32) (N : qz_N) : Option (Int32 × qz_N) :=
  if x1 < 0 then
    some ((-2 : Int32), N)
  else
  if x1 ≤ (1000 : Int32) then
    fE_tick_16 o 1100 (N, x1, (0 : Int32))
  else
  some ((-2 : Int32), N)
set_option maxRecDepth 100000 in
set_option maxHeartbeats 4000000 in
theorem sE_tick_42b {p : Program} {l : Launch} {e : Env} {s : State} {m : MethodId} {args : Array Value} {below : List Frame} {meth : Method} {c : Code} {G : qz_G} (X : qz_X p s m args meth c "ExactCurves" prog_1_method_13_code 3 (some .int) G) {r : (Int32 × qz_N)} (y0 : Nat) (hy0 : y0 < 1) (k42 : qz_N × Int32 × Int32 → Option (Int32 × qz_N)) (hk42 : ∀ a, k42 a = some r → qz_W p l e (qz_R 2) s m args below meth c 0 0 (MQ below (qz_Q G r.2 (some (.int r.1))) args s 0 0 (qz_A G)) G s.heap 3 a.1 42 [(1, .int a.2.1), (2, .int a.2.2), (0, .ref (G.2.2 0 y0))] []) (N : qz_N) (x1 : Int32) (x2 : Int32) (h : fE_tick_42b y0 k42 N x1 x2 = some r) : qz_W p l e (qz_R 2) s m args below meth c 0 0 (MQ below (qz_Q G r.2 (some (.int r.1))) args s 0 0 (qz_A G)) G s.heap 3 N 42 [(1, .int x1), (2, .int x2), (0, .ref (G.2.2 0 y0))] [] := by
  unfold fE_tick_42b at h
  refine qz_iload_n X 1 rfl dq_E_tick_42 ?_
  refine qz_iconst X (v := (4 : Int32)) (by decide) dq_E_tick_43 ?_
  refine qz_icmp_ge X (tgt := 63) (by decide) dq_E_tick_44 h (fun _ h => ?_) (fun _ h => ?_)
  · refine qz_aload_n X 2 rfl dq_E_tick_63 ?_
    refine qz_dup X rfl dq_E_tick_64 ?_
    refine qz_get X (v := .int (qz_gi N 0 y0 7)) kq_E_158 hy0 rfl dq_E_tick_65 ?_
    refine qz_iload_n X 0 rfl dq_E_tick_68 ?_
    refine qz_iadd X dq_E_tick_69 ?_
    refine qz_putI X kq_E_158 hy0 dq_E_tick_70 h (fun N1 h => ?_)
    refine qz_aload_n X 2 rfl dq_E_tick_73 ?_
    refine qz_get X (v := .int (qz_gi N1 0 y0 7)) kq_E_158 hy0 rfl dq_E_tick_74 ?_
    exact qz_iret X h dq_E_tick_77
  · refine qz_aload_n X 2 rfl dq_E_tick_47 ?_
    refine qz_get X (v := .ref (G.2.2 10 y0)) kq_E_37 hy0 rfl dq_E_tick_48 ?_
    refine qz_iload_n X 1 rfl dq_E_tick_51 ?_
    refine qz_aald X (c0 := 10) (i := y0) (tg := 5) (n := 4) rfl rfl hy0 dq_E_tick_52 h (fun hb2 h => ?_)
    refine qz_iload_n X 0 rfl dq_E_tick_53 ?_
    refine qz_bind h (fun q3 e4 h => ?_)
    refine qz_callV X (as := [.int x1]) (st := []) (o := none) (N' := q3.2) cq_E_157 hb2 (cV_grow l G X.2.2.2.2.2.2.1 x2.toNatClampNeg x1 N hb2 _ e4) ⟨by decide, by decide⟩ rfl rfl (Nat.le_of_ble_eq_true rfl) ⟨Nat.zero_le _, Nat.zero_le _⟩ dq_E_tick_54 ?_
    refine qz_iinc_l X (u := (1 : Int32)) (lv' := fun v5 => [(2, .int v5), (1, .int x1), (0, .ref (G.2.2 0 y0))]) (k := 1) rfl (by decide) (by decide) (fun _ => rfl) dq_E_tick_57 h (fun v5 h => ?_)
    refine qz_goto X (tgt := 42) (by decide) dq_E_tick_60 ?_
    refine qz_sub [1, 0, 2] rfl ?_
    exact hk42 (q3.2, x1, v5) h
theorem sE_tick_42 {p : Program} {l : Launch} {e : Env} {s : State} {m : MethodId} {args : Array Value} {below : List Frame} {meth : Method} {c : Code} {G : qz_G} (X : qz_X p s m args meth c "ExactCurves" prog_1_method_13_code 3 (some .int) G) {r : (Int32 × qz_N)} (y0 : Nat) (hy0 : y0 < 1) (n : Nat) (a : qz_N × Int32 × Int32) (h : fE_tick_42 y0 n a = some r) : qz_W p l e (qz_R 2) s m args below meth c 0 0 (MQ below (qz_Q G r.2 (some (.int r.1))) args s 0 0 (qz_A G)) G s.heap 3 a.1 42 [(1, .int a.2.1), (2, .int a.2.2), (0, .ref (G.2.2 0 y0))] [] :=
  qz_loop_ind (P := fun a => qz_W p l e (qz_R 2) s m args below meth c 0 0 (MQ below (qz_Q G r.2 (some (.int r.1))) args s 0 0 (qz_A G)) G s.heap 3 a.1 42 [(1, .int a.2.1), (2, .int a.2.2), (0, .ref (G.2.2 0 y0))] []) (fun k hk a h => sE_tick_42b X y0 hy0 k hk a.1 a.2.1 a.2.2 h) n a h
set_option maxRecDepth 100000 in
set_option maxHeartbeats 4000000 in
theorem sE_tick_16b {p : Program} {l : Launch} {e : Env} {s : State} {m : MethodId} {args : Array Value} {below : List Frame} {meth : Method} {c : Code} {G : qz_G} (X : qz_X p s m args meth c "ExactCurves" prog_1_method_13_code 3 (some .int) G) {r : (Int32 × qz_N)} (y0 : Nat) (hy0 : y0 < 1) (k16 : qz_N × Int32 × Int32 → Option (Int32 × qz_N)) (hk16 : ∀ a, k16 a = some r → qz_W p l e (qz_R 2) s m args below meth c 0 0 (MQ below (qz_Q G r.2 (some (.int r.1))) args s 0 0 (qz_A G)) G s.heap 3 a.1 16 [(1, .int a.2.1), (2, .int a.2.2), (0, .ref (G.2.2 0 y0))] []) (N : qz_N) (x1 : Int32) (x2 : Int32) (h : fE_tick_16b y0 k16 N x1 x2 = some r) : qz_W p l e (qz_R 2) s m args below meth c 0 0 (MQ below (qz_Q G r.2 (some (.int r.1))) args s 0 0 (qz_A G)) G s.heap 3 N 16 [(1, .int x1), (2, .int x2), (0, .ref (G.2.2 0 y0))] [] := by
  unfold fE_tick_16b at h
  refine qz_iload_n X 1 rfl dq_E_tick_16 ?_
  refine qz_aload_n X 2 rfl dq_E_tick_17 ?_
  refine qz_get X (v := .int (qz_gi N 0 y0 6)) kq_E_79 hy0 rfl dq_E_tick_18 ?_
  refine qz_icmp_ge X (tgt := 40) (by decide) dq_E_tick_21 h (fun _ h => ?_) (fun _ h => ?_)
  · refine qz_iconst X (v := (0 : Int32)) (by decide) dq_E_tick_40 ?_
    refine qz_istore_n X (lv' := [(2, .int (0 : Int32)), (1, .int x1), (0, .ref (G.2.2 0 y0))]) rfl (by decide) rfl dq_E_tick_41 ?_
    refine qz_sub [1, 0, 2] rfl ?_
    exact sE_tick_42 X y0 hy0 1100 (N, x1, (0 : Int32)) h
  · refine qz_aload_n X 2 rfl dq_E_tick_24 ?_
    refine qz_get X (v := .ref (G.2.2 8 y0)) kq_E_18 hy0 rfl dq_E_tick_25 ?_
    refine qz_iload_n X 1 rfl dq_E_tick_28 ?_
    refine qz_aald X (c0 := 8) (i := y0) (tg := 2) (n := 6) rfl rfl hy0 dq_E_tick_29 h (fun hb6 h => ?_)
    refine qz_iload_n X 0 rfl dq_E_tick_30 ?_
    refine qz_bind h (fun q7 e8 h => ?_)
    refine qz_callV X (as := [.int x1]) (st := []) (o := none) (N' := q7.2) cq_E_153 hb6 (cP_grow l G X.2.2.2.2.2.2.1 x2.toNatClampNeg x1 N hb6 _ e8) ⟨by decide, by decide⟩ rfl rfl (Nat.le_of_ble_eq_true rfl) ⟨Nat.zero_le _, Nat.zero_le _⟩ dq_E_tick_31 ?_
    refine qz_iinc_l X (u := (1 : Int32)) (lv' := fun v9 => [(2, .int v9), (1, .int x1), (0, .ref (G.2.2 0 y0))]) (k := 1) rfl (by decide) (by decide) (fun _ => rfl) dq_E_tick_34 h (fun v9 h => ?_)
    refine qz_goto X (tgt := 16) (by decide) dq_E_tick_37 ?_
    refine qz_sub [1, 0, 2] rfl ?_
    exact hk16 (q7.2, x1, v9) h
theorem sE_tick_16 {p : Program} {l : Launch} {e : Env} {s : State} {m : MethodId} {args : Array Value} {below : List Frame} {meth : Method} {c : Code} {G : qz_G} (X : qz_X p s m args meth c "ExactCurves" prog_1_method_13_code 3 (some .int) G) {r : (Int32 × qz_N)} (y0 : Nat) (hy0 : y0 < 1) (n : Nat) (a : qz_N × Int32 × Int32) (h : fE_tick_16 y0 n a = some r) : qz_W p l e (qz_R 2) s m args below meth c 0 0 (MQ below (qz_Q G r.2 (some (.int r.1))) args s 0 0 (qz_A G)) G s.heap 3 a.1 16 [(1, .int a.2.1), (2, .int a.2.2), (0, .ref (G.2.2 0 y0))] [] :=
  qz_loop_ind (P := fun a => qz_W p l e (qz_R 2) s m args below meth c 0 0 (MQ below (qz_Q G r.2 (some (.int r.1))) args s 0 0 (qz_A G)) G s.heap 3 a.1 16 [(1, .int a.2.1), (2, .int a.2.2), (0, .ref (G.2.2 0 y0))] []) (fun k hk a h => sE_tick_16b X y0 hy0 k hk a.1 a.2.1 a.2.2 h) n a h
set_option maxRecDepth 100000 in
set_option maxHeartbeats 4000000 in
theorem sE_tick {p : Program} {l : Launch} {e : Env} {s : State} {m : MethodId} {args : Array Value} {below : List Frame} {meth : Method} {c : Code} {G : qz_G} (X : qz_X p s m args meth c "ExactCurves" prog_1_method_13_code 3 (some .int) G) {r : (Int32 × qz_N)} (o : Nat) (x1 : Int32) (ho : o < 1) (N : qz_N) (h : fE_tick o x1 N = some r) : qz_W p l e (qz_R 2) s m args below meth c 0 0 (MQ below (qz_Q G r.2 (some (.int r.1))) args s 0 0 (qz_A G)) G s.heap 3 N 0 [(0, .ref (G.2.2 0 o)), (1, .int x1)] [] := by
  unfold fE_tick at h
  refine qz_iload_n X 1 rfl dq_E_tick_0 ?_
  refine qz_if_lt X (tgt := 11) (by decide) dq_E_tick_1 h (fun _ h => ?_) (fun _ h => ?_)
  · refine qz_bipush X (v := (-2 : Int32)) (by decide) dq_E_tick_11 ?_
    exact qz_iret X h dq_E_tick_13
  · refine qz_iload_n X 1 rfl dq_E_tick_4 ?_
    refine qz_sipush X (v := (1000 : Int32)) (by decide) dq_E_tick_5 ?_
    refine qz_icmp_le X (tgt := 14) (by decide) dq_E_tick_8 h (fun _ h => ?_) (fun _ h => ?_)
    · refine qz_iconst X (v := (0 : Int32)) (by decide) dq_E_tick_14 ?_
      refine qz_istore_n X (lv' := [(2, .int (0 : Int32)), (0, .ref (G.2.2 0 o)), (1, .int x1)]) rfl (by decide) rfl dq_E_tick_15 ?_
      refine qz_sub [2, 0, 1] rfl ?_
      exact sE_tick_16 X o ho 1100 (N, x1, (0 : Int32)) h
    · refine qz_bipush X (v := (-2 : Int32)) (by decide) dq_E_tick_11 ?_
      exact qz_iret X h dq_E_tick_13
theorem cE_tick (l : Launch) (G : qz_G) (hD : qz_D G) (o : Nat) (x1 : Int32) (N : qz_N) (ho : o < 1) (r : (Int32 × qz_N)) (h : fE_tick o x1 N = some r) : qz_M l yE_tick prog_1_method_13_code 3 (some .int) 2 G [.ref (G.2.2 0 o), .int x1] N (some (.int r.1)) r.2 :=
  qz_enter (lv := [(0, .ref (G.2.2 0 o)), (1, .int x1)]) rfl hD (Nat.le_of_ble_eq_true rfl) rfl (fun p e s m args below meth c X => sE_tick X o x1 ho N h)
-- ExactCurves.mark(II)I
theorem dq_E_mark_0 : decode prog_1_method_14_code 0 = .ok (.aload_n 0, 1) := by decide +kernel
theorem dq_E_mark_1 : decode prog_1_method_14_code 1 = .ok (.iload_n 2, 1) := by decide +kernel
theorem dq_E_mark_2 : decode prog_1_method_14_code 2 = .ok (.invokevirtual 95, 3) := by decide +kernel
theorem dq_E_mark_5 : decode prog_1_method_14_code 5 = .ok (.astore_n 3, 1) := by decide +kernel
theorem dq_E_mark_6 : decode prog_1_method_14_code 6 = .ok (.iload_n 1, 1) := by decide +kernel
theorem dq_E_mark_7 : decode prog_1_method_14_code 7 = .ok (.ifCond .lt 13, 3) := by decide +kernel
theorem dq_E_mark_10 : decode prog_1_method_14_code 10 = .ok (.iload_n 1, 1) := by decide +kernel
theorem dq_E_mark_11 : decode prog_1_method_14_code 11 = .ok (.bipush 8, 2) := by decide +kernel
theorem dq_E_mark_13 : decode prog_1_method_14_code 13 = .ok (.if_icmp .ge 7, 3) := by decide +kernel
theorem dq_E_mark_16 : decode prog_1_method_14_code 16 = .ok (.aload_n 3, 1) := by decide +kernel
theorem dq_E_mark_17 : decode prog_1_method_14_code 17 = .ok (.ifnonnull 6, 3) := by decide +kernel
theorem dq_E_mark_20 : decode prog_1_method_14_code 20 = .ok (.bipush (-2), 2) := by decide +kernel
theorem dq_E_mark_22 : decode prog_1_method_14_code 22 = .ok (.ireturn, 1) := by decide +kernel
theorem dq_E_mark_23 : decode prog_1_method_14_code 23 = .ok (.aload_n 0, 1) := by decide +kernel
theorem dq_E_mark_24 : decode prog_1_method_14_code 24 = .ok (.getfield 24, 3) := by decide +kernel
theorem dq_E_mark_27 : decode prog_1_method_14_code 27 = .ok (.iload_n 1, 1) := by decide +kernel
theorem dq_E_mark_28 : decode prog_1_method_14_code 28 = .ok (.aaload, 1) := by decide +kernel
theorem dq_E_mark_29 : decode prog_1_method_14_code 29 = .ok (.astore 4, 2) := by decide +kernel
theorem dq_E_mark_31 : decode prog_1_method_14_code 31 = .ok (.aload 4, 2) := by decide +kernel
theorem dq_E_mark_33 : decode prog_1_method_14_code 33 = .ok (.iconst 1, 1) := by decide +kernel
theorem dq_E_mark_34 : decode prog_1_method_14_code 34 = .ok (.putfield 161, 3) := by decide +kernel
theorem dq_E_mark_37 : decode prog_1_method_14_code 37 = .ok (.aload 4, 2) := by decide +kernel
theorem dq_E_mark_39 : decode prog_1_method_14_code 39 = .ok (.iload_n 2, 1) := by decide +kernel
theorem dq_E_mark_40 : decode prog_1_method_14_code 40 = .ok (.putfield 165, 3) := by decide +kernel
theorem dq_E_mark_43 : decode prog_1_method_14_code 43 = .ok (.aload 4, 2) := by decide +kernel
theorem dq_E_mark_45 : decode prog_1_method_14_code 45 = .ok (.aload_n 3, 1) := by decide +kernel
theorem dq_E_mark_46 : decode prog_1_method_14_code 46 = .ok (.getfield 168, 3) := by decide +kernel
theorem dq_E_mark_49 : decode prog_1_method_14_code 49 = .ok (.putfield 171, 3) := by decide +kernel
theorem dq_E_mark_52 : decode prog_1_method_14_code 52 = .ok (.aload 4, 2) := by decide +kernel
theorem dq_E_mark_54 : decode prog_1_method_14_code 54 = .ok (.aload_n 3, 1) := by decide +kernel
theorem dq_E_mark_55 : decode prog_1_method_14_code 55 = .ok (.getfield 172, 3) := by decide +kernel
theorem dq_E_mark_58 : decode prog_1_method_14_code 58 = .ok (.putfield 175, 3) := by decide +kernel
theorem dq_E_mark_61 : decode prog_1_method_14_code 61 = .ok (.iconst 1, 1) := by decide +kernel
theorem dq_E_mark_62 : decode prog_1_method_14_code 62 = .ok (.ireturn, 1) := by decide +kernel
def fE_mark (o : Nat) (x1 : Int32) (x2 : Int32) (N : qz_N) : Option (Int32 × qz_N) :=
  (fE_poolAt o x2 N).bind fun q1 => qz_oc q1
    (fun N3 =>
    if x1 < 0 then
      some ((-2 : Int32), N3)
    else
    if (8 : Int32) ≤ x1 then
      some ((-2 : Int32), N3)
    else
    some ((-2 : Int32), N3))
    fun N3 j4 =>
    if x1 < 0 then
      some ((-2 : Int32), N3)
    else
    if (8 : Int32) ≤ x1 then
      some ((-2 : Int32), N3)
    else
    if x1 < 0 ∨ 8 ≤ x1.toNatClampNeg then none else
    qz_let (qz_si N3 3 x1.toNatClampNeg 0 (1 : Int32)) fun N6 =>
    qz_let (qz_si N6 3 x1.toNatClampNeg 1 x2) fun N7 =>
    qz_let (qz_sl N7 3 x1.toNatClampNeg 2 (qz_gl N7 2 j4 8)) fun N8 =>
    qz_let (qz_sl N8 3 x1.toNatClampNeg 3 (qz_gl N8 2 j4 9)) fun N9 =>
    some ((1 : Int32), N9)
set_option maxRecDepth 100000 in
set_option maxHeartbeats 4000000 in
theorem sE_mark {p : Program} {l : Launch} {e : Env} {s : State} {m : MethodId} {args : Array Value} {below : List Frame} {meth : Method} {c : Code} {G : qz_G} (X : qz_X p s m args meth c "ExactCurves" prog_1_method_14_code 5 (some .int) G) {r : (Int32 × qz_N)} (o : Nat) (x1 : Int32) (x2 : Int32) (ho : o < 1) (N : qz_N) (h : fE_mark o x1 x2 N = some r) : qz_W p l e (qz_R 1) s m args below meth c 0 0 (MQ below (qz_Q G r.2 (some (.int r.1))) args s 0 0 (qz_A G)) G s.heap 5 N 0 [(0, .ref (G.2.2 0 o)), (1, .int x1), (2, .int x2)] [] := by
  unfold fE_mark at h
  refine qz_aload_n X 0 rfl dq_E_mark_0 ?_
  refine qz_iload_n X 2 rfl dq_E_mark_1 ?_
  refine qz_bind h (fun q1 e2 h => ?_)
  obtain ⟨rq1, N3⟩ := q1
  cases rq1 with
  | none =>
    replace h := qz_ocN h
    refine qz_callV X (as := [.int x2]) (st := []) (o := some .null) (N' := N3) cq_E_95 ho (cE_poolAt l G X.2.2.2.2.2.2.1 o x2 N ho _ e2) ⟨by decide, by decide⟩ rfl rfl (Nat.le_of_ble_eq_true rfl) ⟨Nat.zero_le _, Nat.zero_le _⟩ dq_E_mark_2 ?_
    refine qz_astore_nN X (lv' := [(3, .null), (0, .ref (G.2.2 0 o)), (1, .int x1), (2, .int x2)]) rfl (by decide) rfl dq_E_mark_5 ?_
    refine qz_iload_n X 2 rfl dq_E_mark_6 ?_
    refine qz_if_lt X (tgt := 20) (by decide) dq_E_mark_7 h (fun _ h => ?_) (fun _ h => ?_)
    · refine qz_bipush X (v := (-2 : Int32)) (by decide) dq_E_mark_20 ?_
      exact qz_iret X h dq_E_mark_22
    · refine qz_iload_n X 2 rfl dq_E_mark_10 ?_
      refine qz_bipush X (v := (8 : Int32)) (by decide) dq_E_mark_11 ?_
      refine qz_icmp_ge X (tgt := 20) (by decide) dq_E_mark_13 h (fun _ h => ?_) (fun _ h => ?_)
      · refine qz_bipush X (v := (-2 : Int32)) (by decide) dq_E_mark_20 ?_
        exact qz_iret X h dq_E_mark_22
      · refine qz_aload_nN X 0 rfl dq_E_mark_16 ?_
        refine qz_ifnonnullN X dq_E_mark_17 ?_
        refine qz_bipush X (v := (-2 : Int32)) (by decide) dq_E_mark_20 ?_
        exact qz_iret X h dq_E_mark_22
  | some j4 =>
    replace h := qz_ocS h
    refine qz_callV X (as := [.int x2]) (st := []) (o := some (.ref (G.2.2 2 j4))) (N' := N3) cq_E_95 ho (cE_poolAt l G X.2.2.2.2.2.2.1 o x2 N ho _ e2) ⟨by decide, by decide⟩ rfl rfl (Nat.le_of_ble_eq_true rfl) ⟨Nat.zero_le _, Nat.zero_le _⟩ dq_E_mark_2 ?_
    refine qz_astore_n X (lv' := [(3, .ref (G.2.2 2 j4)), (0, .ref (G.2.2 0 o)), (1, .int x1), (2, .int x2)]) rfl (by decide) rfl dq_E_mark_5 ?_
    refine qz_iload_n X 2 rfl dq_E_mark_6 ?_
    refine qz_if_lt X (tgt := 20) (by decide) dq_E_mark_7 h (fun _ h => ?_) (fun _ h => ?_)
    · refine qz_bipush X (v := (-2 : Int32)) (by decide) dq_E_mark_20 ?_
      exact qz_iret X h dq_E_mark_22
    · refine qz_iload_n X 2 rfl dq_E_mark_10 ?_
      refine qz_bipush X (v := (8 : Int32)) (by decide) dq_E_mark_11 ?_
      refine qz_icmp_ge X (tgt := 20) (by decide) dq_E_mark_13 h (fun _ h => ?_) (fun _ h => ?_)
      · refine qz_bipush X (v := (-2 : Int32)) (by decide) dq_E_mark_20 ?_
        exact qz_iret X h dq_E_mark_22
      · refine qz_aload_n X 0 rfl dq_E_mark_16 ?_
        refine qz_ifnonnull X (tgt := 23) (by decide) dq_E_mark_17 ?_
        refine qz_aload_n X 1 rfl dq_E_mark_23 ?_
        refine qz_get X (v := .ref (G.2.2 9 o)) kq_E_24 ho rfl dq_E_mark_24 ?_
        refine qz_iload_n X 2 rfl dq_E_mark_27 ?_
        refine qz_aald X (c0 := 9) (i := o) (tg := 3) (n := 8) rfl rfl ho dq_E_mark_28 h (fun hb5 h => ?_)
        refine qz_astore X (lv' := [(4, .ref (G.2.2 3 x1.toNatClampNeg)), (3, .ref (G.2.2 2 j4)), (0, .ref (G.2.2 0 o)), (1, .int x1), (2, .int x2)]) (by decide) rfl dq_E_mark_29 ?_
        refine qz_aload X 0 rfl dq_E_mark_31 ?_
        refine qz_iconst X (v := (1 : Int32)) (by decide) dq_E_mark_33 ?_
        refine qz_putZ X kq_E_161 hb5 ⟨by decide, by decide⟩ dq_E_mark_34 h (fun N6 h => ?_)
        refine qz_aload X 0 rfl dq_E_mark_37 ?_
        refine qz_iload_n X 4 rfl dq_E_mark_39 ?_
        refine qz_putI X kq_E_165 hb5 dq_E_mark_40 h (fun N7 h => ?_)
        refine qz_aload X 0 rfl dq_E_mark_43 ?_
        refine qz_aload_n X 1 rfl dq_E_mark_45 ?_
        refine qz_get X (v := .long (qz_gl N7 2 j4 8)) kq_E_168 (vE_poolAt e2 j4 rfl) rfl dq_E_mark_46 ?_
        refine qz_putJ X kq_E_171 hb5 dq_E_mark_49 h (fun N8 h => ?_)
        refine qz_aload X 0 rfl dq_E_mark_52 ?_
        refine qz_aload_n X 1 rfl dq_E_mark_54 ?_
        refine qz_get X (v := .long (qz_gl N8 2 j4 9)) kq_E_172 (vE_poolAt e2 j4 rfl) rfl dq_E_mark_55 ?_
        refine qz_putJ X kq_E_175 hb5 dq_E_mark_58 h (fun N9 h => ?_)
        refine qz_iconst X (v := (1 : Int32)) (by decide) dq_E_mark_61 ?_
        exact qz_iret X h dq_E_mark_62
theorem cE_mark (l : Launch) (G : qz_G) (hD : qz_D G) (o : Nat) (x1 : Int32) (x2 : Int32) (N : qz_N) (ho : o < 1) (r : (Int32 × qz_N)) (h : fE_mark o x1 x2 N = some r) : qz_M l yE_mark prog_1_method_14_code 5 (some .int) 1 G [.ref (G.2.2 0 o), .int x1, .int x2] N (some (.int r.1)) r.2 :=
  qz_enter (lv := [(0, .ref (G.2.2 0 o)), (1, .int x1), (2, .int x2)]) rfl hD (Nat.le_of_ble_eq_true rfl) rfl (fun p e s m args below meth c X => sE_mark X o x1 x2 ho N h)
