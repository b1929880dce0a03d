-- ExactCurvesModel.clear()J
theorem dq_M_clear_0 : decode prog_10_method_41_code 0 = .ok (.aload_n 0, 1) := by decide +kernel
theorem dq_M_clear_1 : decode prog_10_method_41_code 1 = .ok (.invokevirtual 238, 3) := by decide +kernel
theorem dq_M_clear_4 : decode prog_10_method_41_code 4 = .ok (.lstore_n 1, 1) := by decide +kernel
theorem dq_M_clear_5 : decode prog_10_method_41_code 5 = .ok (.aload_n 0, 1) := by decide +kernel
theorem dq_M_clear_6 : decode prog_10_method_41_code 6 = .ok (.aload_n 0, 1) := by decide +kernel
theorem dq_M_clear_7 : decode prog_10_method_41_code 7 = .ok (.getfield 152, 3) := by decide +kernel
theorem dq_M_clear_10 : decode prog_10_method_41_code 10 = .ok (.putfield 242, 3) := by decide +kernel
theorem dq_M_clear_13 : decode prog_10_method_41_code 13 = .ok (.iconst 0, 1) := by decide +kernel
theorem dq_M_clear_14 : decode prog_10_method_41_code 14 = .ok (.istore_n 3, 1) := by decide +kernel
theorem dq_M_clear_15 : decode prog_10_method_41_code 15 = .ok (.iload_n 3, 1) := by decide +kernel
theorem dq_M_clear_16 : decode prog_10_method_41_code 16 = .ok (.bipush 40, 2) := by decide +kernel
theorem dq_M_clear_18 : decode prog_10_method_41_code 18 = .ok (.if_icmp .ge 23, 3) := by decide +kernel
theorem dq_M_clear_21 : decode prog_10_method_41_code 21 = .ok (.aload_n 0, 1) := by decide +kernel
theorem dq_M_clear_22 : decode prog_10_method_41_code 22 = .ok (.getfield 67, 3) := by decide +kernel
theorem dq_M_clear_25 : decode prog_10_method_41_code 25 = .ok (.iload_n 3, 1) := by decide +kernel
theorem dq_M_clear_26 : decode prog_10_method_41_code 26 = .ok (.lconst 0, 1) := by decide +kernel
theorem dq_M_clear_27 : decode prog_10_method_41_code 27 = .ok (.lastore, 1) := by decide +kernel
theorem dq_M_clear_28 : decode prog_10_method_41_code 28 = .ok (.aload_n 0, 1) := by decide +kernel
theorem dq_M_clear_29 : decode prog_10_method_41_code 29 = .ok (.getfield 70, 3) := by decide +kernel
theorem dq_M_clear_32 : decode prog_10_method_41_code 32 = .ok (.iload_n 3, 1) := by decide +kernel
theorem dq_M_clear_33 : decode prog_10_method_41_code 33 = .ok (.iconst 0, 1) := by decide +kernel
theorem dq_M_clear_34 : decode prog_10_method_41_code 34 = .ok (.bastore, 1) := by decide +kernel
theorem dq_M_clear_35 : decode prog_10_method_41_code 35 = .ok (.iinc 3 1, 3) := by decide +kernel
theorem dq_M_clear_38 : decode prog_10_method_41_code 38 = .ok (.goto (-23), 3) := by decide +kernel
theorem dq_M_clear_41 : decode prog_10_method_41_code 41 = .ok (.aload_n 0, 1) := by decide +kernel
theorem dq_M_clear_42 : decode prog_10_method_41_code 42 = .ok (.lload_n 1, 1) := by decide +kernel
theorem dq_M_clear_43 : decode prog_10_method_41_code 43 = .ok (.lconst 0, 1) := by decide +kernel
theorem dq_M_clear_44 : decode prog_10_method_41_code 44 = .ok (.lcmp, 1) := by decide +kernel
theorem dq_M_clear_45 : decode prog_10_method_41_code 45 = .ok (.ifCond .ne 7, 3) := by decide +kernel
theorem dq_M_clear_48 : decode prog_10_method_41_code 48 = .ok (.lconst 0, 1) := by decide +kernel
theorem dq_M_clear_49 : decode prog_10_method_41_code 49 = .ok (.goto 18, 3) := by decide +kernel
theorem dq_M_clear_52 : decode prog_10_method_41_code 52 = .ok (.aload_n 0, 1) := by decide +kernel
theorem dq_M_clear_53 : decode prog_10_method_41_code 53 = .ok (.iconst 1, 1) := by decide +kernel
theorem dq_M_clear_54 : decode prog_10_method_41_code 54 = .ok (.lload_n 1, 1) := by decide +kernel
theorem dq_M_clear_55 : decode prog_10_method_41_code 55 = .ok (.invokevirtual 234, 3) := by decide +kernel
theorem dq_M_clear_58 : decode prog_10_method_41_code 58 = .ok (.aload_n 0, 1) := by decide +kernel
theorem dq_M_clear_59 : decode prog_10_method_41_code 59 = .ok (.iconst 0, 1) := by decide +kernel
theorem dq_M_clear_60 : decode prog_10_method_41_code 60 = .ok (.lload_n 1, 1) := by decide +kernel
theorem dq_M_clear_61 : decode prog_10_method_41_code 61 = .ok (.invokevirtual 234, 3) := by decide +kernel
theorem dq_M_clear_64 : decode prog_10_method_41_code 64 = .ok (.invokestatic 200, 3) := by decide +kernel
theorem dq_M_clear_67 : decode prog_10_method_41_code 67 = .ok (.putfield 245, 3) := by decide +kernel
theorem dq_M_clear_70 : decode prog_10_method_41_code 70 = .ok (.lload_n 1, 1) := by decide +kernel
theorem dq_M_clear_71 : decode prog_10_method_41_code 71 = .ok (.lconst 0, 1) := by decide +kernel
theorem dq_M_clear_72 : decode prog_10_method_41_code 72 = .ok (.lcmp, 1) := by decide +kernel
theorem dq_M_clear_73 : decode prog_10_method_41_code 73 = .ok (.ifCond .le 23, 3) := by decide +kernel
theorem dq_M_clear_76 : decode prog_10_method_41_code 76 = .ok (.aload_n 0, 1) := by decide +kernel
theorem dq_M_clear_77 : decode prog_10_method_41_code 77 = .ok (.iconst 1, 1) := by decide +kernel
theorem dq_M_clear_78 : decode prog_10_method_41_code 78 = .ok (.lload_n 1, 1) := by decide +kernel
theorem dq_M_clear_79 : decode prog_10_method_41_code 79 = .ok (.aload_n 0, 1) := by decide +kernel
theorem dq_M_clear_80 : decode prog_10_method_41_code 80 = .ok (.getfield 245, 3) := by decide +kernel
theorem dq_M_clear_83 : decode prog_10_method_41_code 83 = .ok (.invokevirtual 248, 3) := by decide +kernel
theorem dq_M_clear_86 : decode prog_10_method_41_code 86 = .ok (.aload_n 0, 1) := by decide +kernel
theorem dq_M_clear_87 : decode prog_10_method_41_code 87 = .ok (.iconst 0, 1) := by decide +kernel
theorem dq_M_clear_88 : decode prog_10_method_41_code 88 = .ok (.lload_n 1, 1) := by decide +kernel
theorem dq_M_clear_89 : decode prog_10_method_41_code 89 = .ok (.aload_n 0, 1) := by decide +kernel
theorem dq_M_clear_90 : decode prog_10_method_41_code 90 = .ok (.getfield 245, 3) := by decide +kernel
theorem dq_M_clear_93 : decode prog_10_method_41_code 93 = .ok (.invokevirtual 248, 3) := by decide +kernel
theorem dq_M_clear_96 : decode prog_10_method_41_code 96 = .ok (.lconst 0, 1) := by decide +kernel
theorem dq_M_clear_97 : decode prog_10_method_41_code 97 = .ok (.lstore_n 3, 1) := by decide +kernel
theorem dq_M_clear_98 : decode prog_10_method_41_code 98 = .ok (.iconst 0, 1) := by decide +kernel
theorem dq_M_clear_99 : decode prog_10_method_41_code 99 = .ok (.istore 5, 2) := by decide +kernel
theorem dq_M_clear_101 : decode prog_10_method_41_code 101 = .ok (.iload 5, 2) := by decide +kernel
theorem dq_M_clear_103 : decode prog_10_method_41_code 103 = .ok (.aload_n 0, 1) := by decide +kernel
theorem dq_M_clear_104 : decode prog_10_method_41_code 104 = .ok (.getfield 152, 3) := by decide +kernel
theorem dq_M_clear_107 : decode prog_10_method_41_code 107 = .ok (.if_icmp .ge 137, 3) := by decide +kernel
theorem dq_M_clear_110 : decode prog_10_method_41_code 110 = .ok (.aload_n 0, 1) := by decide +kernel
theorem dq_M_clear_111 : decode prog_10_method_41_code 111 = .ok (.getfield 67, 3) := by decide +kernel
theorem dq_M_clear_114 : decode prog_10_method_41_code 114 = .ok (.iload 5, 2) := by decide +kernel
theorem dq_M_clear_116 : decode prog_10_method_41_code 116 = .ok (.laload, 1) := by decide +kernel
theorem dq_M_clear_117 : decode prog_10_method_41_code 117 = .ok (.lstore 6, 2) := by decide +kernel
theorem dq_M_clear_119 : decode prog_10_method_41_code 119 = .ok (.aload_n 0, 1) := by decide +kernel
theorem dq_M_clear_120 : decode prog_10_method_41_code 120 = .ok (.getfield 54, 3) := by decide +kernel
theorem dq_M_clear_123 : decode prog_10_method_41_code 123 = .ok (.iload 5, 2) := by decide +kernel
theorem dq_M_clear_125 : decode prog_10_method_41_code 125 = .ok (.iaload, 1) := by decide +kernel
theorem dq_M_clear_126 : decode prog_10_method_41_code 126 = .ok (.istore 8, 2) := by decide +kernel
theorem dq_M_clear_128 : decode prog_10_method_41_code 128 = .ok (.aload_n 0, 1) := by decide +kernel
theorem dq_M_clear_129 : decode prog_10_method_41_code 129 = .ok (.getfield 57, 3) := by decide +kernel
theorem dq_M_clear_132 : decode prog_10_method_41_code 132 = .ok (.iload 5, 2) := by decide +kernel
theorem dq_M_clear_134 : decode prog_10_method_41_code 134 = .ok (.baload, 1) := by decide +kernel
theorem dq_M_clear_135 : decode prog_10_method_41_code 135 = .ok (.ifCond .eq 54, 3) := by decide +kernel
theorem dq_M_clear_138 : decode prog_10_method_41_code 138 = .ok (.lload 6, 2) := by decide +kernel
theorem dq_M_clear_140 : decode prog_10_method_41_code 140 = .ok (.lload_n 1, 1) := by decide +kernel
theorem dq_M_clear_141 : decode prog_10_method_41_code 141 = .ok (.lmul, 1) := by decide +kernel
theorem dq_M_clear_142 : decode prog_10_method_41_code 142 = .ok (.ldc2_w 218, 3) := by decide +kernel
theorem dq_M_clear_145 : decode prog_10_method_41_code 145 = .ok (.invokestatic 227, 3) := by decide +kernel
theorem dq_M_clear_148 : decode prog_10_method_41_code 148 = .ok (.lstore 9, 2) := by decide +kernel
theorem dq_M_clear_150 : decode prog_10_method_41_code 150 = .ok (.aload_n 0, 1) := by decide +kernel
theorem dq_M_clear_151 : decode prog_10_method_41_code 151 = .ok (.iload 8, 2) := by decide +kernel
theorem dq_M_clear_153 : decode prog_10_method_41_code 153 = .ok (.aload_n 0, 1) := by decide +kernel
theorem dq_M_clear_154 : decode prog_10_method_41_code 154 = .ok (.getfield 155, 3) := by decide +kernel
theorem dq_M_clear_157 : decode prog_10_method_41_code 157 = .ok (.lload 6, 2) := by decide +kernel
theorem dq_M_clear_159 : decode prog_10_method_41_code 159 = .ok (.invokevirtual 182, 3) := by decide +kernel
theorem dq_M_clear_162 : decode prog_10_method_41_code 162 = .ok (.aload_n 0, 1) := by decide +kernel
theorem dq_M_clear_163 : decode prog_10_method_41_code 163 = .ok (.iload 8, 2) := by decide +kernel
theorem dq_M_clear_165 : decode prog_10_method_41_code 165 = .ok (.aload_n 0, 1) := by decide +kernel
theorem dq_M_clear_166 : decode prog_10_method_41_code 166 = .ok (.getfield 50, 3) := by decide +kernel
theorem dq_M_clear_169 : decode prog_10_method_41_code 169 = .ok (.aload_n 0, 1) := by decide +kernel
theorem dq_M_clear_170 : decode prog_10_method_41_code 170 = .ok (.iload 5, 2) := by decide +kernel
theorem dq_M_clear_172 : decode prog_10_method_41_code 172 = .ok (.invokevirtual 158, 3) := by decide +kernel
theorem dq_M_clear_175 : decode prog_10_method_41_code 175 = .ok (.lload 9, 2) := by decide +kernel
theorem dq_M_clear_177 : decode prog_10_method_41_code 177 = .ok (.lsub, 1) := by decide +kernel
theorem dq_M_clear_178 : decode prog_10_method_41_code 178 = .ok (.invokevirtual 182, 3) := by decide +kernel
theorem dq_M_clear_181 : decode prog_10_method_41_code 181 = .ok (.lload_n 3, 1) := by decide +kernel
theorem dq_M_clear_182 : decode prog_10_method_41_code 182 = .ok (.lload 9, 2) := by decide +kernel
theorem dq_M_clear_184 : decode prog_10_method_41_code 184 = .ok (.ladd, 1) := by decide +kernel
theorem dq_M_clear_185 : decode prog_10_method_41_code 185 = .ok (.lstore_n 3, 1) := by decide +kernel
theorem dq_M_clear_186 : decode prog_10_method_41_code 186 = .ok (.goto 52, 3) := by decide +kernel
theorem dq_M_clear_189 : decode prog_10_method_41_code 189 = .ok (.aload_n 0, 1) := by decide +kernel
theorem dq_M_clear_190 : decode prog_10_method_41_code 190 = .ok (.iload 8, 2) := by decide +kernel
theorem dq_M_clear_192 : decode prog_10_method_41_code 192 = .ok (.aload_n 0, 1) := by decide +kernel
theorem dq_M_clear_193 : decode prog_10_method_41_code 193 = .ok (.getfield 50, 3) := by decide +kernel
theorem dq_M_clear_196 : decode prog_10_method_41_code 196 = .ok (.lload 6, 2) := by decide +kernel
theorem dq_M_clear_198 : decode prog_10_method_41_code 198 = .ok (.lload_n 1, 1) := by decide +kernel
theorem dq_M_clear_199 : decode prog_10_method_41_code 199 = .ok (.lmul, 1) := by decide +kernel
theorem dq_M_clear_200 : decode prog_10_method_41_code 200 = .ok (.ldc2_w 218, 3) := by decide +kernel
theorem dq_M_clear_203 : decode prog_10_method_41_code 203 = .ok (.ldiv, 1) := by decide +kernel
theorem dq_M_clear_204 : decode prog_10_method_41_code 204 = .ok (.invokevirtual 182, 3) := by decide +kernel
theorem dq_M_clear_207 : decode prog_10_method_41_code 207 = .ok (.aload_n 0, 1) := by decide +kernel
theorem dq_M_clear_208 : decode prog_10_method_41_code 208 = .ok (.iload 8, 2) := by decide +kernel
theorem dq_M_clear_210 : decode prog_10_method_41_code 210 = .ok (.aload_n 0, 1) := by decide +kernel
theorem dq_M_clear_211 : decode prog_10_method_41_code 211 = .ok (.getfield 155, 3) := by decide +kernel
theorem dq_M_clear_214 : decode prog_10_method_41_code 214 = .ok (.aload_n 0, 1) := by decide +kernel
theorem dq_M_clear_215 : decode prog_10_method_41_code 215 = .ok (.getfield 61, 3) := by decide +kernel
theorem dq_M_clear_218 : decode prog_10_method_41_code 218 = .ok (.iload 5, 2) := by decide +kernel
theorem dq_M_clear_220 : decode prog_10_method_41_code 220 = .ok (.laload, 1) := by decide +kernel
theorem dq_M_clear_221 : decode prog_10_method_41_code 221 = .ok (.lload 6, 2) := by decide +kernel
theorem dq_M_clear_223 : decode prog_10_method_41_code 223 = .ok (.lsub, 1) := by decide +kernel
theorem dq_M_clear_224 : decode prog_10_method_41_code 224 = .ok (.invokevirtual 182, 3) := by decide +kernel
theorem dq_M_clear_227 : decode prog_10_method_41_code 227 = .ok (.lload_n 3, 1) := by decide +kernel
theorem dq_M_clear_228 : decode prog_10_method_41_code 228 = .ok (.lload 6, 2) := by decide +kernel
theorem dq_M_clear_230 : decode prog_10_method_41_code 230 = .ok (.lload_n 1, 1) := by decide +kernel
theorem dq_M_clear_231 : decode prog_10_method_41_code 231 = .ok (.lmul, 1) := by decide +kernel
theorem dq_M_clear_232 : decode prog_10_method_41_code 232 = .ok (.ldc2_w 218, 3) := by decide +kernel
theorem dq_M_clear_235 : decode prog_10_method_41_code 235 = .ok (.ldiv, 1) := by decide +kernel
theorem dq_M_clear_236 : decode prog_10_method_41_code 236 = .ok (.lsub, 1) := by decide +kernel
theorem dq_M_clear_237 : decode prog_10_method_41_code 237 = .ok (.lstore_n 3, 1) := by decide +kernel
theorem dq_M_clear_238 : decode prog_10_method_41_code 238 = .ok (.iinc 5 1, 3) := by decide +kernel
theorem dq_M_clear_241 : decode prog_10_method_41_code 241 = .ok (.goto (-140), 3) := by decide +kernel
theorem dq_M_clear_244 : decode prog_10_method_41_code 244 = .ok (.aload_n 0, 1) := by decide +kernel
theorem dq_M_clear_245 : decode prog_10_method_41_code 245 = .ok (.getfield 13, 3) := by decide +kernel
theorem dq_M_clear_248 : decode prog_10_method_41_code 248 = .ok (.aload_n 0, 1) := by decide +kernel
theorem dq_M_clear_249 : decode prog_10_method_41_code 249 = .ok (.getfield 50, 3) := by decide +kernel
theorem dq_M_clear_252 : decode prog_10_method_41_code 252 = .ok (.dup2, 1) := by decide +kernel
theorem dq_M_clear_253 : decode prog_10_method_41_code 253 = .ok (.laload, 1) := by decide +kernel
theorem dq_M_clear_254 : decode prog_10_method_41_code 254 = .ok (.lload_n 3, 1) := by decide +kernel
theorem dq_M_clear_255 : decode prog_10_method_41_code 255 = .ok (.ladd, 1) := by decide +kernel
theorem dq_M_clear_256 : decode prog_10_method_41_code 256 = .ok (.lastore, 1) := by decide +kernel
theorem dq_M_clear_257 : decode prog_10_method_41_code 257 = .ok (.aload_n 0, 1) := by decide +kernel
theorem dq_M_clear_258 : decode prog_10_method_41_code 258 = .ok (.iconst 0, 1) := by decide +kernel
theorem dq_M_clear_259 : decode prog_10_method_41_code 259 = .ok (.putfield 152, 3) := by decide +kernel
theorem dq_M_clear_262 : decode prog_10_method_41_code 262 = .ok (.lload_n 1, 1) := by decide +kernel
theorem dq_M_clear_263 : decode prog_10_method_41_code 263 = .ok (.lreturn, 1) := by decide +kernel
def fM_clear_238 (y0 : Nat) (k101 : qz_N × Int64 × Int64 × Int32 → Option (Int64 × qz_N)) (N : qz_N) (x1 : Int64) (x3 : Int64) (x5 : Int32) : Option (Int64 × qz_N) :=
  qz_let (x5 + (1 : Int32)) fun v20 =>
  k101 (N, x1, x3, v20)
def fM_clear_101b (y0 : Nat) (k101 : qz_N × Int64 × Int64 × Int32 → Option (Int64 × qz_N)) (N : qz_N) (x1 : Int64) (x3 : Int64) (x5 : Int32) : Option (Int64 × qz_N) :=
  if (qz_gi N 7 y0 17) ≤ x5 then
    if (qz_gi N 7 y0 16) < 0 ∨ 4 ≤ (qz_gi N 7 y0 16).toNatClampNeg then none else
    if (qz_gi N 7 y0 16) < 0 ∨ 4 ≤ (qz_gi N 7 y0 16).toNatClampNeg then none else
    qz_let (qz_sl N 23 y0 (qz_gi N 7 y0 16).toNatClampNeg ((qz_gl N 23 y0 (qz_gi N 7 y0 16).toNatClampNeg) + x3)) fun N11 =>
    qz_let (qz_si N11 7 y0 17 (0 : Int32)) fun N12 =>
    some (x1, N12)
  else
  if x5 < 0 ∨ 40 ≤ x5.toNatClampNeg then none else
  qz_let (qz_gl N 39 y0 x5.toNatClampNeg) fun v13 =>
  if x5 < 0 ∨ 40 ≤ x5.toNatClampNeg then none else
  qz_let (qz_gi N 35 y0 x5.toNatClampNeg) fun v14 =>
  if x5 < 0 ∨ 40 ≤ x5.toNatClampNeg then none else
  if (qz_gi N 36 y0 x5.toNatClampNeg) = 0 then
    (fM_give y0 v14 (qz_gi N 7 y0 16) ((v13 * x1) / (1000 : Int64)) N).bind fun q15 =>
    if x5 < 0 ∨ 40 ≤ x5.toNatClampNeg then none else
    (fM_give y0 v14 (qz_gi q15.2 7 y0 15) ((qz_gl q15.2 37 y0 x5.toNatClampNeg) - v13) q15.2).bind fun q17 =>
    qz_let (x3 - ((v13 * x1) / (1000 : Int64))) fun v19 =>
    fM_clear_238 y0 k101 q17.2 x1 v19 x5
  else
  (fM_up (v13 * x1) (1000 : Int64) N).bind fun q21 =>
  (fM_give y0 v14 (qz_gi q21.2 7 y0 15) v13 q21.2).bind fun q23 =>
  (fM_heldBy y0 x5 q23.2).bind fun q25 =>
  (fM_give y0 v14 (qz_gi q23.2 7 y0 16) (q25.1 - q21.1) q25.2).bind fun q27 =>
  qz_let (x3 + q21.1) fun v29 =>
  fM_clear_238 y0 k101 q27.2 x1 v29 x5
def fM_clear_101 (y0 : Nat) (n : Nat) (a : qz_N × Int64 × Int64 × Int32) : Option (Int64 × qz_N) := qz_loop (fun k a => fM_clear_101b y0 k a.1 a.2.1 a.2.2.1 a.2.2.2) n a
def fM_clear_96 (y0 : Nat) (N : qz_N) (x1 : Int64) : Option (Int64 × qz_N) :=
  fM_clear_101 y0 1100 (N, x1, (0 : Int64), (0 : Int32))
def fM_clear_67 (y0 : Nat) (N : qz_N) (x1 : Int64) (s0 : Int64) (s1 : Nat) : Option (Int64 × qz_N) :=
  qz_let (qz_sl N 7 s1 22 s0) fun N10 =>
  if x1 ≤ (0 : Int64) then
    fM_clear_96 y0 N10 x1
  else
  (fM_deal y0 (1 : Int32) x1 (qz_gl N10 7 y0 22) N10).bind fun q30 =>
  (fM_deal y0 (0 : Int32) x1 (qz_gl q30.2 7 y0 22) q30.2).bind fun q32 =>
  fM_clear_96 y0 q32.2 x1
def fM_clear_15b (y0 : Nat) (k15 : qz_N × Int64 × Int32 → Option (Int64 × qz_N)) (N : qz_N) (x1 : Int64) (x3 : Int32) : Option (Int64 × qz_N) :=
  if (40 : Int32) ≤ x3 then
    if x1 = (0 : Int64) then
      fM_clear_67 y0 N x1 (0 : Int64) y0
    else
    (fM_allAt y0 (1 : Int32) x1 N).bind fun q4 =>
    (fM_allAt y0 (0 : Int32) x1 q4.2).bind fun q6 =>
    (fM_least q4.1 q6.1 q6.2).bind fun q8 =>
    fM_clear_67 y0 q8.2 x1 q8.1 y0
  else
  if x3 < 0 ∨ 40 ≤ x3.toNatClampNeg then none else
  qz_let (qz_sl N 39 y0 x3.toNatClampNeg (0 : Int64)) fun N34 =>
  if x3 < 0 ∨ 40 ≤ x3.toNatClampNeg then none else
  qz_let (qz_si N34 40 y0 x3.toNatClampNeg (vp_nar .boolean (0 : Int32))) fun N35 =>
  qz_let (x3 + (1 : Int32)) fun v36 =>
  k15 (N35, x1, v36)
def fM_clear_15 (y0 : Nat) (n : Nat) (a : qz_N × Int64 × Int32) : Option (Int64 × qz_N) := qz_loop (fun k a => fM_clear_15b y0 k a.1 a.2.1 a.2.2) n a
def fM_clear (o : Nat) (N : qz_N) : Option (Int64 × qz_N) :=
  (fM_bestPrice o N).bind fun q1 =>
  qz_let (qz_si q1.2 7 o 23 (qz_gi q1.2 7 o 17)) fun N3 =>
  fM_clear_15 o 1100 (N3, q1.1, (0 : Int32))
set_option maxRecDepth 100000 in
set_option maxHeartbeats 4000000 in
theorem sM_clear_238 {p : Program} {l : Launch} {e : Env} {s : State} {m : MethodId} {args : Array Value} {below : List Frame} {meth : Method} {c : Code} {G : qz_G} (X : qz_X p s m args meth c "ExactCurvesModel" prog_10_method_41_code 11 (some .long) G) {r : (Int64 × qz_N)} (y0 : Nat) (hy0 : y0 < 1) (k101 : qz_N × Int64 × Int64 × Int32 → Option (Int64 × qz_N)) (hk101 : ∀ a, k101 a = some r → qz_W p l e (qz_R 2) s m args below meth c 0 0 (MQ below (qz_Q G r.2 (some (.long r.1))) args s 0 0 (qz_A G)) G s.heap 11 a.1 101 [(1, .long a.2.1), (3, .long a.2.2.1), (5, .int a.2.2.2), (0, .ref (G.2.2 7 y0))] []) (N : qz_N) (x1 : Int64) (x3 : Int64) (x5 : Int32) (h : fM_clear_238 y0 k101 N x1 x3 x5 = some r) : qz_W p l e (qz_R 2) s m args below meth c 0 0 (MQ below (qz_Q G r.2 (some (.long r.1))) args s 0 0 (qz_A G)) G s.heap 11 N 238 [(1, .long x1), (3, .long x3), (5, .int x5), (0, .ref (G.2.2 7 y0))] [] := by
  unfold fM_clear_238 at h
  refine qz_iinc_l X (u := (1 : Int32)) (lv' := fun v20 => [(5, .int v20), (1, .long x1), (3, .long x3), (0, .ref (G.2.2 7 y0))]) (k := 2) rfl (by decide) (by decide) (fun _ => rfl) dq_M_clear_238 h (fun v20 h => ?_)
  refine qz_goto X (tgt := 101) (by decide) dq_M_clear_241 ?_
  refine qz_sub [1, 2, 0, 3] rfl ?_
  exact hk101 (N, x1, x3, v20) h
set_option maxRecDepth 100000 in
set_option maxHeartbeats 4000000 in
theorem sM_clear_101b {p : Program} {l : Launch} {e : Env} {s : State} {m : MethodId} {args : Array Value} {below : List Frame} {meth : Method} {c : Code} {G : qz_G} (X : qz_X p s m args meth c "ExactCurvesModel" prog_10_method_41_code 11 (some .long) G) {r : (Int64 × qz_N)} (y0 : Nat) (hy0 : y0 < 1) (k101 : qz_N × Int64 × Int64 × Int32 → Option (Int64 × qz_N)) (hk101 : ∀ a, k101 a = some r → qz_W p l e (qz_R 2) s m args below meth c 0 0 (MQ below (qz_Q G r.2 (some (.long r.1))) args s 0 0 (qz_A G)) G s.heap 11 a.1 101 [(1, .long a.2.1), (3, .long a.2.2.1), (5, .int a.2.2.2), (0, .ref (G.2.2 7 y0))] []) (N : qz_N) (x1 : Int64) (x3 : Int64) (x5 : Int32) (h : fM_clear_101b y0 k101 N x1 x3 x5 = some r) : qz_W p l e (qz_R 2) s m args below meth c 0 0 (MQ below (qz_Q G r.2 (some (.long r.1))) args s 0 0 (qz_A G)) G s.heap 11 N 101 [(1, .long x1), (3, .long x3), (5, .int x5), (0, .ref (G.2.2 7 y0))] [] := by
  unfold fM_clear_101b at h
  refine qz_iload X 2 rfl dq_M_clear_101 ?_
  refine qz_aload_n X 3 rfl dq_M_clear_103 ?_
  refine qz_get X (v := .int (qz_gi N 7 y0 17)) kq_M_152 hy0 rfl dq_M_clear_104 ?_
  refine qz_icmp_ge X (tgt := 244) (by decide) dq_M_clear_107 h (fun _ h => ?_) (fun _ h => ?_)
  · refine qz_aload_n X 3 rfl dq_M_clear_244 ?_
    refine qz_get X (v := .ref (G.2.2 23 y0)) kq_M_13 hy0 rfl dq_M_clear_245 ?_
    refine qz_aload_n X 3 rfl dq_M_clear_248 ?_
    refine qz_get X (v := .int (qz_gi N 7 y0 16)) kq_M_50 hy0 rfl dq_M_clear_249 ?_
    refine qz_dup2_11 X rfl rfl dq_M_clear_252 ?_
    refine qz_lald X (c0 := 23) (i := y0) (n := 4) rfl hy0 dq_M_clear_253 h (fun h => ?_)
    refine qz_lload_n X 1 rfl dq_M_clear_254 ?_
    refine qz_ladd X dq_M_clear_255 ?_
    refine qz_last X (c0 := 23) (i := y0) (n := 4) rfl hy0 dq_M_clear_256 h (fun N11 h => ?_)
    refine qz_aload_n X 3 rfl dq_M_clear_257 ?_
    refine qz_iconst X (v := (0 : Int32)) (by decide) dq_M_clear_258 ?_
    refine qz_putI X kq_M_152 hy0 dq_M_clear_259 h (fun N12 h => ?_)
    refine qz_lload_n X 0 rfl dq_M_clear_262 ?_
    exact qz_lret X h dq_M_clear_263
  · refine qz_aload_n X 3 rfl dq_M_clear_110 ?_
    refine qz_get X (v := .ref (G.2.2 39 y0)) kq_M_67 hy0 rfl dq_M_clear_111 ?_
    refine qz_iload X 2 rfl dq_M_clear_114 ?_
    refine qz_lald X (c0 := 39) (i := y0) (n := 40) rfl hy0 dq_M_clear_116 h (fun h => ?_)
    refine qz_letj h (fun v13 h => ?_)
    refine qz_lstore X (lv' := [(6, .long v13), (1, .long x1), (3, .long x3), (5, .int x5), (0, .ref (G.2.2 7 y0))]) (by decide) rfl dq_M_clear_117 ?_
    refine qz_aload_n X 4 rfl dq_M_clear_119 ?_
    refine qz_get X (v := .ref (G.2.2 35 y0)) kq_M_54 hy0 rfl dq_M_clear_120 ?_
    refine qz_iload X 3 rfl dq_M_clear_123 ?_
    refine qz_iald X (c0 := 35) (i := y0) (n := 40) rfl hy0 dq_M_clear_125 h (fun h => ?_)
    refine qz_leti h (fun v14 h => ?_)
    refine qz_istore X (lv' := [(8, .int v14), (6, .long v13), (1, .long x1), (3, .long x3), (5, .int x5), (0, .ref (G.2.2 7 y0))]) (by decide) rfl dq_M_clear_126 ?_
    refine qz_aload_n X 5 rfl dq_M_clear_128 ?_
    refine qz_get X (v := .ref (G.2.2 36 y0)) kq_M_57 hy0 rfl dq_M_clear_129 ?_
    refine qz_iload X 4 rfl dq_M_clear_132 ?_
    refine qz_zald X (c0 := 36) (i := y0) (n := 40) rfl hy0 dq_M_clear_134 h (fun h => ?_)
    refine qz_if_eq X (tgt := 189) (by decide) dq_M_clear_135 h (fun _ h => ?_) (fun _ h => ?_)
    · refine qz_aload_n X 5 rfl dq_M_clear_189 ?_
      refine qz_iload X 0 rfl dq_M_clear_190 ?_
      refine qz_aload_n X 5 rfl dq_M_clear_192 ?_
      refine qz_get X (v := .int (qz_gi N 7 y0 16)) kq_M_50 hy0 rfl dq_M_clear_193 ?_
      refine qz_lload X 1 rfl dq_M_clear_196 ?_
      refine qz_lload_n X 2 rfl dq_M_clear_198 ?_
      refine qz_lmul X dq_M_clear_199 ?_
      refine qz_ldc2 X (v := (1000 : Int64)) wq_755 dq_M_clear_200 ?_
      refine qz_ldiv X (by decide) dq_M_clear_203 ?_
      refine qz_bind h (fun q15 e16 h => ?_)
      refine qz_callV X (as := [.int v14, .int (qz_gi N 7 y0 16), .long ((v13 * x1) / (1000 : Int64))]) (st := []) (o := none) (N' := q15.2) cq_M_182 hy0 (cM_give l G X.2.2.2.2.2.2.1 y0 v14 (qz_gi N 7 y0 16) ((v13 * x1) / (1000 : Int64)) N hy0 _ e16) ⟨by decide, by decide⟩ rfl rfl (Nat.le_of_ble_eq_true rfl) ⟨Nat.zero_le _, Nat.zero_le _⟩ dq_M_clear_204 ?_
      refine qz_aload_n X 5 rfl dq_M_clear_207 ?_
      refine qz_iload X 0 rfl dq_M_clear_208 ?_
      refine qz_aload_n X 5 rfl dq_M_clear_210 ?_
      refine qz_get X (v := .int (qz_gi q15.2 7 y0 15)) kq_M_155 hy0 rfl dq_M_clear_211 ?_
      refine qz_aload_n X 5 rfl dq_M_clear_214 ?_
      refine qz_get X (v := .ref (G.2.2 37 y0)) kq_M_61 hy0 rfl dq_M_clear_215 ?_
      refine qz_iload X 4 rfl dq_M_clear_218 ?_
      refine qz_lald X (c0 := 37) (i := y0) (n := 40) rfl hy0 dq_M_clear_220 h (fun h => ?_)
      refine qz_lload X 1 rfl dq_M_clear_221 ?_
      refine qz_lsub X dq_M_clear_223 ?_
      refine qz_bind h (fun q17 e18 h => ?_)
      refine qz_callV X (as := [.int v14, .int (qz_gi q15.2 7 y0 15), .long ((qz_gl q15.2 37 y0 x5.toNatClampNeg) - v13)]) (st := []) (o := none) (N' := q17.2) cq_M_182 hy0 (cM_give l G X.2.2.2.2.2.2.1 y0 v14 (qz_gi q15.2 7 y0 15) ((qz_gl q15.2 37 y0 x5.toNatClampNeg) - v13) q15.2 hy0 _ e18) ⟨by decide, by decide⟩ rfl rfl (Nat.le_of_ble_eq_true rfl) ⟨Nat.zero_le _, Nat.zero_le _⟩ dq_M_clear_224 ?_
      refine qz_lload_n X 3 rfl dq_M_clear_227 ?_
      refine qz_lload X 1 rfl dq_M_clear_228 ?_
      refine qz_lload_n X 2 rfl dq_M_clear_230 ?_
      refine qz_lmul X dq_M_clear_231 ?_
      refine qz_ldc2 X (v := (1000 : Int64)) wq_755 dq_M_clear_232 ?_
      refine qz_ldiv X (by decide) dq_M_clear_235 ?_
      refine qz_lsub X dq_M_clear_236 ?_
      refine qz_letj h (fun v19 h => ?_)
      refine qz_lstore_n X (lv' := [(3, .long v19), (8, .int v14), (6, .long v13), (1, .long x1), (5, .int x5), (0, .ref (G.2.2 7 y0))]) rfl (by decide) rfl dq_M_clear_237 ?_
      refine qz_sub [3, 0, 4, 5] rfl ?_
      exact sM_clear_238 X y0 hy0 k101 hk101 q17.2 x1 v19 x5 h
    · refine qz_lload X 1 rfl dq_M_clear_138 ?_
      refine qz_lload_n X 2 rfl dq_M_clear_140 ?_
      refine qz_lmul X dq_M_clear_141 ?_
      refine qz_ldc2 X (v := (1000 : Int64)) wq_755 dq_M_clear_142 ?_
      refine qz_bind h (fun q21 e22 h => ?_)
      refine qz_callS X (as := [.long (v13 * x1), .long (1000 : Int64)]) (st := []) (o := some (.long q21.1)) (N' := q21.2) cq_M_227 (cM_up l G X.2.2.2.2.2.2.1 (v13 * x1) (1000 : Int64) N _ e22) ⟨by decide, by decide⟩ rfl rfl (Nat.le_of_ble_eq_true rfl) ⟨Nat.zero_le _, Nat.zero_le _⟩ dq_M_clear_145 ?_
      refine qz_lstore X (lv' := [(9, .long q21.1), (8, .int v14), (6, .long v13), (1, .long x1), (3, .long x3), (5, .int x5), (0, .ref (G.2.2 7 y0))]) (by decide) rfl dq_M_clear_148 ?_
      refine qz_aload_n X 6 rfl dq_M_clear_150 ?_
      refine qz_iload X 1 rfl dq_M_clear_151 ?_
      refine qz_aload_n X 6 rfl dq_M_clear_153 ?_
      refine qz_get X (v := .int (qz_gi q21.2 7 y0 15)) kq_M_155 hy0 rfl dq_M_clear_154 ?_
      refine qz_lload X 2 rfl dq_M_clear_157 ?_
      refine qz_bind h (fun q23 e24 h => ?_)
      refine qz_callV X (as := [.int v14, .int (qz_gi q21.2 7 y0 15), .long v13]) (st := []) (o := none) (N' := q23.2) cq_M_182 hy0 (cM_give l G X.2.2.2.2.2.2.1 y0 v14 (qz_gi q21.2 7 y0 15) v13 q21.2 hy0 _ e24) ⟨by decide, by decide⟩ rfl rfl (Nat.le_of_ble_eq_true rfl) ⟨Nat.zero_le _, Nat.zero_le _⟩ dq_M_clear_159 ?_
      refine qz_aload_n X 6 rfl dq_M_clear_162 ?_
      refine qz_iload X 1 rfl dq_M_clear_163 ?_
      refine qz_aload_n X 6 rfl dq_M_clear_165 ?_
      refine qz_get X (v := .int (qz_gi q23.2 7 y0 16)) kq_M_50 hy0 rfl dq_M_clear_166 ?_
      refine qz_aload_n X 6 rfl dq_M_clear_169 ?_
      refine qz_iload X 5 rfl dq_M_clear_170 ?_
      refine qz_bind h (fun q25 e26 h => ?_)
      refine qz_callV X (as := [.int x5]) (st := [.int (qz_gi q23.2 7 y0 16), .int v14, .ref (G.2.2 7 y0)]) (o := some (.long q25.1)) (N' := q25.2) cq_M_158 hy0 (cM_heldBy l G X.2.2.2.2.2.2.1 y0 x5 q23.2 hy0 _ e26) ⟨by decide, by decide⟩ rfl rfl (Nat.le_of_ble_eq_true rfl) ⟨Nat.zero_le _, Nat.zero_le _⟩ dq_M_clear_172 ?_
      refine qz_lload X 0 rfl dq_M_clear_175 ?_
      refine qz_lsub X dq_M_clear_177 ?_
      refine qz_bind h (fun q27 e28 h => ?_)
      refine qz_callV X (as := [.int v14, .int (qz_gi q23.2 7 y0 16), .long (q25.1 - q21.1)]) (st := []) (o := none) (N' := q27.2) cq_M_182 hy0 (cM_give l G X.2.2.2.2.2.2.1 y0 v14 (qz_gi q23.2 7 y0 16) (q25.1 - q21.1) q25.2 hy0 _ e28) ⟨by decide, by decide⟩ rfl rfl (Nat.le_of_ble_eq_true rfl) ⟨Nat.zero_le _, Nat.zero_le _⟩ dq_M_clear_178 ?_
      refine qz_lload_n X 4 rfl dq_M_clear_181 ?_
      refine qz_lload X 0 rfl dq_M_clear_182 ?_
      refine qz_ladd X dq_M_clear_184 ?_
      refine qz_letj h (fun v29 h => ?_)
      refine qz_lstore_n X (lv' := [(3, .long v29), (9, .long q21.1), (8, .int v14), (6, .long v13), (1, .long x1), (5, .int x5), (0, .ref (G.2.2 7 y0))]) rfl (by decide) rfl dq_M_clear_185 ?_
      refine qz_goto X (tgt := 238) (by decide) dq_M_clear_186 ?_
      refine qz_sub [4, 0, 5, 6] rfl ?_
      exact sM_clear_238 X y0 hy0 k101 hk101 q27.2 x1 v29 x5 h
theorem sM_clear_101 {p : Program} {l : Launch} {e : Env} {s : State} {m : MethodId} {args : Array Value} {below : List Frame} {meth : Method} {c : Code} {G : qz_G} (X : qz_X p s m args meth c "ExactCurvesModel" prog_10_method_41_code 11 (some .long) G) {r : (Int64 × qz_N)} (y0 : Nat) (hy0 : y0 < 1) (n : Nat) (a : qz_N × Int64 × Int64 × Int32) (h : fM_clear_101 y0 n a = some r) : qz_W p l e (qz_R 2) s m args below meth c 0 0 (MQ below (qz_Q G r.2 (some (.long r.1))) args s 0 0 (qz_A G)) G s.heap 11 a.1 101 [(1, .long a.2.1), (3, .long a.2.2.1), (5, .int a.2.2.2), (0, .ref (G.2.2 7 y0))] [] :=
  qz_loop_ind (P := fun a => qz_W p l e (qz_R 2) s m args below meth c 0 0 (MQ below (qz_Q G r.2 (some (.long r.1))) args s 0 0 (qz_A G)) G s.heap 11 a.1 101 [(1, .long a.2.1), (3, .long a.2.2.1), (5, .int a.2.2.2), (0, .ref (G.2.2 7 y0))] []) (fun k hk a h => sM_clear_101b X y0 hy0 k hk a.1 a.2.1 a.2.2.1 a.2.2.2 h) n a h
set_option maxRecDepth 100000 in
set_option maxHeartbeats 4000000 in
theorem sM_clear_96 {p : Program} {l : Launch} {e : Env} {s : State} {m : MethodId} {args : Array Value} {below : List Frame} {meth : Method} {c : Code} {G : qz_G} (X : qz_X p s m args meth c "ExactCurvesModel" prog_10_method_41_code 11 (some .long) G) {r : (Int64 × qz_N)} (y0 : Nat) (hy0 : y0 < 1) (N : qz_N) (x1 : Int64) (h : fM_clear_96 y0 N x1 = some r) : qz_W p l e (qz_R 2) s m args below meth c 0 0 (MQ below (qz_Q G r.2 (some (.long r.1))) args s 0 0 (qz_A G)) G s.heap 11 N 96 [(1, .long x1), (0, .ref (G.2.2 7 y0))] [] := by
  unfold fM_clear_96 at h
  refine qz_lconst X (v := (0 : Int64)) (by decide) dq_M_clear_96 ?_
  refine qz_lstore_n X (lv' := [(3, .long (0 : Int64)), (1, .long x1), (0, .ref (G.2.2 7 y0))]) rfl (by decide) rfl dq_M_clear_97 ?_
  refine qz_iconst X (v := (0 : Int32)) (by decide) dq_M_clear_98 ?_
  refine qz_istore X (lv' := [(5, .int (0 : Int32)), (3, .long (0 : Int64)), (1, .long x1), (0, .ref (G.2.2 7 y0))]) (by decide) rfl dq_M_clear_99 ?_
  refine qz_sub [2, 1, 0, 3] rfl ?_
  exact sM_clear_101 X y0 hy0 1100 (N, x1, (0 : Int64), (0 : Int32)) h
set_option maxRecDepth 100000 in
set_option maxHeartbeats 4000000 in
theorem sM_clear_67 {p : Program} {l : Launch} {e : Env} {s : State} {m : MethodId} {args : Array Value} {below : List Frame} {meth : Method} {c : Code} {G : qz_G} (X : qz_X p s m args meth c "ExactCurvesModel" prog_10_method_41_code 11 (some .long) G) {r : (Int64 × qz_N)} (y0 : Nat) (hy0 : y0 < 1) (N : qz_N) (x1 : Int64) (s0 : Int64) (s1 : Nat) (hs1 : s1 < 1) (h : fM_clear_67 y0 N x1 s0 s1 = some r) : qz_W p l e (qz_R 2) s m args below meth c 0 0 (MQ below (qz_Q G r.2 (some (.long r.1))) args s 0 0 (qz_A G)) G s.heap 11 N 67 [(1, .long x1), (0, .ref (G.2.2 7 y0))] [.long s0, .ref (G.2.2 7 s1)] := by
  unfold fM_clear_67 at h
  refine qz_putJ X kq_M_245 hs1 dq_M_clear_67 h (fun N10 h => ?_)
  refine qz_lload_n X 0 rfl dq_M_clear_70 ?_
  refine qz_lconst X (v := (0 : Int64)) (by decide) dq_M_clear_71 ?_
  refine qz_lcmp_le X (tgt := 96) (by decide) dq_M_clear_72 dq_M_clear_73 h (fun _ h => ?_) (fun _ h => ?_)
  · refine qz_sub [0, 1] rfl ?_
    exact sM_clear_96 X y0 hy0 N10 x1 h
  · refine qz_aload_n X 1 rfl dq_M_clear_76 ?_
    refine qz_iconst X (v := (1 : Int32)) (by decide) dq_M_clear_77 ?_
    refine qz_lload_n X 0 rfl dq_M_clear_78 ?_
    refine qz_aload_n X 1 rfl dq_M_clear_79 ?_
    refine qz_get X (v := .long (qz_gl N10 7 y0 22)) kq_M_245 hy0 rfl dq_M_clear_80 ?_
    refine qz_bind h (fun q30 e31 h => ?_)
    refine qz_callV X (as := [.int (1 : Int32), .long x1, .long (qz_gl N10 7 y0 22)]) (st := []) (o := none) (N' := q30.2) cq_M_248 hy0 (cM_deal l G X.2.2.2.2.2.2.1 y0 (1 : Int32) x1 (qz_gl N10 7 y0 22) N10 hy0 _ e31) ⟨by decide, by decide⟩ rfl rfl (Nat.le_of_ble_eq_true rfl) ⟨Nat.zero_le _, Nat.zero_le _⟩ dq_M_clear_83 ?_
    refine qz_aload_n X 1 rfl dq_M_clear_86 ?_
    refine qz_iconst X (v := (0 : Int32)) (by decide) dq_M_clear_87 ?_
    refine qz_lload_n X 0 rfl dq_M_clear_88 ?_
    refine qz_aload_n X 1 rfl dq_M_clear_89 ?_
    refine qz_get X (v := .long (qz_gl q30.2 7 y0 22)) kq_M_245 hy0 rfl dq_M_clear_90 ?_
    refine qz_bind h (fun q32 e33 h => ?_)
    refine qz_callV X (as := [.int (0 : Int32), .long x1, .long (qz_gl q30.2 7 y0 22)]) (st := []) (o := none) (N' := q32.2) cq_M_248 hy0 (cM_deal l G X.2.2.2.2.2.2.1 y0 (0 : Int32) x1 (qz_gl q30.2 7 y0 22) q30.2 hy0 _ e33) ⟨by decide, by decide⟩ rfl rfl (Nat.le_of_ble_eq_true rfl) ⟨Nat.zero_le _, Nat.zero_le _⟩ dq_M_clear_93 ?_
    refine qz_sub [0, 1] rfl ?_
    exact sM_clear_96 X y0 hy0 q32.2 x1 h
set_option maxRecDepth 100000 in
set_option maxHeartbeats 4000000 in
theorem sM_clear_15b {p : Program} {l : Launch} {e : Env} {s : State} {m : MethodId} {args : Array Value} {below : List Frame} {meth : Method} {c : Code} {G : qz_G} (X : qz_X p s m args meth c "ExactCurvesModel" prog_10_method_41_code 11 (some .long) G) {r : (Int64 × qz_N)} (y0 : Nat) (hy0 : y0 < 1) (k15 : qz_N × Int64 × Int32 → Option (Int64 × qz_N)) (hk15 : ∀ a, k15 a = some r → qz_W p l e (qz_R 2) s m args below meth c 0 0 (MQ below (qz_Q G r.2 (some (.long r.1))) args s 0 0 (qz_A G)) G s.heap 11 a.1 15 [(1, .long a.2.1), (3, .int a.2.2), (0, .ref (G.2.2 7 y0))] []) (N : qz_N) (x1 : Int64) (x3 : Int32) (h : fM_clear_15b y0 k15 N x1 x3 = some r) : qz_W p l e (qz_R 2) s m args below meth c 0 0 (MQ below (qz_Q G r.2 (some (.long r.1))) args s 0 0 (qz_A G)) G s.heap 11 N 15 [(1, .long x1), (3, .int x3), (0, .ref (G.2.2 7 y0))] [] := by
  unfold fM_clear_15b at h
  refine qz_iload_n X 1 rfl dq_M_clear_15 ?_
  refine qz_bipush X (v := (40 : Int32)) (by decide) dq_M_clear_16 ?_
  refine qz_icmp_ge X (tgt := 41) (by decide) dq_M_clear_18 h (fun _ h => ?_) (fun _ h => ?_)
  · refine qz_aload_n X 2 rfl dq_M_clear_41 ?_
    refine qz_lload_n X 0 rfl dq_M_clear_42 ?_
    refine qz_lconst X (v := (0 : Int64)) (by decide) dq_M_clear_43 ?_
    refine qz_lcmp_ne X (tgt := 52) (by decide) dq_M_clear_44 dq_M_clear_45 h (fun _ h => ?_) (fun _ h => ?_)
    · refine qz_aload_n X 2 rfl dq_M_clear_52 ?_
      refine qz_iconst X (v := (1 : Int32)) (by decide) dq_M_clear_53 ?_
      refine qz_lload_n X 0 rfl dq_M_clear_54 ?_
      refine qz_bind h (fun q4 e5 h => ?_)
      refine qz_callV X (as := [.int (1 : Int32), .long x1]) (st := [.ref (G.2.2 7 y0)]) (o := some (.long q4.1)) (N' := q4.2) cq_M_234 hy0 (cM_allAt l G X.2.2.2.2.2.2.1 y0 (1 : Int32) x1 N hy0 _ e5) ⟨by decide, by decide⟩ rfl rfl (Nat.le_of_ble_eq_true rfl) ⟨Nat.zero_le _, Nat.zero_le _⟩ dq_M_clear_55 ?_
      refine qz_aload_n X 2 rfl dq_M_clear_58 ?_
      refine qz_iconst X (v := (0 : Int32)) (by decide) dq_M_clear_59 ?_
      refine qz_lload_n X 0 rfl dq_M_clear_60 ?_
      refine qz_bind h (fun q6 e7 h => ?_)
      refine qz_callV X (as := [.int (0 : Int32), .long x1]) (st := [.long q4.1, .ref (G.2.2 7 y0)]) (o := some (.long q6.1)) (N' := q6.2) cq_M_234 hy0 (cM_allAt l G X.2.2.2.2.2.2.1 y0 (0 : Int32) x1 q4.2 hy0 _ e7) ⟨by decide, by decide⟩ rfl rfl (Nat.le_of_ble_eq_true rfl) ⟨Nat.zero_le _, Nat.zero_le _⟩ dq_M_clear_61 ?_
      refine qz_bind h (fun q8 e9 h => ?_)
      refine qz_callS X (as := [.long q4.1, .long q6.1]) (st := [.ref (G.2.2 7 y0)]) (o := some (.long q8.1)) (N' := q8.2) cq_M_200 (cM_least l G X.2.2.2.2.2.2.1 q4.1 q6.1 q6.2 _ e9) ⟨by decide, by decide⟩ rfl rfl (Nat.le_of_ble_eq_true rfl) ⟨Nat.zero_le _, Nat.zero_le _⟩ dq_M_clear_64 ?_
      refine qz_sub [0, 2] rfl ?_
      exact sM_clear_67 X y0 hy0 q8.2 x1 q8.1 y0 hy0 h
    · refine qz_lconst X (v := (0 : Int64)) (by decide) dq_M_clear_48 ?_
      refine qz_goto X (tgt := 67) (by decide) dq_M_clear_49 ?_
      refine qz_sub [0, 2] rfl ?_
      exact sM_clear_67 X y0 hy0 N x1 (0 : Int64) y0 hy0 h
  · refine qz_aload_n X 2 rfl dq_M_clear_21 ?_
    refine qz_get X (v := .ref (G.2.2 39 y0)) kq_M_67 hy0 rfl dq_M_clear_22 ?_
    refine qz_iload_n X 1 rfl dq_M_clear_25 ?_
    refine qz_lconst X (v := (0 : Int64)) (by decide) dq_M_clear_26 ?_
    refine qz_last X (c0 := 39) (i := y0) (n := 40) rfl hy0 dq_M_clear_27 h (fun N34 h => ?_)
    refine qz_aload_n X 2 rfl dq_M_clear_28 ?_
    refine qz_get X (v := .ref (G.2.2 40 y0)) kq_M_70 hy0 rfl dq_M_clear_29 ?_
    refine qz_iload_n X 1 rfl dq_M_clear_32 ?_
    refine qz_iconst X (v := (0 : Int32)) (by decide) dq_M_clear_33 ?_
    refine qz_zast X (c0 := 40) (i := y0) (n := 40) rfl hy0 dq_M_clear_34 h (fun N35 h => ?_)
    refine qz_iinc_l X (u := (1 : Int32)) (lv' := fun v36 => [(3, .int v36), (1, .long x1), (0, .ref (G.2.2 7 y0))]) (k := 1) rfl (by decide) (by decide) (fun _ => rfl) dq_M_clear_35 h (fun v36 h => ?_)
    refine qz_goto X (tgt := 15) (by decide) dq_M_clear_38 ?_
    refine qz_sub [1, 0, 2] rfl ?_
    exact hk15 (N35, x1, v36) h
theorem sM_clear_15 {p : Program} {l : Launch} {e : Env} {s : State} {m : MethodId} {args : Array Value} {below : List Frame} {meth : Method} {c : Code} {G : qz_G} (X : qz_X p s m args meth c "ExactCurvesModel" prog_10_method_41_code 11 (some .long) G) {r : (Int64 × qz_N)} (y0 : Nat) (hy0 : y0 < 1) (n : Nat) (a : qz_N × Int64 × Int32) (h : fM_clear_15 y0 n a = some r) : qz_W p l e (qz_R 2) s m args below meth c 0 0 (MQ below (qz_Q G r.2 (some (.long r.1))) args s 0 0 (qz_A G)) G s.heap 11 a.1 15 [(1, .long a.2.1), (3, .int a.2.2), (0, .ref (G.2.2 7 y0))] [] :=
  qz_loop_ind (P := fun a => qz_W p l e (qz_R 2) s m args below meth c 0 0 (MQ below (qz_Q G r.2 (some (.long r.1))) args s 0 0 (qz_A G)) G s.heap 11 a.1 15 [(1, .long a.2.1), (3, .int a.2.2), (0, .ref (G.2.2 7 y0))] []) (fun k hk a h => sM_clear_15b X y0 hy0 k hk a.1 a.2.1 a.2.2 h) n a h
set_option maxRecDepth 100000 in
set_option maxHeartbeats 4000000 in
theorem sM_clear {p : Program} {l : Launch} {e : Env} {s : State} {m : MethodId} {args : Array Value} {below : List Frame} {meth : Method} {c : Code} {G : qz_G} (X : qz_X p s m args meth c "ExactCurvesModel" prog_10_method_41_code 11 (some .long) G) {r : (Int64 × qz_N)} (o : Nat) (ho : o < 1) (N : qz_N) (h : fM_clear o N = some r) : qz_W p l e (qz_R 2) s m args below meth c 0 0 (MQ below (qz_Q G r.2 (some (.long r.1))) args s 0 0 (qz_A G)) G s.heap 11 N 0 [(0, .ref (G.2.2 7 o))] [] := by
  unfold fM_clear at h
  refine qz_aload_n X 0 rfl dq_M_clear_0 ?_
  refine qz_bind h (fun q1 e2 h => ?_)
  refine qz_callV X (as := []) (st := []) (o := some (.long q1.1)) (N' := q1.2) cq_M_238 ho (cM_bestPrice l G X.2.2.2.2.2.2.1 o N ho _ e2) ⟨by decide, by decide⟩ rfl rfl (Nat.le_of_ble_eq_true rfl) ⟨Nat.zero_le _, Nat.zero_le _⟩ dq_M_clear_1 ?_
  refine qz_lstore_n X (lv' := [(1, .long q1.1), (0, .ref (G.2.2 7 o))]) rfl (by decide) rfl dq_M_clear_4 ?_
  refine qz_aload_n X 1 rfl dq_M_clear_5 ?_
  refine qz_aload_n X 1 rfl dq_M_clear_6 ?_
  refine qz_get X (v := .int (qz_gi q1.2 7 o 17)) kq_M_152 ho rfl dq_M_clear_7 ?_
  refine qz_putI X kq_M_242 ho dq_M_clear_10 h (fun N3 h => ?_)
  refine qz_iconst X (v := (0 : Int32)) (by decide) dq_M_clear_13 ?_
  refine qz_istore_n X (lv' := [(3, .int (0 : Int32)), (1, .long q1.1), (0, .ref (G.2.2 7 o))]) rfl (by decide) rfl dq_M_clear_14 ?_
  refine qz_sub [1, 0, 2] rfl ?_
  exact sM_clear_15 X o ho 1100 (N3, q1.1, (0 : Int32)) h
theorem cM_clear (l : Launch) (G : qz_G) (hD : qz_D G) (o : Nat) (N : qz_N) (ho : o < 1) (r : (Int64 × qz_N)) (h : fM_clear o N = some r) : qz_M l yM_clear prog_10_method_41_code 11 (some .long) 2 G [.ref (G.2.2 7 o)] N (some (.long r.1)) r.2 :=
  qz_enter (lv := [(0, .ref (G.2.2 7 o))]) rfl hD (Nat.le_of_ble_eq_true rfl) rfl (fun p e s m args below meth c X => sM_clear X o ho N h)
-- ExactCurvesModel.dealt(I)J
theorem dq_M_dealt_0 : decode prog_10_method_42_code 0 = .ok (.iload_n 1, 1) := by decide +kernel
theorem dq_M_dealt_1 : decode prog_10_method_42_code 1 = .ok (.ifCond .ne 10, 3) := by decide +kernel
theorem dq_M_dealt_4 : decode prog_10_method_42_code 4 = .ok (.aload_n 0, 1) := by decide +kernel
theorem dq_M_dealt_5 : decode prog_10_method_42_code 5 = .ok (.getfield 245, 3) := by decide +kernel
theorem dq_M_dealt_8 : decode prog_10_method_42_code 8 = .ok (.goto 45, 3) := by decide +kernel
theorem dq_M_dealt_11 : decode prog_10_method_42_code 11 = .ok (.iload_n 1, 1) := by decide +kernel
theorem dq_M_dealt_12 : decode prog_10_method_42_code 12 = .ok (.iconst 1, 1) := by decide +kernel
theorem dq_M_dealt_13 : decode prog_10_method_42_code 13 = .ok (.if_icmp .ne 11, 3) := by decide +kernel
theorem dq_M_dealt_16 : decode prog_10_method_42_code 16 = .ok (.aload_n 0, 1) := by decide +kernel
theorem dq_M_dealt_17 : decode prog_10_method_42_code 17 = .ok (.getfield 242, 3) := by decide +kernel
theorem dq_M_dealt_20 : decode prog_10_method_42_code 20 = .ok (.i2l, 1) := by decide +kernel
theorem dq_M_dealt_21 : decode prog_10_method_42_code 21 = .ok (.goto 32, 3) := by decide +kernel
theorem dq_M_dealt_24 : decode prog_10_method_42_code 24 = .ok (.iload_n 1, 1) := by decide +kernel
theorem dq_M_dealt_25 : decode prog_10_method_42_code 25 = .ok (.iconst 2, 1) := by decide +kernel
theorem dq_M_dealt_26 : decode prog_10_method_42_code 26 = .ok (.if_icmp .lt 24, 3) := by decide +kernel
theorem dq_M_dealt_29 : decode prog_10_method_42_code 29 = .ok (.iload_n 1, 1) := by decide +kernel
theorem dq_M_dealt_30 : decode prog_10_method_42_code 30 = .ok (.iconst 2, 1) := by decide +kernel
theorem dq_M_dealt_31 : decode prog_10_method_42_code 31 = .ok (.aload_n 0, 1) := by decide +kernel
theorem dq_M_dealt_32 : decode prog_10_method_42_code 32 = .ok (.getfield 242, 3) := by decide +kernel
theorem dq_M_dealt_35 : decode prog_10_method_42_code 35 = .ok (.iadd, 1) := by decide +kernel
theorem dq_M_dealt_36 : decode prog_10_method_42_code 36 = .ok (.if_icmp .ge 14, 3) := by decide +kernel
theorem dq_M_dealt_39 : decode prog_10_method_42_code 39 = .ok (.aload_n 0, 1) := by decide +kernel
theorem dq_M_dealt_40 : decode prog_10_method_42_code 40 = .ok (.getfield 67, 3) := by decide +kernel
theorem dq_M_dealt_43 : decode prog_10_method_42_code 43 = .ok (.iload_n 1, 1) := by decide +kernel
theorem dq_M_dealt_44 : decode prog_10_method_42_code 44 = .ok (.iconst 2, 1) := by decide +kernel
theorem dq_M_dealt_45 : decode prog_10_method_42_code 45 = .ok (.isub, 1) := by decide +kernel
theorem dq_M_dealt_46 : decode prog_10_method_42_code 46 = .ok (.laload, 1) := by decide +kernel
theorem dq_M_dealt_47 : decode prog_10_method_42_code 47 = .ok (.goto 6, 3) := by decide +kernel
theorem dq_M_dealt_50 : decode prog_10_method_42_code 50 = .ok (.ldc2_w 175, 3) := by decide +kernel
theorem dq_M_dealt_53 : decode prog_10_method_42_code 53 = .ok (.lreturn, 1) := by decide +kernel
def fM_dealt (o : Nat) (x1 : Int32) (N : qz_N) : Option (Int64 × qz_N) :=
  if x1 = 0 then
    some (qz_gl N 7 o 22, N)
  else
  if x1 = (1 : Int32) then
    some ((qz_gi N 7 o 23).toInt64, N)
  else
  if x1 < (2 : Int32) then
    some ((-2 : Int64), N)
  else
  if ((2 : Int32) + (qz_gi N 7 o 23)) ≤ x1 then
    some ((-2 : Int64), N)
  else
  if (x1 - (2 : Int32)) < 0 ∨ 40 ≤ (x1 - (2 : Int32)).toNatClampNeg then none else
  some (qz_gl N 39 o (x1 - (2 : Int32)).toNatClampNeg, N)
set_option maxRecDepth 100000 in
set_option maxHeartbeats 4000000 in
theorem sM_dealt {p : Program} {l : Launch} {e : Env} {s : State} {m : MethodId} {args : Array Value} {below : List Frame} {meth : Method} {c : Code} {G : qz_G} (X : qz_X p s m args meth c "ExactCurvesModel" prog_10_method_42_code 2 (some .long) G) {r : (Int64 × qz_N)} (o : Nat) (x1 : Int32) (ho : o < 1) (N : qz_N) (h : fM_dealt o x1 N = some r) : qz_W p l e (qz_R 0) s m args below meth c 0 0 (MQ below (qz_Q G r.2 (some (.long r.1))) args s 0 0 (qz_A G)) G s.heap 2 N 0 [(0, .ref (G.2.2 7 o)), (1, .int x1)] [] := by
  unfold fM_dealt at h
  refine qz_iload_n X 1 rfl dq_M_dealt_0 ?_
  refine qz_if_ne X (tgt := 11) (by decide) dq_M_dealt_1 h (fun _ h => ?_) (fun _ h => ?_)
  · refine qz_iload_n X 1 rfl dq_M_dealt_11 ?_
    refine qz_iconst X (v := (1 : Int32)) (by decide) dq_M_dealt_12 ?_
    refine qz_icmp_ne X (tgt := 24) (by decide) dq_M_dealt_13 h (fun _ h => ?_) (fun _ h => ?_)
    · refine qz_iload_n X 1 rfl dq_M_dealt_24 ?_
      refine qz_iconst X (v := (2 : Int32)) (by decide) dq_M_dealt_25 ?_
      refine qz_icmp_lt X (tgt := 50) (by decide) dq_M_dealt_26 h (fun _ h => ?_) (fun _ h => ?_)
      · refine qz_ldc2 X (v := (-2 : Int64)) wq_742 dq_M_dealt_50 ?_
        exact qz_lret X h dq_M_dealt_53
      · refine qz_iload_n X 1 rfl dq_M_dealt_29 ?_
        refine qz_iconst X (v := (2 : Int32)) (by decide) dq_M_dealt_30 ?_
        refine qz_aload_n X 0 rfl dq_M_dealt_31 ?_
        refine qz_get X (v := .int (qz_gi N 7 o 23)) kq_M_242 ho rfl dq_M_dealt_32 ?_
        refine qz_iadd X dq_M_dealt_35 ?_
        refine qz_icmp_ge X (tgt := 50) (by decide) dq_M_dealt_36 h (fun _ h => ?_) (fun _ h => ?_)
        · refine qz_ldc2 X (v := (-2 : Int64)) wq_742 dq_M_dealt_50 ?_
          exact qz_lret X h dq_M_dealt_53
        · refine qz_aload_n X 0 rfl dq_M_dealt_39 ?_
          refine qz_get X (v := .ref (G.2.2 39 o)) kq_M_67 ho rfl dq_M_dealt_40 ?_
          refine qz_iload_n X 1 rfl dq_M_dealt_43 ?_
          refine qz_iconst X (v := (2 : Int32)) (by decide) dq_M_dealt_44 ?_
          refine qz_isub X dq_M_dealt_45 ?_
          refine qz_lald X (c0 := 39) (i := o) (n := 40) rfl ho dq_M_dealt_46 h (fun h => ?_)
          refine qz_goto X (tgt := 53) (by decide) dq_M_dealt_47 ?_
          exact qz_lret X h dq_M_dealt_53
    · refine qz_aload_n X 0 rfl dq_M_dealt_16 ?_
      refine qz_get X (v := .int (qz_gi N 7 o 23)) kq_M_242 ho rfl dq_M_dealt_17 ?_
      refine qz_i2l X dq_M_dealt_20 ?_
      refine qz_goto X (tgt := 53) (by decide) dq_M_dealt_21 ?_
      exact qz_lret X h dq_M_dealt_53
  · refine qz_aload_n X 0 rfl dq_M_dealt_4 ?_
    refine qz_get X (v := .long (qz_gl N 7 o 22)) kq_M_245 ho rfl dq_M_dealt_5 ?_
    refine qz_goto X (tgt := 53) (by decide) dq_M_dealt_8 ?_
    exact qz_lret X h dq_M_dealt_53
theorem cM_dealt (l : Launch) (G : qz_G) (hD : qz_D G) (o : Nat) (x1 : Int32) (N : qz_N) (ho : o < 1) (r : (Int64 × qz_N)) (h : fM_dealt o x1 N = some r) : qz_M l yM_dealt prog_10_method_42_code 2 (some .long) 0 G [.ref (G.2.2 7 o), .int x1] N (some (.long r.1)) r.2 :=
  qz_enter (lv := [(0, .ref (G.2.2 7 o)), (1, .int x1)]) rfl hD (Nat.le_of_ble_eq_true rfl) rfl (fun p e s m args below meth c X => sM_dealt X o x1 ho N h)
-- ExactCurvesModel.rate(IJ)J
theorem dq_M_rate_0 : decode prog_10_method_43_code 0 = .ok (.iload_n 1, 1) := by decide +kernel
theorem dq_M_rate_1 : decode prog_10_method_43_code 1 = .ok (.invokestatic 170, 3) := by decide +kernel
theorem dq_M_rate_4 : decode prog_10_method_43_code 4 = .ok (.ifCond .eq 17, 3) := by decide +kernel
theorem dq_M_rate_7 : decode prog_10_method_43_code 7 = .ok (.lload_n 2, 1) := by decide +kernel
theorem dq_M_rate_8 : decode prog_10_method_43_code 8 = .ok (.lconst 0, 1) := by decide +kernel
theorem dq_M_rate_9 : decode prog_10_method_43_code 9 = .ok (.lcmp, 1) := by decide +kernel
theorem dq_M_rate_10 : decode prog_10_method_43_code 10 = .ok (.ifCond .lt 11, 3) := by decide +kernel
theorem dq_M_rate_13 : decode prog_10_method_43_code 13 = .ok (.lload_n 2, 1) := by decide +kernel
theorem dq_M_rate_14 : decode prog_10_method_43_code 14 = .ok (.ldc2_w 232, 3) := by decide +kernel
theorem dq_M_rate_17 : decode prog_10_method_43_code 17 = .ok (.lcmp, 1) := by decide +kernel
theorem dq_M_rate_18 : decode prog_10_method_43_code 18 = .ok (.ifCond .le 7, 3) := by decide +kernel
theorem dq_M_rate_21 : decode prog_10_method_43_code 21 = .ok (.ldc2_w 175, 3) := by decide +kernel
theorem dq_M_rate_24 : decode prog_10_method_43_code 24 = .ok (.lreturn, 1) := by decide +kernel
theorem dq_M_rate_25 : decode prog_10_method_43_code 25 = .ok (.aload_n 0, 1) := by decide +kernel
theorem dq_M_rate_26 : decode prog_10_method_43_code 26 = .ok (.getfield 85, 3) := by decide +kernel
theorem dq_M_rate_29 : decode prog_10_method_43_code 29 = .ok (.iload_n 1, 1) := by decide +kernel
theorem dq_M_rate_30 : decode prog_10_method_43_code 30 = .ok (.laload, 1) := by decide +kernel
theorem dq_M_rate_31 : decode prog_10_method_43_code 31 = .ok (.lstore 4, 2) := by decide +kernel
theorem dq_M_rate_33 : decode prog_10_method_43_code 33 = .ok (.aload_n 0, 1) := by decide +kernel
theorem dq_M_rate_34 : decode prog_10_method_43_code 34 = .ok (.getfield 85, 3) := by decide +kernel
theorem dq_M_rate_37 : decode prog_10_method_43_code 37 = .ok (.iload_n 1, 1) := by decide +kernel
theorem dq_M_rate_38 : decode prog_10_method_43_code 38 = .ok (.lload_n 2, 1) := by decide +kernel
theorem dq_M_rate_39 : decode prog_10_method_43_code 39 = .ok (.lastore, 1) := by decide +kernel
theorem dq_M_rate_40 : decode prog_10_method_43_code 40 = .ok (.lload 4, 2) := by decide +kernel
theorem dq_M_rate_42 : decode prog_10_method_43_code 42 = .ok (.lreturn, 1) := by decide +kernel
def fM_rate (o : Nat) (x1 : Int32) (x2 : Int64) (N : qz_N) : Option (Int64 × qz_N) :=
  (fM_isToken x1 N).bind fun q1 =>
  if q1.1 = 0 then
    some ((-2 : Int64), q1.2)
  else
  if x2 < (0 : Int64) then
    some ((-2 : Int64), q1.2)
  else
  if x2 ≤ (1000000 : Int64) then
    if x1 < 0 ∨ 4 ≤ x1.toNatClampNeg then none else
    qz_let (qz_gl q1.2 45 o x1.toNatClampNeg) fun v3 =>
    if x1 < 0 ∨ 4 ≤ x1.toNatClampNeg then none else
    qz_let (qz_sl q1.2 45 o x1.toNatClampNeg x2) fun N4 =>
    some (v3, N4)
  else
  some ((-2 : Int64), q1.2)
set_option maxRecDepth 100000 in
set_option maxHeartbeats 4000000 in
theorem sM_rate {p : Program} {l : Launch} {e : Env} {s : State} {m : MethodId} {args : Array Value} {below : List Frame} {meth : Method} {c : Code} {G : qz_G} (X : qz_X p s m args meth c "ExactCurvesModel" prog_10_method_43_code 6 (some .long) G) {r : (Int64 × qz_N)} (o : Nat) (x1 : Int32) (x2 : Int64) (ho : o < 1) (N : qz_N) (h : fM_rate o x1 x2 N = some r) : qz_W p l e (qz_R 1) s m args below meth c 0 0 (MQ below (qz_Q G r.2 (some (.long r.1))) args s 0 0 (qz_A G)) G s.heap 6 N 0 [(0, .ref (G.2.2 7 o)), (1, .int x1), (2, .long x2)] [] := by
  unfold fM_rate at h
  refine qz_iload_n X 1 rfl dq_M_rate_0 ?_
  refine qz_bind h (fun q1 e2 h => ?_)
  refine qz_callS X (as := [.int x1]) (st := []) (o := some (.int q1.1)) (N' := q1.2) cq_M_170 (cM_isToken l G X.2.2.2.2.2.2.1 x1 N _ e2) ⟨by decide, by decide⟩ rfl rfl (Nat.le_of_ble_eq_true rfl) ⟨Nat.zero_le _, Nat.zero_le _⟩ dq_M_rate_1 ?_
  refine qz_if_eq X (tgt := 21) (by decide) dq_M_rate_4 h (fun _ h => ?_) (fun _ h => ?_)
  · refine qz_ldc2 X (v := (-2 : Int64)) wq_742 dq_M_rate_21 ?_
    exact qz_lret X h dq_M_rate_24
  · refine qz_lload_n X 2 rfl dq_M_rate_7 ?_
    refine qz_lconst X (v := (0 : Int64)) (by decide) dq_M_rate_8 ?_
    refine qz_lcmp_lt X (tgt := 21) (by decide) dq_M_rate_9 dq_M_rate_10 h (fun _ h => ?_) (fun _ h => ?_)
    · refine qz_ldc2 X (v := (-2 : Int64)) wq_742 dq_M_rate_21 ?_
      exact qz_lret X h dq_M_rate_24
    · refine qz_lload_n X 2 rfl dq_M_rate_13 ?_
      refine qz_ldc2 X (v := (1000000 : Int64)) wq_885 dq_M_rate_14 ?_
      refine qz_lcmp_le X (tgt := 25) (by decide) dq_M_rate_17 dq_M_rate_18 h (fun _ h => ?_) (fun _ h => ?_)
      · refine qz_aload_n X 0 rfl dq_M_rate_25 ?_
        refine qz_get X (v := .ref (G.2.2 45 o)) kq_M_85 ho rfl dq_M_rate_26 ?_
        refine qz_iload_n X 1 rfl dq_M_rate_29 ?_
        refine qz_lald X (c0 := 45) (i := o) (n := 4) rfl ho dq_M_rate_30 h (fun h => ?_)
        refine qz_letj h (fun v3 h => ?_)
        refine qz_lstore X (lv' := [(4, .long v3), (0, .ref (G.2.2 7 o)), (1, .int x1), (2, .long x2)]) (by decide) rfl dq_M_rate_31 ?_
        refine qz_aload_n X 1 rfl dq_M_rate_33 ?_
        refine qz_get X (v := .ref (G.2.2 45 o)) kq_M_85 ho rfl dq_M_rate_34 ?_
        refine qz_iload_n X 2 rfl dq_M_rate_37 ?_
        refine qz_lload_n X 3 rfl dq_M_rate_38 ?_
        refine qz_last X (c0 := 45) (i := o) (n := 4) rfl ho dq_M_rate_39 h (fun N4 h => ?_)
        refine qz_lload X 0 rfl dq_M_rate_40 ?_
        exact qz_lret X h dq_M_rate_42
      · refine qz_ldc2 X (v := (-2 : Int64)) wq_742 dq_M_rate_21 ?_
        exact qz_lret X h dq_M_rate_24
theorem cM_rate (l : Launch) (G : qz_G) (hD : qz_D G) (o : Nat) (x1 : Int32) (x2 : Int64) (N : qz_N) (ho : o < 1) (r : (Int64 × qz_N)) (h : fM_rate o x1 x2 N = some r) : qz_M l yM_rate prog_10_method_43_code 6 (some .long) 1 G [.ref (G.2.2 7 o), .int x1, .long x2] N (some (.long r.1)) r.2 :=
  qz_enter (lv := [(0, .ref (G.2.2 7 o)), (1, .int x1), (2, .long x2)]) rfl hD (Nat.le_of_ble_eq_true rfl) rfl (fun p e s m args below meth c X => sM_rate X o x1 x2 ho N h)
-- ExactCurvesModel.debtToken(I)I
theorem dq_M_debtToken_0 : decode prog_10_method_45_code 0 = .ok (.aload_n 0, 1) := by decide +kernel
theorem dq_M_debtToken_1 : decode prog_10_method_45_code 1 = .ok (.getfield 16, 3) := by decide +kernel
theorem dq_M_debtToken_4 : decode prog_10_method_45_code 4 = .ok (.iconst 2, 1) := by decide +kernel
theorem dq_M_debtToken_5 : decode prog_10_method_45_code 5 = .ok (.aload_n 0, 1) := by decide +kernel
theorem dq_M_debtToken_6 : decode prog_10_method_45_code 6 = .ok (.getfield 94, 3) := by decide +kernel
theorem dq_M_debtToken_9 : decode prog_10_method_45_code 9 = .ok (.iload_n 1, 1) := by decide +kernel
theorem dq_M_debtToken_10 : decode prog_10_method_45_code 10 = .ok (.iaload, 1) := by decide +kernel
theorem dq_M_debtToken_11 : decode prog_10_method_45_code 11 = .ok (.imul, 1) := by decide +kernel
theorem dq_M_debtToken_12 : decode prog_10_method_45_code 12 = .ok (.iconst 1, 1) := by decide +kernel
theorem dq_M_debtToken_13 : decode prog_10_method_45_code 13 = .ok (.iadd, 1) := by decide +kernel
theorem dq_M_debtToken_14 : decode prog_10_method_45_code 14 = .ok (.aload_n 0, 1) := by decide +kernel
theorem dq_M_debtToken_15 : decode prog_10_method_45_code 15 = .ok (.getfield 97, 3) := by decide +kernel
theorem dq_M_debtToken_18 : decode prog_10_method_45_code 18 = .ok (.iload_n 1, 1) := by decide +kernel
theorem dq_M_debtToken_19 : decode prog_10_method_45_code 19 = .ok (.iaload, 1) := by decide +kernel
theorem dq_M_debtToken_20 : decode prog_10_method_45_code 20 = .ok (.isub, 1) := by decide +kernel
theorem dq_M_debtToken_21 : decode prog_10_method_45_code 21 = .ok (.iaload, 1) := by decide +kernel
theorem dq_M_debtToken_22 : decode prog_10_method_45_code 22 = .ok (.ireturn, 1) := by decide +kernel
def fM_debtToken (o : Nat) (x1 : Int32) (N : qz_N) : Option (Int32 × qz_N) :=
  if x1 < 0 ∨ 10 ≤ x1.toNatClampNeg then none else
  if x1 < 0 ∨ 10 ≤ x1.toNatClampNeg then none else
  if ((((2 : Int32) * (qz_gi N 48 o x1.toNatClampNeg)) + (1 : Int32)) - (qz_gi N 49 o x1.toNatClampNeg)) < 0 ∨ 12 ≤ ((((2 : Int32) * (qz_gi N 48 o x1.toNatClampNeg)) + (1 : Int32)) - (qz_gi N 49 o x1.toNatClampNeg)).toNatClampNeg then none else
  some (qz_gi N 24 o ((((2 : Int32) * (qz_gi N 48 o x1.toNatClampNeg)) + (1 : Int32)) - (qz_gi N 49 o x1.toNatClampNeg)).toNatClampNeg, N)
set_option maxRecDepth 100000 in
set_option maxHeartbeats 4000000 in
theorem sM_debtToken {p : Program} {l : Launch} {e : Env} {s : State} {m : MethodId} {args : Array Value} {below : List Frame} {meth : Method} {c : Code} {G : qz_G} (X : qz_X p s m args meth c "ExactCurvesModel" prog_10_method_45_code 2 (some .int) G) {r : (Int32 × qz_N)} (o : Nat) (x1 : Int32) (ho : o < 1) (N : qz_N) (h : fM_debtToken o x1 N = some r) : qz_W p l e (qz_R 0) s m args below meth c 0 0 (MQ below (qz_Q G r.2 (some (.int r.1))) args s 0 0 (qz_A G)) G s.heap 2 N 0 [(0, .ref (G.2.2 7 o)), (1, .int x1)] [] := by
  unfold fM_debtToken at h
  refine qz_aload_n X 0 rfl dq_M_debtToken_0 ?_
  refine qz_get X (v := .ref (G.2.2 24 o)) kq_M_16 ho rfl dq_M_debtToken_1 ?_
  refine qz_iconst X (v := (2 : Int32)) (by decide) dq_M_debtToken_4 ?_
  refine qz_aload_n X 0 rfl dq_M_debtToken_5 ?_
  refine qz_get X (v := .ref (G.2.2 48 o)) kq_M_94 ho rfl dq_M_debtToken_6 ?_
  refine qz_iload_n X 1 rfl dq_M_debtToken_9 ?_
  refine qz_iald X (c0 := 48) (i := o) (n := 10) rfl ho dq_M_debtToken_10 h (fun h => ?_)
  refine qz_imul X dq_M_debtToken_11 ?_
  refine qz_iconst X (v := (1 : Int32)) (by decide) dq_M_debtToken_12 ?_
  refine qz_iadd X dq_M_debtToken_13 ?_
  refine qz_aload_n X 0 rfl dq_M_debtToken_14 ?_
  refine qz_get X (v := .ref (G.2.2 49 o)) kq_M_97 ho rfl dq_M_debtToken_15 ?_
  refine qz_iload_n X 1 rfl dq_M_debtToken_18 ?_
  refine qz_iald X (c0 := 49) (i := o) (n := 10) rfl ho dq_M_debtToken_19 h (fun h => ?_)
  refine qz_isub X dq_M_debtToken_20 ?_
  refine qz_iald X (c0 := 24) (i := o) (n := 12) rfl ho dq_M_debtToken_21 h (fun h => ?_)
  exact qz_iret X h dq_M_debtToken_22
theorem cM_debtToken (l : Launch) (G : qz_G) (hD : qz_D G) (o : Nat) (x1 : Int32) (N : qz_N) (ho : o < 1) (r : (Int32 × qz_N)) (h : fM_debtToken o x1 N = some r) : qz_M l yM_debtToken prog_10_method_45_code 2 (some .int) 0 G [.ref (G.2.2 7 o), .int x1] N (some (.int r.1)) r.2 :=
  qz_enter (lv := [(0, .ref (G.2.2 7 o)), (1, .int x1)]) rfl hD (Nat.le_of_ble_eq_true rfl) rfl (fun p e s m args below meth c X => sM_debtToken X o x1 ho N h)
-- ExactCurvesModel.debtOf(I)J
theorem dq_M_debtOf_0 : decode prog_10_method_46_code 0 = .ok (.aload_n 0, 1) := by decide +kernel
theorem dq_M_debtOf_1 : decode prog_10_method_46_code 1 = .ok (.aload_n 0, 1) := by decide +kernel
theorem dq_M_debtOf_2 : decode prog_10_method_46_code 2 = .ok (.getfield 103, 3) := by decide +kernel
theorem dq_M_debtOf_5 : decode prog_10_method_46_code 5 = .ok (.iload_n 1, 1) := by decide +kernel
theorem dq_M_debtOf_6 : decode prog_10_method_46_code 6 = .ok (.laload, 1) := by decide +kernel
theorem dq_M_debtOf_7 : decode prog_10_method_46_code 7 = .ok (.aload_n 0, 1) := by decide +kernel
theorem dq_M_debtOf_8 : decode prog_10_method_46_code 8 = .ok (.getfield 82, 3) := by decide +kernel
theorem dq_M_debtOf_11 : decode prog_10_method_46_code 11 = .ok (.aload_n 0, 1) := by decide +kernel
theorem dq_M_debtOf_12 : decode prog_10_method_46_code 12 = .ok (.iload_n 1, 1) := by decide +kernel
theorem dq_M_debtOf_13 : decode prog_10_method_46_code 13 = .ok (.invokevirtual 252, 3) := by decide +kernel
theorem dq_M_debtOf_16 : decode prog_10_method_46_code 16 = .ok (.laload, 1) := by decide +kernel
theorem dq_M_debtOf_17 : decode prog_10_method_46_code 17 = .ok (.ldc2_w 118, 3) := by decide +kernel
theorem dq_M_debtOf_20 : decode prog_10_method_46_code 20 = .ok (.invokevirtual 203, 3) := by decide +kernel
theorem dq_M_debtOf_23 : decode prog_10_method_46_code 23 = .ok (.lreturn, 1) := by decide +kernel
def fM_debtOf (o : Nat) (x1 : Int32) (N : qz_N) : Option (Int64 × qz_N) :=
  if x1 < 0 ∨ 10 ≤ x1.toNatClampNeg then none else
  (fM_debtToken o x1 N).bind fun q1 =>
  if q1.1 < 0 ∨ 4 ≤ q1.1.toNatClampNeg then none else
  (fM_partUp o (qz_gl N 51 o x1.toNatClampNeg) (qz_gl q1.2 44 o q1.1.toNatClampNeg) (1000000000 : Int64) q1.2).bind fun q3 =>
  some (q3.1, q3.2)
set_option maxRecDepth 100000 in
set_option maxHeartbeats 4000000 in
theorem sM_debtOf {p : Program} {l : Launch} {e : Env} {s : State} {m : MethodId} {args : Array Value} {below : List Frame} {meth : Method} {c : Code} {G : qz_G} (X : qz_X p s m args meth c "ExactCurvesModel" prog_10_method_46_code 2 (some .long) G) {r : (Int64 × qz_N)} (o : Nat) (x1 : Int32) (ho : o < 1) (N : qz_N) (h : fM_debtOf o x1 N = some r) : qz_W p l e (qz_R 3) s m args below meth c 0 0 (MQ below (qz_Q G r.2 (some (.long r.1))) args s 0 0 (qz_A G)) G s.heap 2 N 0 [(0, .ref (G.2.2 7 o)), (1, .int x1)] [] := by
  unfold fM_debtOf at h
  refine qz_aload_n X 0 rfl dq_M_debtOf_0 ?_
  refine qz_aload_n X 0 rfl dq_M_debtOf_1 ?_
  refine qz_get X (v := .ref (G.2.2 51 o)) kq_M_103 ho rfl dq_M_debtOf_2 ?_
  refine qz_iload_n X 1 rfl dq_M_debtOf_5 ?_
  refine qz_lald X (c0 := 51) (i := o) (n := 10) rfl ho dq_M_debtOf_6 h (fun h => ?_)
  refine qz_aload_n X 0 rfl dq_M_debtOf_7 ?_
  refine qz_get X (v := .ref (G.2.2 44 o)) kq_M_82 ho rfl dq_M_debtOf_8 ?_
  refine qz_aload_n X 0 rfl dq_M_debtOf_11 ?_
  refine qz_iload_n X 1 rfl dq_M_debtOf_12 ?_
  refine qz_bind h (fun q1 e2 h => ?_)
  refine qz_callV X (as := [.int x1]) (st := [.ref (G.2.2 44 o), .long (qz_gl N 51 o x1.toNatClampNeg), .ref (G.2.2 7 o)]) (o := some (.int q1.1)) (N' := q1.2) cq_M_252 ho (cM_debtToken l G X.2.2.2.2.2.2.1 o x1 N ho _ e2) ⟨by decide, by decide⟩ rfl rfl (Nat.le_of_ble_eq_true rfl) ⟨Nat.zero_le _, Nat.zero_le _⟩ dq_M_debtOf_13 ?_
  refine qz_lald X (c0 := 44) (i := o) (n := 4) rfl ho dq_M_debtOf_16 h (fun h => ?_)
  refine qz_ldc2 X (v := (1000000000 : Int64)) wq_603 dq_M_debtOf_17 ?_
  refine qz_bind h (fun q3 e4 h => ?_)
  refine qz_callV X (as := [.long (qz_gl N 51 o x1.toNatClampNeg), .long (qz_gl q1.2 44 o q1.1.toNatClampNeg), .long (1000000000 : Int64)]) (st := []) (o := some (.long q3.1)) (N' := q3.2) cq_M_203 ho (cM_partUp l G X.2.2.2.2.2.2.1 o (qz_gl N 51 o x1.toNatClampNeg) (qz_gl q1.2 44 o q1.1.toNatClampNeg) (1000000000 : Int64) q1.2 ho _ e4) ⟨by decide, by decide⟩ rfl rfl (Nat.le_of_ble_eq_true rfl) ⟨Nat.zero_le _, Nat.zero_le _⟩ dq_M_debtOf_20 ?_
  exact qz_lret X h dq_M_debtOf_23
theorem cM_debtOf (l : Launch) (G : qz_G) (hD : qz_D G) (o : Nat) (x1 : Int32) (N : qz_N) (ho : o < 1) (r : (Int64 × qz_N)) (h : fM_debtOf o x1 N = some r) : qz_M l yM_debtOf prog_10_method_46_code 2 (some .long) 3 G [.ref (G.2.2 7 o), .int x1] N (some (.long r.1)) r.2 :=
  qz_enter (lv := [(0, .ref (G.2.2 7 o)), (1, .int x1)]) rfl hD (Nat.le_of_ble_eq_true rfl) rfl (fun p e s m args below meth c X => sM_debtOf X o x1 ho N h)
