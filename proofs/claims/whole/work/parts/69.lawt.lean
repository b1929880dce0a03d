set_option maxRecDepth 100000 in
set_option maxHeartbeats 4000000 in
theorem sW_law_1754 {p : Program} {l : Launch} {e : Env} {s : State} {m : MethodId} {below : List Frame} {meth : Method} {c : Code} {G : qz_G} {b : Nat} {H0 : Heap} {cells slots : Nat} (X : qz_X p s m #[Value.ref b] meth c "ExactCurvesLaw" code 4 ret G) {xs : Nat → Int32} {L : Nat} (hX : va_X b L xs s H0) (hbA : ¬ qz_A G b) (hA : ∀ a, qz_A G a → s.heap.size ≤ a) (hcs : cells ≤ 600000 ∧ slots ≤ 7302250) {r : (Int32 × qz_N)} (hr1 : r.1 = 1) (y1 : Nat) (y2 : Nat) (hy1 : y1 < 1) (hy2 : y2 < 1) (k18 : qz_N × Int32 → Option (Int32 × qz_N)) (hk18 : ∀ a, k18 a = some r → qz_W p l e room_1 s m #[Value.ref b] below meth c cells slots (lw_Z below #[Value.ref b] s) G H0 4 a.1 18 [(3, .int a.2), (1, .ref (G.2.2 0 y1)), (2, .ref (G.2.2 7 y2)), (0, .ref b)] []) (N : qz_N) (x3 : Int32) (h : fW_law_1754 xs L y1 y2 k18 N x3 = some r) : qz_W p l e room_1 s m #[Value.ref b] below meth c cells slots (lw_Z below #[Value.ref b] s) G H0 4 N 1754 [(3, .int x3), (1, .ref (G.2.2 0 y1)), (2, .ref (G.2.2 7 y2)), (0, .ref b)] [] := by
  unfold fW_law_1754 at h
  refine qz_iinc_l X (u := (11 : Int32)) (lv' := fun v5 => [(3, .int v5), (1, .ref (G.2.2 0 y1)), (2, .ref (G.2.2 7 y2)), (0, .ref b)]) (k := 0) rfl (by decide) (by decide) (fun _ => rfl) dq_W_law_1754 h (fun v5 h => ?_)
  refine qz_goto X (tgt := 18) (by decide) dq_W_law_1757 ?_
  refine qz_sub [0, 1, 2, 3] rfl ?_
  exact hk18 (N, v5) h
set_option maxRecDepth 100000 in
set_option maxHeartbeats 4000000 in
theorem sW_law_156 {p : Program} {l : Launch} {e : Env} {s : State} {m : MethodId} {below : List Frame} {meth : Method} {c : Code} {G : qz_G} {b : Nat} {H0 : Heap} {cells slots : Nat} (X : qz_X p s m #[Value.ref b] meth c "ExactCurvesLaw" code 4 ret G) {xs : Nat → Int32} {L : Nat} (hX : va_X b L xs s H0) (hbA : ¬ qz_A G b) (hA : ∀ a, qz_A G a → s.heap.size ≤ a) (hcs : cells ≤ 600000 ∧ slots ≤ 7302250) {r : (Int32 × qz_N)} (hr1 : r.1 = 1) (y1 : Nat) (y2 : Nat) (hy1 : y1 < 1) (hy2 : y2 < 1) (k18 : qz_N × Int32 → Option (Int32 × qz_N)) (hk18 : ∀ a, k18 a = some r → qz_W p l e room_1 s m #[Value.ref b] below meth c cells slots (lw_Z below #[Value.ref b] s) G H0 4 a.1 18 [(3, .int a.2), (1, .ref (G.2.2 0 y1)), (2, .ref (G.2.2 7 y2)), (0, .ref b)] []) (N : qz_N) (x3 : Int32) (h : fW_law_156 xs L y1 y2 k18 N x3 = some r) : qz_W p l e room_1 s m #[Value.ref b] below meth c cells slots (lw_Z below #[Value.ref b] s) G H0 4 N 156 [(3, .int x3), (1, .ref (G.2.2 0 y1)), (2, .ref (G.2.2 7 y2)), (0, .ref b)] [] := by
  unfold fW_law_156 at h
  refine qz_aload_n X 1 rfl dq_W_law_156 ?_
  refine qz_aload_n X 3 rfl dq_W_law_157 ?_
  refine qz_iload_n X 0 rfl dq_W_law_158 ?_
  refine qz_iconst X (v := (1 : Int32)) (by decide) dq_W_law_159 ?_
  refine qz_iadd X dq_W_law_160 ?_
  refine qz_sld X hX hbA dq_W_law_161 h (fun h => ?_)
  refine qz_aload_n X 3 rfl dq_W_law_162 ?_
  refine qz_iload_n X 0 rfl dq_W_law_163 ?_
  refine qz_iconst X (v := (2 : Int32)) (by decide) dq_W_law_164 ?_
  refine qz_iadd X dq_W_law_165 ?_
  refine qz_sld X hX hbA dq_W_law_166 h (fun h => ?_)
  refine qz_aload_n X 3 rfl dq_W_law_167 ?_
  refine qz_iload_n X 0 rfl dq_W_law_168 ?_
  refine qz_iconst X (v := (3 : Int32)) (by decide) dq_W_law_169 ?_
  refine qz_iadd X dq_W_law_170 ?_
  refine qz_sld X hX hbA dq_W_law_171 h (fun h => ?_)
  refine qz_i2l X dq_W_law_172 ?_
  refine qz_bipush X (v := (32 : Int32)) (by decide) dq_W_law_173 ?_
  refine qz_lshl X dq_W_law_175 ?_
  refine qz_aload_n X 3 rfl dq_W_law_176 ?_
  refine qz_iload_n X 0 rfl dq_W_law_177 ?_
  refine qz_iconst X (v := (4 : Int32)) (by decide) dq_W_law_178 ?_
  refine qz_iadd X dq_W_law_179 ?_
  refine qz_sld X hX hbA dq_W_law_180 h (fun h => ?_)
  refine qz_i2l X dq_W_law_181 ?_
  refine qz_ldc2 X (v := (4294967295 : Int64)) wq_983 dq_W_law_182 ?_
  refine qz_land X dq_W_law_185 ?_
  refine qz_lor X dq_W_law_186 ?_
  refine qz_bind h (fun q1 e2 h => ?_)
  refine qz_callV X (as := [.int (xs (x3 + (1 : Int32)).toNatClampNeg), .int (xs (x3 + (2 : Int32)).toNatClampNeg), .long ((((xs (x3 + (3 : Int32)).toNatClampNeg).toInt64) <<< ((32 : Int32).toInt64 &&& 63)) ||| (((xs (x3 + (4 : Int32)).toNatClampNeg).toInt64) &&& (4294967295 : Int64)))]) (st := []) (o := some (.long q1.1)) (N' := q1.2) cq_W_15 hy1 (cE_mint l G X.2.2.2.2.2.2.1 y1 (xs (x3 + (1 : Int32)).toNatClampNeg) (xs (x3 + (2 : Int32)).toNatClampNeg) ((((xs (x3 + (3 : Int32)).toNatClampNeg).toInt64) <<< ((32 : Int32).toInt64 &&& 63)) ||| (((xs (x3 + (4 : Int32)).toNatClampNeg).toInt64) &&& (4294967295 : Int64))) N hy1 _ e2) ⟨by decide, by decide⟩ rfl rfl (Nat.le_of_ble_eq_true rfl) hcs dq_W_law_187 ?_
  refine qz_aload_n X 2 rfl dq_W_law_190 ?_
  refine qz_aload_n X 3 rfl dq_W_law_191 ?_
  refine qz_iload_n X 0 rfl dq_W_law_192 ?_
  refine qz_iconst X (v := (1 : Int32)) (by decide) dq_W_law_193 ?_
  refine qz_iadd X dq_W_law_194 ?_
  refine qz_sld X hX hbA dq_W_law_195 h (fun h => ?_)
  refine qz_aload_n X 3 rfl dq_W_law_196 ?_
  refine qz_iload_n X 0 rfl dq_W_law_197 ?_
  refine qz_iconst X (v := (2 : Int32)) (by decide) dq_W_law_198 ?_
  refine qz_iadd X dq_W_law_199 ?_
  refine qz_sld X hX hbA dq_W_law_200 h (fun h => ?_)
  refine qz_aload_n X 3 rfl dq_W_law_201 ?_
  refine qz_iload_n X 0 rfl dq_W_law_202 ?_
  refine qz_iconst X (v := (3 : Int32)) (by decide) dq_W_law_203 ?_
  refine qz_iadd X dq_W_law_204 ?_
  refine qz_sld X hX hbA dq_W_law_205 h (fun h => ?_)
  refine qz_i2l X dq_W_law_206 ?_
  refine qz_bipush X (v := (32 : Int32)) (by decide) dq_W_law_207 ?_
  refine qz_lshl X dq_W_law_209 ?_
  refine qz_aload_n X 3 rfl dq_W_law_210 ?_
  refine qz_iload_n X 0 rfl dq_W_law_211 ?_
  refine qz_iconst X (v := (4 : Int32)) (by decide) dq_W_law_212 ?_
  refine qz_iadd X dq_W_law_213 ?_
  refine qz_sld X hX hbA dq_W_law_214 h (fun h => ?_)
  refine qz_i2l X dq_W_law_215 ?_
  refine qz_ldc2 X (v := (4294967295 : Int64)) wq_983 dq_W_law_216 ?_
  refine qz_land X dq_W_law_219 ?_
  refine qz_lor X dq_W_law_220 ?_
  refine qz_bind h (fun q3 e4 h => ?_)
  refine qz_callV X (as := [.int (xs (x3 + (1 : Int32)).toNatClampNeg), .int (xs (x3 + (2 : Int32)).toNatClampNeg), .long ((((xs (x3 + (3 : Int32)).toNatClampNeg).toInt64) <<< ((32 : Int32).toInt64 &&& 63)) ||| (((xs (x3 + (4 : Int32)).toNatClampNeg).toInt64) &&& (4294967295 : Int64)))]) (st := [.long q1.1]) (o := some (.long q3.1)) (N' := q3.2) cq_W_19 hy2 (cM_mint l G X.2.2.2.2.2.2.1 y2 (xs (x3 + (1 : Int32)).toNatClampNeg) (xs (x3 + (2 : Int32)).toNatClampNeg) ((((xs (x3 + (3 : Int32)).toNatClampNeg).toInt64) <<< ((32 : Int32).toInt64 &&& 63)) ||| (((xs (x3 + (4 : Int32)).toNatClampNeg).toInt64) &&& (4294967295 : Int64))) q1.2 hy2 _ e4) ⟨by decide, by decide⟩ rfl rfl (Nat.le_of_ble_eq_true rfl) hcs dq_W_law_221 ?_
  refine qz_lcmp_eq X (tgt := 1754) (by decide) dq_W_law_224 dq_W_law_225 h (fun _ h => ?_) (fun _ h => ?_)
  · refine qz_sub [0, 1, 2, 3] rfl ?_
    exact sW_law_1754 X hX hbA hA hcs hr1 y1 y2 hy1 hy2 k18 hk18 q3.2 x3 h
  · refine qz_iconst X (v := (0 : Int32)) (by decide) dq_W_law_228 ?_
    exact qz_lawret X hA hcs hr1 h dq_W_law_229
set_option maxRecDepth 100000 in
set_option maxHeartbeats 4000000 in
theorem sW_law_230 {p : Program} {l : Launch} {e : Env} {s : State} {m : MethodId} {below : List Frame} {meth : Method} {c : Code} {G : qz_G} {b : Nat} {H0 : Heap} {cells slots : Nat} (X : qz_X p s m #[Value.ref b] meth c "ExactCurvesLaw" code 4 ret G) {xs : Nat → Int32} {L : Nat} (hX : va_X b L xs s H0) (hbA : ¬ qz_A G b) (hA : ∀ a, qz_A G a → s.heap.size ≤ a) (hcs : cells ≤ 600000 ∧ slots ≤ 7302250) {r : (Int32 × qz_N)} (hr1 : r.1 = 1) (y1 : Nat) (y2 : Nat) (hy1 : y1 < 1) (hy2 : y2 < 1) (k18 : qz_N × Int32 → Option (Int32 × qz_N)) (hk18 : ∀ a, k18 a = some r → qz_W p l e room_1 s m #[Value.ref b] below meth c cells slots (lw_Z below #[Value.ref b] s) G H0 4 a.1 18 [(3, .int a.2), (1, .ref (G.2.2 0 y1)), (2, .ref (G.2.2 7 y2)), (0, .ref b)] []) (N : qz_N) (x3 : Int32) (h : fW_law_230 xs L y1 y2 k18 N x3 = some r) : qz_W p l e room_1 s m #[Value.ref b] below meth c cells slots (lw_Z below #[Value.ref b] s) G H0 4 N 230 [(3, .int x3), (1, .ref (G.2.2 0 y1)), (2, .ref (G.2.2 7 y2)), (0, .ref b)] [] := by
  unfold fW_law_230 at h
  refine qz_aload_n X 1 rfl dq_W_law_230 ?_
  refine qz_aload_n X 3 rfl dq_W_law_231 ?_
  refine qz_iload_n X 0 rfl dq_W_law_232 ?_
  refine qz_iconst X (v := (1 : Int32)) (by decide) dq_W_law_233 ?_
  refine qz_iadd X dq_W_law_234 ?_
  refine qz_sld X hX hbA dq_W_law_235 h (fun h => ?_)
  refine qz_aload_n X 3 rfl dq_W_law_236 ?_
  refine qz_iload_n X 0 rfl dq_W_law_237 ?_
  refine qz_iconst X (v := (2 : Int32)) (by decide) dq_W_law_238 ?_
  refine qz_iadd X dq_W_law_239 ?_
  refine qz_sld X hX hbA dq_W_law_240 h (fun h => ?_)
  refine qz_bind h (fun q6 e7 h => ?_)
  refine qz_callV X (as := [.int (xs (x3 + (1 : Int32)).toNatClampNeg), .int (xs (x3 + (2 : Int32)).toNatClampNeg)]) (st := []) (o := some (.long q6.1)) (N' := q6.2) cq_W_20 hy1 (cE_balance l G X.2.2.2.2.2.2.1 y1 (xs (x3 + (1 : Int32)).toNatClampNeg) (xs (x3 + (2 : Int32)).toNatClampNeg) N hy1 _ e7) ⟨by decide, by decide⟩ rfl rfl (Nat.le_of_ble_eq_true rfl) hcs dq_W_law_241 ?_
  refine qz_aload_n X 2 rfl dq_W_law_244 ?_
  refine qz_aload_n X 3 rfl dq_W_law_245 ?_
  refine qz_iload_n X 0 rfl dq_W_law_246 ?_
  refine qz_iconst X (v := (1 : Int32)) (by decide) dq_W_law_247 ?_
  refine qz_iadd X dq_W_law_248 ?_
  refine qz_sld X hX hbA dq_W_law_249 h (fun h => ?_)
  refine qz_aload_n X 3 rfl dq_W_law_250 ?_
  refine qz_iload_n X 0 rfl dq_W_law_251 ?_
  refine qz_iconst X (v := (2 : Int32)) (by decide) dq_W_law_252 ?_
  refine qz_iadd X dq_W_law_253 ?_
  refine qz_sld X hX hbA dq_W_law_254 h (fun h => ?_)
  refine qz_bind h (fun q8 e9 h => ?_)
  refine qz_callV X (as := [.int (xs (x3 + (1 : Int32)).toNatClampNeg), .int (xs (x3 + (2 : Int32)).toNatClampNeg)]) (st := [.long q6.1]) (o := some (.long q8.1)) (N' := q8.2) cq_W_24 hy2 (cM_balance l G X.2.2.2.2.2.2.1 y2 (xs (x3 + (1 : Int32)).toNatClampNeg) (xs (x3 + (2 : Int32)).toNatClampNeg) q6.2 hy2 _ e9) ⟨by decide, by decide⟩ rfl rfl (Nat.le_of_ble_eq_true rfl) hcs dq_W_law_255 ?_
  refine qz_lcmp_eq X (tgt := 1754) (by decide) dq_W_law_258 dq_W_law_259 h (fun _ h => ?_) (fun _ h => ?_)
  · refine qz_sub [0, 1, 2, 3] rfl ?_
    exact sW_law_1754 X hX hbA hA hcs hr1 y1 y2 hy1 hy2 k18 hk18 q8.2 x3 h
  · refine qz_iconst X (v := (0 : Int32)) (by decide) dq_W_law_262 ?_
    exact qz_lawret X hA hcs hr1 h dq_W_law_263
set_option maxRecDepth 100000 in
set_option maxHeartbeats 4000000 in
theorem sW_law_264 {p : Program} {l : Launch} {e : Env} {s : State} {m : MethodId} {below : List Frame} {meth : Method} {c : Code} {G : qz_G} {b : Nat} {H0 : Heap} {cells slots : Nat} (X : qz_X p s m #[Value.ref b] meth c "ExactCurvesLaw" code 4 ret G) {xs : Nat → Int32} {L : Nat} (hX : va_X b L xs s H0) (hbA : ¬ qz_A G b) (hA : ∀ a, qz_A G a → s.heap.size ≤ a) (hcs : cells ≤ 600000 ∧ slots ≤ 7302250) {r : (Int32 × qz_N)} (hr1 : r.1 = 1) (y1 : Nat) (y2 : Nat) (hy1 : y1 < 1) (hy2 : y2 < 1) (k18 : qz_N × Int32 → Option (Int32 × qz_N)) (hk18 : ∀ a, k18 a = some r → qz_W p l e room_1 s m #[Value.ref b] below meth c cells slots (lw_Z below #[Value.ref b] s) G H0 4 a.1 18 [(3, .int a.2), (1, .ref (G.2.2 0 y1)), (2, .ref (G.2.2 7 y2)), (0, .ref b)] []) (N : qz_N) (x3 : Int32) (h : fW_law_264 xs L y1 y2 k18 N x3 = some r) : qz_W p l e room_1 s m #[Value.ref b] below meth c cells slots (lw_Z below #[Value.ref b] s) G H0 4 N 264 [(3, .int x3), (1, .ref (G.2.2 0 y1)), (2, .ref (G.2.2 7 y2)), (0, .ref b)] [] := by
  unfold fW_law_264 at h
  refine qz_aload_n X 1 rfl dq_W_law_264 ?_
  refine qz_aload_n X 3 rfl dq_W_law_265 ?_
  refine qz_iload_n X 0 rfl dq_W_law_266 ?_
  refine qz_iconst X (v := (1 : Int32)) (by decide) dq_W_law_267 ?_
  refine qz_iadd X dq_W_law_268 ?_
  refine qz_sld X hX hbA dq_W_law_269 h (fun h => ?_)
  refine qz_bind h (fun q10 e11 h => ?_)
  refine qz_callV X (as := [.int (xs (x3 + (1 : Int32)).toNatClampNeg)]) (st := []) (o := some (.long q10.1)) (N' := q10.2) cq_W_25 hy1 (cE_total l G X.2.2.2.2.2.2.1 y1 (xs (x3 + (1 : Int32)).toNatClampNeg) N hy1 _ e11) ⟨by decide, by decide⟩ rfl rfl (Nat.le_of_ble_eq_true rfl) hcs dq_W_law_270 ?_
  refine qz_aload_n X 2 rfl dq_W_law_273 ?_
  refine qz_aload_n X 3 rfl dq_W_law_274 ?_
  refine qz_iload_n X 0 rfl dq_W_law_275 ?_
  refine qz_iconst X (v := (1 : Int32)) (by decide) dq_W_law_276 ?_
  refine qz_iadd X dq_W_law_277 ?_
  refine qz_sld X hX hbA dq_W_law_278 h (fun h => ?_)
  refine qz_bind h (fun q12 e13 h => ?_)
  refine qz_callV X (as := [.int (xs (x3 + (1 : Int32)).toNatClampNeg)]) (st := [.long q10.1]) (o := some (.long q12.1)) (N' := q12.2) cq_W_29 hy2 (cM_total l G X.2.2.2.2.2.2.1 y2 (xs (x3 + (1 : Int32)).toNatClampNeg) q10.2 hy2 _ e13) ⟨by decide, by decide⟩ rfl rfl (Nat.le_of_ble_eq_true rfl) hcs dq_W_law_279 ?_
  refine qz_lcmp_eq X (tgt := 1754) (by decide) dq_W_law_282 dq_W_law_283 h (fun _ h => ?_) (fun _ h => ?_)
  · refine qz_sub [0, 1, 2, 3] rfl ?_
    exact sW_law_1754 X hX hbA hA hcs hr1 y1 y2 hy1 hy2 k18 hk18 q12.2 x3 h
  · refine qz_iconst X (v := (0 : Int32)) (by decide) dq_W_law_286 ?_
    exact qz_lawret X hA hcs hr1 h dq_W_law_287
set_option maxRecDepth 100000 in
set_option maxHeartbeats 4000000 in
theorem sW_law_288 {p : Program} {l : Launch} {e : Env} {s : State} {m : MethodId} {below : List Frame} {meth : Method} {c : Code} {G : qz_G} {b : Nat} {H0 : Heap} {cells slots : Nat} (X : qz_X p s m #[Value.ref b] meth c "ExactCurvesLaw" code 4 ret G) {xs : Nat → Int32} {L : Nat} (hX : va_X b L xs s H0) (hbA : ¬ qz_A G b) (hA : ∀ a, qz_A G a → s.heap.size ≤ a) (hcs : cells ≤ 600000 ∧ slots ≤ 7302250) {r : (Int32 × qz_N)} (hr1 : r.1 = 1) (y1 : Nat) (y2 : Nat) (hy1 : y1 < 1) (hy2 : y2 < 1) (k18 : qz_N × Int32 → Option (Int32 × qz_N)) (hk18 : ∀ a, k18 a = some r → qz_W p l e room_1 s m #[Value.ref b] below meth c cells slots (lw_Z below #[Value.ref b] s) G H0 4 a.1 18 [(3, .int a.2), (1, .ref (G.2.2 0 y1)), (2, .ref (G.2.2 7 y2)), (0, .ref b)] []) (N : qz_N) (x3 : Int32) (h : fW_law_288 xs L y1 y2 k18 N x3 = some r) : qz_W p l e room_1 s m #[Value.ref b] below meth c cells slots (lw_Z below #[Value.ref b] s) G H0 4 N 288 [(3, .int x3), (1, .ref (G.2.2 0 y1)), (2, .ref (G.2.2 7 y2)), (0, .ref b)] [] := by
  unfold fW_law_288 at h
  refine qz_aload_n X 1 rfl dq_W_law_288 ?_
  refine qz_aload_n X 3 rfl dq_W_law_289 ?_
  refine qz_iload_n X 0 rfl dq_W_law_290 ?_
  refine qz_iconst X (v := (1 : Int32)) (by decide) dq_W_law_291 ?_
  refine qz_iadd X dq_W_law_292 ?_
  refine qz_sld X hX hbA dq_W_law_293 h (fun h => ?_)
  refine qz_bind h (fun q14 e15 h => ?_)
  refine qz_callV X (as := [.int (xs (x3 + (1 : Int32)).toNatClampNeg)]) (st := []) (o := some (.long q14.1)) (N' := q14.2) cq_W_30 hy1 (cE_house l G X.2.2.2.2.2.2.1 y1 (xs (x3 + (1 : Int32)).toNatClampNeg) N hy1 _ e15) ⟨by decide, by decide⟩ rfl rfl (Nat.le_of_ble_eq_true rfl) hcs dq_W_law_294 ?_
  refine qz_aload_n X 2 rfl dq_W_law_297 ?_
  refine qz_aload_n X 3 rfl dq_W_law_298 ?_
  refine qz_iload_n X 0 rfl dq_W_law_299 ?_
  refine qz_iconst X (v := (1 : Int32)) (by decide) dq_W_law_300 ?_
  refine qz_iadd X dq_W_law_301 ?_
  refine qz_sld X hX hbA dq_W_law_302 h (fun h => ?_)
  refine qz_bind h (fun q16 e17 h => ?_)
  refine qz_callV X (as := [.int (xs (x3 + (1 : Int32)).toNatClampNeg)]) (st := [.long q14.1]) (o := some (.long q16.1)) (N' := q16.2) cq_W_33 hy2 (cM_house l G X.2.2.2.2.2.2.1 y2 (xs (x3 + (1 : Int32)).toNatClampNeg) q14.2 hy2 _ e17) ⟨by decide, by decide⟩ rfl rfl (Nat.le_of_ble_eq_true rfl) hcs dq_W_law_303 ?_
  refine qz_lcmp_eq X (tgt := 1754) (by decide) dq_W_law_306 dq_W_law_307 h (fun _ h => ?_) (fun _ h => ?_)
  · refine qz_sub [0, 1, 2, 3] rfl ?_
    exact sW_law_1754 X hX hbA hA hcs hr1 y1 y2 hy1 hy2 k18 hk18 q16.2 x3 h
  · refine qz_iconst X (v := (0 : Int32)) (by decide) dq_W_law_310 ?_
    exact qz_lawret X hA hcs hr1 h dq_W_law_311
set_option maxRecDepth 100000 in
set_option maxHeartbeats 4000000 in
theorem sW_law_312 {p : Program} {l : Launch} {e : Env} {s : State} {m : MethodId} {below : List Frame} {meth : Method} {c : Code} {G : qz_G} {b : Nat} {H0 : Heap} {cells slots : Nat} (X : qz_X p s m #[Value.ref b] meth c "ExactCurvesLaw" code 4 ret G) {xs : Nat → Int32} {L : Nat} (hX : va_X b L xs s H0) (hbA : ¬ qz_A G b) (hA : ∀ a, qz_A G a → s.heap.size ≤ a) (hcs : cells ≤ 600000 ∧ slots ≤ 7302250) {r : (Int32 × qz_N)} (hr1 : r.1 = 1) (y1 : Nat) (y2 : Nat) (hy1 : y1 < 1) (hy2 : y2 < 1) (k18 : qz_N × Int32 → Option (Int32 × qz_N)) (hk18 : ∀ a, k18 a = some r → qz_W p l e room_1 s m #[Value.ref b] below meth c cells slots (lw_Z below #[Value.ref b] s) G H0 4 a.1 18 [(3, .int a.2), (1, .ref (G.2.2 0 y1)), (2, .ref (G.2.2 7 y2)), (0, .ref b)] []) (N : qz_N) (x3 : Int32) (h : fW_law_312 xs L y1 y2 k18 N x3 = some r) : qz_W p l e room_1 s m #[Value.ref b] below meth c cells slots (lw_Z below #[Value.ref b] s) G H0 4 N 312 [(3, .int x3), (1, .ref (G.2.2 0 y1)), (2, .ref (G.2.2 7 y2)), (0, .ref b)] [] := by
  unfold fW_law_312 at h
  refine qz_aload_n X 1 rfl dq_W_law_312 ?_
  refine qz_aload_n X 3 rfl dq_W_law_313 ?_
  refine qz_iload_n X 0 rfl dq_W_law_314 ?_
  refine qz_iconst X (v := (1 : Int32)) (by decide) dq_W_law_315 ?_
  refine qz_iadd X dq_W_law_316 ?_
  refine qz_sld X hX hbA dq_W_law_317 h (fun h => ?_)
  refine qz_aload_n X 3 rfl dq_W_law_318 ?_
  refine qz_iload_n X 0 rfl dq_W_law_319 ?_
  refine qz_iconst X (v := (2 : Int32)) (by decide) dq_W_law_320 ?_
  refine qz_iadd X dq_W_law_321 ?_
  refine qz_sld X hX hbA dq_W_law_322 h (fun h => ?_)
  refine qz_aload_n X 3 rfl dq_W_law_323 ?_
  refine qz_iload_n X 0 rfl dq_W_law_324 ?_
  refine qz_iconst X (v := (3 : Int32)) (by decide) dq_W_law_325 ?_
  refine qz_iadd X dq_W_law_326 ?_
  refine qz_sld X hX hbA dq_W_law_327 h (fun h => ?_)
  refine qz_aload_n X 3 rfl dq_W_law_328 ?_
  refine qz_iload_n X 0 rfl dq_W_law_329 ?_
  refine qz_iconst X (v := (4 : Int32)) (by decide) dq_W_law_330 ?_
  refine qz_iadd X dq_W_law_331 ?_
  refine qz_sld X hX hbA dq_W_law_332 h (fun h => ?_)
  refine qz_bind h (fun q18 e19 h => ?_)
  refine qz_callV X (as := [.int (xs (x3 + (1 : Int32)).toNatClampNeg), .int (xs (x3 + (2 : Int32)).toNatClampNeg), .int (xs (x3 + (3 : Int32)).toNatClampNeg), .int (xs (x3 + (4 : Int32)).toNatClampNeg)]) (st := []) (o := some (.int q18.1)) (N' := q18.2) cq_W_34 hy1 (cE_pool l G X.2.2.2.2.2.2.1 y1 (xs (x3 + (1 : Int32)).toNatClampNeg) (xs (x3 + (2 : Int32)).toNatClampNeg) (xs (x3 + (3 : Int32)).toNatClampNeg) (xs (x3 + (4 : Int32)).toNatClampNeg) N hy1 _ e19) ⟨by decide, by decide⟩ rfl rfl (Nat.le_of_ble_eq_true rfl) hcs dq_W_law_333 ?_
  refine qz_aload_n X 2 rfl dq_W_law_336 ?_
  refine qz_aload_n X 3 rfl dq_W_law_337 ?_
  refine qz_iload_n X 0 rfl dq_W_law_338 ?_
  refine qz_iconst X (v := (1 : Int32)) (by decide) dq_W_law_339 ?_
  refine qz_iadd X dq_W_law_340 ?_
  refine qz_sld X hX hbA dq_W_law_341 h (fun h => ?_)
  refine qz_aload_n X 3 rfl dq_W_law_342 ?_
  refine qz_iload_n X 0 rfl dq_W_law_343 ?_
  refine qz_iconst X (v := (2 : Int32)) (by decide) dq_W_law_344 ?_
  refine qz_iadd X dq_W_law_345 ?_
  refine qz_sld X hX hbA dq_W_law_346 h (fun h => ?_)
  refine qz_aload_n X 3 rfl dq_W_law_347 ?_
  refine qz_iload_n X 0 rfl dq_W_law_348 ?_
  refine qz_iconst X (v := (3 : Int32)) (by decide) dq_W_law_349 ?_
  refine qz_iadd X dq_W_law_350 ?_
  refine qz_sld X hX hbA dq_W_law_351 h (fun h => ?_)
  refine qz_aload_n X 3 rfl dq_W_law_352 ?_
  refine qz_iload_n X 0 rfl dq_W_law_353 ?_
  refine qz_iconst X (v := (4 : Int32)) (by decide) dq_W_law_354 ?_
  refine qz_iadd X dq_W_law_355 ?_
  refine qz_sld X hX hbA dq_W_law_356 h (fun h => ?_)
  refine qz_bind h (fun q20 e21 h => ?_)
  refine qz_callV X (as := [.int (xs (x3 + (1 : Int32)).toNatClampNeg), .int (xs (x3 + (2 : Int32)).toNatClampNeg), .int (xs (x3 + (3 : Int32)).toNatClampNeg), .int (xs (x3 + (4 : Int32)).toNatClampNeg)]) (st := [.int q18.1]) (o := some (.int q20.1)) (N' := q20.2) cq_W_38 hy2 (cM_pool l G X.2.2.2.2.2.2.1 y2 (xs (x3 + (1 : Int32)).toNatClampNeg) (xs (x3 + (2 : Int32)).toNatClampNeg) (xs (x3 + (3 : Int32)).toNatClampNeg) (xs (x3 + (4 : Int32)).toNatClampNeg) q18.2 hy2 _ e21) ⟨by decide, by decide⟩ rfl rfl (Nat.le_of_ble_eq_true rfl) hcs dq_W_law_357 ?_
  refine qz_icmp_eq X (tgt := 1754) (by decide) dq_W_law_360 h (fun _ h => ?_) (fun _ h => ?_)
  · refine qz_sub [0, 1, 2, 3] rfl ?_
    exact sW_law_1754 X hX hbA hA hcs hr1 y1 y2 hy1 hy2 k18 hk18 q20.2 x3 h
  · refine qz_iconst X (v := (0 : Int32)) (by decide) dq_W_law_363 ?_
    exact qz_lawret X hA hcs hr1 h dq_W_law_364
set_option maxRecDepth 100000 in
set_option maxHeartbeats 4000000 in
theorem sW_law_365 {p : Program} {l : Launch} {e : Env} {s : State} {m : MethodId} {below : List Frame} {meth : Method} {c : Code} {G : qz_G} {b : Nat} {H0 : Heap} {cells slots : Nat} (X : qz_X p s m #[Value.ref b] meth c "ExactCurvesLaw" code 4 ret G) {xs : Nat → Int32} {L : Nat} (hX : va_X b L xs s H0) (hbA : ¬ qz_A G b) (hA : ∀ a, qz_A G a → s.heap.size ≤ a) (hcs : cells ≤ 600000 ∧ slots ≤ 7302250) {r : (Int32 × qz_N)} (hr1 : r.1 = 1) (y1 : Nat) (y2 : Nat) (hy1 : y1 < 1) (hy2 : y2 < 1) (k18 : qz_N × Int32 → Option (Int32 × qz_N)) (hk18 : ∀ a, k18 a = some r → qz_W p l e room_1 s m #[Value.ref b] below meth c cells slots (lw_Z below #[Value.ref b] s) G H0 4 a.1 18 [(3, .int a.2), (1, .ref (G.2.2 0 y1)), (2, .ref (G.2.2 7 y2)), (0, .ref b)] []) (N : qz_N) (x3 : Int32) (h : fW_law_365 xs L y1 y2 k18 N x3 = some r) : qz_W p l e room_1 s m #[Value.ref b] below meth c cells slots (lw_Z below #[Value.ref b] s) G H0 4 N 365 [(3, .int x3), (1, .ref (G.2.2 0 y1)), (2, .ref (G.2.2 7 y2)), (0, .ref b)] [] := by
  unfold fW_law_365 at h
  refine qz_aload_n X 1 rfl dq_W_law_365 ?_
  refine qz_aload_n X 3 rfl dq_W_law_366 ?_
  refine qz_iload_n X 0 rfl dq_W_law_367 ?_
  refine qz_iconst X (v := (1 : Int32)) (by decide) dq_W_law_368 ?_
  refine qz_iadd X dq_W_law_369 ?_
  refine qz_sld X hX hbA dq_W_law_370 h (fun h => ?_)
  refine qz_aload_n X 3 rfl dq_W_law_371 ?_
  refine qz_iload_n X 0 rfl dq_W_law_372 ?_
  refine qz_iconst X (v := (2 : Int32)) (by decide) dq_W_law_373 ?_
  refine qz_iadd X dq_W_law_374 ?_
  refine qz_sld X hX hbA dq_W_law_375 h (fun h => ?_)
  refine qz_bind h (fun q22 e23 h => ?_)
  refine qz_callV X (as := [.int (xs (x3 + (1 : Int32)).toNatClampNeg), .int (xs (x3 + (2 : Int32)).toNatClampNeg)]) (st := []) (o := some (.long q22.1)) (N' := q22.2) cq_W_39 hy1 (cE_of l G X.2.2.2.2.2.2.1 y1 (xs (x3 + (1 : Int32)).toNatClampNeg) (xs (x3 + (2 : Int32)).toNatClampNeg) N hy1 _ e23) ⟨by decide, by decide⟩ rfl rfl (Nat.le_of_ble_eq_true rfl) hcs dq_W_law_376 ?_
  refine qz_aload_n X 2 rfl dq_W_law_379 ?_
  refine qz_aload_n X 3 rfl dq_W_law_380 ?_
  refine qz_iload_n X 0 rfl dq_W_law_381 ?_
  refine qz_iconst X (v := (1 : Int32)) (by decide) dq_W_law_382 ?_
  refine qz_iadd X dq_W_law_383 ?_
  refine qz_sld X hX hbA dq_W_law_384 h (fun h => ?_)
  refine qz_aload_n X 3 rfl dq_W_law_385 ?_
  refine qz_iload_n X 0 rfl dq_W_law_386 ?_
  refine qz_iconst X (v := (2 : Int32)) (by decide) dq_W_law_387 ?_
  refine qz_iadd X dq_W_law_388 ?_
  refine qz_sld X hX hbA dq_W_law_389 h (fun h => ?_)
  refine qz_bind h (fun q24 e25 h => ?_)
  refine qz_callV X (as := [.int (xs (x3 + (1 : Int32)).toNatClampNeg), .int (xs (x3 + (2 : Int32)).toNatClampNeg)]) (st := [.long q22.1]) (o := some (.long q24.1)) (N' := q24.2) cq_W_42 hy2 (cM_of l G X.2.2.2.2.2.2.1 y2 (xs (x3 + (1 : Int32)).toNatClampNeg) (xs (x3 + (2 : Int32)).toNatClampNeg) q22.2 hy2 _ e25) ⟨by decide, by decide⟩ rfl rfl (Nat.le_of_ble_eq_true rfl) hcs dq_W_law_390 ?_
  refine qz_lcmp_eq X (tgt := 1754) (by decide) dq_W_law_393 dq_W_law_394 h (fun _ h => ?_) (fun _ h => ?_)
  · refine qz_sub [0, 1, 2, 3] rfl ?_
    exact sW_law_1754 X hX hbA hA hcs hr1 y1 y2 hy1 hy2 k18 hk18 q24.2 x3 h
  · refine qz_iconst X (v := (0 : Int32)) (by decide) dq_W_law_397 ?_
    exact qz_lawret X hA hcs hr1 h dq_W_law_398
set_option maxRecDepth 100000 in
set_option maxHeartbeats 4000000 in
theorem sW_law_399 {p : Program} {l : Launch} {e : Env} {s : State} {m : MethodId} {below : List Frame} {meth : Method} {c : Code} {G : qz_G} {b : Nat} {H0 : Heap} {cells slots : Nat} (X : qz_X p s m #[Value.ref b] meth c "ExactCurvesLaw" code 4 ret G) {xs : Nat → Int32} {L : Nat} (hX : va_X b L xs s H0) (hbA : ¬ qz_A G b) (hA : ∀ a, qz_A G a → s.heap.size ≤ a) (hcs : cells ≤ 600000 ∧ slots ≤ 7302250) {r : (Int32 × qz_N)} (hr1 : r.1 = 1) (y1 : Nat) (y2 : Nat) (hy1 : y1 < 1) (hy2 : y2 < 1) (k18 : qz_N × Int32 → Option (Int32 × qz_N)) (hk18 : ∀ a, k18 a = some r → qz_W p l e room_1 s m #[Value.ref b] below meth c cells slots (lw_Z below #[Value.ref b] s) G H0 4 a.1 18 [(3, .int a.2), (1, .ref (G.2.2 0 y1)), (2, .ref (G.2.2 7 y2)), (0, .ref b)] []) (N : qz_N) (x3 : Int32) (h : fW_law_399 xs L y1 y2 k18 N x3 = some r) : qz_W p l e room_1 s m #[Value.ref b] below meth c cells slots (lw_Z below #[Value.ref b] s) G H0 4 N 399 [(3, .int x3), (1, .ref (G.2.2 0 y1)), (2, .ref (G.2.2 7 y2)), (0, .ref b)] [] := by
  unfold fW_law_399 at h
  refine qz_aload_n X 1 rfl dq_W_law_399 ?_
  refine qz_aload_n X 3 rfl dq_W_law_400 ?_
  refine qz_iload_n X 0 rfl dq_W_law_401 ?_
  refine qz_iconst X (v := (1 : Int32)) (by decide) dq_W_law_402 ?_
  refine qz_iadd X dq_W_law_403 ?_
  refine qz_sld X hX hbA dq_W_law_404 h (fun h => ?_)
  refine qz_aload_n X 3 rfl dq_W_law_405 ?_
  refine qz_iload_n X 0 rfl dq_W_law_406 ?_
  refine qz_iconst X (v := (2 : Int32)) (by decide) dq_W_law_407 ?_
  refine qz_iadd X dq_W_law_408 ?_
  refine qz_sld X hX hbA dq_W_law_409 h (fun h => ?_)
  refine qz_aload_n X 3 rfl dq_W_law_410 ?_
  refine qz_iload_n X 0 rfl dq_W_law_411 ?_
  refine qz_iconst X (v := (3 : Int32)) (by decide) dq_W_law_412 ?_
  refine qz_iadd X dq_W_law_413 ?_
  refine qz_sld X hX hbA dq_W_law_414 h (fun h => ?_)
  refine qz_i2l X dq_W_law_415 ?_
  refine qz_bipush X (v := (32 : Int32)) (by decide) dq_W_law_416 ?_
  refine qz_lshl X dq_W_law_418 ?_
  refine qz_aload_n X 3 rfl dq_W_law_419 ?_
  refine qz_iload_n X 0 rfl dq_W_law_420 ?_
  refine qz_iconst X (v := (4 : Int32)) (by decide) dq_W_law_421 ?_
  refine qz_iadd X dq_W_law_422 ?_
  refine qz_sld X hX hbA dq_W_law_423 h (fun h => ?_)
  refine qz_i2l X dq_W_law_424 ?_
  refine qz_ldc2 X (v := (4294967295 : Int64)) wq_983 dq_W_law_425 ?_
  refine qz_land X dq_W_law_428 ?_
  refine qz_lor X dq_W_law_429 ?_
  refine qz_aload_n X 3 rfl dq_W_law_430 ?_
  refine qz_iload_n X 0 rfl dq_W_law_431 ?_
  refine qz_iconst X (v := (5 : Int32)) (by decide) dq_W_law_432 ?_
  refine qz_iadd X dq_W_law_433 ?_
  refine qz_sld X hX hbA dq_W_law_434 h (fun h => ?_)
  refine qz_i2l X dq_W_law_435 ?_
  refine qz_bipush X (v := (32 : Int32)) (by decide) dq_W_law_436 ?_
  refine qz_lshl X dq_W_law_438 ?_
  refine qz_aload_n X 3 rfl dq_W_law_439 ?_
  refine qz_iload_n X 0 rfl dq_W_law_440 ?_
  refine qz_bipush X (v := (6 : Int32)) (by decide) dq_W_law_441 ?_
  refine qz_iadd X dq_W_law_443 ?_
  refine qz_sld X hX hbA dq_W_law_444 h (fun h => ?_)
  refine qz_i2l X dq_W_law_445 ?_
  refine qz_ldc2 X (v := (4294967295 : Int64)) wq_983 dq_W_law_446 ?_
  refine qz_land X dq_W_law_449 ?_
  refine qz_lor X dq_W_law_450 ?_
  refine qz_bind h (fun q26 e27 h => ?_)
  refine qz_callV X (as := [.int (xs (x3 + (1 : Int32)).toNatClampNeg), .int (xs (x3 + (2 : Int32)).toNatClampNeg), .long ((((xs (x3 + (3 : Int32)).toNatClampNeg).toInt64) <<< ((32 : Int32).toInt64 &&& 63)) ||| (((xs (x3 + (4 : Int32)).toNatClampNeg).toInt64) &&& (4294967295 : Int64))), .long ((((xs (x3 + (5 : Int32)).toNatClampNeg).toInt64) <<< ((32 : Int32).toInt64 &&& 63)) ||| (((xs (x3 + (6 : Int32)).toNatClampNeg).toInt64) &&& (4294967295 : Int64)))]) (st := []) (o := some (.long q26.1)) (N' := q26.2) cq_W_43 hy1 (cE_join l G X.2.2.2.2.2.2.1 y1 (xs (x3 + (1 : Int32)).toNatClampNeg) (xs (x3 + (2 : Int32)).toNatClampNeg) ((((xs (x3 + (3 : Int32)).toNatClampNeg).toInt64) <<< ((32 : Int32).toInt64 &&& 63)) ||| (((xs (x3 + (4 : Int32)).toNatClampNeg).toInt64) &&& (4294967295 : Int64))) ((((xs (x3 + (5 : Int32)).toNatClampNeg).toInt64) <<< ((32 : Int32).toInt64 &&& 63)) ||| (((xs (x3 + (6 : Int32)).toNatClampNeg).toInt64) &&& (4294967295 : Int64))) N hy1 _ e27) ⟨by decide, by decide⟩ rfl rfl (Nat.le_of_ble_eq_true rfl) hcs dq_W_law_451 ?_
  refine qz_aload_n X 2 rfl dq_W_law_454 ?_
  refine qz_aload_n X 3 rfl dq_W_law_455 ?_
  refine qz_iload_n X 0 rfl dq_W_law_456 ?_
  refine qz_iconst X (v := (1 : Int32)) (by decide) dq_W_law_457 ?_
  refine qz_iadd X dq_W_law_458 ?_
  refine qz_sld X hX hbA dq_W_law_459 h (fun h => ?_)
  refine qz_aload_n X 3 rfl dq_W_law_460 ?_
  refine qz_iload_n X 0 rfl dq_W_law_461 ?_
  refine qz_iconst X (v := (2 : Int32)) (by decide) dq_W_law_462 ?_
  refine qz_iadd X dq_W_law_463 ?_
  refine qz_sld X hX hbA dq_W_law_464 h (fun h => ?_)
  refine qz_aload_n X 3 rfl dq_W_law_465 ?_
  refine qz_iload_n X 0 rfl dq_W_law_466 ?_
  refine qz_iconst X (v := (3 : Int32)) (by decide) dq_W_law_467 ?_
  refine qz_iadd X dq_W_law_468 ?_
  refine qz_sld X hX hbA dq_W_law_469 h (fun h => ?_)
  refine qz_i2l X dq_W_law_470 ?_
  refine qz_bipush X (v := (32 : Int32)) (by decide) dq_W_law_471 ?_
  refine qz_lshl X dq_W_law_473 ?_
  refine qz_aload_n X 3 rfl dq_W_law_474 ?_
  refine qz_iload_n X 0 rfl dq_W_law_475 ?_
  refine qz_iconst X (v := (4 : Int32)) (by decide) dq_W_law_476 ?_
  refine qz_iadd X dq_W_law_477 ?_
  refine qz_sld X hX hbA dq_W_law_478 h (fun h => ?_)
  refine qz_i2l X dq_W_law_479 ?_
  refine qz_ldc2 X (v := (4294967295 : Int64)) wq_983 dq_W_law_480 ?_
  refine qz_land X dq_W_law_483 ?_
  refine qz_lor X dq_W_law_484 ?_
  refine qz_aload_n X 3 rfl dq_W_law_485 ?_
  refine qz_iload_n X 0 rfl dq_W_law_486 ?_
  refine qz_iconst X (v := (5 : Int32)) (by decide) dq_W_law_487 ?_
  refine qz_iadd X dq_W_law_488 ?_
  refine qz_sld X hX hbA dq_W_law_489 h (fun h => ?_)
  refine qz_i2l X dq_W_law_490 ?_
  refine qz_bipush X (v := (32 : Int32)) (by decide) dq_W_law_491 ?_
  refine qz_lshl X dq_W_law_493 ?_
  refine qz_aload_n X 3 rfl dq_W_law_494 ?_
  refine qz_iload_n X 0 rfl dq_W_law_495 ?_
  refine qz_bipush X (v := (6 : Int32)) (by decide) dq_W_law_496 ?_
  refine qz_iadd X dq_W_law_498 ?_
  refine qz_sld X hX hbA dq_W_law_499 h (fun h => ?_)
  refine qz_i2l X dq_W_law_500 ?_
  refine qz_ldc2 X (v := (4294967295 : Int64)) wq_983 dq_W_law_501 ?_
  refine qz_land X dq_W_law_504 ?_
  refine qz_lor X dq_W_law_505 ?_
  refine qz_bind h (fun q28 e29 h => ?_)
  refine qz_callV X (as := [.int (xs (x3 + (1 : Int32)).toNatClampNeg), .int (xs (x3 + (2 : Int32)).toNatClampNeg), .long ((((xs (x3 + (3 : Int32)).toNatClampNeg).toInt64) <<< ((32 : Int32).toInt64 &&& 63)) ||| (((xs (x3 + (4 : Int32)).toNatClampNeg).toInt64) &&& (4294967295 : Int64))), .long ((((xs (x3 + (5 : Int32)).toNatClampNeg).toInt64) <<< ((32 : Int32).toInt64 &&& 63)) ||| (((xs (x3 + (6 : Int32)).toNatClampNeg).toInt64) &&& (4294967295 : Int64)))]) (st := [.long q26.1]) (o := some (.long q28.1)) (N' := q28.2) cq_W_47 hy2 (cM_join l G X.2.2.2.2.2.2.1 y2 (xs (x3 + (1 : Int32)).toNatClampNeg) (xs (x3 + (2 : Int32)).toNatClampNeg) ((((xs (x3 + (3 : Int32)).toNatClampNeg).toInt64) <<< ((32 : Int32).toInt64 &&& 63)) ||| (((xs (x3 + (4 : Int32)).toNatClampNeg).toInt64) &&& (4294967295 : Int64))) ((((xs (x3 + (5 : Int32)).toNatClampNeg).toInt64) <<< ((32 : Int32).toInt64 &&& 63)) ||| (((xs (x3 + (6 : Int32)).toNatClampNeg).toInt64) &&& (4294967295 : Int64))) q26.2 hy2 _ e29) ⟨by decide, by decide⟩ rfl rfl (Nat.le_of_ble_eq_true rfl) hcs dq_W_law_506 ?_
  refine qz_lcmp_eq X (tgt := 1754) (by decide) dq_W_law_509 dq_W_law_510 h (fun _ h => ?_) (fun _ h => ?_)
  · refine qz_sub [0, 1, 2, 3] rfl ?_
    exact sW_law_1754 X hX hbA hA hcs hr1 y1 y2 hy1 hy2 k18 hk18 q28.2 x3 h
  · refine qz_iconst X (v := (0 : Int32)) (by decide) dq_W_law_513 ?_
    exact qz_lawret X hA hcs hr1 h dq_W_law_514
set_option maxRecDepth 100000 in
set_option maxHeartbeats 4000000 in
theorem sW_law_515 {p : Program} {l : Launch} {e : Env} {s : State} {m : MethodId} {below : List Frame} {meth : Method} {c : Code} {G : qz_G} {b : Nat} {H0 : Heap} {cells slots : Nat} (X : qz_X p s m #[Value.ref b] meth c "ExactCurvesLaw" code 4 ret G) {xs : Nat → Int32} {L : Nat} (hX : va_X b L xs s H0) (hbA : ¬ qz_A G b) (hA : ∀ a, qz_A G a → s.heap.size ≤ a) (hcs : cells ≤ 600000 ∧ slots ≤ 7302250) {r : (Int32 × qz_N)} (hr1 : r.1 = 1) (y1 : Nat) (y2 : Nat) (hy1 : y1 < 1) (hy2 : y2 < 1) (k18 : qz_N × Int32 → Option (Int32 × qz_N)) (hk18 : ∀ a, k18 a = some r → qz_W p l e room_1 s m #[Value.ref b] below meth c cells slots (lw_Z below #[Value.ref b] s) G H0 4 a.1 18 [(3, .int a.2), (1, .ref (G.2.2 0 y1)), (2, .ref (G.2.2 7 y2)), (0, .ref b)] []) (N : qz_N) (x3 : Int32) (h : fW_law_515 xs L y1 y2 k18 N x3 = some r) : qz_W p l e room_1 s m #[Value.ref b] below meth c cells slots (lw_Z below #[Value.ref b] s) G H0 4 N 515 [(3, .int x3), (1, .ref (G.2.2 0 y1)), (2, .ref (G.2.2 7 y2)), (0, .ref b)] [] := by
  unfold fW_law_515 at h
  refine qz_aload_n X 1 rfl dq_W_law_515 ?_
  refine qz_aload_n X 3 rfl dq_W_law_516 ?_
  refine qz_iload_n X 0 rfl dq_W_law_517 ?_
  refine qz_iconst X (v := (1 : Int32)) (by decide) dq_W_law_518 ?_
  refine qz_iadd X dq_W_law_519 ?_
  refine qz_sld X hX hbA dq_W_law_520 h (fun h => ?_)
  refine qz_aload_n X 3 rfl dq_W_law_521 ?_
  refine qz_iload_n X 0 rfl dq_W_law_522 ?_
  refine qz_iconst X (v := (2 : Int32)) (by decide) dq_W_law_523 ?_
  refine qz_iadd X dq_W_law_524 ?_
  refine qz_sld X hX hbA dq_W_law_525 h (fun h => ?_)
  refine qz_aload_n X 3 rfl dq_W_law_526 ?_
  refine qz_iload_n X 0 rfl dq_W_law_527 ?_
  refine qz_iconst X (v := (3 : Int32)) (by decide) dq_W_law_528 ?_
  refine qz_iadd X dq_W_law_529 ?_
  refine qz_sld X hX hbA dq_W_law_530 h (fun h => ?_)
  refine qz_i2l X dq_W_law_531 ?_
  refine qz_bipush X (v := (32 : Int32)) (by decide) dq_W_law_532 ?_
  refine qz_lshl X dq_W_law_534 ?_
  refine qz_aload_n X 3 rfl dq_W_law_535 ?_
  refine qz_iload_n X 0 rfl dq_W_law_536 ?_
  refine qz_iconst X (v := (4 : Int32)) (by decide) dq_W_law_537 ?_
  refine qz_iadd X dq_W_law_538 ?_
  refine qz_sld X hX hbA dq_W_law_539 h (fun h => ?_)
  refine qz_i2l X dq_W_law_540 ?_
  refine qz_ldc2 X (v := (4294967295 : Int64)) wq_983 dq_W_law_541 ?_
  refine qz_land X dq_W_law_544 ?_
  refine qz_lor X dq_W_law_545 ?_
  refine qz_bind h (fun q30 e31 h => ?_)
  refine qz_callV X (as := [.int (xs (x3 + (1 : Int32)).toNatClampNeg), .int (xs (x3 + (2 : Int32)).toNatClampNeg), .long ((((xs (x3 + (3 : Int32)).toNatClampNeg).toInt64) <<< ((32 : Int32).toInt64 &&& 63)) ||| (((xs (x3 + (4 : Int32)).toNatClampNeg).toInt64) &&& (4294967295 : Int64)))]) (st := []) (o := some (.long q30.1)) (N' := q30.2) cq_W_48 hy1 (cE_leave l G X.2.2.2.2.2.2.1 y1 (xs (x3 + (1 : Int32)).toNatClampNeg) (xs (x3 + (2 : Int32)).toNatClampNeg) ((((xs (x3 + (3 : Int32)).toNatClampNeg).toInt64) <<< ((32 : Int32).toInt64 &&& 63)) ||| (((xs (x3 + (4 : Int32)).toNatClampNeg).toInt64) &&& (4294967295 : Int64))) N hy1 _ e31) ⟨by decide, by decide⟩ rfl rfl (Nat.le_of_ble_eq_true rfl) hcs dq_W_law_546 ?_
  refine qz_aload_n X 2 rfl dq_W_law_549 ?_
  refine qz_aload_n X 3 rfl dq_W_law_550 ?_
  refine qz_iload_n X 0 rfl dq_W_law_551 ?_
  refine qz_iconst X (v := (1 : Int32)) (by decide) dq_W_law_552 ?_
  refine qz_iadd X dq_W_law_553 ?_
  refine qz_sld X hX hbA dq_W_law_554 h (fun h => ?_)
  refine qz_aload_n X 3 rfl dq_W_law_555 ?_
  refine qz_iload_n X 0 rfl dq_W_law_556 ?_
  refine qz_iconst X (v := (2 : Int32)) (by decide) dq_W_law_557 ?_
  refine qz_iadd X dq_W_law_558 ?_
  refine qz_sld X hX hbA dq_W_law_559 h (fun h => ?_)
  refine qz_aload_n X 3 rfl dq_W_law_560 ?_
  refine qz_iload_n X 0 rfl dq_W_law_561 ?_
  refine qz_iconst X (v := (3 : Int32)) (by decide) dq_W_law_562 ?_
  refine qz_iadd X dq_W_law_563 ?_
  refine qz_sld X hX hbA dq_W_law_564 h (fun h => ?_)
  refine qz_i2l X dq_W_law_565 ?_
  refine qz_bipush X (v := (32 : Int32)) (by decide) dq_W_law_566 ?_
  refine qz_lshl X dq_W_law_568 ?_
  refine qz_aload_n X 3 rfl dq_W_law_569 ?_
  refine qz_iload_n X 0 rfl dq_W_law_570 ?_
  refine qz_iconst X (v := (4 : Int32)) (by decide) dq_W_law_571 ?_
  refine qz_iadd X dq_W_law_572 ?_
  refine qz_sld X hX hbA dq_W_law_573 h (fun h => ?_)
  refine qz_i2l X dq_W_law_574 ?_
  refine qz_ldc2 X (v := (4294967295 : Int64)) wq_983 dq_W_law_575 ?_
  refine qz_land X dq_W_law_578 ?_
  refine qz_lor X dq_W_law_579 ?_
  refine qz_bind h (fun q32 e33 h => ?_)
  refine qz_callV X (as := [.int (xs (x3 + (1 : Int32)).toNatClampNeg), .int (xs (x3 + (2 : Int32)).toNatClampNeg), .long ((((xs (x3 + (3 : Int32)).toNatClampNeg).toInt64) <<< ((32 : Int32).toInt64 &&& 63)) ||| (((xs (x3 + (4 : Int32)).toNatClampNeg).toInt64) &&& (4294967295 : Int64)))]) (st := [.long q30.1]) (o := some (.long q32.1)) (N' := q32.2) cq_W_51 hy2 (cM_leave l G X.2.2.2.2.2.2.1 y2 (xs (x3 + (1 : Int32)).toNatClampNeg) (xs (x3 + (2 : Int32)).toNatClampNeg) ((((xs (x3 + (3 : Int32)).toNatClampNeg).toInt64) <<< ((32 : Int32).toInt64 &&& 63)) ||| (((xs (x3 + (4 : Int32)).toNatClampNeg).toInt64) &&& (4294967295 : Int64))) q30.2 hy2 _ e33) ⟨by decide, by decide⟩ rfl rfl (Nat.le_of_ble_eq_true rfl) hcs dq_W_law_580 ?_
  refine qz_lcmp_eq X (tgt := 1754) (by decide) dq_W_law_583 dq_W_law_584 h (fun _ h => ?_) (fun _ h => ?_)
  · refine qz_sub [0, 1, 2, 3] rfl ?_
    exact sW_law_1754 X hX hbA hA hcs hr1 y1 y2 hy1 hy2 k18 hk18 q32.2 x3 h
  · refine qz_iconst X (v := (0 : Int32)) (by decide) dq_W_law_587 ?_
    exact qz_lawret X hA hcs hr1 h dq_W_law_588
set_option maxRecDepth 100000 in
set_option maxHeartbeats 4000000 in
theorem sW_law_589 {p : Program} {l : Launch} {e : Env} {s : State} {m : MethodId} {below : List Frame} {meth : Method} {c : Code} {G : qz_G} {b : Nat} {H0 : Heap} {cells slots : Nat} (X : qz_X p s m #[Value.ref b] meth c "ExactCurvesLaw" code 4 ret G) {xs : Nat → Int32} {L : Nat} (hX : va_X b L xs s H0) (hbA : ¬ qz_A G b) (hA : ∀ a, qz_A G a → s.heap.size ≤ a) (hcs : cells ≤ 600000 ∧ slots ≤ 7302250) {r : (Int32 × qz_N)} (hr1 : r.1 = 1) (y1 : Nat) (y2 : Nat) (hy1 : y1 < 1) (hy2 : y2 < 1) (k18 : qz_N × Int32 → Option (Int32 × qz_N)) (hk18 : ∀ a, k18 a = some r → qz_W p l e room_1 s m #[Value.ref b] below meth c cells slots (lw_Z below #[Value.ref b] s) G H0 4 a.1 18 [(3, .int a.2), (1, .ref (G.2.2 0 y1)), (2, .ref (G.2.2 7 y2)), (0, .ref b)] []) (N : qz_N) (x3 : Int32) (h : fW_law_589 xs L y1 y2 k18 N x3 = some r) : qz_W p l e room_1 s m #[Value.ref b] below meth c cells slots (lw_Z below #[Value.ref b] s) G H0 4 N 589 [(3, .int x3), (1, .ref (G.2.2 0 y1)), (2, .ref (G.2.2 7 y2)), (0, .ref b)] [] := by
  unfold fW_law_589 at h
  refine qz_aload_n X 1 rfl dq_W_law_589 ?_
  refine qz_aload_n X 3 rfl dq_W_law_590 ?_
  refine qz_iload_n X 0 rfl dq_W_law_591 ?_
  refine qz_iconst X (v := (1 : Int32)) (by decide) dq_W_law_592 ?_
  refine qz_iadd X dq_W_law_593 ?_
  refine qz_sld X hX hbA dq_W_law_594 h (fun h => ?_)
  refine qz_aload_n X 3 rfl dq_W_law_595 ?_
  refine qz_iload_n X 0 rfl dq_W_law_596 ?_
  refine qz_iconst X (v := (2 : Int32)) (by decide) dq_W_law_597 ?_
  refine qz_iadd X dq_W_law_598 ?_
  refine qz_sld X hX hbA dq_W_law_599 h (fun h => ?_)
  refine qz_aload_n X 3 rfl dq_W_law_600 ?_
  refine qz_iload_n X 0 rfl dq_W_law_601 ?_
  refine qz_iconst X (v := (3 : Int32)) (by decide) dq_W_law_602 ?_
  refine qz_iadd X dq_W_law_603 ?_
  refine qz_sld X hX hbA dq_W_law_604 h (fun h => ?_)
  refine qz_aload_n X 3 rfl dq_W_law_605 ?_
  refine qz_iload_n X 0 rfl dq_W_law_606 ?_
  refine qz_iconst X (v := (4 : Int32)) (by decide) dq_W_law_607 ?_
  refine qz_iadd X dq_W_law_608 ?_
  refine qz_sld X hX hbA dq_W_law_609 h (fun h => ?_)
  refine qz_i2l X dq_W_law_610 ?_
  refine qz_bipush X (v := (32 : Int32)) (by decide) dq_W_law_611 ?_
  refine qz_lshl X dq_W_law_613 ?_
  refine qz_aload_n X 3 rfl dq_W_law_614 ?_
  refine qz_iload_n X 0 rfl dq_W_law_615 ?_
  refine qz_iconst X (v := (5 : Int32)) (by decide) dq_W_law_616 ?_
  refine qz_iadd X dq_W_law_617 ?_
  refine qz_sld X hX hbA dq_W_law_618 h (fun h => ?_)
  refine qz_i2l X dq_W_law_619 ?_
  refine qz_ldc2 X (v := (4294967295 : Int64)) wq_983 dq_W_law_620 ?_
  refine qz_land X dq_W_law_623 ?_
  refine qz_lor X dq_W_law_624 ?_
  refine qz_bind h (fun q34 e35 h => ?_)
  refine qz_callV X (as := [.int (xs (x3 + (1 : Int32)).toNatClampNeg), .int (xs (x3 + (2 : Int32)).toNatClampNeg), .int (xs (x3 + (3 : Int32)).toNatClampNeg), .long ((((xs (x3 + (4 : Int32)).toNatClampNeg).toInt64) <<< ((32 : Int32).toInt64 &&& 63)) ||| (((xs (x3 + (5 : Int32)).toNatClampNeg).toInt64) &&& (4294967295 : Int64)))]) (st := []) (o := some (.long q34.1)) (N' := q34.2) cq_W_52 hy1 (cE_swap l G X.2.2.2.2.2.2.1 y1 (xs (x3 + (1 : Int32)).toNatClampNeg) (xs (x3 + (2 : Int32)).toNatClampNeg) (xs (x3 + (3 : Int32)).toNatClampNeg) ((((xs (x3 + (4 : Int32)).toNatClampNeg).toInt64) <<< ((32 : Int32).toInt64 &&& 63)) ||| (((xs (x3 + (5 : Int32)).toNatClampNeg).toInt64) &&& (4294967295 : Int64))) N hy1 _ e35) ⟨by decide, by decide⟩ rfl rfl (Nat.le_of_ble_eq_true rfl) hcs dq_W_law_625 ?_
  refine qz_aload_n X 2 rfl dq_W_law_628 ?_
  refine qz_aload_n X 3 rfl dq_W_law_629 ?_
  refine qz_iload_n X 0 rfl dq_W_law_630 ?_
  refine qz_iconst X (v := (1 : Int32)) (by decide) dq_W_law_631 ?_
  refine qz_iadd X dq_W_law_632 ?_
  refine qz_sld X hX hbA dq_W_law_633 h (fun h => ?_)
  refine qz_aload_n X 3 rfl dq_W_law_634 ?_
  refine qz_iload_n X 0 rfl dq_W_law_635 ?_
  refine qz_iconst X (v := (2 : Int32)) (by decide) dq_W_law_636 ?_
  refine qz_iadd X dq_W_law_637 ?_
  refine qz_sld X hX hbA dq_W_law_638 h (fun h => ?_)
  refine qz_aload_n X 3 rfl dq_W_law_639 ?_
  refine qz_iload_n X 0 rfl dq_W_law_640 ?_
  refine qz_iconst X (v := (3 : Int32)) (by decide) dq_W_law_641 ?_
  refine qz_iadd X dq_W_law_642 ?_
  refine qz_sld X hX hbA dq_W_law_643 h (fun h => ?_)
  refine qz_aload_n X 3 rfl dq_W_law_644 ?_
  refine qz_iload_n X 0 rfl dq_W_law_645 ?_
  refine qz_iconst X (v := (4 : Int32)) (by decide) dq_W_law_646 ?_
  refine qz_iadd X dq_W_law_647 ?_
  refine qz_sld X hX hbA dq_W_law_648 h (fun h => ?_)
  refine qz_i2l X dq_W_law_649 ?_
  refine qz_bipush X (v := (32 : Int32)) (by decide) dq_W_law_650 ?_
  refine qz_lshl X dq_W_law_652 ?_
  refine qz_aload_n X 3 rfl dq_W_law_653 ?_
  refine qz_iload_n X 0 rfl dq_W_law_654 ?_
  refine qz_iconst X (v := (5 : Int32)) (by decide) dq_W_law_655 ?_
  refine qz_iadd X dq_W_law_656 ?_
  refine qz_sld X hX hbA dq_W_law_657 h (fun h => ?_)
  refine qz_i2l X dq_W_law_658 ?_
  refine qz_ldc2 X (v := (4294967295 : Int64)) wq_983 dq_W_law_659 ?_
  refine qz_land X dq_W_law_662 ?_
  refine qz_lor X dq_W_law_663 ?_
  refine qz_bind h (fun q36 e37 h => ?_)
  refine qz_callV X (as := [.int (xs (x3 + (1 : Int32)).toNatClampNeg), .int (xs (x3 + (2 : Int32)).toNatClampNeg), .int (xs (x3 + (3 : Int32)).toNatClampNeg), .long ((((xs (x3 + (4 : Int32)).toNatClampNeg).toInt64) <<< ((32 : Int32).toInt64 &&& 63)) ||| (((xs (x3 + (5 : Int32)).toNatClampNeg).toInt64) &&& (4294967295 : Int64)))]) (st := [.long q34.1]) (o := some (.long q36.1)) (N' := q36.2) cq_W_56 hy2 (cM_swap l G X.2.2.2.2.2.2.1 y2 (xs (x3 + (1 : Int32)).toNatClampNeg) (xs (x3 + (2 : Int32)).toNatClampNeg) (xs (x3 + (3 : Int32)).toNatClampNeg) ((((xs (x3 + (4 : Int32)).toNatClampNeg).toInt64) <<< ((32 : Int32).toInt64 &&& 63)) ||| (((xs (x3 + (5 : Int32)).toNatClampNeg).toInt64) &&& (4294967295 : Int64))) q34.2 hy2 _ e37) ⟨by decide, by decide⟩ rfl rfl (Nat.le_of_ble_eq_true rfl) hcs dq_W_law_664 ?_
  refine qz_lcmp_eq X (tgt := 1754) (by decide) dq_W_law_667 dq_W_law_668 h (fun _ h => ?_) (fun _ h => ?_)
  · refine qz_sub [0, 1, 2, 3] rfl ?_
    exact sW_law_1754 X hX hbA hA hcs hr1 y1 y2 hy1 hy2 k18 hk18 q36.2 x3 h
  · refine qz_iconst X (v := (0 : Int32)) (by decide) dq_W_law_671 ?_
    exact qz_lawret X hA hcs hr1 h dq_W_law_672
set_option maxRecDepth 100000 in
set_option maxHeartbeats 4000000 in
theorem sW_law_673 {p : Program} {l : Launch} {e : Env} {s : State} {m : MethodId} {below : List Frame} {meth : Method} {c : Code} {G : qz_G} {b : Nat} {H0 : Heap} {cells slots : Nat} (X : qz_X p s m #[Value.ref b] meth c "ExactCurvesLaw" code 4 ret G) {xs : Nat → Int32} {L : Nat} (hX : va_X b L xs s H0) (hbA : ¬ qz_A G b) (hA : ∀ a, qz_A G a → s.heap.size ≤ a) (hcs : cells ≤ 600000 ∧ slots ≤ 7302250) {r : (Int32 × qz_N)} (hr1 : r.1 = 1) (y1 : Nat) (y2 : Nat) (hy1 : y1 < 1) (hy2 : y2 < 1) (k18 : qz_N × Int32 → Option (Int32 × qz_N)) (hk18 : ∀ a, k18 a = some r → qz_W p l e room_1 s m #[Value.ref b] below meth c cells slots (lw_Z below #[Value.ref b] s) G H0 4 a.1 18 [(3, .int a.2), (1, .ref (G.2.2 0 y1)), (2, .ref (G.2.2 7 y2)), (0, .ref b)] []) (N : qz_N) (x3 : Int32) (h : fW_law_673 xs L y1 y2 k18 N x3 = some r) : qz_W p l e room_1 s m #[Value.ref b] below meth c cells slots (lw_Z below #[Value.ref b] s) G H0 4 N 673 [(3, .int x3), (1, .ref (G.2.2 0 y1)), (2, .ref (G.2.2 7 y2)), (0, .ref b)] [] := by
  unfold fW_law_673 at h
  refine qz_aload_n X 1 rfl dq_W_law_673 ?_
  refine qz_aload_n X 3 rfl dq_W_law_674 ?_
  refine qz_iload_n X 0 rfl dq_W_law_675 ?_
  refine qz_iconst X (v := (1 : Int32)) (by decide) dq_W_law_676 ?_
  refine qz_iadd X dq_W_law_677 ?_
  refine qz_sld X hX hbA dq_W_law_678 h (fun h => ?_)
  refine qz_aload_n X 3 rfl dq_W_law_679 ?_
  refine qz_iload_n X 0 rfl dq_W_law_680 ?_
  refine qz_iconst X (v := (2 : Int32)) (by decide) dq_W_law_681 ?_
  refine qz_iadd X dq_W_law_682 ?_
  refine qz_sld X hX hbA dq_W_law_683 h (fun h => ?_)
  refine qz_aload_n X 3 rfl dq_W_law_684 ?_
  refine qz_iload_n X 0 rfl dq_W_law_685 ?_
  refine qz_iconst X (v := (3 : Int32)) (by decide) dq_W_law_686 ?_
  refine qz_iadd X dq_W_law_687 ?_
  refine qz_sld X hX hbA dq_W_law_688 h (fun h => ?_)
  refine qz_i2l X dq_W_law_689 ?_
  refine qz_bipush X (v := (32 : Int32)) (by decide) dq_W_law_690 ?_
  refine qz_lshl X dq_W_law_692 ?_
  refine qz_aload_n X 3 rfl dq_W_law_693 ?_
  refine qz_iload_n X 0 rfl dq_W_law_694 ?_
  refine qz_iconst X (v := (4 : Int32)) (by decide) dq_W_law_695 ?_
  refine qz_iadd X dq_W_law_696 ?_
  refine qz_sld X hX hbA dq_W_law_697 h (fun h => ?_)
  refine qz_i2l X dq_W_law_698 ?_
  refine qz_ldc2 X (v := (4294967295 : Int64)) wq_983 dq_W_law_699 ?_
  refine qz_land X dq_W_law_702 ?_
  refine qz_lor X dq_W_law_703 ?_
  refine qz_bind h (fun q38 e39 h => ?_)
  refine qz_callV X (as := [.int (xs (x3 + (1 : Int32)).toNatClampNeg), .int (xs (x3 + (2 : Int32)).toNatClampNeg), .long ((((xs (x3 + (3 : Int32)).toNatClampNeg).toInt64) <<< ((32 : Int32).toInt64 &&& 63)) ||| (((xs (x3 + (4 : Int32)).toNatClampNeg).toInt64) &&& (4294967295 : Int64)))]) (st := []) (o := some (.long q38.1)) (N' := q38.2) cq_W_57 hy1 (cE_quote l G X.2.2.2.2.2.2.1 y1 (xs (x3 + (1 : Int32)).toNatClampNeg) (xs (x3 + (2 : Int32)).toNatClampNeg) ((((xs (x3 + (3 : Int32)).toNatClampNeg).toInt64) <<< ((32 : Int32).toInt64 &&& 63)) ||| (((xs (x3 + (4 : Int32)).toNatClampNeg).toInt64) &&& (4294967295 : Int64))) N hy1 _ e39) ⟨by decide, by decide⟩ rfl rfl (Nat.le_of_ble_eq_true rfl) hcs dq_W_law_704 ?_
  refine qz_aload_n X 2 rfl dq_W_law_707 ?_
  refine qz_aload_n X 3 rfl dq_W_law_708 ?_
  refine qz_iload_n X 0 rfl dq_W_law_709 ?_
  refine qz_iconst X (v := (1 : Int32)) (by decide) dq_W_law_710 ?_
  refine qz_iadd X dq_W_law_711 ?_
  refine qz_sld X hX hbA dq_W_law_712 h (fun h => ?_)
  refine qz_aload_n X 3 rfl dq_W_law_713 ?_
  refine qz_iload_n X 0 rfl dq_W_law_714 ?_
  refine qz_iconst X (v := (2 : Int32)) (by decide) dq_W_law_715 ?_
  refine qz_iadd X dq_W_law_716 ?_
  refine qz_sld X hX hbA dq_W_law_717 h (fun h => ?_)
  refine qz_aload_n X 3 rfl dq_W_law_718 ?_
  refine qz_iload_n X 0 rfl dq_W_law_719 ?_
  refine qz_iconst X (v := (3 : Int32)) (by decide) dq_W_law_720 ?_
  refine qz_iadd X dq_W_law_721 ?_
  refine qz_sld X hX hbA dq_W_law_722 h (fun h => ?_)
  refine qz_i2l X dq_W_law_723 ?_
  refine qz_bipush X (v := (32 : Int32)) (by decide) dq_W_law_724 ?_
  refine qz_lshl X dq_W_law_726 ?_
  refine qz_aload_n X 3 rfl dq_W_law_727 ?_
  refine qz_iload_n X 0 rfl dq_W_law_728 ?_
  refine qz_iconst X (v := (4 : Int32)) (by decide) dq_W_law_729 ?_
  refine qz_iadd X dq_W_law_730 ?_
  refine qz_sld X hX hbA dq_W_law_731 h (fun h => ?_)
  refine qz_i2l X dq_W_law_732 ?_
  refine qz_ldc2 X (v := (4294967295 : Int64)) wq_983 dq_W_law_733 ?_
  refine qz_land X dq_W_law_736 ?_
  refine qz_lor X dq_W_law_737 ?_
  refine qz_bind h (fun q40 e41 h => ?_)
  refine qz_callV X (as := [.int (xs (x3 + (1 : Int32)).toNatClampNeg), .int (xs (x3 + (2 : Int32)).toNatClampNeg), .long ((((xs (x3 + (3 : Int32)).toNatClampNeg).toInt64) <<< ((32 : Int32).toInt64 &&& 63)) ||| (((xs (x3 + (4 : Int32)).toNatClampNeg).toInt64) &&& (4294967295 : Int64)))]) (st := [.long q38.1]) (o := some (.long q40.1)) (N' := q40.2) cq_W_60 hy2 (cM_quote l G X.2.2.2.2.2.2.1 y2 (xs (x3 + (1 : Int32)).toNatClampNeg) (xs (x3 + (2 : Int32)).toNatClampNeg) ((((xs (x3 + (3 : Int32)).toNatClampNeg).toInt64) <<< ((32 : Int32).toInt64 &&& 63)) ||| (((xs (x3 + (4 : Int32)).toNatClampNeg).toInt64) &&& (4294967295 : Int64))) q38.2 hy2 _ e41) ⟨by decide, by decide⟩ rfl rfl (Nat.le_of_ble_eq_true rfl) hcs dq_W_law_738 ?_
  refine qz_lcmp_eq X (tgt := 1754) (by decide) dq_W_law_741 dq_W_law_742 h (fun _ h => ?_) (fun _ h => ?_)
  · refine qz_sub [0, 1, 2, 3] rfl ?_
    exact sW_law_1754 X hX hbA hA hcs hr1 y1 y2 hy1 hy2 k18 hk18 q40.2 x3 h
  · refine qz_iconst X (v := (0 : Int32)) (by decide) dq_W_law_745 ?_
    exact qz_lawret X hA hcs hr1 h dq_W_law_746
set_option maxRecDepth 100000 in
set_option maxHeartbeats 4000000 in
theorem sW_law_747 {p : Program} {l : Launch} {e : Env} {s : State} {m : MethodId} {below : List Frame} {meth : Method} {c : Code} {G : qz_G} {b : Nat} {H0 : Heap} {cells slots : Nat} (X : qz_X p s m #[Value.ref b] meth c "ExactCurvesLaw" code 4 ret G) {xs : Nat → Int32} {L : Nat} (hX : va_X b L xs s H0) (hbA : ¬ qz_A G b) (hA : ∀ a, qz_A G a → s.heap.size ≤ a) (hcs : cells ≤ 600000 ∧ slots ≤ 7302250) {r : (Int32 × qz_N)} (hr1 : r.1 = 1) (y1 : Nat) (y2 : Nat) (hy1 : y1 < 1) (hy2 : y2 < 1) (k18 : qz_N × Int32 → Option (Int32 × qz_N)) (hk18 : ∀ a, k18 a = some r → qz_W p l e room_1 s m #[Value.ref b] below meth c cells slots (lw_Z below #[Value.ref b] s) G H0 4 a.1 18 [(3, .int a.2), (1, .ref (G.2.2 0 y1)), (2, .ref (G.2.2 7 y2)), (0, .ref b)] []) (N : qz_N) (x3 : Int32) (h : fW_law_747 xs L y1 y2 k18 N x3 = some r) : qz_W p l e room_1 s m #[Value.ref b] below meth c cells slots (lw_Z below #[Value.ref b] s) G H0 4 N 747 [(3, .int x3), (1, .ref (G.2.2 0 y1)), (2, .ref (G.2.2 7 y2)), (0, .ref b)] [] := by
  unfold fW_law_747 at h
  refine qz_aload_n X 1 rfl dq_W_law_747 ?_
  refine qz_aload_n X 3 rfl dq_W_law_748 ?_
  refine qz_iload_n X 0 rfl dq_W_law_749 ?_
  refine qz_iconst X (v := (1 : Int32)) (by decide) dq_W_law_750 ?_
  refine qz_iadd X dq_W_law_751 ?_
  refine qz_sld X hX hbA dq_W_law_752 h (fun h => ?_)
  refine qz_aload_n X 3 rfl dq_W_law_753 ?_
  refine qz_iload_n X 0 rfl dq_W_law_754 ?_
  refine qz_iconst X (v := (2 : Int32)) (by decide) dq_W_law_755 ?_
  refine qz_iadd X dq_W_law_756 ?_
  refine qz_sld X hX hbA dq_W_law_757 h (fun h => ?_)
  refine qz_aload_n X 3 rfl dq_W_law_758 ?_
  refine qz_iload_n X 0 rfl dq_W_law_759 ?_
  refine qz_iconst X (v := (3 : Int32)) (by decide) dq_W_law_760 ?_
  refine qz_iadd X dq_W_law_761 ?_
  refine qz_sld X hX hbA dq_W_law_762 h (fun h => ?_)
  refine qz_i2l X dq_W_law_763 ?_
  refine qz_bipush X (v := (32 : Int32)) (by decide) dq_W_law_764 ?_
  refine qz_lshl X dq_W_law_766 ?_
  refine qz_aload_n X 3 rfl dq_W_law_767 ?_
  refine qz_iload_n X 0 rfl dq_W_law_768 ?_
  refine qz_iconst X (v := (4 : Int32)) (by decide) dq_W_law_769 ?_
  refine qz_iadd X dq_W_law_770 ?_
  refine qz_sld X hX hbA dq_W_law_771 h (fun h => ?_)
  refine qz_i2l X dq_W_law_772 ?_
  refine qz_ldc2 X (v := (4294967295 : Int64)) wq_983 dq_W_law_773 ?_
  refine qz_land X dq_W_law_776 ?_
  refine qz_lor X dq_W_law_777 ?_
  refine qz_aload_n X 3 rfl dq_W_law_778 ?_
  refine qz_iload_n X 0 rfl dq_W_law_779 ?_
  refine qz_iconst X (v := (5 : Int32)) (by decide) dq_W_law_780 ?_
  refine qz_iadd X dq_W_law_781 ?_
  refine qz_sld X hX hbA dq_W_law_782 h (fun h => ?_)
  refine qz_i2l X dq_W_law_783 ?_
  refine qz_bipush X (v := (32 : Int32)) (by decide) dq_W_law_784 ?_
  refine qz_lshl X dq_W_law_786 ?_
  refine qz_aload_n X 3 rfl dq_W_law_787 ?_
  refine qz_iload_n X 0 rfl dq_W_law_788 ?_
  refine qz_bipush X (v := (6 : Int32)) (by decide) dq_W_law_789 ?_
  refine qz_iadd X dq_W_law_791 ?_
  refine qz_sld X hX hbA dq_W_law_792 h (fun h => ?_)
  refine qz_i2l X dq_W_law_793 ?_
  refine qz_ldc2 X (v := (4294967295 : Int64)) wq_983 dq_W_law_794 ?_
  refine qz_land X dq_W_law_797 ?_
  refine qz_lor X dq_W_law_798 ?_
  refine qz_aload_n X 3 rfl dq_W_law_799 ?_
  refine qz_iload_n X 0 rfl dq_W_law_800 ?_
  refine qz_bipush X (v := (7 : Int32)) (by decide) dq_W_law_801 ?_
  refine qz_iadd X dq_W_law_803 ?_
  refine qz_sld X hX hbA dq_W_law_804 h (fun h => ?_)
  refine qz_i2l X dq_W_law_805 ?_
  refine qz_bipush X (v := (32 : Int32)) (by decide) dq_W_law_806 ?_
  refine qz_lshl X dq_W_law_808 ?_
  refine qz_aload_n X 3 rfl dq_W_law_809 ?_
  refine qz_iload_n X 0 rfl dq_W_law_810 ?_
  refine qz_bipush X (v := (8 : Int32)) (by decide) dq_W_law_811 ?_
  refine qz_iadd X dq_W_law_813 ?_
  refine qz_sld X hX hbA dq_W_law_814 h (fun h => ?_)
  refine qz_i2l X dq_W_law_815 ?_
  refine qz_ldc2 X (v := (4294967295 : Int64)) wq_983 dq_W_law_816 ?_
  refine qz_land X dq_W_law_819 ?_
  refine qz_lor X dq_W_law_820 ?_
  refine qz_aload_n X 3 rfl dq_W_law_821 ?_
  refine qz_iload_n X 0 rfl dq_W_law_822 ?_
  refine qz_bipush X (v := (9 : Int32)) (by decide) dq_W_law_823 ?_
  refine qz_iadd X dq_W_law_825 ?_
  refine qz_sld X hX hbA dq_W_law_826 h (fun h => ?_)
  refine qz_i2l X dq_W_law_827 ?_
  refine qz_bipush X (v := (32 : Int32)) (by decide) dq_W_law_828 ?_
  refine qz_lshl X dq_W_law_830 ?_
  refine qz_aload_n X 3 rfl dq_W_law_831 ?_
  refine qz_iload_n X 0 rfl dq_W_law_832 ?_
  refine qz_bipush X (v := (10 : Int32)) (by decide) dq_W_law_833 ?_
  refine qz_iadd X dq_W_law_835 ?_
  refine qz_sld X hX hbA dq_W_law_836 h (fun h => ?_)
  refine qz_i2l X dq_W_law_837 ?_
  refine qz_ldc2 X (v := (4294967295 : Int64)) wq_983 dq_W_law_838 ?_
  refine qz_land X dq_W_law_841 ?_
  refine qz_lor X dq_W_law_842 ?_
  refine qz_bind h (fun q42 e43 h => ?_)
  refine qz_callV X (as := [.int (xs (x3 + (1 : Int32)).toNatClampNeg), .int (xs (x3 + (2 : Int32)).toNatClampNeg), .long ((((xs (x3 + (3 : Int32)).toNatClampNeg).toInt64) <<< ((32 : Int32).toInt64 &&& 63)) ||| (((xs (x3 + (4 : Int32)).toNatClampNeg).toInt64) &&& (4294967295 : Int64))), .long ((((xs (x3 + (5 : Int32)).toNatClampNeg).toInt64) <<< ((32 : Int32).toInt64 &&& 63)) ||| (((xs (x3 + (6 : Int32)).toNatClampNeg).toInt64) &&& (4294967295 : Int64))), .long ((((xs (x3 + (7 : Int32)).toNatClampNeg).toInt64) <<< ((32 : Int32).toInt64 &&& 63)) ||| (((xs (x3 + (8 : Int32)).toNatClampNeg).toInt64) &&& (4294967295 : Int64))), .long ((((xs (x3 + (9 : Int32)).toNatClampNeg).toInt64) <<< ((32 : Int32).toInt64 &&& 63)) ||| (((xs (x3 + (10 : Int32)).toNatClampNeg).toInt64) &&& (4294967295 : Int64)))]) (st := []) (o := some (.int q42.1)) (N' := q42.2) cq_W_61 hy1 (cE_flash l G X.2.2.2.2.2.2.1 y1 (xs (x3 + (1 : Int32)).toNatClampNeg) (xs (x3 + (2 : Int32)).toNatClampNeg) ((((xs (x3 + (3 : Int32)).toNatClampNeg).toInt64) <<< ((32 : Int32).toInt64 &&& 63)) ||| (((xs (x3 + (4 : Int32)).toNatClampNeg).toInt64) &&& (4294967295 : Int64))) ((((xs (x3 + (5 : Int32)).toNatClampNeg).toInt64) <<< ((32 : Int32).toInt64 &&& 63)) ||| (((xs (x3 + (6 : Int32)).toNatClampNeg).toInt64) &&& (4294967295 : Int64))) ((((xs (x3 + (7 : Int32)).toNatClampNeg).toInt64) <<< ((32 : Int32).toInt64 &&& 63)) ||| (((xs (x3 + (8 : Int32)).toNatClampNeg).toInt64) &&& (4294967295 : Int64))) ((((xs (x3 + (9 : Int32)).toNatClampNeg).toInt64) <<< ((32 : Int32).toInt64 &&& 63)) ||| (((xs (x3 + (10 : Int32)).toNatClampNeg).toInt64) &&& (4294967295 : Int64))) N hy1 _ e43) ⟨by decide, by decide⟩ rfl rfl (Nat.le_of_ble_eq_true rfl) hcs dq_W_law_843 ?_
  refine qz_aload_n X 2 rfl dq_W_law_846 ?_
  refine qz_aload_n X 3 rfl dq_W_law_847 ?_
  refine qz_iload_n X 0 rfl dq_W_law_848 ?_
  refine qz_iconst X (v := (1 : Int32)) (by decide) dq_W_law_849 ?_
  refine qz_iadd X dq_W_law_850 ?_
  refine qz_sld X hX hbA dq_W_law_851 h (fun h => ?_)
  refine qz_aload_n X 3 rfl dq_W_law_852 ?_
  refine qz_iload_n X 0 rfl dq_W_law_853 ?_
  refine qz_iconst X (v := (2 : Int32)) (by decide) dq_W_law_854 ?_
  refine qz_iadd X dq_W_law_855 ?_
  refine qz_sld X hX hbA dq_W_law_856 h (fun h => ?_)
  refine qz_aload_n X 3 rfl dq_W_law_857 ?_
  refine qz_iload_n X 0 rfl dq_W_law_858 ?_
  refine qz_iconst X (v := (3 : Int32)) (by decide) dq_W_law_859 ?_
  refine qz_iadd X dq_W_law_860 ?_
  refine qz_sld X hX hbA dq_W_law_861 h (fun h => ?_)
  refine qz_i2l X dq_W_law_862 ?_
  refine qz_bipush X (v := (32 : Int32)) (by decide) dq_W_law_863 ?_
  refine qz_lshl X dq_W_law_865 ?_
  refine qz_aload_n X 3 rfl dq_W_law_866 ?_
  refine qz_iload_n X 0 rfl dq_W_law_867 ?_
  refine qz_iconst X (v := (4 : Int32)) (by decide) dq_W_law_868 ?_
  refine qz_iadd X dq_W_law_869 ?_
  refine qz_sld X hX hbA dq_W_law_870 h (fun h => ?_)
  refine qz_i2l X dq_W_law_871 ?_
  refine qz_ldc2 X (v := (4294967295 : Int64)) wq_983 dq_W_law_872 ?_
  refine qz_land X dq_W_law_875 ?_
  refine qz_lor X dq_W_law_876 ?_
  refine qz_aload_n X 3 rfl dq_W_law_877 ?_
  refine qz_iload_n X 0 rfl dq_W_law_878 ?_
  refine qz_iconst X (v := (5 : Int32)) (by decide) dq_W_law_879 ?_
  refine qz_iadd X dq_W_law_880 ?_
  refine qz_sld X hX hbA dq_W_law_881 h (fun h => ?_)
  refine qz_i2l X dq_W_law_882 ?_
  refine qz_bipush X (v := (32 : Int32)) (by decide) dq_W_law_883 ?_
  refine qz_lshl X dq_W_law_885 ?_
  refine qz_aload_n X 3 rfl dq_W_law_886 ?_
  refine qz_iload_n X 0 rfl dq_W_law_887 ?_
  refine qz_bipush X (v := (6 : Int32)) (by decide) dq_W_law_888 ?_
  refine qz_iadd X dq_W_law_890 ?_
  refine qz_sld X hX hbA dq_W_law_891 h (fun h => ?_)
  refine qz_i2l X dq_W_law_892 ?_
  refine qz_ldc2 X (v := (4294967295 : Int64)) wq_983 dq_W_law_893 ?_
  refine qz_land X dq_W_law_896 ?_
  refine qz_lor X dq_W_law_897 ?_
  refine qz_aload_n X 3 rfl dq_W_law_898 ?_
  refine qz_iload_n X 0 rfl dq_W_law_899 ?_
  refine qz_bipush X (v := (7 : Int32)) (by decide) dq_W_law_900 ?_
  refine qz_iadd X dq_W_law_902 ?_
  refine qz_sld X hX hbA dq_W_law_903 h (fun h => ?_)
  refine qz_i2l X dq_W_law_904 ?_
  refine qz_bipush X (v := (32 : Int32)) (by decide) dq_W_law_905 ?_
  refine qz_lshl X dq_W_law_907 ?_
  refine qz_aload_n X 3 rfl dq_W_law_908 ?_
  refine qz_iload_n X 0 rfl dq_W_law_909 ?_
  refine qz_bipush X (v := (8 : Int32)) (by decide) dq_W_law_910 ?_
  refine qz_iadd X dq_W_law_912 ?_
  refine qz_sld X hX hbA dq_W_law_913 h (fun h => ?_)
  refine qz_i2l X dq_W_law_914 ?_
  refine qz_ldc2 X (v := (4294967295 : Int64)) wq_983 dq_W_law_915 ?_
  refine qz_land X dq_W_law_918 ?_
  refine qz_lor X dq_W_law_919 ?_
  refine qz_aload_n X 3 rfl dq_W_law_920 ?_
  refine qz_iload_n X 0 rfl dq_W_law_921 ?_
  refine qz_bipush X (v := (9 : Int32)) (by decide) dq_W_law_922 ?_
  refine qz_iadd X dq_W_law_924 ?_
  refine qz_sld X hX hbA dq_W_law_925 h (fun h => ?_)
  refine qz_i2l X dq_W_law_926 ?_
  refine qz_bipush X (v := (32 : Int32)) (by decide) dq_W_law_927 ?_
  refine qz_lshl X dq_W_law_929 ?_
  refine qz_aload_n X 3 rfl dq_W_law_930 ?_
  refine qz_iload_n X 0 rfl dq_W_law_931 ?_
  refine qz_bipush X (v := (10 : Int32)) (by decide) dq_W_law_932 ?_
  refine qz_iadd X dq_W_law_934 ?_
  refine qz_sld X hX hbA dq_W_law_935 h (fun h => ?_)
  refine qz_i2l X dq_W_law_936 ?_
  refine qz_ldc2 X (v := (4294967295 : Int64)) wq_983 dq_W_law_937 ?_
  refine qz_land X dq_W_law_940 ?_
  refine qz_lor X dq_W_law_941 ?_
  refine qz_bind h (fun q44 e45 h => ?_)
  refine qz_callV X (as := [.int (xs (x3 + (1 : Int32)).toNatClampNeg), .int (xs (x3 + (2 : Int32)).toNatClampNeg), .long ((((xs (x3 + (3 : Int32)).toNatClampNeg).toInt64) <<< ((32 : Int32).toInt64 &&& 63)) ||| (((xs (x3 + (4 : Int32)).toNatClampNeg).toInt64) &&& (4294967295 : Int64))), .long ((((xs (x3 + (5 : Int32)).toNatClampNeg).toInt64) <<< ((32 : Int32).toInt64 &&& 63)) ||| (((xs (x3 + (6 : Int32)).toNatClampNeg).toInt64) &&& (4294967295 : Int64))), .long ((((xs (x3 + (7 : Int32)).toNatClampNeg).toInt64) <<< ((32 : Int32).toInt64 &&& 63)) ||| (((xs (x3 + (8 : Int32)).toNatClampNeg).toInt64) &&& (4294967295 : Int64))), .long ((((xs (x3 + (9 : Int32)).toNatClampNeg).toInt64) <<< ((32 : Int32).toInt64 &&& 63)) ||| (((xs (x3 + (10 : Int32)).toNatClampNeg).toInt64) &&& (4294967295 : Int64)))]) (st := [.int q42.1]) (o := some (.int q44.1)) (N' := q44.2) cq_W_65 hy2 (cM_flash l G X.2.2.2.2.2.2.1 y2 (xs (x3 + (1 : Int32)).toNatClampNeg) (xs (x3 + (2 : Int32)).toNatClampNeg) ((((xs (x3 + (3 : Int32)).toNatClampNeg).toInt64) <<< ((32 : Int32).toInt64 &&& 63)) ||| (((xs (x3 + (4 : Int32)).toNatClampNeg).toInt64) &&& (4294967295 : Int64))) ((((xs (x3 + (5 : Int32)).toNatClampNeg).toInt64) <<< ((32 : Int32).toInt64 &&& 63)) ||| (((xs (x3 + (6 : Int32)).toNatClampNeg).toInt64) &&& (4294967295 : Int64))) ((((xs (x3 + (7 : Int32)).toNatClampNeg).toInt64) <<< ((32 : Int32).toInt64 &&& 63)) ||| (((xs (x3 + (8 : Int32)).toNatClampNeg).toInt64) &&& (4294967295 : Int64))) ((((xs (x3 + (9 : Int32)).toNatClampNeg).toInt64) <<< ((32 : Int32).toInt64 &&& 63)) ||| (((xs (x3 + (10 : Int32)).toNatClampNeg).toInt64) &&& (4294967295 : Int64))) q42.2 hy2 _ e45) ⟨by decide, by decide⟩ rfl rfl (Nat.le_of_ble_eq_true rfl) hcs dq_W_law_942 ?_
  refine qz_icmp_eq X (tgt := 1754) (by decide) dq_W_law_945 h (fun _ h => ?_) (fun _ h => ?_)
  · refine qz_sub [0, 1, 2, 3] rfl ?_
    exact sW_law_1754 X hX hbA hA hcs hr1 y1 y2 hy1 hy2 k18 hk18 q44.2 x3 h
  · refine qz_iconst X (v := (0 : Int32)) (by decide) dq_W_law_948 ?_
    exact qz_lawret X hA hcs hr1 h dq_W_law_949
set_option maxRecDepth 100000 in
set_option maxHeartbeats 4000000 in
theorem sW_law_950 {p : Program} {l : Launch} {e : Env} {s : State} {m : MethodId} {below : List Frame} {meth : Method} {c : Code} {G : qz_G} {b : Nat} {H0 : Heap} {cells slots : Nat} (X : qz_X p s m #[Value.ref b] meth c "ExactCurvesLaw" code 4 ret G) {xs : Nat → Int32} {L : Nat} (hX : va_X b L xs s H0) (hbA : ¬ qz_A G b) (hA : ∀ a, qz_A G a → s.heap.size ≤ a) (hcs : cells ≤ 600000 ∧ slots ≤ 7302250) {r : (Int32 × qz_N)} (hr1 : r.1 = 1) (y1 : Nat) (y2 : Nat) (hy1 : y1 < 1) (hy2 : y2 < 1) (k18 : qz_N × Int32 → Option (Int32 × qz_N)) (hk18 : ∀ a, k18 a = some r → qz_W p l e room_1 s m #[Value.ref b] below meth c cells slots (lw_Z below #[Value.ref b] s) G H0 4 a.1 18 [(3, .int a.2), (1, .ref (G.2.2 0 y1)), (2, .ref (G.2.2 7 y2)), (0, .ref b)] []) (N : qz_N) (x3 : Int32) (h : fW_law_950 xs L y1 y2 k18 N x3 = some r) : qz_W p l e room_1 s m #[Value.ref b] below meth c cells slots (lw_Z below #[Value.ref b] s) G H0 4 N 950 [(3, .int x3), (1, .ref (G.2.2 0 y1)), (2, .ref (G.2.2 7 y2)), (0, .ref b)] [] := by
  unfold fW_law_950 at h
  refine qz_aload_n X 1 rfl dq_W_law_950 ?_
  refine qz_aload_n X 3 rfl dq_W_law_951 ?_
  refine qz_iload_n X 0 rfl dq_W_law_952 ?_
  refine qz_iconst X (v := (1 : Int32)) (by decide) dq_W_law_953 ?_
  refine qz_iadd X dq_W_law_954 ?_
  refine qz_sld X hX hbA dq_W_law_955 h (fun h => ?_)
  refine qz_bind h (fun q46 e47 h => ?_)
  refine qz_callV X (as := [.int (xs (x3 + (1 : Int32)).toNatClampNeg)]) (st := []) (o := some (.int q46.1)) (N' := q46.2) cq_W_66 hy1 (cE_tick l G X.2.2.2.2.2.2.1 y1 (xs (x3 + (1 : Int32)).toNatClampNeg) N hy1 _ e47) ⟨by decide, by decide⟩ rfl rfl (Nat.le_of_ble_eq_true rfl) hcs dq_W_law_956 ?_
  refine qz_aload_n X 2 rfl dq_W_law_959 ?_
  refine qz_aload_n X 3 rfl dq_W_law_960 ?_
  refine qz_iload_n X 0 rfl dq_W_law_961 ?_
  refine qz_iconst X (v := (1 : Int32)) (by decide) dq_W_law_962 ?_
  refine qz_iadd X dq_W_law_963 ?_
  refine qz_sld X hX hbA dq_W_law_964 h (fun h => ?_)
  refine qz_bind h (fun q48 e49 h => ?_)
  refine qz_callV X (as := [.int (xs (x3 + (1 : Int32)).toNatClampNeg)]) (st := [.int q46.1]) (o := some (.int q48.1)) (N' := q48.2) cq_W_70 hy2 (cM_tick l G X.2.2.2.2.2.2.1 y2 (xs (x3 + (1 : Int32)).toNatClampNeg) q46.2 hy2 _ e49) ⟨by decide, by decide⟩ rfl rfl (Nat.le_of_ble_eq_true rfl) hcs dq_W_law_965 ?_
  refine qz_icmp_eq X (tgt := 1754) (by decide) dq_W_law_968 h (fun _ h => ?_) (fun _ h => ?_)
  · refine qz_sub [0, 1, 2, 3] rfl ?_
    exact sW_law_1754 X hX hbA hA hcs hr1 y1 y2 hy1 hy2 k18 hk18 q48.2 x3 h
  · refine qz_iconst X (v := (0 : Int32)) (by decide) dq_W_law_971 ?_
    exact qz_lawret X hA hcs hr1 h dq_W_law_972
set_option maxRecDepth 100000 in
set_option maxHeartbeats 4000000 in
theorem sW_law_973 {p : Program} {l : Launch} {e : Env} {s : State} {m : MethodId} {below : List Frame} {meth : Method} {c : Code} {G : qz_G} {b : Nat} {H0 : Heap} {cells slots : Nat} (X : qz_X p s m #[Value.ref b] meth c "ExactCurvesLaw" code 4 ret G) {xs : Nat → Int32} {L : Nat} (hX : va_X b L xs s H0) (hbA : ¬ qz_A G b) (hA : ∀ a, qz_A G a → s.heap.size ≤ a) (hcs : cells ≤ 600000 ∧ slots ≤ 7302250) {r : (Int32 × qz_N)} (hr1 : r.1 = 1) (y1 : Nat) (y2 : Nat) (hy1 : y1 < 1) (hy2 : y2 < 1) (k18 : qz_N × Int32 → Option (Int32 × qz_N)) (hk18 : ∀ a, k18 a = some r → qz_W p l e room_1 s m #[Value.ref b] below meth c cells slots (lw_Z below #[Value.ref b] s) G H0 4 a.1 18 [(3, .int a.2), (1, .ref (G.2.2 0 y1)), (2, .ref (G.2.2 7 y2)), (0, .ref b)] []) (N : qz_N) (x3 : Int32) (h : fW_law_973 xs L y1 y2 k18 N x3 = some r) : qz_W p l e room_1 s m #[Value.ref b] below meth c cells slots (lw_Z below #[Value.ref b] s) G H0 4 N 973 [(3, .int x3), (1, .ref (G.2.2 0 y1)), (2, .ref (G.2.2 7 y2)), (0, .ref b)] [] := by
  unfold fW_law_973 at h
  refine qz_aload_n X 1 rfl dq_W_law_973 ?_
  refine qz_aload_n X 3 rfl dq_W_law_974 ?_
  refine qz_iload_n X 0 rfl dq_W_law_975 ?_
  refine qz_iconst X (v := (1 : Int32)) (by decide) dq_W_law_976 ?_
  refine qz_iadd X dq_W_law_977 ?_
  refine qz_sld X hX hbA dq_W_law_978 h (fun h => ?_)
  refine qz_aload_n X 3 rfl dq_W_law_979 ?_
  refine qz_iload_n X 0 rfl dq_W_law_980 ?_
  refine qz_iconst X (v := (2 : Int32)) (by decide) dq_W_law_981 ?_
  refine qz_iadd X dq_W_law_982 ?_
  refine qz_sld X hX hbA dq_W_law_983 h (fun h => ?_)
  refine qz_bind h (fun q50 e51 h => ?_)
  refine qz_callV X (as := [.int (xs (x3 + (1 : Int32)).toNatClampNeg), .int (xs (x3 + (2 : Int32)).toNatClampNeg)]) (st := []) (o := some (.int q50.1)) (N' := q50.2) cq_W_71 hy1 (cE_mark l G X.2.2.2.2.2.2.1 y1 (xs (x3 + (1 : Int32)).toNatClampNeg) (xs (x3 + (2 : Int32)).toNatClampNeg) N hy1 _ e51) ⟨by decide, by decide⟩ rfl rfl (Nat.le_of_ble_eq_true rfl) hcs dq_W_law_984 ?_
  refine qz_aload_n X 2 rfl dq_W_law_987 ?_
  refine qz_aload_n X 3 rfl dq_W_law_988 ?_
  refine qz_iload_n X 0 rfl dq_W_law_989 ?_
  refine qz_iconst X (v := (1 : Int32)) (by decide) dq_W_law_990 ?_
  refine qz_iadd X dq_W_law_991 ?_
  refine qz_sld X hX hbA dq_W_law_992 h (fun h => ?_)
  refine qz_aload_n X 3 rfl dq_W_law_993 ?_
  refine qz_iload_n X 0 rfl dq_W_law_994 ?_
  refine qz_iconst X (v := (2 : Int32)) (by decide) dq_W_law_995 ?_
  refine qz_iadd X dq_W_law_996 ?_
  refine qz_sld X hX hbA dq_W_law_997 h (fun h => ?_)
  refine qz_bind h (fun q52 e53 h => ?_)
  refine qz_callV X (as := [.int (xs (x3 + (1 : Int32)).toNatClampNeg), .int (xs (x3 + (2 : Int32)).toNatClampNeg)]) (st := [.int q50.1]) (o := some (.int q52.1)) (N' := q52.2) cq_W_75 hy2 (cM_mark l G X.2.2.2.2.2.2.1 y2 (xs (x3 + (1 : Int32)).toNatClampNeg) (xs (x3 + (2 : Int32)).toNatClampNeg) q50.2 hy2 _ e53) ⟨by decide, by decide⟩ rfl rfl (Nat.le_of_ble_eq_true rfl) hcs dq_W_law_998 ?_
  refine qz_icmp_eq X (tgt := 1754) (by decide) dq_W_law_1001 h (fun _ h => ?_) (fun _ h => ?_)
  · refine qz_sub [0, 1, 2, 3] rfl ?_
    exact sW_law_1754 X hX hbA hA hcs hr1 y1 y2 hy1 hy2 k18 hk18 q52.2 x3 h
  · refine qz_iconst X (v := (0 : Int32)) (by decide) dq_W_law_1004 ?_
    exact qz_lawret X hA hcs hr1 h dq_W_law_1005
set_option maxRecDepth 100000 in
set_option maxHeartbeats 4000000 in
theorem sW_law_1006 {p : Program} {l : Launch} {e : Env} {s : State} {m : MethodId} {below : List Frame} {meth : Method} {c : Code} {G : qz_G} {b : Nat} {H0 : Heap} {cells slots : Nat} (X : qz_X p s m #[Value.ref b] meth c "ExactCurvesLaw" code 4 ret G) {xs : Nat → Int32} {L : Nat} (hX : va_X b L xs s H0) (hbA : ¬ qz_A G b) (hA : ∀ a, qz_A G a → s.heap.size ≤ a) (hcs : cells ≤ 600000 ∧ slots ≤ 7302250) {r : (Int32 × qz_N)} (hr1 : r.1 = 1) (y1 : Nat) (y2 : Nat) (hy1 : y1 < 1) (hy2 : y2 < 1) (k18 : qz_N × Int32 → Option (Int32 × qz_N)) (hk18 : ∀ a, k18 a = some r → qz_W p l e room_1 s m #[Value.ref b] below meth c cells slots (lw_Z below #[Value.ref b] s) G H0 4 a.1 18 [(3, .int a.2), (1, .ref (G.2.2 0 y1)), (2, .ref (G.2.2 7 y2)), (0, .ref b)] []) (N : qz_N) (x3 : Int32) (h : fW_law_1006 xs L y1 y2 k18 N x3 = some r) : qz_W p l e room_1 s m #[Value.ref b] below meth c cells slots (lw_Z below #[Value.ref b] s) G H0 4 N 1006 [(3, .int x3), (1, .ref (G.2.2 0 y1)), (2, .ref (G.2.2 7 y2)), (0, .ref b)] [] := by
  unfold fW_law_1006 at h
  refine qz_aload_n X 1 rfl dq_W_law_1006 ?_
  refine qz_aload_n X 3 rfl dq_W_law_1007 ?_
  refine qz_iload_n X 0 rfl dq_W_law_1008 ?_
  refine qz_iconst X (v := (1 : Int32)) (by decide) dq_W_law_1009 ?_
  refine qz_iadd X dq_W_law_1010 ?_
  refine qz_sld X hX hbA dq_W_law_1011 h (fun h => ?_)
  refine qz_bind h (fun q54 e55 h => ?_)
  refine qz_callV X (as := [.int (xs (x3 + (1 : Int32)).toNatClampNeg)]) (st := []) (o := some (.long q54.1)) (N' := q54.2) cq_W_76 hy1 (cE_mean l G X.2.2.2.2.2.2.1 y1 (xs (x3 + (1 : Int32)).toNatClampNeg) N hy1 _ e55) ⟨by decide, by decide⟩ rfl rfl (Nat.le_of_ble_eq_true rfl) hcs dq_W_law_1012 ?_
  refine qz_aload_n X 2 rfl dq_W_law_1015 ?_
  refine qz_aload_n X 3 rfl dq_W_law_1016 ?_
  refine qz_iload_n X 0 rfl dq_W_law_1017 ?_
  refine qz_iconst X (v := (1 : Int32)) (by decide) dq_W_law_1018 ?_
  refine qz_iadd X dq_W_law_1019 ?_
  refine qz_sld X hX hbA dq_W_law_1020 h (fun h => ?_)
  refine qz_bind h (fun q56 e57 h => ?_)
  refine qz_callV X (as := [.int (xs (x3 + (1 : Int32)).toNatClampNeg)]) (st := [.long q54.1]) (o := some (.long q56.1)) (N' := q56.2) cq_W_79 hy2 (cM_mean l G X.2.2.2.2.2.2.1 y2 (xs (x3 + (1 : Int32)).toNatClampNeg) q54.2 hy2 _ e57) ⟨by decide, by decide⟩ rfl rfl (Nat.le_of_ble_eq_true rfl) hcs dq_W_law_1021 ?_
  refine qz_lcmp_eq X (tgt := 1754) (by decide) dq_W_law_1024 dq_W_law_1025 h (fun _ h => ?_) (fun _ h => ?_)
  · refine qz_sub [0, 1, 2, 3] rfl ?_
    exact sW_law_1754 X hX hbA hA hcs hr1 y1 y2 hy1 hy2 k18 hk18 q56.2 x3 h
  · refine qz_iconst X (v := (0 : Int32)) (by decide) dq_W_law_1028 ?_
    exact qz_lawret X hA hcs hr1 h dq_W_law_1029
set_option maxRecDepth 100000 in
set_option maxHeartbeats 4000000 in
theorem sW_law_1030 {p : Program} {l : Launch} {e : Env} {s : State} {m : MethodId} {below : List Frame} {meth : Method} {c : Code} {G : qz_G} {b : Nat} {H0 : Heap} {cells slots : Nat} (X : qz_X p s m #[Value.ref b] meth c "ExactCurvesLaw" code 4 ret G) {xs : Nat → Int32} {L : Nat} (hX : va_X b L xs s H0) (hbA : ¬ qz_A G b) (hA : ∀ a, qz_A G a → s.heap.size ≤ a) (hcs : cells ≤ 600000 ∧ slots ≤ 7302250) {r : (Int32 × qz_N)} (hr1 : r.1 = 1) (y1 : Nat) (y2 : Nat) (hy1 : y1 < 1) (hy2 : y2 < 1) (k18 : qz_N × Int32 → Option (Int32 × qz_N)) (hk18 : ∀ a, k18 a = some r → qz_W p l e room_1 s m #[Value.ref b] below meth c cells slots (lw_Z below #[Value.ref b] s) G H0 4 a.1 18 [(3, .int a.2), (1, .ref (G.2.2 0 y1)), (2, .ref (G.2.2 7 y2)), (0, .ref b)] []) (N : qz_N) (x3 : Int32) (h : fW_law_1030 xs L y1 y2 k18 N x3 = some r) : qz_W p l e room_1 s m #[Value.ref b] below meth c cells slots (lw_Z below #[Value.ref b] s) G H0 4 N 1030 [(3, .int x3), (1, .ref (G.2.2 0 y1)), (2, .ref (G.2.2 7 y2)), (0, .ref b)] [] := by
  unfold fW_law_1030 at h
  refine qz_aload_n X 1 rfl dq_W_law_1030 ?_
  refine qz_aload_n X 3 rfl dq_W_law_1031 ?_
  refine qz_iload_n X 0 rfl dq_W_law_1032 ?_
  refine qz_iconst X (v := (1 : Int32)) (by decide) dq_W_law_1033 ?_
  refine qz_iadd X dq_W_law_1034 ?_
  refine qz_sld X hX hbA dq_W_law_1035 h (fun h => ?_)
  refine qz_aload_n X 3 rfl dq_W_law_1036 ?_
  refine qz_iload_n X 0 rfl dq_W_law_1037 ?_
  refine qz_iconst X (v := (2 : Int32)) (by decide) dq_W_law_1038 ?_
  refine qz_iadd X dq_W_law_1039 ?_
  refine qz_sld X hX hbA dq_W_law_1040 h (fun h => ?_)
  refine qz_bind h (fun q58 e59 h => ?_)
  refine qz_callV X (as := [.int (xs (x3 + (1 : Int32)).toNatClampNeg), .int (xs (x3 + (2 : Int32)).toNatClampNeg)]) (st := []) (o := some (.int q58.1)) (N' := q58.2) cq_W_80 hy1 (cE_batch l G X.2.2.2.2.2.2.1 y1 (xs (x3 + (1 : Int32)).toNatClampNeg) (xs (x3 + (2 : Int32)).toNatClampNeg) N hy1 _ e59) ⟨by decide, by decide⟩ rfl rfl (Nat.le_of_ble_eq_true rfl) hcs dq_W_law_1041 ?_
  refine qz_aload_n X 2 rfl dq_W_law_1044 ?_
  refine qz_aload_n X 3 rfl dq_W_law_1045 ?_
  refine qz_iload_n X 0 rfl dq_W_law_1046 ?_
  refine qz_iconst X (v := (1 : Int32)) (by decide) dq_W_law_1047 ?_
  refine qz_iadd X dq_W_law_1048 ?_
  refine qz_sld X hX hbA dq_W_law_1049 h (fun h => ?_)
  refine qz_aload_n X 3 rfl dq_W_law_1050 ?_
  refine qz_iload_n X 0 rfl dq_W_law_1051 ?_
  refine qz_iconst X (v := (2 : Int32)) (by decide) dq_W_law_1052 ?_
  refine qz_iadd X dq_W_law_1053 ?_
  refine qz_sld X hX hbA dq_W_law_1054 h (fun h => ?_)
  refine qz_bind h (fun q60 e61 h => ?_)
  refine qz_callV X (as := [.int (xs (x3 + (1 : Int32)).toNatClampNeg), .int (xs (x3 + (2 : Int32)).toNatClampNeg)]) (st := [.int q58.1]) (o := some (.int q60.1)) (N' := q60.2) cq_W_83 hy2 (cM_batch l G X.2.2.2.2.2.2.1 y2 (xs (x3 + (1 : Int32)).toNatClampNeg) (xs (x3 + (2 : Int32)).toNatClampNeg) q58.2 hy2 _ e61) ⟨by decide, by decide⟩ rfl rfl (Nat.le_of_ble_eq_true rfl) hcs dq_W_law_1055 ?_
  refine qz_icmp_eq X (tgt := 1754) (by decide) dq_W_law_1058 h (fun _ h => ?_) (fun _ h => ?_)
  · refine qz_sub [0, 1, 2, 3] rfl ?_
    exact sW_law_1754 X hX hbA hA hcs hr1 y1 y2 hy1 hy2 k18 hk18 q60.2 x3 h
  · refine qz_iconst X (v := (0 : Int32)) (by decide) dq_W_law_1061 ?_
    exact qz_lawret X hA hcs hr1 h dq_W_law_1062
set_option maxRecDepth 100000 in
set_option maxHeartbeats 4000000 in
theorem sW_law_1063 {p : Program} {l : Launch} {e : Env} {s : State} {m : MethodId} {below : List Frame} {meth : Method} {c : Code} {G : qz_G} {b : Nat} {H0 : Heap} {cells slots : Nat} (X : qz_X p s m #[Value.ref b] meth c "ExactCurvesLaw" code 4 ret G) {xs : Nat → Int32} {L : Nat} (hX : va_X b L xs s H0) (hbA : ¬ qz_A G b) (hA : ∀ a, qz_A G a → s.heap.size ≤ a) (hcs : cells ≤ 600000 ∧ slots ≤ 7302250) {r : (Int32 × qz_N)} (hr1 : r.1 = 1) (y1 : Nat) (y2 : Nat) (hy1 : y1 < 1) (hy2 : y2 < 1) (k18 : qz_N × Int32 → Option (Int32 × qz_N)) (hk18 : ∀ a, k18 a = some r → qz_W p l e room_1 s m #[Value.ref b] below meth c cells slots (lw_Z below #[Value.ref b] s) G H0 4 a.1 18 [(3, .int a.2), (1, .ref (G.2.2 0 y1)), (2, .ref (G.2.2 7 y2)), (0, .ref b)] []) (N : qz_N) (x3 : Int32) (h : fW_law_1063 xs L y1 y2 k18 N x3 = some r) : qz_W p l e room_1 s m #[Value.ref b] below meth c cells slots (lw_Z below #[Value.ref b] s) G H0 4 N 1063 [(3, .int x3), (1, .ref (G.2.2 0 y1)), (2, .ref (G.2.2 7 y2)), (0, .ref b)] [] := by
  unfold fW_law_1063 at h
  refine qz_aload_n X 1 rfl dq_W_law_1063 ?_
  refine qz_aload_n X 3 rfl dq_W_law_1064 ?_
  refine qz_iload_n X 0 rfl dq_W_law_1065 ?_
  refine qz_iconst X (v := (1 : Int32)) (by decide) dq_W_law_1066 ?_
  refine qz_iadd X dq_W_law_1067 ?_
  refine qz_sld X hX hbA dq_W_law_1068 h (fun h => ?_)
  refine qz_aload_n X 3 rfl dq_W_law_1069 ?_
  refine qz_iload_n X 0 rfl dq_W_law_1070 ?_
  refine qz_iconst X (v := (2 : Int32)) (by decide) dq_W_law_1071 ?_
  refine qz_iadd X dq_W_law_1072 ?_
  refine qz_sld X hX hbA dq_W_law_1073 h (fun h => ?_)
  refine qz_aload_n X 3 rfl dq_W_law_1074 ?_
  refine qz_iload_n X 0 rfl dq_W_law_1075 ?_
  refine qz_iconst X (v := (3 : Int32)) (by decide) dq_W_law_1076 ?_
  refine qz_iadd X dq_W_law_1077 ?_
  refine qz_sld X hX hbA dq_W_law_1078 h (fun h => ?_)
  refine qz_i2l X dq_W_law_1079 ?_
  refine qz_bipush X (v := (32 : Int32)) (by decide) dq_W_law_1080 ?_
  refine qz_lshl X dq_W_law_1082 ?_
  refine qz_aload_n X 3 rfl dq_W_law_1083 ?_
  refine qz_iload_n X 0 rfl dq_W_law_1084 ?_
  refine qz_iconst X (v := (4 : Int32)) (by decide) dq_W_law_1085 ?_
  refine qz_iadd X dq_W_law_1086 ?_
  refine qz_sld X hX hbA dq_W_law_1087 h (fun h => ?_)
  refine qz_i2l X dq_W_law_1088 ?_
  refine qz_ldc2 X (v := (4294967295 : Int64)) wq_983 dq_W_law_1089 ?_
  refine qz_land X dq_W_law_1092 ?_
  refine qz_lor X dq_W_law_1093 ?_
  refine qz_aload_n X 3 rfl dq_W_law_1094 ?_
  refine qz_iload_n X 0 rfl dq_W_law_1095 ?_
  refine qz_iconst X (v := (5 : Int32)) (by decide) dq_W_law_1096 ?_
  refine qz_iadd X dq_W_law_1097 ?_
  refine qz_sld X hX hbA dq_W_law_1098 h (fun h => ?_)
  refine qz_i2l X dq_W_law_1099 ?_
  refine qz_bipush X (v := (32 : Int32)) (by decide) dq_W_law_1100 ?_
  refine qz_lshl X dq_W_law_1102 ?_
  refine qz_aload_n X 3 rfl dq_W_law_1103 ?_
  refine qz_iload_n X 0 rfl dq_W_law_1104 ?_
  refine qz_bipush X (v := (6 : Int32)) (by decide) dq_W_law_1105 ?_
  refine qz_iadd X dq_W_law_1107 ?_
  refine qz_sld X hX hbA dq_W_law_1108 h (fun h => ?_)
  refine qz_i2l X dq_W_law_1109 ?_
  refine qz_ldc2 X (v := (4294967295 : Int64)) wq_983 dq_W_law_1110 ?_
  refine qz_land X dq_W_law_1113 ?_
  refine qz_lor X dq_W_law_1114 ?_
  refine qz_bind h (fun q62 e63 h => ?_)
  refine qz_callV X (as := [.int (xs (x3 + (1 : Int32)).toNatClampNeg), .int (xs (x3 + (2 : Int32)).toNatClampNeg), .long ((((xs (x3 + (3 : Int32)).toNatClampNeg).toInt64) <<< ((32 : Int32).toInt64 &&& 63)) ||| (((xs (x3 + (4 : Int32)).toNatClampNeg).toInt64) &&& (4294967295 : Int64))), .long ((((xs (x3 + (5 : Int32)).toNatClampNeg).toInt64) <<< ((32 : Int32).toInt64 &&& 63)) ||| (((xs (x3 + (6 : Int32)).toNatClampNeg).toInt64) &&& (4294967295 : Int64)))]) (st := []) (o := some (.int q62.1)) (N' := q62.2) cq_W_84 hy1 (cE_order l G X.2.2.2.2.2.2.1 y1 (xs (x3 + (1 : Int32)).toNatClampNeg) (xs (x3 + (2 : Int32)).toNatClampNeg) ((((xs (x3 + (3 : Int32)).toNatClampNeg).toInt64) <<< ((32 : Int32).toInt64 &&& 63)) ||| (((xs (x3 + (4 : Int32)).toNatClampNeg).toInt64) &&& (4294967295 : Int64))) ((((xs (x3 + (5 : Int32)).toNatClampNeg).toInt64) <<< ((32 : Int32).toInt64 &&& 63)) ||| (((xs (x3 + (6 : Int32)).toNatClampNeg).toInt64) &&& (4294967295 : Int64))) N hy1 _ e63) ⟨by decide, by decide⟩ rfl rfl (Nat.le_of_ble_eq_true rfl) hcs dq_W_law_1115 ?_
  refine qz_aload_n X 2 rfl dq_W_law_1118 ?_
  refine qz_aload_n X 3 rfl dq_W_law_1119 ?_
  refine qz_iload_n X 0 rfl dq_W_law_1120 ?_
  refine qz_iconst X (v := (1 : Int32)) (by decide) dq_W_law_1121 ?_
  refine qz_iadd X dq_W_law_1122 ?_
  refine qz_sld X hX hbA dq_W_law_1123 h (fun h => ?_)
  refine qz_aload_n X 3 rfl dq_W_law_1124 ?_
  refine qz_iload_n X 0 rfl dq_W_law_1125 ?_
  refine qz_iconst X (v := (2 : Int32)) (by decide) dq_W_law_1126 ?_
  refine qz_iadd X dq_W_law_1127 ?_
  refine qz_sld X hX hbA dq_W_law_1128 h (fun h => ?_)
  refine qz_aload_n X 3 rfl dq_W_law_1129 ?_
  refine qz_iload_n X 0 rfl dq_W_law_1130 ?_
  refine qz_iconst X (v := (3 : Int32)) (by decide) dq_W_law_1131 ?_
  refine qz_iadd X dq_W_law_1132 ?_
  refine qz_sld X hX hbA dq_W_law_1133 h (fun h => ?_)
  refine qz_i2l X dq_W_law_1134 ?_
  refine qz_bipush X (v := (32 : Int32)) (by decide) dq_W_law_1135 ?_
  refine qz_lshl X dq_W_law_1137 ?_
  refine qz_aload_n X 3 rfl dq_W_law_1138 ?_
  refine qz_iload_n X 0 rfl dq_W_law_1139 ?_
  refine qz_iconst X (v := (4 : Int32)) (by decide) dq_W_law_1140 ?_
  refine qz_iadd X dq_W_law_1141 ?_
  refine qz_sld X hX hbA dq_W_law_1142 h (fun h => ?_)
  refine qz_i2l X dq_W_law_1143 ?_
  refine qz_ldc2 X (v := (4294967295 : Int64)) wq_983 dq_W_law_1144 ?_
  refine qz_land X dq_W_law_1147 ?_
  refine qz_lor X dq_W_law_1148 ?_
  refine qz_aload_n X 3 rfl dq_W_law_1149 ?_
  refine qz_iload_n X 0 rfl dq_W_law_1150 ?_
  refine qz_iconst X (v := (5 : Int32)) (by decide) dq_W_law_1151 ?_
  refine qz_iadd X dq_W_law_1152 ?_
  refine qz_sld X hX hbA dq_W_law_1153 h (fun h => ?_)
  refine qz_i2l X dq_W_law_1154 ?_
  refine qz_bipush X (v := (32 : Int32)) (by decide) dq_W_law_1155 ?_
  refine qz_lshl X dq_W_law_1157 ?_
  refine qz_aload_n X 3 rfl dq_W_law_1158 ?_
  refine qz_iload_n X 0 rfl dq_W_law_1159 ?_
  refine qz_bipush X (v := (6 : Int32)) (by decide) dq_W_law_1160 ?_
  refine qz_iadd X dq_W_law_1162 ?_
  refine qz_sld X hX hbA dq_W_law_1163 h (fun h => ?_)
  refine qz_i2l X dq_W_law_1164 ?_
  refine qz_ldc2 X (v := (4294967295 : Int64)) wq_983 dq_W_law_1165 ?_
  refine qz_land X dq_W_law_1168 ?_
  refine qz_lor X dq_W_law_1169 ?_
  refine qz_bind h (fun q64 e65 h => ?_)
  refine qz_callV X (as := [.int (xs (x3 + (1 : Int32)).toNatClampNeg), .int (xs (x3 + (2 : Int32)).toNatClampNeg), .long ((((xs (x3 + (3 : Int32)).toNatClampNeg).toInt64) <<< ((32 : Int32).toInt64 &&& 63)) ||| (((xs (x3 + (4 : Int32)).toNatClampNeg).toInt64) &&& (4294967295 : Int64))), .long ((((xs (x3 + (5 : Int32)).toNatClampNeg).toInt64) <<< ((32 : Int32).toInt64 &&& 63)) ||| (((xs (x3 + (6 : Int32)).toNatClampNeg).toInt64) &&& (4294967295 : Int64)))]) (st := [.int q62.1]) (o := some (.int q64.1)) (N' := q64.2) cq_W_88 hy2 (cM_order l G X.2.2.2.2.2.2.1 y2 (xs (x3 + (1 : Int32)).toNatClampNeg) (xs (x3 + (2 : Int32)).toNatClampNeg) ((((xs (x3 + (3 : Int32)).toNatClampNeg).toInt64) <<< ((32 : Int32).toInt64 &&& 63)) ||| (((xs (x3 + (4 : Int32)).toNatClampNeg).toInt64) &&& (4294967295 : Int64))) ((((xs (x3 + (5 : Int32)).toNatClampNeg).toInt64) <<< ((32 : Int32).toInt64 &&& 63)) ||| (((xs (x3 + (6 : Int32)).toNatClampNeg).toInt64) &&& (4294967295 : Int64))) q62.2 hy2 _ e65) ⟨by decide, by decide⟩ rfl rfl (Nat.le_of_ble_eq_true rfl) hcs dq_W_law_1170 ?_
  refine qz_icmp_eq X (tgt := 1754) (by decide) dq_W_law_1173 h (fun _ h => ?_) (fun _ h => ?_)
  · refine qz_sub [0, 1, 2, 3] rfl ?_
    exact sW_law_1754 X hX hbA hA hcs hr1 y1 y2 hy1 hy2 k18 hk18 q64.2 x3 h
  · refine qz_iconst X (v := (0 : Int32)) (by decide) dq_W_law_1176 ?_
    exact qz_lawret X hA hcs hr1 h dq_W_law_1177
set_option maxRecDepth 100000 in
set_option maxHeartbeats 4000000 in
theorem sW_law_1178 {p : Program} {l : Launch} {e : Env} {s : State} {m : MethodId} {below : List Frame} {meth : Method} {c : Code} {G : qz_G} {b : Nat} {H0 : Heap} {cells slots : Nat} (X : qz_X p s m #[Value.ref b] meth c "ExactCurvesLaw" code 4 ret G) {xs : Nat → Int32} {L : Nat} (hX : va_X b L xs s H0) (hbA : ¬ qz_A G b) (hA : ∀ a, qz_A G a → s.heap.size ≤ a) (hcs : cells ≤ 600000 ∧ slots ≤ 7302250) {r : (Int32 × qz_N)} (hr1 : r.1 = 1) (y1 : Nat) (y2 : Nat) (hy1 : y1 < 1) (hy2 : y2 < 1) (k18 : qz_N × Int32 → Option (Int32 × qz_N)) (hk18 : ∀ a, k18 a = some r → qz_W p l e room_1 s m #[Value.ref b] below meth c cells slots (lw_Z below #[Value.ref b] s) G H0 4 a.1 18 [(3, .int a.2), (1, .ref (G.2.2 0 y1)), (2, .ref (G.2.2 7 y2)), (0, .ref b)] []) (N : qz_N) (x3 : Int32) (h : fW_law_1178 xs L y1 y2 k18 N x3 = some r) : qz_W p l e room_1 s m #[Value.ref b] below meth c cells slots (lw_Z below #[Value.ref b] s) G H0 4 N 1178 [(3, .int x3), (1, .ref (G.2.2 0 y1)), (2, .ref (G.2.2 7 y2)), (0, .ref b)] [] := by
  unfold fW_law_1178 at h
  refine qz_aload_n X 1 rfl dq_W_law_1178 ?_
  refine qz_bind h (fun q66 e67 h => ?_)
  refine qz_callV X (as := []) (st := []) (o := some (.long q66.1)) (N' := q66.2) cq_W_89 hy1 (cE_clear l G X.2.2.2.2.2.2.1 y1 N hy1 _ e67) ⟨by decide, by decide⟩ rfl rfl (Nat.le_of_ble_eq_true rfl) hcs dq_W_law_1179 ?_
  refine qz_aload_n X 2 rfl dq_W_law_1182 ?_
  refine qz_bind h (fun q68 e69 h => ?_)
  refine qz_callV X (as := []) (st := [.long q66.1]) (o := some (.long q68.1)) (N' := q68.2) cq_W_93 hy2 (cM_clear l G X.2.2.2.2.2.2.1 y2 q66.2 hy2 _ e69) ⟨by decide, by decide⟩ rfl rfl (Nat.le_of_ble_eq_true rfl) hcs dq_W_law_1183 ?_
  refine qz_lcmp_eq X (tgt := 1754) (by decide) dq_W_law_1186 dq_W_law_1187 h (fun _ h => ?_) (fun _ h => ?_)
  · refine qz_sub [0, 1, 2, 3] rfl ?_
    exact sW_law_1754 X hX hbA hA hcs hr1 y1 y2 hy1 hy2 k18 hk18 q68.2 x3 h
  · refine qz_iconst X (v := (0 : Int32)) (by decide) dq_W_law_1190 ?_
    exact qz_lawret X hA hcs hr1 h dq_W_law_1191
set_option maxRecDepth 100000 in
set_option maxHeartbeats 4000000 in
theorem sW_law_1192 {p : Program} {l : Launch} {e : Env} {s : State} {m : MethodId} {below : List Frame} {meth : Method} {c : Code} {G : qz_G} {b : Nat} {H0 : Heap} {cells slots : Nat} (X : qz_X p s m #[Value.ref b] meth c "ExactCurvesLaw" code 4 ret G) {xs : Nat → Int32} {L : Nat} (hX : va_X b L xs s H0) (hbA : ¬ qz_A G b) (hA : ∀ a, qz_A G a → s.heap.size ≤ a) (hcs : cells ≤ 600000 ∧ slots ≤ 7302250) {r : (Int32 × qz_N)} (hr1 : r.1 = 1) (y1 : Nat) (y2 : Nat) (hy1 : y1 < 1) (hy2 : y2 < 1) (k18 : qz_N × Int32 → Option (Int32 × qz_N)) (hk18 : ∀ a, k18 a = some r → qz_W p l e room_1 s m #[Value.ref b] below meth c cells slots (lw_Z below #[Value.ref b] s) G H0 4 a.1 18 [(3, .int a.2), (1, .ref (G.2.2 0 y1)), (2, .ref (G.2.2 7 y2)), (0, .ref b)] []) (N : qz_N) (x3 : Int32) (h : fW_law_1192 xs L y1 y2 k18 N x3 = some r) : qz_W p l e room_1 s m #[Value.ref b] below meth c cells slots (lw_Z below #[Value.ref b] s) G H0 4 N 1192 [(3, .int x3), (1, .ref (G.2.2 0 y1)), (2, .ref (G.2.2 7 y2)), (0, .ref b)] [] := by
  unfold fW_law_1192 at h
  refine qz_aload_n X 1 rfl dq_W_law_1192 ?_
  refine qz_aload_n X 3 rfl dq_W_law_1193 ?_
  refine qz_iload_n X 0 rfl dq_W_law_1194 ?_
  refine qz_iconst X (v := (1 : Int32)) (by decide) dq_W_law_1195 ?_
  refine qz_iadd X dq_W_law_1196 ?_
  refine qz_sld X hX hbA dq_W_law_1197 h (fun h => ?_)
  refine qz_bind h (fun q70 e71 h => ?_)
  refine qz_callV X (as := [.int (xs (x3 + (1 : Int32)).toNatClampNeg)]) (st := []) (o := some (.long q70.1)) (N' := q70.2) cq_W_94 hy1 (cE_dealt l G X.2.2.2.2.2.2.1 y1 (xs (x3 + (1 : Int32)).toNatClampNeg) N hy1 _ e71) ⟨by decide, by decide⟩ rfl rfl (Nat.le_of_ble_eq_true rfl) hcs dq_W_law_1198 ?_
  refine qz_aload_n X 2 rfl dq_W_law_1201 ?_
  refine qz_aload_n X 3 rfl dq_W_law_1202 ?_
  refine qz_iload_n X 0 rfl dq_W_law_1203 ?_
  refine qz_iconst X (v := (1 : Int32)) (by decide) dq_W_law_1204 ?_
  refine qz_iadd X dq_W_law_1205 ?_
  refine qz_sld X hX hbA dq_W_law_1206 h (fun h => ?_)
  refine qz_bind h (fun q72 e73 h => ?_)
  refine qz_callV X (as := [.int (xs (x3 + (1 : Int32)).toNatClampNeg)]) (st := [.long q70.1]) (o := some (.long q72.1)) (N' := q72.2) cq_W_97 hy2 (cM_dealt l G X.2.2.2.2.2.2.1 y2 (xs (x3 + (1 : Int32)).toNatClampNeg) q70.2 hy2 _ e73) ⟨by decide, by decide⟩ rfl rfl (Nat.le_of_ble_eq_true rfl) hcs dq_W_law_1207 ?_
  refine qz_lcmp_eq X (tgt := 1754) (by decide) dq_W_law_1210 dq_W_law_1211 h (fun _ h => ?_) (fun _ h => ?_)
  · refine qz_sub [0, 1, 2, 3] rfl ?_
    exact sW_law_1754 X hX hbA hA hcs hr1 y1 y2 hy1 hy2 k18 hk18 q72.2 x3 h
  · refine qz_iconst X (v := (0 : Int32)) (by decide) dq_W_law_1214 ?_
    exact qz_lawret X hA hcs hr1 h dq_W_law_1215
set_option maxRecDepth 100000 in
set_option maxHeartbeats 4000000 in
theorem sW_law_1216 {p : Program} {l : Launch} {e : Env} {s : State} {m : MethodId} {below : List Frame} {meth : Method} {c : Code} {G : qz_G} {b : Nat} {H0 : Heap} {cells slots : Nat} (X : qz_X p s m #[Value.ref b] meth c "ExactCurvesLaw" code 4 ret G) {xs : Nat → Int32} {L : Nat} (hX : va_X b L xs s H0) (hbA : ¬ qz_A G b) (hA : ∀ a, qz_A G a → s.heap.size ≤ a) (hcs : cells ≤ 600000 ∧ slots ≤ 7302250) {r : (Int32 × qz_N)} (hr1 : r.1 = 1) (y1 : Nat) (y2 : Nat) (hy1 : y1 < 1) (hy2 : y2 < 1) (k18 : qz_N × Int32 → Option (Int32 × qz_N)) (hk18 : ∀ a, k18 a = some r → qz_W p l e room_1 s m #[Value.ref b] below meth c cells slots (lw_Z below #[Value.ref b] s) G H0 4 a.1 18 [(3, .int a.2), (1, .ref (G.2.2 0 y1)), (2, .ref (G.2.2 7 y2)), (0, .ref b)] []) (N : qz_N) (x3 : Int32) (h : fW_law_1216 xs L y1 y2 k18 N x3 = some r) : qz_W p l e room_1 s m #[Value.ref b] below meth c cells slots (lw_Z below #[Value.ref b] s) G H0 4 N 1216 [(3, .int x3), (1, .ref (G.2.2 0 y1)), (2, .ref (G.2.2 7 y2)), (0, .ref b)] [] := by
  unfold fW_law_1216 at h
  refine qz_aload_n X 1 rfl dq_W_law_1216 ?_
  refine qz_aload_n X 3 rfl dq_W_law_1217 ?_
  refine qz_iload_n X 0 rfl dq_W_law_1218 ?_
  refine qz_iconst X (v := (1 : Int32)) (by decide) dq_W_law_1219 ?_
  refine qz_iadd X dq_W_law_1220 ?_
  refine qz_sld X hX hbA dq_W_law_1221 h (fun h => ?_)
  refine qz_aload_n X 3 rfl dq_W_law_1222 ?_
  refine qz_iload_n X 0 rfl dq_W_law_1223 ?_
  refine qz_iconst X (v := (2 : Int32)) (by decide) dq_W_law_1224 ?_
  refine qz_iadd X dq_W_law_1225 ?_
  refine qz_sld X hX hbA dq_W_law_1226 h (fun h => ?_)
  refine qz_i2l X dq_W_law_1227 ?_
  refine qz_bipush X (v := (32 : Int32)) (by decide) dq_W_law_1228 ?_
  refine qz_lshl X dq_W_law_1230 ?_
  refine qz_aload_n X 3 rfl dq_W_law_1231 ?_
  refine qz_iload_n X 0 rfl dq_W_law_1232 ?_
  refine qz_iconst X (v := (3 : Int32)) (by decide) dq_W_law_1233 ?_
  refine qz_iadd X dq_W_law_1234 ?_
  refine qz_sld X hX hbA dq_W_law_1235 h (fun h => ?_)
  refine qz_i2l X dq_W_law_1236 ?_
  refine qz_ldc2 X (v := (4294967295 : Int64)) wq_983 dq_W_law_1237 ?_
  refine qz_land X dq_W_law_1240 ?_
  refine qz_lor X dq_W_law_1241 ?_
  refine qz_bind h (fun q74 e75 h => ?_)
  refine qz_callV X (as := [.int (xs (x3 + (1 : Int32)).toNatClampNeg), .long ((((xs (x3 + (2 : Int32)).toNatClampNeg).toInt64) <<< ((32 : Int32).toInt64 &&& 63)) ||| (((xs (x3 + (3 : Int32)).toNatClampNeg).toInt64) &&& (4294967295 : Int64)))]) (st := []) (o := some (.long q74.1)) (N' := q74.2) cq_W_98 hy1 (cE_rate l G X.2.2.2.2.2.2.1 y1 (xs (x3 + (1 : Int32)).toNatClampNeg) ((((xs (x3 + (2 : Int32)).toNatClampNeg).toInt64) <<< ((32 : Int32).toInt64 &&& 63)) ||| (((xs (x3 + (3 : Int32)).toNatClampNeg).toInt64) &&& (4294967295 : Int64))) N hy1 _ e75) ⟨by decide, by decide⟩ rfl rfl (Nat.le_of_ble_eq_true rfl) hcs dq_W_law_1242 ?_
  refine qz_aload_n X 2 rfl dq_W_law_1245 ?_
  refine qz_aload_n X 3 rfl dq_W_law_1246 ?_
  refine qz_iload_n X 0 rfl dq_W_law_1247 ?_
  refine qz_iconst X (v := (1 : Int32)) (by decide) dq_W_law_1248 ?_
  refine qz_iadd X dq_W_law_1249 ?_
  refine qz_sld X hX hbA dq_W_law_1250 h (fun h => ?_)
  refine qz_aload_n X 3 rfl dq_W_law_1251 ?_
  refine qz_iload_n X 0 rfl dq_W_law_1252 ?_
  refine qz_iconst X (v := (2 : Int32)) (by decide) dq_W_law_1253 ?_
  refine qz_iadd X dq_W_law_1254 ?_
  refine qz_sld X hX hbA dq_W_law_1255 h (fun h => ?_)
  refine qz_i2l X dq_W_law_1256 ?_
  refine qz_bipush X (v := (32 : Int32)) (by decide) dq_W_law_1257 ?_
  refine qz_lshl X dq_W_law_1259 ?_
  refine qz_aload_n X 3 rfl dq_W_law_1260 ?_
  refine qz_iload_n X 0 rfl dq_W_law_1261 ?_
  refine qz_iconst X (v := (3 : Int32)) (by decide) dq_W_law_1262 ?_
  refine qz_iadd X dq_W_law_1263 ?_
  refine qz_sld X hX hbA dq_W_law_1264 h (fun h => ?_)
  refine qz_i2l X dq_W_law_1265 ?_
  refine qz_ldc2 X (v := (4294967295 : Int64)) wq_983 dq_W_law_1266 ?_
  refine qz_land X dq_W_law_1269 ?_
  refine qz_lor X dq_W_law_1270 ?_
  refine qz_bind h (fun q76 e77 h => ?_)
  refine qz_callV X (as := [.int (xs (x3 + (1 : Int32)).toNatClampNeg), .long ((((xs (x3 + (2 : Int32)).toNatClampNeg).toInt64) <<< ((32 : Int32).toInt64 &&& 63)) ||| (((xs (x3 + (3 : Int32)).toNatClampNeg).toInt64) &&& (4294967295 : Int64)))]) (st := [.long q74.1]) (o := some (.long q76.1)) (N' := q76.2) cq_W_102 hy2 (cM_rate l G X.2.2.2.2.2.2.1 y2 (xs (x3 + (1 : Int32)).toNatClampNeg) ((((xs (x3 + (2 : Int32)).toNatClampNeg).toInt64) <<< ((32 : Int32).toInt64 &&& 63)) ||| (((xs (x3 + (3 : Int32)).toNatClampNeg).toInt64) &&& (4294967295 : Int64))) q74.2 hy2 _ e77) ⟨by decide, by decide⟩ rfl rfl (Nat.le_of_ble_eq_true rfl) hcs dq_W_law_1271 ?_
  refine qz_lcmp_eq X (tgt := 1754) (by decide) dq_W_law_1274 dq_W_law_1275 h (fun _ h => ?_) (fun _ h => ?_)
  · refine qz_sub [0, 1, 2, 3] rfl ?_
    exact sW_law_1754 X hX hbA hA hcs hr1 y1 y2 hy1 hy2 k18 hk18 q76.2 x3 h
  · refine qz_iconst X (v := (0 : Int32)) (by decide) dq_W_law_1278 ?_
    exact qz_lawret X hA hcs hr1 h dq_W_law_1279
set_option maxRecDepth 100000 in
set_option maxHeartbeats 4000000 in
theorem sW_law_1280 {p : Program} {l : Launch} {e : Env} {s : State} {m : MethodId} {below : List Frame} {meth : Method} {c : Code} {G : qz_G} {b : Nat} {H0 : Heap} {cells slots : Nat} (X : qz_X p s m #[Value.ref b] meth c "ExactCurvesLaw" code 4 ret G) {xs : Nat → Int32} {L : Nat} (hX : va_X b L xs s H0) (hbA : ¬ qz_A G b) (hA : ∀ a, qz_A G a → s.heap.size ≤ a) (hcs : cells ≤ 600000 ∧ slots ≤ 7302250) {r : (Int32 × qz_N)} (hr1 : r.1 = 1) (y1 : Nat) (y2 : Nat) (hy1 : y1 < 1) (hy2 : y2 < 1) (k18 : qz_N × Int32 → Option (Int32 × qz_N)) (hk18 : ∀ a, k18 a = some r → qz_W p l e room_1 s m #[Value.ref b] below meth c cells slots (lw_Z below #[Value.ref b] s) G H0 4 a.1 18 [(3, .int a.2), (1, .ref (G.2.2 0 y1)), (2, .ref (G.2.2 7 y2)), (0, .ref b)] []) (N : qz_N) (x3 : Int32) (h : fW_law_1280 xs L y1 y2 k18 N x3 = some r) : qz_W p l e room_1 s m #[Value.ref b] below meth c cells slots (lw_Z below #[Value.ref b] s) G H0 4 N 1280 [(3, .int x3), (1, .ref (G.2.2 0 y1)), (2, .ref (G.2.2 7 y2)), (0, .ref b)] [] := by
  unfold fW_law_1280 at h
  refine qz_aload_n X 1 rfl dq_W_law_1280 ?_
  refine qz_aload_n X 3 rfl dq_W_law_1281 ?_
  refine qz_iload_n X 0 rfl dq_W_law_1282 ?_
  refine qz_iconst X (v := (1 : Int32)) (by decide) dq_W_law_1283 ?_
  refine qz_iadd X dq_W_law_1284 ?_
  refine qz_sld X hX hbA dq_W_law_1285 h (fun h => ?_)
  refine qz_aload_n X 3 rfl dq_W_law_1286 ?_
  refine qz_iload_n X 0 rfl dq_W_law_1287 ?_
  refine qz_iconst X (v := (2 : Int32)) (by decide) dq_W_law_1288 ?_
  refine qz_iadd X dq_W_law_1289 ?_
  refine qz_sld X hX hbA dq_W_law_1290 h (fun h => ?_)
  refine qz_aload_n X 3 rfl dq_W_law_1291 ?_
  refine qz_iload_n X 0 rfl dq_W_law_1292 ?_
  refine qz_iconst X (v := (3 : Int32)) (by decide) dq_W_law_1293 ?_
  refine qz_iadd X dq_W_law_1294 ?_
  refine qz_sld X hX hbA dq_W_law_1295 h (fun h => ?_)
  refine qz_i2l X dq_W_law_1296 ?_
  refine qz_bipush X (v := (32 : Int32)) (by decide) dq_W_law_1297 ?_
  refine qz_lshl X dq_W_law_1299 ?_
  refine qz_aload_n X 3 rfl dq_W_law_1300 ?_
  refine qz_iload_n X 0 rfl dq_W_law_1301 ?_
  refine qz_iconst X (v := (4 : Int32)) (by decide) dq_W_law_1302 ?_
  refine qz_iadd X dq_W_law_1303 ?_
  refine qz_sld X hX hbA dq_W_law_1304 h (fun h => ?_)
  refine qz_i2l X dq_W_law_1305 ?_
  refine qz_ldc2 X (v := (4294967295 : Int64)) wq_983 dq_W_law_1306 ?_
  refine qz_land X dq_W_law_1309 ?_
  refine qz_lor X dq_W_law_1310 ?_
  refine qz_bind h (fun q78 e79 h => ?_)
  refine qz_callV X (as := [.int (xs (x3 + (1 : Int32)).toNatClampNeg), .int (xs (x3 + (2 : Int32)).toNatClampNeg), .long ((((xs (x3 + (3 : Int32)).toNatClampNeg).toInt64) <<< ((32 : Int32).toInt64 &&& 63)) ||| (((xs (x3 + (4 : Int32)).toNatClampNeg).toInt64) &&& (4294967295 : Int64)))]) (st := []) (o := some (.long q78.1)) (N' := q78.2) cq_W_103 hy1 (cE_lend l G X.2.2.2.2.2.2.1 y1 (xs (x3 + (1 : Int32)).toNatClampNeg) (xs (x3 + (2 : Int32)).toNatClampNeg) ((((xs (x3 + (3 : Int32)).toNatClampNeg).toInt64) <<< ((32 : Int32).toInt64 &&& 63)) ||| (((xs (x3 + (4 : Int32)).toNatClampNeg).toInt64) &&& (4294967295 : Int64))) N hy1 _ e79) ⟨by decide, by decide⟩ rfl rfl (Nat.le_of_ble_eq_true rfl) hcs dq_W_law_1311 ?_
  refine qz_aload_n X 2 rfl dq_W_law_1314 ?_
  refine qz_aload_n X 3 rfl dq_W_law_1315 ?_
  refine qz_iload_n X 0 rfl dq_W_law_1316 ?_
  refine qz_iconst X (v := (1 : Int32)) (by decide) dq_W_law_1317 ?_
  refine qz_iadd X dq_W_law_1318 ?_
  refine qz_sld X hX hbA dq_W_law_1319 h (fun h => ?_)
  refine qz_aload_n X 3 rfl dq_W_law_1320 ?_
  refine qz_iload_n X 0 rfl dq_W_law_1321 ?_
  refine qz_iconst X (v := (2 : Int32)) (by decide) dq_W_law_1322 ?_
  refine qz_iadd X dq_W_law_1323 ?_
  refine qz_sld X hX hbA dq_W_law_1324 h (fun h => ?_)
  refine qz_aload_n X 3 rfl dq_W_law_1325 ?_
  refine qz_iload_n X 0 rfl dq_W_law_1326 ?_
  refine qz_iconst X (v := (3 : Int32)) (by decide) dq_W_law_1327 ?_
  refine qz_iadd X dq_W_law_1328 ?_
  refine qz_sld X hX hbA dq_W_law_1329 h (fun h => ?_)
  refine qz_i2l X dq_W_law_1330 ?_
  refine qz_bipush X (v := (32 : Int32)) (by decide) dq_W_law_1331 ?_
  refine qz_lshl X dq_W_law_1333 ?_
  refine qz_aload_n X 3 rfl dq_W_law_1334 ?_
  refine qz_iload_n X 0 rfl dq_W_law_1335 ?_
  refine qz_iconst X (v := (4 : Int32)) (by decide) dq_W_law_1336 ?_
  refine qz_iadd X dq_W_law_1337 ?_
  refine qz_sld X hX hbA dq_W_law_1338 h (fun h => ?_)
  refine qz_i2l X dq_W_law_1339 ?_
  refine qz_ldc2 X (v := (4294967295 : Int64)) wq_983 dq_W_law_1340 ?_
  refine qz_land X dq_W_law_1343 ?_
  refine qz_lor X dq_W_law_1344 ?_
  refine qz_bind h (fun q80 e81 h => ?_)
  refine qz_callV X (as := [.int (xs (x3 + (1 : Int32)).toNatClampNeg), .int (xs (x3 + (2 : Int32)).toNatClampNeg), .long ((((xs (x3 + (3 : Int32)).toNatClampNeg).toInt64) <<< ((32 : Int32).toInt64 &&& 63)) ||| (((xs (x3 + (4 : Int32)).toNatClampNeg).toInt64) &&& (4294967295 : Int64)))]) (st := [.long q78.1]) (o := some (.long q80.1)) (N' := q80.2) cq_W_106 hy2 (cM_lend l G X.2.2.2.2.2.2.1 y2 (xs (x3 + (1 : Int32)).toNatClampNeg) (xs (x3 + (2 : Int32)).toNatClampNeg) ((((xs (x3 + (3 : Int32)).toNatClampNeg).toInt64) <<< ((32 : Int32).toInt64 &&& 63)) ||| (((xs (x3 + (4 : Int32)).toNatClampNeg).toInt64) &&& (4294967295 : Int64))) q78.2 hy2 _ e81) ⟨by decide, by decide⟩ rfl rfl (Nat.le_of_ble_eq_true rfl) hcs dq_W_law_1345 ?_
  refine qz_lcmp_eq X (tgt := 1754) (by decide) dq_W_law_1348 dq_W_law_1349 h (fun _ h => ?_) (fun _ h => ?_)
  · refine qz_sub [0, 1, 2, 3] rfl ?_
    exact sW_law_1754 X hX hbA hA hcs hr1 y1 y2 hy1 hy2 k18 hk18 q80.2 x3 h
  · refine qz_iconst X (v := (0 : Int32)) (by decide) dq_W_law_1352 ?_
    exact qz_lawret X hA hcs hr1 h dq_W_law_1353
set_option maxRecDepth 100000 in
set_option maxHeartbeats 4000000 in
theorem sW_law_1354 {p : Program} {l : Launch} {e : Env} {s : State} {m : MethodId} {below : List Frame} {meth : Method} {c : Code} {G : qz_G} {b : Nat} {H0 : Heap} {cells slots : Nat} (X : qz_X p s m #[Value.ref b] meth c "ExactCurvesLaw" code 4 ret G) {xs : Nat → Int32} {L : Nat} (hX : va_X b L xs s H0) (hbA : ¬ qz_A G b) (hA : ∀ a, qz_A G a → s.heap.size ≤ a) (hcs : cells ≤ 600000 ∧ slots ≤ 7302250) {r : (Int32 × qz_N)} (hr1 : r.1 = 1) (y1 : Nat) (y2 : Nat) (hy1 : y1 < 1) (hy2 : y2 < 1) (k18 : qz_N × Int32 → Option (Int32 × qz_N)) (hk18 : ∀ a, k18 a = some r → qz_W p l e room_1 s m #[Value.ref b] below meth c cells slots (lw_Z below #[Value.ref b] s) G H0 4 a.1 18 [(3, .int a.2), (1, .ref (G.2.2 0 y1)), (2, .ref (G.2.2 7 y2)), (0, .ref b)] []) (N : qz_N) (x3 : Int32) (h : fW_law_1354 xs L y1 y2 k18 N x3 = some r) : qz_W p l e room_1 s m #[Value.ref b] below meth c cells slots (lw_Z below #[Value.ref b] s) G H0 4 N 1354 [(3, .int x3), (1, .ref (G.2.2 0 y1)), (2, .ref (G.2.2 7 y2)), (0, .ref b)] [] := by
  unfold fW_law_1354 at h
  refine qz_aload_n X 1 rfl dq_W_law_1354 ?_
  refine qz_aload_n X 3 rfl dq_W_law_1355 ?_
  refine qz_iload_n X 0 rfl dq_W_law_1356 ?_
  refine qz_iconst X (v := (1 : Int32)) (by decide) dq_W_law_1357 ?_
  refine qz_iadd X dq_W_law_1358 ?_
  refine qz_sld X hX hbA dq_W_law_1359 h (fun h => ?_)
  refine qz_aload_n X 3 rfl dq_W_law_1360 ?_
  refine qz_iload_n X 0 rfl dq_W_law_1361 ?_
  refine qz_iconst X (v := (2 : Int32)) (by decide) dq_W_law_1362 ?_
  refine qz_iadd X dq_W_law_1363 ?_
  refine qz_sld X hX hbA dq_W_law_1364 h (fun h => ?_)
  refine qz_aload_n X 3 rfl dq_W_law_1365 ?_
  refine qz_iload_n X 0 rfl dq_W_law_1366 ?_
  refine qz_iconst X (v := (3 : Int32)) (by decide) dq_W_law_1367 ?_
  refine qz_iadd X dq_W_law_1368 ?_
  refine qz_sld X hX hbA dq_W_law_1369 h (fun h => ?_)
  refine qz_i2l X dq_W_law_1370 ?_
  refine qz_bipush X (v := (32 : Int32)) (by decide) dq_W_law_1371 ?_
  refine qz_lshl X dq_W_law_1373 ?_
  refine qz_aload_n X 3 rfl dq_W_law_1374 ?_
  refine qz_iload_n X 0 rfl dq_W_law_1375 ?_
  refine qz_iconst X (v := (4 : Int32)) (by decide) dq_W_law_1376 ?_
  refine qz_iadd X dq_W_law_1377 ?_
  refine qz_sld X hX hbA dq_W_law_1378 h (fun h => ?_)
  refine qz_i2l X dq_W_law_1379 ?_
  refine qz_ldc2 X (v := (4294967295 : Int64)) wq_983 dq_W_law_1380 ?_
  refine qz_land X dq_W_law_1383 ?_
  refine qz_lor X dq_W_law_1384 ?_
  refine qz_bind h (fun q82 e83 h => ?_)
  refine qz_callV X (as := [.int (xs (x3 + (1 : Int32)).toNatClampNeg), .int (xs (x3 + (2 : Int32)).toNatClampNeg), .long ((((xs (x3 + (3 : Int32)).toNatClampNeg).toInt64) <<< ((32 : Int32).toInt64 &&& 63)) ||| (((xs (x3 + (4 : Int32)).toNatClampNeg).toInt64) &&& (4294967295 : Int64)))]) (st := []) (o := some (.long q82.1)) (N' := q82.2) cq_W_107 hy1 (cE_redeem l G X.2.2.2.2.2.2.1 y1 (xs (x3 + (1 : Int32)).toNatClampNeg) (xs (x3 + (2 : Int32)).toNatClampNeg) ((((xs (x3 + (3 : Int32)).toNatClampNeg).toInt64) <<< ((32 : Int32).toInt64 &&& 63)) ||| (((xs (x3 + (4 : Int32)).toNatClampNeg).toInt64) &&& (4294967295 : Int64))) N hy1 _ e83) ⟨by decide, by decide⟩ rfl rfl (Nat.le_of_ble_eq_true rfl) hcs dq_W_law_1385 ?_
  refine qz_aload_n X 2 rfl dq_W_law_1388 ?_
  refine qz_aload_n X 3 rfl dq_W_law_1389 ?_
  refine qz_iload_n X 0 rfl dq_W_law_1390 ?_
  refine qz_iconst X (v := (1 : Int32)) (by decide) dq_W_law_1391 ?_
  refine qz_iadd X dq_W_law_1392 ?_
  refine qz_sld X hX hbA dq_W_law_1393 h (fun h => ?_)
  refine qz_aload_n X 3 rfl dq_W_law_1394 ?_
  refine qz_iload_n X 0 rfl dq_W_law_1395 ?_
  refine qz_iconst X (v := (2 : Int32)) (by decide) dq_W_law_1396 ?_
  refine qz_iadd X dq_W_law_1397 ?_
  refine qz_sld X hX hbA dq_W_law_1398 h (fun h => ?_)
  refine qz_aload_n X 3 rfl dq_W_law_1399 ?_
  refine qz_iload_n X 0 rfl dq_W_law_1400 ?_
  refine qz_iconst X (v := (3 : Int32)) (by decide) dq_W_law_1401 ?_
  refine qz_iadd X dq_W_law_1402 ?_
  refine qz_sld X hX hbA dq_W_law_1403 h (fun h => ?_)
  refine qz_i2l X dq_W_law_1404 ?_
  refine qz_bipush X (v := (32 : Int32)) (by decide) dq_W_law_1405 ?_
  refine qz_lshl X dq_W_law_1407 ?_
  refine qz_aload_n X 3 rfl dq_W_law_1408 ?_
  refine qz_iload_n X 0 rfl dq_W_law_1409 ?_
  refine qz_iconst X (v := (4 : Int32)) (by decide) dq_W_law_1410 ?_
  refine qz_iadd X dq_W_law_1411 ?_
  refine qz_sld X hX hbA dq_W_law_1412 h (fun h => ?_)
  refine qz_i2l X dq_W_law_1413 ?_
  refine qz_ldc2 X (v := (4294967295 : Int64)) wq_983 dq_W_law_1414 ?_
  refine qz_land X dq_W_law_1417 ?_
  refine qz_lor X dq_W_law_1418 ?_
  refine qz_bind h (fun q84 e85 h => ?_)
  refine qz_callV X (as := [.int (xs (x3 + (1 : Int32)).toNatClampNeg), .int (xs (x3 + (2 : Int32)).toNatClampNeg), .long ((((xs (x3 + (3 : Int32)).toNatClampNeg).toInt64) <<< ((32 : Int32).toInt64 &&& 63)) ||| (((xs (x3 + (4 : Int32)).toNatClampNeg).toInt64) &&& (4294967295 : Int64)))]) (st := [.long q82.1]) (o := some (.long q84.1)) (N' := q84.2) cq_W_110 hy2 (cM_redeem l G X.2.2.2.2.2.2.1 y2 (xs (x3 + (1 : Int32)).toNatClampNeg) (xs (x3 + (2 : Int32)).toNatClampNeg) ((((xs (x3 + (3 : Int32)).toNatClampNeg).toInt64) <<< ((32 : Int32).toInt64 &&& 63)) ||| (((xs (x3 + (4 : Int32)).toNatClampNeg).toInt64) &&& (4294967295 : Int64))) q82.2 hy2 _ e85) ⟨by decide, by decide⟩ rfl rfl (Nat.le_of_ble_eq_true rfl) hcs dq_W_law_1419 ?_
  refine qz_lcmp_eq X (tgt := 1754) (by decide) dq_W_law_1422 dq_W_law_1423 h (fun _ h => ?_) (fun _ h => ?_)
  · refine qz_sub [0, 1, 2, 3] rfl ?_
    exact sW_law_1754 X hX hbA hA hcs hr1 y1 y2 hy1 hy2 k18 hk18 q84.2 x3 h
  · refine qz_iconst X (v := (0 : Int32)) (by decide) dq_W_law_1426 ?_
    exact qz_lawret X hA hcs hr1 h dq_W_law_1427
set_option maxRecDepth 100000 in
set_option maxHeartbeats 4000000 in
theorem sW_law_1428 {p : Program} {l : Launch} {e : Env} {s : State} {m : MethodId} {below : List Frame} {meth : Method} {c : Code} {G : qz_G} {b : Nat} {H0 : Heap} {cells slots : Nat} (X : qz_X p s m #[Value.ref b] meth c "ExactCurvesLaw" code 4 ret G) {xs : Nat → Int32} {L : Nat} (hX : va_X b L xs s H0) (hbA : ¬ qz_A G b) (hA : ∀ a, qz_A G a → s.heap.size ≤ a) (hcs : cells ≤ 600000 ∧ slots ≤ 7302250) {r : (Int32 × qz_N)} (hr1 : r.1 = 1) (y1 : Nat) (y2 : Nat) (hy1 : y1 < 1) (hy2 : y2 < 1) (k18 : qz_N × Int32 → Option (Int32 × qz_N)) (hk18 : ∀ a, k18 a = some r → qz_W p l e room_1 s m #[Value.ref b] below meth c cells slots (lw_Z below #[Value.ref b] s) G H0 4 a.1 18 [(3, .int a.2), (1, .ref (G.2.2 0 y1)), (2, .ref (G.2.2 7 y2)), (0, .ref b)] []) (N : qz_N) (x3 : Int32) (h : fW_law_1428 xs L y1 y2 k18 N x3 = some r) : qz_W p l e room_1 s m #[Value.ref b] below meth c cells slots (lw_Z below #[Value.ref b] s) G H0 4 N 1428 [(3, .int x3), (1, .ref (G.2.2 0 y1)), (2, .ref (G.2.2 7 y2)), (0, .ref b)] [] := by
  unfold fW_law_1428 at h
  refine qz_aload_n X 1 rfl dq_W_law_1428 ?_
  refine qz_aload_n X 3 rfl dq_W_law_1429 ?_
  refine qz_iload_n X 0 rfl dq_W_law_1430 ?_
  refine qz_iconst X (v := (1 : Int32)) (by decide) dq_W_law_1431 ?_
  refine qz_iadd X dq_W_law_1432 ?_
  refine qz_sld X hX hbA dq_W_law_1433 h (fun h => ?_)
  refine qz_aload_n X 3 rfl dq_W_law_1434 ?_
  refine qz_iload_n X 0 rfl dq_W_law_1435 ?_
  refine qz_iconst X (v := (2 : Int32)) (by decide) dq_W_law_1436 ?_
  refine qz_iadd X dq_W_law_1437 ?_
  refine qz_sld X hX hbA dq_W_law_1438 h (fun h => ?_)
  refine qz_bind h (fun q86 e87 h => ?_)
  refine qz_callV X (as := [.int (xs (x3 + (1 : Int32)).toNatClampNeg), .int (xs (x3 + (2 : Int32)).toNatClampNeg)]) (st := []) (o := some (.long q86.1)) (N' := q86.2) cq_W_111 hy1 (cE_vault l G X.2.2.2.2.2.2.1 y1 (xs (x3 + (1 : Int32)).toNatClampNeg) (xs (x3 + (2 : Int32)).toNatClampNeg) N hy1 _ e87) ⟨by decide, by decide⟩ rfl rfl (Nat.le_of_ble_eq_true rfl) hcs dq_W_law_1439 ?_
  refine qz_aload_n X 2 rfl dq_W_law_1442 ?_
  refine qz_aload_n X 3 rfl dq_W_law_1443 ?_
  refine qz_iload_n X 0 rfl dq_W_law_1444 ?_
  refine qz_iconst X (v := (1 : Int32)) (by decide) dq_W_law_1445 ?_
  refine qz_iadd X dq_W_law_1446 ?_
  refine qz_sld X hX hbA dq_W_law_1447 h (fun h => ?_)
  refine qz_aload_n X 3 rfl dq_W_law_1448 ?_
  refine qz_iload_n X 0 rfl dq_W_law_1449 ?_
  refine qz_iconst X (v := (2 : Int32)) (by decide) dq_W_law_1450 ?_
  refine qz_iadd X dq_W_law_1451 ?_
  refine qz_sld X hX hbA dq_W_law_1452 h (fun h => ?_)
  refine qz_bind h (fun q88 e89 h => ?_)
  refine qz_callV X (as := [.int (xs (x3 + (1 : Int32)).toNatClampNeg), .int (xs (x3 + (2 : Int32)).toNatClampNeg)]) (st := [.long q86.1]) (o := some (.long q88.1)) (N' := q88.2) cq_W_114 hy2 (cM_vault l G X.2.2.2.2.2.2.1 y2 (xs (x3 + (1 : Int32)).toNatClampNeg) (xs (x3 + (2 : Int32)).toNatClampNeg) q86.2 hy2 _ e89) ⟨by decide, by decide⟩ rfl rfl (Nat.le_of_ble_eq_true rfl) hcs dq_W_law_1453 ?_
  refine qz_lcmp_eq X (tgt := 1754) (by decide) dq_W_law_1456 dq_W_law_1457 h (fun _ h => ?_) (fun _ h => ?_)
  · refine qz_sub [0, 1, 2, 3] rfl ?_
    exact sW_law_1754 X hX hbA hA hcs hr1 y1 y2 hy1 hy2 k18 hk18 q88.2 x3 h
  · refine qz_iconst X (v := (0 : Int32)) (by decide) dq_W_law_1460 ?_
    exact qz_lawret X hA hcs hr1 h dq_W_law_1461
set_option maxRecDepth 100000 in
set_option maxHeartbeats 4000000 in
theorem sW_law_1462 {p : Program} {l : Launch} {e : Env} {s : State} {m : MethodId} {below : List Frame} {meth : Method} {c : Code} {G : qz_G} {b : Nat} {H0 : Heap} {cells slots : Nat} (X : qz_X p s m #[Value.ref b] meth c "ExactCurvesLaw" code 4 ret G) {xs : Nat → Int32} {L : Nat} (hX : va_X b L xs s H0) (hbA : ¬ qz_A G b) (hA : ∀ a, qz_A G a → s.heap.size ≤ a) (hcs : cells ≤ 600000 ∧ slots ≤ 7302250) {r : (Int32 × qz_N)} (hr1 : r.1 = 1) (y1 : Nat) (y2 : Nat) (hy1 : y1 < 1) (hy2 : y2 < 1) (k18 : qz_N × Int32 → Option (Int32 × qz_N)) (hk18 : ∀ a, k18 a = some r → qz_W p l e room_1 s m #[Value.ref b] below meth c cells slots (lw_Z below #[Value.ref b] s) G H0 4 a.1 18 [(3, .int a.2), (1, .ref (G.2.2 0 y1)), (2, .ref (G.2.2 7 y2)), (0, .ref b)] []) (N : qz_N) (x3 : Int32) (h : fW_law_1462 xs L y1 y2 k18 N x3 = some r) : qz_W p l e room_1 s m #[Value.ref b] below meth c cells slots (lw_Z below #[Value.ref b] s) G H0 4 N 1462 [(3, .int x3), (1, .ref (G.2.2 0 y1)), (2, .ref (G.2.2 7 y2)), (0, .ref b)] [] := by
  unfold fW_law_1462 at h
  refine qz_aload_n X 1 rfl dq_W_law_1462 ?_
  refine qz_aload_n X 3 rfl dq_W_law_1463 ?_
  refine qz_iload_n X 0 rfl dq_W_law_1464 ?_
  refine qz_iconst X (v := (1 : Int32)) (by decide) dq_W_law_1465 ?_
  refine qz_iadd X dq_W_law_1466 ?_
  refine qz_sld X hX hbA dq_W_law_1467 h (fun h => ?_)
  refine qz_aload_n X 3 rfl dq_W_law_1468 ?_
  refine qz_iload_n X 0 rfl dq_W_law_1469 ?_
  refine qz_iconst X (v := (2 : Int32)) (by decide) dq_W_law_1470 ?_
  refine qz_iadd X dq_W_law_1471 ?_
  refine qz_sld X hX hbA dq_W_law_1472 h (fun h => ?_)
  refine qz_aload_n X 3 rfl dq_W_law_1473 ?_
  refine qz_iload_n X 0 rfl dq_W_law_1474 ?_
  refine qz_iconst X (v := (3 : Int32)) (by decide) dq_W_law_1475 ?_
  refine qz_iadd X dq_W_law_1476 ?_
  refine qz_sld X hX hbA dq_W_law_1477 h (fun h => ?_)
  refine qz_aload_n X 3 rfl dq_W_law_1478 ?_
  refine qz_iload_n X 0 rfl dq_W_law_1479 ?_
  refine qz_iconst X (v := (4 : Int32)) (by decide) dq_W_law_1480 ?_
  refine qz_iadd X dq_W_law_1481 ?_
  refine qz_sld X hX hbA dq_W_law_1482 h (fun h => ?_)
  refine qz_i2l X dq_W_law_1483 ?_
  refine qz_bipush X (v := (32 : Int32)) (by decide) dq_W_law_1484 ?_
  refine qz_lshl X dq_W_law_1486 ?_
  refine qz_aload_n X 3 rfl dq_W_law_1487 ?_
  refine qz_iload_n X 0 rfl dq_W_law_1488 ?_
  refine qz_iconst X (v := (5 : Int32)) (by decide) dq_W_law_1489 ?_
  refine qz_iadd X dq_W_law_1490 ?_
  refine qz_sld X hX hbA dq_W_law_1491 h (fun h => ?_)
  refine qz_i2l X dq_W_law_1492 ?_
  refine qz_ldc2 X (v := (4294967295 : Int64)) wq_983 dq_W_law_1493 ?_
  refine qz_land X dq_W_law_1496 ?_
  refine qz_lor X dq_W_law_1497 ?_
  refine qz_aload_n X 3 rfl dq_W_law_1498 ?_
  refine qz_iload_n X 0 rfl dq_W_law_1499 ?_
  refine qz_bipush X (v := (6 : Int32)) (by decide) dq_W_law_1500 ?_
  refine qz_iadd X dq_W_law_1502 ?_
  refine qz_sld X hX hbA dq_W_law_1503 h (fun h => ?_)
  refine qz_i2l X dq_W_law_1504 ?_
  refine qz_bipush X (v := (32 : Int32)) (by decide) dq_W_law_1505 ?_
  refine qz_lshl X dq_W_law_1507 ?_
  refine qz_aload_n X 3 rfl dq_W_law_1508 ?_
  refine qz_iload_n X 0 rfl dq_W_law_1509 ?_
  refine qz_bipush X (v := (7 : Int32)) (by decide) dq_W_law_1510 ?_
  refine qz_iadd X dq_W_law_1512 ?_
  refine qz_sld X hX hbA dq_W_law_1513 h (fun h => ?_)
  refine qz_i2l X dq_W_law_1514 ?_
  refine qz_ldc2 X (v := (4294967295 : Int64)) wq_983 dq_W_law_1515 ?_
  refine qz_land X dq_W_law_1518 ?_
  refine qz_lor X dq_W_law_1519 ?_
  refine qz_bind h (fun q90 e91 h => ?_)
  refine qz_callV X (as := [.int (xs (x3 + (1 : Int32)).toNatClampNeg), .int (xs (x3 + (2 : Int32)).toNatClampNeg), .int (xs (x3 + (3 : Int32)).toNatClampNeg), .long ((((xs (x3 + (4 : Int32)).toNatClampNeg).toInt64) <<< ((32 : Int32).toInt64 &&& 63)) ||| (((xs (x3 + (5 : Int32)).toNatClampNeg).toInt64) &&& (4294967295 : Int64))), .long ((((xs (x3 + (6 : Int32)).toNatClampNeg).toInt64) <<< ((32 : Int32).toInt64 &&& 63)) ||| (((xs (x3 + (7 : Int32)).toNatClampNeg).toInt64) &&& (4294967295 : Int64)))]) (st := []) (o := some (.int q90.1)) (N' := q90.2) cq_W_115 hy1 (cE_loan l G X.2.2.2.2.2.2.1 y1 (xs (x3 + (1 : Int32)).toNatClampNeg) (xs (x3 + (2 : Int32)).toNatClampNeg) (xs (x3 + (3 : Int32)).toNatClampNeg) ((((xs (x3 + (4 : Int32)).toNatClampNeg).toInt64) <<< ((32 : Int32).toInt64 &&& 63)) ||| (((xs (x3 + (5 : Int32)).toNatClampNeg).toInt64) &&& (4294967295 : Int64))) ((((xs (x3 + (6 : Int32)).toNatClampNeg).toInt64) <<< ((32 : Int32).toInt64 &&& 63)) ||| (((xs (x3 + (7 : Int32)).toNatClampNeg).toInt64) &&& (4294967295 : Int64))) N hy1 _ e91) ⟨by decide, by decide⟩ rfl rfl (Nat.le_of_ble_eq_true rfl) hcs dq_W_law_1520 ?_
  refine qz_aload_n X 2 rfl dq_W_law_1523 ?_
  refine qz_aload_n X 3 rfl dq_W_law_1524 ?_
  refine qz_iload_n X 0 rfl dq_W_law_1525 ?_
  refine qz_iconst X (v := (1 : Int32)) (by decide) dq_W_law_1526 ?_
  refine qz_iadd X dq_W_law_1527 ?_
  refine qz_sld X hX hbA dq_W_law_1528 h (fun h => ?_)
  refine qz_aload_n X 3 rfl dq_W_law_1529 ?_
  refine qz_iload_n X 0 rfl dq_W_law_1530 ?_
  refine qz_iconst X (v := (2 : Int32)) (by decide) dq_W_law_1531 ?_
  refine qz_iadd X dq_W_law_1532 ?_
  refine qz_sld X hX hbA dq_W_law_1533 h (fun h => ?_)
  refine qz_aload_n X 3 rfl dq_W_law_1534 ?_
  refine qz_iload_n X 0 rfl dq_W_law_1535 ?_
  refine qz_iconst X (v := (3 : Int32)) (by decide) dq_W_law_1536 ?_
  refine qz_iadd X dq_W_law_1537 ?_
  refine qz_sld X hX hbA dq_W_law_1538 h (fun h => ?_)
  refine qz_aload_n X 3 rfl dq_W_law_1539 ?_
  refine qz_iload_n X 0 rfl dq_W_law_1540 ?_
  refine qz_iconst X (v := (4 : Int32)) (by decide) dq_W_law_1541 ?_
  refine qz_iadd X dq_W_law_1542 ?_
  refine qz_sld X hX hbA dq_W_law_1543 h (fun h => ?_)
  refine qz_i2l X dq_W_law_1544 ?_
  refine qz_bipush X (v := (32 : Int32)) (by decide) dq_W_law_1545 ?_
  refine qz_lshl X dq_W_law_1547 ?_
  refine qz_aload_n X 3 rfl dq_W_law_1548 ?_
  refine qz_iload_n X 0 rfl dq_W_law_1549 ?_
  refine qz_iconst X (v := (5 : Int32)) (by decide) dq_W_law_1550 ?_
  refine qz_iadd X dq_W_law_1551 ?_
  refine qz_sld X hX hbA dq_W_law_1552 h (fun h => ?_)
  refine qz_i2l X dq_W_law_1553 ?_
  refine qz_ldc2 X (v := (4294967295 : Int64)) wq_983 dq_W_law_1554 ?_
  refine qz_land X dq_W_law_1557 ?_
  refine qz_lor X dq_W_law_1558 ?_
  refine qz_aload_n X 3 rfl dq_W_law_1559 ?_
  refine qz_iload_n X 0 rfl dq_W_law_1560 ?_
  refine qz_bipush X (v := (6 : Int32)) (by decide) dq_W_law_1561 ?_
  refine qz_iadd X dq_W_law_1563 ?_
  refine qz_sld X hX hbA dq_W_law_1564 h (fun h => ?_)
  refine qz_i2l X dq_W_law_1565 ?_
  refine qz_bipush X (v := (32 : Int32)) (by decide) dq_W_law_1566 ?_
  refine qz_lshl X dq_W_law_1568 ?_
  refine qz_aload_n X 3 rfl dq_W_law_1569 ?_
  refine qz_iload_n X 0 rfl dq_W_law_1570 ?_
  refine qz_bipush X (v := (7 : Int32)) (by decide) dq_W_law_1571 ?_
  refine qz_iadd X dq_W_law_1573 ?_
  refine qz_sld X hX hbA dq_W_law_1574 h (fun h => ?_)
  refine qz_i2l X dq_W_law_1575 ?_
  refine qz_ldc2 X (v := (4294967295 : Int64)) wq_983 dq_W_law_1576 ?_
  refine qz_land X dq_W_law_1579 ?_
  refine qz_lor X dq_W_law_1580 ?_
  refine qz_bind h (fun q92 e93 h => ?_)
  refine qz_callV X (as := [.int (xs (x3 + (1 : Int32)).toNatClampNeg), .int (xs (x3 + (2 : Int32)).toNatClampNeg), .int (xs (x3 + (3 : Int32)).toNatClampNeg), .long ((((xs (x3 + (4 : Int32)).toNatClampNeg).toInt64) <<< ((32 : Int32).toInt64 &&& 63)) ||| (((xs (x3 + (5 : Int32)).toNatClampNeg).toInt64) &&& (4294967295 : Int64))), .long ((((xs (x3 + (6 : Int32)).toNatClampNeg).toInt64) <<< ((32 : Int32).toInt64 &&& 63)) ||| (((xs (x3 + (7 : Int32)).toNatClampNeg).toInt64) &&& (4294967295 : Int64)))]) (st := [.int q90.1]) (o := some (.int q92.1)) (N' := q92.2) cq_W_119 hy2 (cM_loan l G X.2.2.2.2.2.2.1 y2 (xs (x3 + (1 : Int32)).toNatClampNeg) (xs (x3 + (2 : Int32)).toNatClampNeg) (xs (x3 + (3 : Int32)).toNatClampNeg) ((((xs (x3 + (4 : Int32)).toNatClampNeg).toInt64) <<< ((32 : Int32).toInt64 &&& 63)) ||| (((xs (x3 + (5 : Int32)).toNatClampNeg).toInt64) &&& (4294967295 : Int64))) ((((xs (x3 + (6 : Int32)).toNatClampNeg).toInt64) <<< ((32 : Int32).toInt64 &&& 63)) ||| (((xs (x3 + (7 : Int32)).toNatClampNeg).toInt64) &&& (4294967295 : Int64))) q90.2 hy2 _ e93) ⟨by decide, by decide⟩ rfl rfl (Nat.le_of_ble_eq_true rfl) hcs dq_W_law_1581 ?_
  refine qz_icmp_eq X (tgt := 1754) (by decide) dq_W_law_1584 h (fun _ h => ?_) (fun _ h => ?_)
  · refine qz_sub [0, 1, 2, 3] rfl ?_
    exact sW_law_1754 X hX hbA hA hcs hr1 y1 y2 hy1 hy2 k18 hk18 q92.2 x3 h
  · refine qz_iconst X (v := (0 : Int32)) (by decide) dq_W_law_1587 ?_
    exact qz_lawret X hA hcs hr1 h dq_W_law_1588
set_option maxRecDepth 100000 in
set_option maxHeartbeats 4000000 in
theorem sW_law_1589 {p : Program} {l : Launch} {e : Env} {s : State} {m : MethodId} {below : List Frame} {meth : Method} {c : Code} {G : qz_G} {b : Nat} {H0 : Heap} {cells slots : Nat} (X : qz_X p s m #[Value.ref b] meth c "ExactCurvesLaw" code 4 ret G) {xs : Nat → Int32} {L : Nat} (hX : va_X b L xs s H0) (hbA : ¬ qz_A G b) (hA : ∀ a, qz_A G a → s.heap.size ≤ a) (hcs : cells ≤ 600000 ∧ slots ≤ 7302250) {r : (Int32 × qz_N)} (hr1 : r.1 = 1) (y1 : Nat) (y2 : Nat) (hy1 : y1 < 1) (hy2 : y2 < 1) (k18 : qz_N × Int32 → Option (Int32 × qz_N)) (hk18 : ∀ a, k18 a = some r → qz_W p l e room_1 s m #[Value.ref b] below meth c cells slots (lw_Z below #[Value.ref b] s) G H0 4 a.1 18 [(3, .int a.2), (1, .ref (G.2.2 0 y1)), (2, .ref (G.2.2 7 y2)), (0, .ref b)] []) (N : qz_N) (x3 : Int32) (h : fW_law_1589 xs L y1 y2 k18 N x3 = some r) : qz_W p l e room_1 s m #[Value.ref b] below meth c cells slots (lw_Z below #[Value.ref b] s) G H0 4 N 1589 [(3, .int x3), (1, .ref (G.2.2 0 y1)), (2, .ref (G.2.2 7 y2)), (0, .ref b)] [] := by
  unfold fW_law_1589 at h
  refine qz_aload_n X 1 rfl dq_W_law_1589 ?_
  refine qz_aload_n X 3 rfl dq_W_law_1590 ?_
  refine qz_iload_n X 0 rfl dq_W_law_1591 ?_
  refine qz_iconst X (v := (1 : Int32)) (by decide) dq_W_law_1592 ?_
  refine qz_iadd X dq_W_law_1593 ?_
  refine qz_sld X hX hbA dq_W_law_1594 h (fun h => ?_)
  refine qz_aload_n X 3 rfl dq_W_law_1595 ?_
  refine qz_iload_n X 0 rfl dq_W_law_1596 ?_
  refine qz_iconst X (v := (2 : Int32)) (by decide) dq_W_law_1597 ?_
  refine qz_iadd X dq_W_law_1598 ?_
  refine qz_sld X hX hbA dq_W_law_1599 h (fun h => ?_)
  refine qz_bind h (fun q94 e95 h => ?_)
  refine qz_callV X (as := [.int (xs (x3 + (1 : Int32)).toNatClampNeg), .int (xs (x3 + (2 : Int32)).toNatClampNeg)]) (st := []) (o := some (.long q94.1)) (N' := q94.2) cq_W_120 hy1 (cE_ofLoan l G X.2.2.2.2.2.2.1 y1 (xs (x3 + (1 : Int32)).toNatClampNeg) (xs (x3 + (2 : Int32)).toNatClampNeg) N hy1 _ e95) ⟨by decide, by decide⟩ rfl rfl (Nat.le_of_ble_eq_true rfl) hcs dq_W_law_1600 ?_
  refine qz_aload_n X 2 rfl dq_W_law_1603 ?_
  refine qz_aload_n X 3 rfl dq_W_law_1604 ?_
  refine qz_iload_n X 0 rfl dq_W_law_1605 ?_
  refine qz_iconst X (v := (1 : Int32)) (by decide) dq_W_law_1606 ?_
  refine qz_iadd X dq_W_law_1607 ?_
  refine qz_sld X hX hbA dq_W_law_1608 h (fun h => ?_)
  refine qz_aload_n X 3 rfl dq_W_law_1609 ?_
  refine qz_iload_n X 0 rfl dq_W_law_1610 ?_
  refine qz_iconst X (v := (2 : Int32)) (by decide) dq_W_law_1611 ?_
  refine qz_iadd X dq_W_law_1612 ?_
  refine qz_sld X hX hbA dq_W_law_1613 h (fun h => ?_)
  refine qz_bind h (fun q96 e97 h => ?_)
  refine qz_callV X (as := [.int (xs (x3 + (1 : Int32)).toNatClampNeg), .int (xs (x3 + (2 : Int32)).toNatClampNeg)]) (st := [.long q94.1]) (o := some (.long q96.1)) (N' := q96.2) cq_W_123 hy2 (cM_ofLoan l G X.2.2.2.2.2.2.1 y2 (xs (x3 + (1 : Int32)).toNatClampNeg) (xs (x3 + (2 : Int32)).toNatClampNeg) q94.2 hy2 _ e97) ⟨by decide, by decide⟩ rfl rfl (Nat.le_of_ble_eq_true rfl) hcs dq_W_law_1614 ?_
  refine qz_lcmp_eq X (tgt := 1754) (by decide) dq_W_law_1617 dq_W_law_1618 h (fun _ h => ?_) (fun _ h => ?_)
  · refine qz_sub [0, 1, 2, 3] rfl ?_
    exact sW_law_1754 X hX hbA hA hcs hr1 y1 y2 hy1 hy2 k18 hk18 q96.2 x3 h
  · refine qz_iconst X (v := (0 : Int32)) (by decide) dq_W_law_1621 ?_
    exact qz_lawret X hA hcs hr1 h dq_W_law_1622
set_option maxRecDepth 100000 in
set_option maxHeartbeats 4000000 in
theorem sW_law_1623 {p : Program} {l : Launch} {e : Env} {s : State} {m : MethodId} {below : List Frame} {meth : Method} {c : Code} {G : qz_G} {b : Nat} {H0 : Heap} {cells slots : Nat} (X : qz_X p s m #[Value.ref b] meth c "ExactCurvesLaw" code 4 ret G) {xs : Nat → Int32} {L : Nat} (hX : va_X b L xs s H0) (hbA : ¬ qz_A G b) (hA : ∀ a, qz_A G a → s.heap.size ≤ a) (hcs : cells ≤ 600000 ∧ slots ≤ 7302250) {r : (Int32 × qz_N)} (hr1 : r.1 = 1) (y1 : Nat) (y2 : Nat) (hy1 : y1 < 1) (hy2 : y2 < 1) (k18 : qz_N × Int32 → Option (Int32 × qz_N)) (hk18 : ∀ a, k18 a = some r → qz_W p l e room_1 s m #[Value.ref b] below meth c cells slots (lw_Z below #[Value.ref b] s) G H0 4 a.1 18 [(3, .int a.2), (1, .ref (G.2.2 0 y1)), (2, .ref (G.2.2 7 y2)), (0, .ref b)] []) (N : qz_N) (x3 : Int32) (h : fW_law_1623 xs L y1 y2 k18 N x3 = some r) : qz_W p l e room_1 s m #[Value.ref b] below meth c cells slots (lw_Z below #[Value.ref b] s) G H0 4 N 1623 [(3, .int x3), (1, .ref (G.2.2 0 y1)), (2, .ref (G.2.2 7 y2)), (0, .ref b)] [] := by
  unfold fW_law_1623 at h
  refine qz_aload_n X 1 rfl dq_W_law_1623 ?_
  refine qz_aload_n X 3 rfl dq_W_law_1624 ?_
  refine qz_iload_n X 0 rfl dq_W_law_1625 ?_
  refine qz_iconst X (v := (1 : Int32)) (by decide) dq_W_law_1626 ?_
  refine qz_iadd X dq_W_law_1627 ?_
  refine qz_sld X hX hbA dq_W_law_1628 h (fun h => ?_)
  refine qz_aload_n X 3 rfl dq_W_law_1629 ?_
  refine qz_iload_n X 0 rfl dq_W_law_1630 ?_
  refine qz_iconst X (v := (2 : Int32)) (by decide) dq_W_law_1631 ?_
  refine qz_iadd X dq_W_law_1632 ?_
  refine qz_sld X hX hbA dq_W_law_1633 h (fun h => ?_)
  refine qz_aload_n X 3 rfl dq_W_law_1634 ?_
  refine qz_iload_n X 0 rfl dq_W_law_1635 ?_
  refine qz_iconst X (v := (3 : Int32)) (by decide) dq_W_law_1636 ?_
  refine qz_iadd X dq_W_law_1637 ?_
  refine qz_sld X hX hbA dq_W_law_1638 h (fun h => ?_)
  refine qz_i2l X dq_W_law_1639 ?_
  refine qz_bipush X (v := (32 : Int32)) (by decide) dq_W_law_1640 ?_
  refine qz_lshl X dq_W_law_1642 ?_
  refine qz_aload_n X 3 rfl dq_W_law_1643 ?_
  refine qz_iload_n X 0 rfl dq_W_law_1644 ?_
  refine qz_iconst X (v := (4 : Int32)) (by decide) dq_W_law_1645 ?_
  refine qz_iadd X dq_W_law_1646 ?_
  refine qz_sld X hX hbA dq_W_law_1647 h (fun h => ?_)
  refine qz_i2l X dq_W_law_1648 ?_
  refine qz_ldc2 X (v := (4294967295 : Int64)) wq_983 dq_W_law_1649 ?_
  refine qz_land X dq_W_law_1652 ?_
  refine qz_lor X dq_W_law_1653 ?_
  refine qz_bind h (fun q98 e99 h => ?_)
  refine qz_callV X (as := [.int (xs (x3 + (1 : Int32)).toNatClampNeg), .int (xs (x3 + (2 : Int32)).toNatClampNeg), .long ((((xs (x3 + (3 : Int32)).toNatClampNeg).toInt64) <<< ((32 : Int32).toInt64 &&& 63)) ||| (((xs (x3 + (4 : Int32)).toNatClampNeg).toInt64) &&& (4294967295 : Int64)))]) (st := []) (o := some (.long q98.1)) (N' := q98.2) cq_W_124 hy1 (cE_pay l G X.2.2.2.2.2.2.1 y1 (xs (x3 + (1 : Int32)).toNatClampNeg) (xs (x3 + (2 : Int32)).toNatClampNeg) ((((xs (x3 + (3 : Int32)).toNatClampNeg).toInt64) <<< ((32 : Int32).toInt64 &&& 63)) ||| (((xs (x3 + (4 : Int32)).toNatClampNeg).toInt64) &&& (4294967295 : Int64))) N hy1 _ e99) ⟨by decide, by decide⟩ rfl rfl (Nat.le_of_ble_eq_true rfl) hcs dq_W_law_1654 ?_
  refine qz_aload_n X 2 rfl dq_W_law_1657 ?_
  refine qz_aload_n X 3 rfl dq_W_law_1658 ?_
  refine qz_iload_n X 0 rfl dq_W_law_1659 ?_
  refine qz_iconst X (v := (1 : Int32)) (by decide) dq_W_law_1660 ?_
  refine qz_iadd X dq_W_law_1661 ?_
  refine qz_sld X hX hbA dq_W_law_1662 h (fun h => ?_)
  refine qz_aload_n X 3 rfl dq_W_law_1663 ?_
  refine qz_iload_n X 0 rfl dq_W_law_1664 ?_
  refine qz_iconst X (v := (2 : Int32)) (by decide) dq_W_law_1665 ?_
  refine qz_iadd X dq_W_law_1666 ?_
  refine qz_sld X hX hbA dq_W_law_1667 h (fun h => ?_)
  refine qz_aload_n X 3 rfl dq_W_law_1668 ?_
  refine qz_iload_n X 0 rfl dq_W_law_1669 ?_
  refine qz_iconst X (v := (3 : Int32)) (by decide) dq_W_law_1670 ?_
  refine qz_iadd X dq_W_law_1671 ?_
  refine qz_sld X hX hbA dq_W_law_1672 h (fun h => ?_)
  refine qz_i2l X dq_W_law_1673 ?_
  refine qz_bipush X (v := (32 : Int32)) (by decide) dq_W_law_1674 ?_
  refine qz_lshl X dq_W_law_1676 ?_
  refine qz_aload_n X 3 rfl dq_W_law_1677 ?_
  refine qz_iload_n X 0 rfl dq_W_law_1678 ?_
  refine qz_iconst X (v := (4 : Int32)) (by decide) dq_W_law_1679 ?_
  refine qz_iadd X dq_W_law_1680 ?_
  refine qz_sld X hX hbA dq_W_law_1681 h (fun h => ?_)
  refine qz_i2l X dq_W_law_1682 ?_
  refine qz_ldc2 X (v := (4294967295 : Int64)) wq_983 dq_W_law_1683 ?_
  refine qz_land X dq_W_law_1686 ?_
  refine qz_lor X dq_W_law_1687 ?_
  refine qz_bind h (fun q100 e101 h => ?_)
  refine qz_callV X (as := [.int (xs (x3 + (1 : Int32)).toNatClampNeg), .int (xs (x3 + (2 : Int32)).toNatClampNeg), .long ((((xs (x3 + (3 : Int32)).toNatClampNeg).toInt64) <<< ((32 : Int32).toInt64 &&& 63)) ||| (((xs (x3 + (4 : Int32)).toNatClampNeg).toInt64) &&& (4294967295 : Int64)))]) (st := [.long q98.1]) (o := some (.long q100.1)) (N' := q100.2) cq_W_127 hy2 (cM_pay l G X.2.2.2.2.2.2.1 y2 (xs (x3 + (1 : Int32)).toNatClampNeg) (xs (x3 + (2 : Int32)).toNatClampNeg) ((((xs (x3 + (3 : Int32)).toNatClampNeg).toInt64) <<< ((32 : Int32).toInt64 &&& 63)) ||| (((xs (x3 + (4 : Int32)).toNatClampNeg).toInt64) &&& (4294967295 : Int64))) q98.2 hy2 _ e101) ⟨by decide, by decide⟩ rfl rfl (Nat.le_of_ble_eq_true rfl) hcs dq_W_law_1688 ?_
  refine qz_lcmp_eq X (tgt := 1754) (by decide) dq_W_law_1691 dq_W_law_1692 h (fun _ h => ?_) (fun _ h => ?_)
  · refine qz_sub [0, 1, 2, 3] rfl ?_
    exact sW_law_1754 X hX hbA hA hcs hr1 y1 y2 hy1 hy2 k18 hk18 q100.2 x3 h
  · refine qz_iconst X (v := (0 : Int32)) (by decide) dq_W_law_1695 ?_
    exact qz_lawret X hA hcs hr1 h dq_W_law_1696
set_option maxRecDepth 100000 in
set_option maxHeartbeats 4000000 in
theorem sW_law_1697 {p : Program} {l : Launch} {e : Env} {s : State} {m : MethodId} {below : List Frame} {meth : Method} {c : Code} {G : qz_G} {b : Nat} {H0 : Heap} {cells slots : Nat} (X : qz_X p s m #[Value.ref b] meth c "ExactCurvesLaw" code 4 ret G) {xs : Nat → Int32} {L : Nat} (hX : va_X b L xs s H0) (hbA : ¬ qz_A G b) (hA : ∀ a, qz_A G a → s.heap.size ≤ a) (hcs : cells ≤ 600000 ∧ slots ≤ 7302250) {r : (Int32 × qz_N)} (hr1 : r.1 = 1) (y1 : Nat) (y2 : Nat) (hy1 : y1 < 1) (hy2 : y2 < 1) (k18 : qz_N × Int32 → Option (Int32 × qz_N)) (hk18 : ∀ a, k18 a = some r → qz_W p l e room_1 s m #[Value.ref b] below meth c cells slots (lw_Z below #[Value.ref b] s) G H0 4 a.1 18 [(3, .int a.2), (1, .ref (G.2.2 0 y1)), (2, .ref (G.2.2 7 y2)), (0, .ref b)] []) (N : qz_N) (x3 : Int32) (h : fW_law_1697 xs L y1 y2 k18 N x3 = some r) : qz_W p l e room_1 s m #[Value.ref b] below meth c cells slots (lw_Z below #[Value.ref b] s) G H0 4 N 1697 [(3, .int x3), (1, .ref (G.2.2 0 y1)), (2, .ref (G.2.2 7 y2)), (0, .ref b)] [] := by
  unfold fW_law_1697 at h
  refine qz_aload_n X 1 rfl dq_W_law_1697 ?_
  refine qz_aload_n X 3 rfl dq_W_law_1698 ?_
  refine qz_iload_n X 0 rfl dq_W_law_1699 ?_
  refine qz_iconst X (v := (1 : Int32)) (by decide) dq_W_law_1700 ?_
  refine qz_iadd X dq_W_law_1701 ?_
  refine qz_sld X hX hbA dq_W_law_1702 h (fun h => ?_)
  refine qz_aload_n X 3 rfl dq_W_law_1703 ?_
  refine qz_iload_n X 0 rfl dq_W_law_1704 ?_
  refine qz_iconst X (v := (2 : Int32)) (by decide) dq_W_law_1705 ?_
  refine qz_iadd X dq_W_law_1706 ?_
  refine qz_sld X hX hbA dq_W_law_1707 h (fun h => ?_)
  refine qz_bind h (fun q102 e103 h => ?_)
  refine qz_callV X (as := [.int (xs (x3 + (1 : Int32)).toNatClampNeg), .int (xs (x3 + (2 : Int32)).toNatClampNeg)]) (st := []) (o := some (.long q102.1)) (N' := q102.2) cq_W_128 hy1 (cE_close l G X.2.2.2.2.2.2.1 y1 (xs (x3 + (1 : Int32)).toNatClampNeg) (xs (x3 + (2 : Int32)).toNatClampNeg) N hy1 _ e103) ⟨by decide, by decide⟩ rfl rfl (Nat.le_of_ble_eq_true rfl) hcs dq_W_law_1708 ?_
  refine qz_aload_n X 2 rfl dq_W_law_1711 ?_
  refine qz_aload_n X 3 rfl dq_W_law_1712 ?_
  refine qz_iload_n X 0 rfl dq_W_law_1713 ?_
  refine qz_iconst X (v := (1 : Int32)) (by decide) dq_W_law_1714 ?_
  refine qz_iadd X dq_W_law_1715 ?_
  refine qz_sld X hX hbA dq_W_law_1716 h (fun h => ?_)
  refine qz_aload_n X 3 rfl dq_W_law_1717 ?_
  refine qz_iload_n X 0 rfl dq_W_law_1718 ?_
  refine qz_iconst X (v := (2 : Int32)) (by decide) dq_W_law_1719 ?_
  refine qz_iadd X dq_W_law_1720 ?_
  refine qz_sld X hX hbA dq_W_law_1721 h (fun h => ?_)
  refine qz_bind h (fun q104 e105 h => ?_)
  refine qz_callV X (as := [.int (xs (x3 + (1 : Int32)).toNatClampNeg), .int (xs (x3 + (2 : Int32)).toNatClampNeg)]) (st := [.long q102.1]) (o := some (.long q104.1)) (N' := q104.2) cq_W_131 hy2 (cM_close l G X.2.2.2.2.2.2.1 y2 (xs (x3 + (1 : Int32)).toNatClampNeg) (xs (x3 + (2 : Int32)).toNatClampNeg) q102.2 hy2 _ e105) ⟨by decide, by decide⟩ rfl rfl (Nat.le_of_ble_eq_true rfl) hcs dq_W_law_1722 ?_
  refine qz_lcmp_eq X (tgt := 1754) (by decide) dq_W_law_1725 dq_W_law_1726 h (fun _ h => ?_) (fun _ h => ?_)
  · refine qz_sub [0, 1, 2, 3] rfl ?_
    exact sW_law_1754 X hX hbA hA hcs hr1 y1 y2 hy1 hy2 k18 hk18 q104.2 x3 h
  · refine qz_iconst X (v := (0 : Int32)) (by decide) dq_W_law_1729 ?_
    exact qz_lawret X hA hcs hr1 h dq_W_law_1730
set_option maxRecDepth 100000 in
set_option maxHeartbeats 4000000 in
theorem sW_law_1731 {p : Program} {l : Launch} {e : Env} {s : State} {m : MethodId} {below : List Frame} {meth : Method} {c : Code} {G : qz_G} {b : Nat} {H0 : Heap} {cells slots : Nat} (X : qz_X p s m #[Value.ref b] meth c "ExactCurvesLaw" code 4 ret G) {xs : Nat → Int32} {L : Nat} (hX : va_X b L xs s H0) (hbA : ¬ qz_A G b) (hA : ∀ a, qz_A G a → s.heap.size ≤ a) (hcs : cells ≤ 600000 ∧ slots ≤ 7302250) {r : (Int32 × qz_N)} (hr1 : r.1 = 1) (y1 : Nat) (y2 : Nat) (hy1 : y1 < 1) (hy2 : y2 < 1) (k18 : qz_N × Int32 → Option (Int32 × qz_N)) (hk18 : ∀ a, k18 a = some r → qz_W p l e room_1 s m #[Value.ref b] below meth c cells slots (lw_Z below #[Value.ref b] s) G H0 4 a.1 18 [(3, .int a.2), (1, .ref (G.2.2 0 y1)), (2, .ref (G.2.2 7 y2)), (0, .ref b)] []) (N : qz_N) (x3 : Int32) (h : fW_law_1731 xs L y1 y2 k18 N x3 = some r) : qz_W p l e room_1 s m #[Value.ref b] below meth c cells slots (lw_Z below #[Value.ref b] s) G H0 4 N 1731 [(3, .int x3), (1, .ref (G.2.2 0 y1)), (2, .ref (G.2.2 7 y2)), (0, .ref b)] [] := by
  unfold fW_law_1731 at h
  refine qz_aload_n X 1 rfl dq_W_law_1731 ?_
  refine qz_aload_n X 3 rfl dq_W_law_1732 ?_
  refine qz_iload_n X 0 rfl dq_W_law_1733 ?_
  refine qz_iconst X (v := (1 : Int32)) (by decide) dq_W_law_1734 ?_
  refine qz_iadd X dq_W_law_1735 ?_
  refine qz_sld X hX hbA dq_W_law_1736 h (fun h => ?_)
  refine qz_bind h (fun q106 e107 h => ?_)
  refine qz_callV X (as := [.int (xs (x3 + (1 : Int32)).toNatClampNeg)]) (st := []) (o := some (.int q106.1)) (N' := q106.2) cq_W_132 hy1 (cE_count l G X.2.2.2.2.2.2.1 y1 (xs (x3 + (1 : Int32)).toNatClampNeg) N hy1 _ e107) ⟨by decide, by decide⟩ rfl rfl (Nat.le_of_ble_eq_true rfl) hcs dq_W_law_1737 ?_
  refine qz_aload_n X 2 rfl dq_W_law_1740 ?_
  refine qz_aload_n X 3 rfl dq_W_law_1741 ?_
  refine qz_iload_n X 0 rfl dq_W_law_1742 ?_
  refine qz_iconst X (v := (1 : Int32)) (by decide) dq_W_law_1743 ?_
  refine qz_iadd X dq_W_law_1744 ?_
  refine qz_sld X hX hbA dq_W_law_1745 h (fun h => ?_)
  refine qz_bind h (fun q108 e109 h => ?_)
  refine qz_callV X (as := [.int (xs (x3 + (1 : Int32)).toNatClampNeg)]) (st := [.int q106.1]) (o := some (.int q108.1)) (N' := q108.2) cq_W_135 hy2 (cM_count l G X.2.2.2.2.2.2.1 y2 (xs (x3 + (1 : Int32)).toNatClampNeg) q106.2 hy2 _ e109) ⟨by decide, by decide⟩ rfl rfl (Nat.le_of_ble_eq_true rfl) hcs dq_W_law_1746 ?_
  refine qz_icmp_eq X (tgt := 1754) (by decide) dq_W_law_1749 h (fun _ h => ?_) (fun _ h => ?_)
  · refine qz_sub [0, 1, 2, 3] rfl ?_
    exact sW_law_1754 X hX hbA hA hcs hr1 y1 y2 hy1 hy2 k18 hk18 q108.2 x3 h
  · refine qz_iconst X (v := (0 : Int32)) (by decide) dq_W_law_1752 ?_
    exact qz_lawret X hA hcs hr1 h dq_W_law_1753
set_option maxRecDepth 100000 in
set_option maxHeartbeats 4000000 in
theorem sW_law_18b {p : Program} {l : Launch} {e : Env} {s : State} {m : MethodId} {below : List Frame} {meth : Method} {c : Code} {G : qz_G} {b : Nat} {H0 : Heap} {cells slots : Nat} (X : qz_X p s m #[Value.ref b] meth c "ExactCurvesLaw" code 4 ret G) {xs : Nat → Int32} {L : Nat} (hX : va_X b L xs s H0) (hbA : ¬ qz_A G b) (hA : ∀ a, qz_A G a → s.heap.size ≤ a) (hcs : cells ≤ 600000 ∧ slots ≤ 7302250) {r : (Int32 × qz_N)} (hr1 : r.1 = 1) (y1 : Nat) (y2 : Nat) (hy1 : y1 < 1) (hy2 : y2 < 1) (k18 : qz_N × Int32 → Option (Int32 × qz_N)) (hk18 : ∀ a, k18 a = some r → qz_W p l e room_1 s m #[Value.ref b] below meth c cells slots (lw_Z below #[Value.ref b] s) G H0 4 a.1 18 [(3, .int a.2), (1, .ref (G.2.2 0 y1)), (2, .ref (G.2.2 7 y2)), (0, .ref b)] []) (N : qz_N) (x3 : Int32) (h : fW_law_18b xs L y1 y2 k18 N x3 = some r) : qz_W p l e room_1 s m #[Value.ref b] below meth c cells slots (lw_Z below #[Value.ref b] s) G H0 4 N 18 [(3, .int x3), (1, .ref (G.2.2 0 y1)), (2, .ref (G.2.2 7 y2)), (0, .ref b)] [] := by
  unfold fW_law_18b at h
  refine qz_iload_n X 0 rfl dq_W_law_18 ?_
  refine qz_aload_n X 3 rfl dq_W_law_19 ?_
  refine qz_slen X hX hbA dq_W_law_20 ?_
  refine qz_bipush X (v := (11 : Int32)) (by decide) dq_W_law_21 ?_
  refine qz_isub X dq_W_law_23 ?_
  refine qz_icmp_gt X (tgt := 1760) (by decide) dq_W_law_24 h (fun _ h => ?_) (fun _ h => ?_)
  · refine qz_iconst X (v := (1 : Int32)) (by decide) dq_W_law_1760 ?_
    exact qz_lawret X hA hcs hr1 h dq_W_law_1761
  · refine qz_aload_n X 3 rfl dq_W_law_27 ?_
    refine qz_iload_n X 0 rfl dq_W_law_28 ?_
    refine qz_sld X hX hbA dq_W_law_29 h (fun h => ?_)
    refine qz_bipush X (v := (31 : Int32)) (by decide) dq_W_law_30 ?_
    refine qz_iand X dq_W_law_32 ?_
    refine qz_ite h (fun c0_33 h => ?_) (fun c0_33 h => ?_)
    · refine qz_tabIn X (tgt := 156) c0_33 (by decide) (by decide) rfl (by decide) dq_W_law_33 ?_
      refine qz_sub [0, 1, 2, 3] rfl ?_
      exact sW_law_156 X hX hbA hA hcs hr1 y1 y2 hy1 hy2 k18 hk18 N x3 h
    · refine qz_ite h (fun c1_33 h => ?_) (fun c1_33 h => ?_)
      · refine qz_tabIn X (tgt := 230) c1_33 (by decide) (by decide) rfl (by decide) dq_W_law_33 ?_
        refine qz_sub [0, 1, 2, 3] rfl ?_
        exact sW_law_230 X hX hbA hA hcs hr1 y1 y2 hy1 hy2 k18 hk18 N x3 h
      · refine qz_ite h (fun c2_33 h => ?_) (fun c2_33 h => ?_)
        · refine qz_tabIn X (tgt := 264) c2_33 (by decide) (by decide) rfl (by decide) dq_W_law_33 ?_
          refine qz_sub [0, 1, 2, 3] rfl ?_
          exact sW_law_264 X hX hbA hA hcs hr1 y1 y2 hy1 hy2 k18 hk18 N x3 h
        · refine qz_ite h (fun c3_33 h => ?_) (fun c3_33 h => ?_)
          · refine qz_tabIn X (tgt := 288) c3_33 (by decide) (by decide) rfl (by decide) dq_W_law_33 ?_
            refine qz_sub [0, 1, 2, 3] rfl ?_
            exact sW_law_288 X hX hbA hA hcs hr1 y1 y2 hy1 hy2 k18 hk18 N x3 h
          · refine qz_ite h (fun c4_33 h => ?_) (fun c4_33 h => ?_)
            · refine qz_tabIn X (tgt := 312) c4_33 (by decide) (by decide) rfl (by decide) dq_W_law_33 ?_
              refine qz_sub [0, 1, 2, 3] rfl ?_
              exact sW_law_312 X hX hbA hA hcs hr1 y1 y2 hy1 hy2 k18 hk18 N x3 h
            · refine qz_ite h (fun c5_33 h => ?_) (fun c5_33 h => ?_)
              · refine qz_tabIn X (tgt := 365) c5_33 (by decide) (by decide) rfl (by decide) dq_W_law_33 ?_
                refine qz_sub [0, 1, 2, 3] rfl ?_
                exact sW_law_365 X hX hbA hA hcs hr1 y1 y2 hy1 hy2 k18 hk18 N x3 h
              · refine qz_ite h (fun c6_33 h => ?_) (fun c6_33 h => ?_)
                · refine qz_tabIn X (tgt := 399) c6_33 (by decide) (by decide) rfl (by decide) dq_W_law_33 ?_
                  refine qz_sub [0, 1, 2, 3] rfl ?_
                  exact sW_law_399 X hX hbA hA hcs hr1 y1 y2 hy1 hy2 k18 hk18 N x3 h
                · refine qz_ite h (fun c7_33 h => ?_) (fun c7_33 h => ?_)
                  · refine qz_tabIn X (tgt := 515) c7_33 (by decide) (by decide) rfl (by decide) dq_W_law_33 ?_
                    refine qz_sub [0, 1, 2, 3] rfl ?_
                    exact sW_law_515 X hX hbA hA hcs hr1 y1 y2 hy1 hy2 k18 hk18 N x3 h
                  · refine qz_ite h (fun c8_33 h => ?_) (fun c8_33 h => ?_)
                    · refine qz_tabIn X (tgt := 589) c8_33 (by decide) (by decide) rfl (by decide) dq_W_law_33 ?_
                      refine qz_sub [0, 1, 2, 3] rfl ?_
                      exact sW_law_589 X hX hbA hA hcs hr1 y1 y2 hy1 hy2 k18 hk18 N x3 h
                    · refine qz_ite h (fun c9_33 h => ?_) (fun c9_33 h => ?_)
                      · refine qz_tabIn X (tgt := 673) c9_33 (by decide) (by decide) rfl (by decide) dq_W_law_33 ?_
                        refine qz_sub [0, 1, 2, 3] rfl ?_
                        exact sW_law_673 X hX hbA hA hcs hr1 y1 y2 hy1 hy2 k18 hk18 N x3 h
                      · refine qz_ite h (fun c10_33 h => ?_) (fun c10_33 h => ?_)
                        · refine qz_tabIn X (tgt := 747) c10_33 (by decide) (by decide) rfl (by decide) dq_W_law_33 ?_
                          refine qz_sub [0, 1, 2, 3] rfl ?_
                          exact sW_law_747 X hX hbA hA hcs hr1 y1 y2 hy1 hy2 k18 hk18 N x3 h
                        · refine qz_ite h (fun c11_33 h => ?_) (fun c11_33 h => ?_)
                          · refine qz_tabIn X (tgt := 950) c11_33 (by decide) (by decide) rfl (by decide) dq_W_law_33 ?_
                            refine qz_sub [0, 1, 2, 3] rfl ?_
                            exact sW_law_950 X hX hbA hA hcs hr1 y1 y2 hy1 hy2 k18 hk18 N x3 h
                          · refine qz_ite h (fun c12_33 h => ?_) (fun c12_33 h => ?_)
                            · refine qz_tabIn X (tgt := 973) c12_33 (by decide) (by decide) rfl (by decide) dq_W_law_33 ?_
                              refine qz_sub [0, 1, 2, 3] rfl ?_
                              exact sW_law_973 X hX hbA hA hcs hr1 y1 y2 hy1 hy2 k18 hk18 N x3 h
                            · refine qz_ite h (fun c13_33 h => ?_) (fun c13_33 h => ?_)
                              · refine qz_tabIn X (tgt := 1006) c13_33 (by decide) (by decide) rfl (by decide) dq_W_law_33 ?_
                                refine qz_sub [0, 1, 2, 3] rfl ?_
                                exact sW_law_1006 X hX hbA hA hcs hr1 y1 y2 hy1 hy2 k18 hk18 N x3 h
                              · refine qz_ite h (fun c14_33 h => ?_) (fun c14_33 h => ?_)
                                · refine qz_tabIn X (tgt := 1030) c14_33 (by decide) (by decide) rfl (by decide) dq_W_law_33 ?_
                                  refine qz_sub [0, 1, 2, 3] rfl ?_
                                  exact sW_law_1030 X hX hbA hA hcs hr1 y1 y2 hy1 hy2 k18 hk18 N x3 h
                                · refine qz_ite h (fun c15_33 h => ?_) (fun c15_33 h => ?_)
                                  · refine qz_tabIn X (tgt := 1063) c15_33 (by decide) (by decide) rfl (by decide) dq_W_law_33 ?_
                                    refine qz_sub [0, 1, 2, 3] rfl ?_
                                    exact sW_law_1063 X hX hbA hA hcs hr1 y1 y2 hy1 hy2 k18 hk18 N x3 h
                                  · refine qz_ite h (fun c16_33 h => ?_) (fun c16_33 h => ?_)
                                    · refine qz_tabIn X (tgt := 1178) c16_33 (by decide) (by decide) rfl (by decide) dq_W_law_33 ?_
                                      refine qz_sub [0, 1, 2, 3] rfl ?_
                                      exact sW_law_1178 X hX hbA hA hcs hr1 y1 y2 hy1 hy2 k18 hk18 N x3 h
                                    · refine qz_ite h (fun c17_33 h => ?_) (fun c17_33 h => ?_)
                                      · refine qz_tabIn X (tgt := 1192) c17_33 (by decide) (by decide) rfl (by decide) dq_W_law_33 ?_
                                        refine qz_sub [0, 1, 2, 3] rfl ?_
                                        exact sW_law_1192 X hX hbA hA hcs hr1 y1 y2 hy1 hy2 k18 hk18 N x3 h
                                      · refine qz_ite h (fun c18_33 h => ?_) (fun c18_33 h => ?_)
                                        · refine qz_tabIn X (tgt := 1216) c18_33 (by decide) (by decide) rfl (by decide) dq_W_law_33 ?_
                                          refine qz_sub [0, 1, 2, 3] rfl ?_
                                          exact sW_law_1216 X hX hbA hA hcs hr1 y1 y2 hy1 hy2 k18 hk18 N x3 h
                                        · refine qz_ite h (fun c19_33 h => ?_) (fun c19_33 h => ?_)
                                          · refine qz_tabIn X (tgt := 1280) c19_33 (by decide) (by decide) rfl (by decide) dq_W_law_33 ?_
                                            refine qz_sub [0, 1, 2, 3] rfl ?_
                                            exact sW_law_1280 X hX hbA hA hcs hr1 y1 y2 hy1 hy2 k18 hk18 N x3 h
                                          · refine qz_ite h (fun c20_33 h => ?_) (fun c20_33 h => ?_)
                                            · refine qz_tabIn X (tgt := 1354) c20_33 (by decide) (by decide) rfl (by decide) dq_W_law_33 ?_
                                              refine qz_sub [0, 1, 2, 3] rfl ?_
                                              exact sW_law_1354 X hX hbA hA hcs hr1 y1 y2 hy1 hy2 k18 hk18 N x3 h
                                            · refine qz_ite h (fun c21_33 h => ?_) (fun c21_33 h => ?_)
                                              · refine qz_tabIn X (tgt := 1428) c21_33 (by decide) (by decide) rfl (by decide) dq_W_law_33 ?_
                                                refine qz_sub [0, 1, 2, 3] rfl ?_
                                                exact sW_law_1428 X hX hbA hA hcs hr1 y1 y2 hy1 hy2 k18 hk18 N x3 h
                                              · refine qz_ite h (fun c22_33 h => ?_) (fun c22_33 h => ?_)
                                                · refine qz_tabIn X (tgt := 1462) c22_33 (by decide) (by decide) rfl (by decide) dq_W_law_33 ?_
                                                  refine qz_sub [0, 1, 2, 3] rfl ?_
                                                  exact sW_law_1462 X hX hbA hA hcs hr1 y1 y2 hy1 hy2 k18 hk18 N x3 h
                                                · refine qz_ite h (fun c23_33 h => ?_) (fun c23_33 h => ?_)
                                                  · refine qz_tabIn X (tgt := 1589) c23_33 (by decide) (by decide) rfl (by decide) dq_W_law_33 ?_
                                                    refine qz_sub [0, 1, 2, 3] rfl ?_
                                                    exact sW_law_1589 X hX hbA hA hcs hr1 y1 y2 hy1 hy2 k18 hk18 N x3 h
                                                  · refine qz_ite h (fun c24_33 h => ?_) (fun c24_33 h => ?_)
                                                    · refine qz_tabIn X (tgt := 1623) c24_33 (by decide) (by decide) rfl (by decide) dq_W_law_33 ?_
                                                      refine qz_sub [0, 1, 2, 3] rfl ?_
                                                      exact sW_law_1623 X hX hbA hA hcs hr1 y1 y2 hy1 hy2 k18 hk18 N x3 h
                                                    · refine qz_ite h (fun c25_33 h => ?_) (fun c25_33 h => ?_)
                                                      · refine qz_tabIn X (tgt := 1697) c25_33 (by decide) (by decide) rfl (by decide) dq_W_law_33 ?_
                                                        refine qz_sub [0, 1, 2, 3] rfl ?_
                                                        exact sW_law_1697 X hX hbA hA hcs hr1 y1 y2 hy1 hy2 k18 hk18 N x3 h
                                                      · refine qz_ite h (fun c26_33 h => ?_) (fun c26_33 h => ?_)
                                                        · refine qz_tabIn X (tgt := 1731) c26_33 (by decide) (by decide) rfl (by decide) dq_W_law_33 ?_
                                                          refine qz_sub [0, 1, 2, 3] rfl ?_
                                                          exact sW_law_1731 X hX hbA hA hcs hr1 y1 y2 hy1 hy2 k18 hk18 N x3 h
                                                        · refine qz_tabOut X (tgt := 1754) (by decide) (qz_out27 0 c0_33 c1_33 c2_33 c3_33 c4_33 c5_33 c6_33 c7_33 c8_33 c9_33 c10_33 c11_33 c12_33 c13_33 c14_33 c15_33 c16_33 c17_33 c18_33 c19_33 c20_33 c21_33 c22_33 c23_33 c24_33 c25_33 c26_33) dq_W_law_33 ?_
                                                          refine qz_sub [0, 1, 2, 3] rfl ?_
                                                          exact sW_law_1754 X hX hbA hA hcs hr1 y1 y2 hy1 hy2 k18 hk18 N x3 h
theorem sW_law_18 {p : Program} {l : Launch} {e : Env} {s : State} {m : MethodId} {below : List Frame} {meth : Method} {c : Code} {G : qz_G} {b : Nat} {H0 : Heap} {cells slots : Nat} (X : qz_X p s m #[Value.ref b] meth c "ExactCurvesLaw" code 4 ret G) {xs : Nat → Int32} {L : Nat} (hX : va_X b L xs s H0) (hbA : ¬ qz_A G b) (hA : ∀ a, qz_A G a → s.heap.size ≤ a) (hcs : cells ≤ 600000 ∧ slots ≤ 7302250) {r : (Int32 × qz_N)} (hr1 : r.1 = 1) (y1 : Nat) (y2 : Nat) (hy1 : y1 < 1) (hy2 : y2 < 1) (n : Nat) (a : qz_N × Int32) (h : fW_law_18 xs L y1 y2 n a = some r) : qz_W p l e room_1 s m #[Value.ref b] below meth c cells slots (lw_Z below #[Value.ref b] s) G H0 4 a.1 18 [(3, .int a.2), (1, .ref (G.2.2 0 y1)), (2, .ref (G.2.2 7 y2)), (0, .ref b)] [] :=
  qz_loop_ind (P := fun a => qz_W p l e room_1 s m #[Value.ref b] below meth c cells slots (lw_Z below #[Value.ref b] s) G H0 4 a.1 18 [(3, .int a.2), (1, .ref (G.2.2 0 y1)), (2, .ref (G.2.2 7 y2)), (0, .ref b)] []) (fun k hk a h => sW_law_18b X hX hbA hA hcs hr1 y1 y2 hy1 hy2 k hk a.1 a.2 h) n a h
