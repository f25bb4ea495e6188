theorem ixa {i N : Nat} (j : Nat) (v : Int32) (hv : v = nI j) (h : i + j < N) (hN : N ≤ 2564) : vp_in (nI i + v) N ∧ (nI i + v).toNatClampNeg = i + j := by
  subst hv
  rw [nI_add]
  exact ⟨vp_in_nI h (by omega), nI_clamp (by omega)⟩
theorem ix0 {i N : Nat} (h : i < N) (hN : N ≤ 2564) : vp_in (nI i) N ∧ (nI i).toNatClampNeg = i := ⟨vp_in_nI h (by omega), nI_clamp (by omega)⟩
theorem mapX {K : Nat} {cA : Nat → ClassId} {a : Nat → Nat} : ∀ z, (WX K cA a z).map Prod.fst = (List.range 23).map a := fun _ => rfl
theorem mapM {K : Nat} {cA : Nat → ClassId} {a : Nat → Nat} : ∀ z, (WM K cA a z).map Prod.fst = (List.range 19).map a := fun _ => rfl
theorem lc_self (x : Int64) : lg_cmp x x = 0 := by
  unfold lg_cmp
  rw [if_neg (show ¬ x > x from Int64.lt_irrefl), if_pos rfl]
set_option maxHeartbeats 4000000 in
set_option maxRecDepth 100000 in
theorem lw_begin (l : Launch) (K : Nat) (cA : Nat → ClassId) (D : va_G) (p : Program) (e : Env) (s : State) (m : MethodId) (below : List Frame) (meth : Method) (c : Code) (sb N : Nat) (xs : Nat → Int32) (hN : N ≤ 2564) (hc : Cx TS NS CL D (tyX cA) p s m #[Value.ref sb] meth c code 4 "ChangeFeedLaw") (hX : va_X sb N xs s s.heap) (hbl : sb < s.heap.size) (a b : Nat → Nat) (i : Nat) (hi : i + 4 < N) (J : St → St → Prop) (z w : St) (hw : w_X0_begin K  z (fun r u => w_M0_begin K  w (fun r' u' => r = r' ∧ J u u'))) (hnext : ∀ z w, J z w → V CL p l e room_1 s m #[Value.ref sb] below meth c 4 D (fun q => s.heap.size ≤ q) 42 2440 (lw_Z below #[Value.ref sb] s) (WX K cA a z ++ WM K cA b w) 709 [(3, .int (nI i)), (2, .ref (b 0)), (1, .ref (a 0)), (0, .ref sb)] []) : V CL p l e room_1 s m #[Value.ref sb] below meth c 4 D (fun q => s.heap.size ≤ q) 42 2440 (lw_Z below #[Value.ref sb] s) (WX K cA a z ++ WM K cA b w) 168 [(3, .int (nI i)), (2, .ref (b 0)), (1, .ref (a 0)), (0, .ref sb)] [] := by
  refine V_aload_n hc d_L0_law_168 rfl 2 rfl ?_
  refine V_callJi (wr := WM K cA b w) (As := []) (st := []) hc TS_good NS_nest (fun _ h => h) mapX (c_X0_begin l K cA D a  z) [0, 1, 2, 3, 4, 5, 6, 7, 8, 9, 10, 11, 12, 13, 14, 15, 16, 17, 18, 19, 20, 21, 22] [23, 24, 25, 26, 27, 28, 29, 30, 31, 32, 33, 34, 35, 36, 37, 38, 39, 40, 41] rfl rfl (by decide) (by decide) (by decide) k_249 k_1 k_252 k_250 k_251 0 eX_0 rfl q_X0_begin (by decide) (by decide) (by decide) rfl (Nat.le_of_ble_eq_true rfl) d_L0_law_169 hw (fun r0 u0 hw => ?_)
  try dsimp only at hw
  refine V_aload_n hc d_L0_law_172 rfl 1 rfl ?_
  refine V_callJi (wr := WX K cA a u0) (As := []) (st := [.int r0]) hc TS_good NS_nest (fun _ h => h) mapM (c_M0_begin l K cA D b  w) [0, 1, 2, 3, 4, 5, 6, 7, 8, 9, 10, 11, 12, 13, 14, 15, 16, 17, 18] [19, 20, 21, 22, 23, 24, 25, 26, 27, 28, 29, 30, 31, 32, 33, 34, 35, 36, 37, 38, 39, 40, 41] rfl rfl (by decide) (by decide) (by decide) k_757 k_10 k_760 k_758 k_759 0 eM_0 rfl q_M0_begin (by decide) (by decide) (by decide) rfl (Nat.le_of_ble_eq_true rfl) d_L0_law_173 hw (fun r1 u1 hw => ?_)
  try dsimp only at hw
  refine V_icmp_eq (tgt := 709) hc d_L0_law_176 rfl (fun _ => ?_) (fun h => absurd hw.1 h)
  exact hnext u0 u1 hw.2
set_option maxHeartbeats 4000000 in
set_option maxRecDepth 100000 in
theorem lw_lock (l : Launch) (K : Nat) (cA : Nat → ClassId) (D : va_G) (p : Program) (e : Env) (s : State) (m : MethodId) (below : List Frame) (meth : Method) (c : Code) (sb N : Nat) (xs : Nat → Int32) (hN : N ≤ 2564) (hc : Cx TS NS CL D (tyX cA) p s m #[Value.ref sb] meth c code 4 "ChangeFeedLaw") (hX : va_X sb N xs s s.heap) (hbl : sb < s.heap.size) (a b : Nat → Nat) (i : Nat) (hi : i + 4 < N) (J : St → St → Prop) (z w : St) (hw : w_X0_lock K (xs (i + 1)) (xs (i + 2)) z (fun r u => w_M0_lock K (xs (i + 1)) (xs (i + 2)) w (fun r' u' => r = r' ∧ J u u'))) (hnext : ∀ z w, J z w → V CL p l e room_1 s m #[Value.ref sb] below meth c 4 D (fun q => s.heap.size ≤ q) 42 2440 (lw_Z below #[Value.ref sb] s) (WX K cA a z ++ WM K cA b w) 709 [(3, .int (nI i)), (2, .ref (b 0)), (1, .ref (a 0)), (0, .ref sb)] []) : V CL p l e room_1 s m #[Value.ref sb] below meth c 4 D (fun q => s.heap.size ≤ q) 42 2440 (lw_Z below #[Value.ref sb] s) (WX K cA a z ++ WM K cA b w) 181 [(3, .int (nI i)), (2, .ref (b 0)), (1, .ref (a 0)), (0, .ref sb)] [] := by
  refine V_aload_n hc d_L0_law_181 rfl 2 rfl ?_
  refine V_aload_n hc d_L0_law_182 rfl 3 rfl ?_
  refine V_iload_n hc d_L0_law_183 rfl 0 rfl ?_
  refine V_iconst (v := 1) hc d_L0_law_184 (by decide) ?_
  refine V_iadd hc d_L0_law_185 rfl ?_
  refine V_sld (x := xs (i + 1)) hc hX hbl (fun h => absurd hbl (Nat.not_lt.mpr h)) (ixa 1 1 rfl (by omega) hN).1 (congrArg xs (ixa 1 1 rfl (by omega) hN).2) d_L0_law_186 ?_
  refine V_aload_n hc d_L0_law_187 rfl 3 rfl ?_
  refine V_iload_n hc d_L0_law_188 rfl 0 rfl ?_
  refine V_iconst (v := 2) hc d_L0_law_189 (by decide) ?_
  refine V_iadd hc d_L0_law_190 rfl ?_
  refine V_sld (x := xs (i + 2)) hc hX hbl (fun h => absurd hbl (Nat.not_lt.mpr h)) (ixa 2 2 rfl (by omega) hN).1 (congrArg xs (ixa 2 2 rfl (by omega) hN).2) d_L0_law_191 ?_
  refine V_callJi (wr := WM K cA b w) (As := [.int (xs (i + 1)), .int (xs (i + 2))]) (st := []) hc TS_good NS_nest (fun _ h => h) mapX (c_X0_lock l K cA D a (xs (i + 1)) (xs (i + 2)) z) [0, 1, 2, 3, 4, 5, 6, 7, 8, 9, 10, 11, 12, 13, 14, 15, 16, 17, 18, 19, 20, 21, 22] [23, 24, 25, 26, 27, 28, 29, 30, 31, 32, 33, 34, 35, 36, 37, 38, 39, 40, 41] rfl rfl (by decide) (by decide) (by decide) k_261 k_1 k_264 k_262 k_263 0 eX_0 rfl q_X0_lock (by decide) (by decide) (by decide) rfl (Nat.le_of_ble_eq_true rfl) d_L0_law_192 hw (fun r0 u0 hw => ?_)
  try dsimp only at hw
  refine V_aload_n hc d_L0_law_195 rfl 1 rfl ?_
  refine V_aload_n hc d_L0_law_196 rfl 3 rfl ?_
  refine V_iload_n hc d_L0_law_197 rfl 0 rfl ?_
  refine V_iconst (v := 1) hc d_L0_law_198 (by decide) ?_
  refine V_iadd hc d_L0_law_199 rfl ?_
  refine V_sld (x := xs (i + 1)) hc hX hbl (fun h => absurd hbl (Nat.not_lt.mpr h)) (ixa 1 1 rfl (by omega) hN).1 (congrArg xs (ixa 1 1 rfl (by omega) hN).2) d_L0_law_200 ?_
  refine V_aload_n hc d_L0_law_201 rfl 3 rfl ?_
  refine V_iload_n hc d_L0_law_202 rfl 0 rfl ?_
  refine V_iconst (v := 2) hc d_L0_law_203 (by decide) ?_
  refine V_iadd hc d_L0_law_204 rfl ?_
  refine V_sld (x := xs (i + 2)) hc hX hbl (fun h => absurd hbl (Nat.not_lt.mpr h)) (ixa 2 2 rfl (by omega) hN).1 (congrArg xs (ixa 2 2 rfl (by omega) hN).2) d_L0_law_205 ?_
  refine V_callJi (wr := WX K cA a u0) (As := [.int (xs (i + 1)), .int (xs (i + 2))]) (st := [.int r0]) hc TS_good NS_nest (fun _ h => h) mapM (c_M0_lock l K cA D b (xs (i + 1)) (xs (i + 2)) w) [0, 1, 2, 3, 4, 5, 6, 7, 8, 9, 10, 11, 12, 13, 14, 15, 16, 17, 18] [19, 20, 21, 22, 23, 24, 25, 26, 27, 28, 29, 30, 31, 32, 33, 34, 35, 36, 37, 38, 39, 40, 41] rfl rfl (by decide) (by decide) (by decide) k_765 k_10 k_768 k_766 k_767 0 eM_0 rfl q_M0_lock (by decide) (by decide) (by decide) rfl (Nat.le_of_ble_eq_true rfl) d_L0_law_206 hw (fun r1 u1 hw => ?_)
  try dsimp only at hw
  refine V_icmp_eq (tgt := 709) hc d_L0_law_209 rfl (fun _ => ?_) (fun h => absurd hw.1 h)
  exact hnext u0 u1 hw.2
set_option maxHeartbeats 4000000 in
set_option maxRecDepth 100000 in
theorem lw_put (l : Launch) (K : Nat) (cA : Nat → ClassId) (D : va_G) (p : Program) (e : Env) (s : State) (m : MethodId) (below : List Frame) (meth : Method) (c : Code) (sb N : Nat) (xs : Nat → Int32) (hN : N ≤ 2564) (hc : Cx TS NS CL D (tyX cA) p s m #[Value.ref sb] meth c code 4 "ChangeFeedLaw") (hX : va_X sb N xs s s.heap) (hbl : sb < s.heap.size) (a b : Nat → Nat) (i : Nat) (hi : i + 4 < N) (J : St → St → Prop) (z w : St) (hw : w_X0_put K (xs (i + 1)) (xs (i + 2)) (xs (i + 3)) (xs (i + 4)) z (fun r u => w_M0_put K (xs (i + 1)) (xs (i + 2)) (xs (i + 3)) (xs (i + 4)) w (fun r' u' => r = r' ∧ J u u'))) (hnext : ∀ z w, J z w → V CL p l e room_1 s m #[Value.ref sb] below meth c 4 D (fun q => s.heap.size ≤ q) 42 2440 (lw_Z below #[Value.ref sb] s) (WX K cA a z ++ WM K cA b w) 709 [(3, .int (nI i)), (2, .ref (b 0)), (1, .ref (a 0)), (0, .ref sb)] []) : V CL p l e room_1 s m #[Value.ref sb] below meth c 4 D (fun q => s.heap.size ≤ q) 42 2440 (lw_Z below #[Value.ref sb] s) (WX K cA a z ++ WM K cA b w) 214 [(3, .int (nI i)), (2, .ref (b 0)), (1, .ref (a 0)), (0, .ref sb)] [] := by
  refine V_aload_n hc d_L0_law_214 rfl 2 rfl ?_
  refine V_aload_n hc d_L0_law_215 rfl 3 rfl ?_
  refine V_iload_n hc d_L0_law_216 rfl 0 rfl ?_
  refine V_iconst (v := 1) hc d_L0_law_217 (by decide) ?_
  refine V_iadd hc d_L0_law_218 rfl ?_
  refine V_sld (x := xs (i + 1)) hc hX hbl (fun h => absurd hbl (Nat.not_lt.mpr h)) (ixa 1 1 rfl (by omega) hN).1 (congrArg xs (ixa 1 1 rfl (by omega) hN).2) d_L0_law_219 ?_
  refine V_aload_n hc d_L0_law_220 rfl 3 rfl ?_
  refine V_iload_n hc d_L0_law_221 rfl 0 rfl ?_
  refine V_iconst (v := 2) hc d_L0_law_222 (by decide) ?_
  refine V_iadd hc d_L0_law_223 rfl ?_
  refine V_sld (x := xs (i + 2)) hc hX hbl (fun h => absurd hbl (Nat.not_lt.mpr h)) (ixa 2 2 rfl (by omega) hN).1 (congrArg xs (ixa 2 2 rfl (by omega) hN).2) d_L0_law_224 ?_
  refine V_aload_n hc d_L0_law_225 rfl 3 rfl ?_
  refine V_iload_n hc d_L0_law_226 rfl 0 rfl ?_
  refine V_iconst (v := 3) hc d_L0_law_227 (by decide) ?_
  refine V_iadd hc d_L0_law_228 rfl ?_
  refine V_sld (x := xs (i + 3)) hc hX hbl (fun h => absurd hbl (Nat.not_lt.mpr h)) (ixa 3 3 rfl (by omega) hN).1 (congrArg xs (ixa 3 3 rfl (by omega) hN).2) d_L0_law_229 ?_
  refine V_aload_n hc d_L0_law_230 rfl 3 rfl ?_
  refine V_iload_n hc d_L0_law_231 rfl 0 rfl ?_
  refine V_iconst (v := 4) hc d_L0_law_232 (by decide) ?_
  refine V_iadd hc d_L0_law_233 rfl ?_
  refine V_sld (x := xs (i + 4)) hc hX hbl (fun h => absurd hbl (Nat.not_lt.mpr h)) (ixa 4 4 rfl (by omega) hN).1 (congrArg xs (ixa 4 4 rfl (by omega) hN).2) d_L0_law_234 ?_
  refine V_callJi (wr := WM K cA b w) (As := [.int (xs (i + 1)), .int (xs (i + 2)), .int (xs (i + 3)), .int (xs (i + 4))]) (st := []) hc TS_good NS_nest (fun _ h => h) mapX (c_X0_put l K cA D a (xs (i + 1)) (xs (i + 2)) (xs (i + 3)) (xs (i + 4)) z) [0, 1, 2, 3, 4, 5, 6, 7, 8, 9, 10, 11, 12, 13, 14, 15, 16, 17, 18, 19, 20, 21, 22] [23, 24, 25, 26, 27, 28, 29, 30, 31, 32, 33, 34, 35, 36, 37, 38, 39, 40, 41] rfl rfl (by decide) (by decide) (by decide) k_289 k_1 k_292 k_290 k_291 0 eX_0 rfl q_X0_put (by decide) (by decide) (by decide) rfl (Nat.le_of_ble_eq_true rfl) d_L0_law_235 hw (fun r0 u0 hw => ?_)
  try dsimp only at hw
  refine V_aload_n hc d_L0_law_238 rfl 1 rfl ?_
  refine V_aload_n hc d_L0_law_239 rfl 3 rfl ?_
  refine V_iload_n hc d_L0_law_240 rfl 0 rfl ?_
  refine V_iconst (v := 1) hc d_L0_law_241 (by decide) ?_
  refine V_iadd hc d_L0_law_242 rfl ?_
  refine V_sld (x := xs (i + 1)) hc hX hbl (fun h => absurd hbl (Nat.not_lt.mpr h)) (ixa 1 1 rfl (by omega) hN).1 (congrArg xs (ixa 1 1 rfl (by omega) hN).2) d_L0_law_243 ?_
  refine V_aload_n hc d_L0_law_244 rfl 3 rfl ?_
  refine V_iload_n hc d_L0_law_245 rfl 0 rfl ?_
  refine V_iconst (v := 2) hc d_L0_law_246 (by decide) ?_
  refine V_iadd hc d_L0_law_247 rfl ?_
  refine V_sld (x := xs (i + 2)) hc hX hbl (fun h => absurd hbl (Nat.not_lt.mpr h)) (ixa 2 2 rfl (by omega) hN).1 (congrArg xs (ixa 2 2 rfl (by omega) hN).2) d_L0_law_248 ?_
  refine V_aload_n hc d_L0_law_249 rfl 3 rfl ?_
  refine V_iload_n hc d_L0_law_250 rfl 0 rfl ?_
  refine V_iconst (v := 3) hc d_L0_law_251 (by decide) ?_
  refine V_iadd hc d_L0_law_252 rfl ?_
  refine V_sld (x := xs (i + 3)) hc hX hbl (fun h => absurd hbl (Nat.not_lt.mpr h)) (ixa 3 3 rfl (by omega) hN).1 (congrArg xs (ixa 3 3 rfl (by omega) hN).2) d_L0_law_253 ?_
  refine V_aload_n hc d_L0_law_254 rfl 3 rfl ?_
  refine V_iload_n hc d_L0_law_255 rfl 0 rfl ?_
  refine V_iconst (v := 4) hc d_L0_law_256 (by decide) ?_
  refine V_iadd hc d_L0_law_257 rfl ?_
  refine V_sld (x := xs (i + 4)) hc hX hbl (fun h => absurd hbl (Nat.not_lt.mpr h)) (ixa 4 4 rfl (by omega) hN).1 (congrArg xs (ixa 4 4 rfl (by omega) hN).2) d_L0_law_258 ?_
  refine V_callJi (wr := WX K cA a u0) (As := [.int (xs (i + 1)), .int (xs (i + 2)), .int (xs (i + 3)), .int (xs (i + 4))]) (st := [.int r0]) hc TS_good NS_nest (fun _ h => h) mapM (c_M0_put l K cA D b (xs (i + 1)) (xs (i + 2)) (xs (i + 3)) (xs (i + 4)) w) [0, 1, 2, 3, 4, 5, 6, 7, 8, 9, 10, 11, 12, 13, 14, 15, 16, 17, 18] [19, 20, 21, 22, 23, 24, 25, 26, 27, 28, 29, 30, 31, 32, 33, 34, 35, 36, 37, 38, 39, 40, 41] rfl rfl (by decide) (by decide) (by decide) k_777 k_10 k_780 k_778 k_779 0 eM_0 rfl q_M0_put (by decide) (by decide) (by decide) rfl (Nat.le_of_ble_eq_true rfl) d_L0_law_259 hw (fun r1 u1 hw => ?_)
  try dsimp only at hw
  refine V_icmp_eq (tgt := 709) hc d_L0_law_262 rfl (fun _ => ?_) (fun h => absurd hw.1 h)
  exact hnext u0 u1 hw.2
set_option maxHeartbeats 4000000 in
set_option maxRecDepth 100000 in
theorem lw_remove (l : Launch) (K : Nat) (cA : Nat → ClassId) (D : va_G) (p : Program) (e : Env) (s : State) (m : MethodId) (below : List Frame) (meth : Method) (c : Code) (sb N : Nat) (xs : Nat → Int32) (hN : N ≤ 2564) (hc : Cx TS NS CL D (tyX cA) p s m #[Value.ref sb] meth c code 4 "ChangeFeedLaw") (hX : va_X sb N xs s s.heap) (hbl : sb < s.heap.size) (a b : Nat → Nat) (i : Nat) (hi : i + 4 < N) (J : St → St → Prop) (z w : St) (hw : w_X0_remove K (xs (i + 1)) (xs (i + 2)) z (fun r u => w_M0_remove K (xs (i + 1)) (xs (i + 2)) w (fun r' u' => r = r' ∧ J u u'))) (hnext : ∀ z w, J z w → V CL p l e room_1 s m #[Value.ref sb] below meth c 4 D (fun q => s.heap.size ≤ q) 42 2440 (lw_Z below #[Value.ref sb] s) (WX K cA a z ++ WM K cA b w) 709 [(3, .int (nI i)), (2, .ref (b 0)), (1, .ref (a 0)), (0, .ref sb)] []) : V CL p l e room_1 s m #[Value.ref sb] below meth c 4 D (fun q => s.heap.size ≤ q) 42 2440 (lw_Z below #[Value.ref sb] s) (WX K cA a z ++ WM K cA b w) 267 [(3, .int (nI i)), (2, .ref (b 0)), (1, .ref (a 0)), (0, .ref sb)] [] := by
  refine V_aload_n hc d_L0_law_267 rfl 2 rfl ?_
  refine V_aload_n hc d_L0_law_268 rfl 3 rfl ?_
  refine V_iload_n hc d_L0_law_269 rfl 0 rfl ?_
  refine V_iconst (v := 1) hc d_L0_law_270 (by decide) ?_
  refine V_iadd hc d_L0_law_271 rfl ?_
  refine V_sld (x := xs (i + 1)) hc hX hbl (fun h => absurd hbl (Nat.not_lt.mpr h)) (ixa 1 1 rfl (by omega) hN).1 (congrArg xs (ixa 1 1 rfl (by omega) hN).2) d_L0_law_272 ?_
  refine V_aload_n hc d_L0_law_273 rfl 3 rfl ?_
  refine V_iload_n hc d_L0_law_274 rfl 0 rfl ?_
  refine V_iconst (v := 2) hc d_L0_law_275 (by decide) ?_
  refine V_iadd hc d_L0_law_276 rfl ?_
  refine V_sld (x := xs (i + 2)) hc hX hbl (fun h => absurd hbl (Nat.not_lt.mpr h)) (ixa 2 2 rfl (by omega) hN).1 (congrArg xs (ixa 2 2 rfl (by omega) hN).2) d_L0_law_277 ?_
  refine V_callJi (wr := WM K cA b w) (As := [.int (xs (i + 1)), .int (xs (i + 2))]) (st := []) hc TS_good NS_nest (fun _ h => h) mapX (c_X0_remove l K cA D a (xs (i + 1)) (xs (i + 2)) z) [0, 1, 2, 3, 4, 5, 6, 7, 8, 9, 10, 11, 12, 13, 14, 15, 16, 17, 18, 19, 20, 21, 22] [23, 24, 25, 26, 27, 28, 29, 30, 31, 32, 33, 34, 35, 36, 37, 38, 39, 40, 41] rfl rfl (by decide) (by decide) (by decide) k_306 k_1 k_309 k_307 k_308 0 eX_0 rfl q_X0_remove (by decide) (by decide) (by decide) rfl (Nat.le_of_ble_eq_true rfl) d_L0_law_278 hw (fun r0 u0 hw => ?_)
  try dsimp only at hw
  refine V_aload_n hc d_L0_law_281 rfl 1 rfl ?_
  refine V_aload_n hc d_L0_law_282 rfl 3 rfl ?_
  refine V_iload_n hc d_L0_law_283 rfl 0 rfl ?_
  refine V_iconst (v := 1) hc d_L0_law_284 (by decide) ?_
  refine V_iadd hc d_L0_law_285 rfl ?_
  refine V_sld (x := xs (i + 1)) hc hX hbl (fun h => absurd hbl (Nat.not_lt.mpr h)) (ixa 1 1 rfl (by omega) hN).1 (congrArg xs (ixa 1 1 rfl (by omega) hN).2) d_L0_law_286 ?_
  refine V_aload_n hc d_L0_law_287 rfl 3 rfl ?_
  refine V_iload_n hc d_L0_law_288 rfl 0 rfl ?_
  refine V_iconst (v := 2) hc d_L0_law_289 (by decide) ?_
  refine V_iadd hc d_L0_law_290 rfl ?_
  refine V_sld (x := xs (i + 2)) hc hX hbl (fun h => absurd hbl (Nat.not_lt.mpr h)) (ixa 2 2 rfl (by omega) hN).1 (congrArg xs (ixa 2 2 rfl (by omega) hN).2) d_L0_law_291 ?_
  refine V_callJi (wr := WX K cA a u0) (As := [.int (xs (i + 1)), .int (xs (i + 2))]) (st := [.int r0]) hc TS_good NS_nest (fun _ h => h) mapM (c_M0_remove l K cA D b (xs (i + 1)) (xs (i + 2)) w) [0, 1, 2, 3, 4, 5, 6, 7, 8, 9, 10, 11, 12, 13, 14, 15, 16, 17, 18] [19, 20, 21, 22, 23, 24, 25, 26, 27, 28, 29, 30, 31, 32, 33, 34, 35, 36, 37, 38, 39, 40, 41] rfl rfl (by decide) (by decide) (by decide) k_785 k_10 k_788 k_786 k_787 0 eM_0 rfl q_M0_remove (by decide) (by decide) (by decide) rfl (Nat.le_of_ble_eq_true rfl) d_L0_law_292 hw (fun r1 u1 hw => ?_)
  try dsimp only at hw
  refine V_icmp_eq (tgt := 709) hc d_L0_law_295 rfl (fun _ => ?_) (fun h => absurd hw.1 h)
  exact hnext u0 u1 hw.2
set_option maxHeartbeats 4000000 in
set_option maxRecDepth 100000 in
theorem lw_end (l : Launch) (K : Nat) (cA : Nat → ClassId) (D : va_G) (p : Program) (e : Env) (s : State) (m : MethodId) (below : List Frame) (meth : Method) (c : Code) (sb N : Nat) (xs : Nat → Int32) (hN : N ≤ 2564) (hc : Cx TS NS CL D (tyX cA) p s m #[Value.ref sb] meth c code 4 "ChangeFeedLaw") (hX : va_X sb N xs s s.heap) (hbl : sb < s.heap.size) (a b : Nat → Nat) (i : Nat) (hi : i + 4 < N) (J : St → St → Prop) (z w : St) (hw : (∀ bb : Int32, (bb = 0 ∨ bb = 1) → w_X0_end K (xs (i + 1)) bb z (fun r u => w_M0_end K (xs (i + 1)) bb w (fun r' u' => r = r' ∧ J u u')))) (hnext : ∀ z w, J z w → V CL p l e room_1 s m #[Value.ref sb] below meth c 4 D (fun q => s.heap.size ≤ q) 42 2440 (lw_Z below #[Value.ref sb] s) (WX K cA a z ++ WM K cA b w) 709 [(3, .int (nI i)), (2, .ref (b 0)), (1, .ref (a 0)), (0, .ref sb)] []) : V CL p l e room_1 s m #[Value.ref sb] below meth c 4 D (fun q => s.heap.size ≤ q) 42 2440 (lw_Z below #[Value.ref sb] s) (WX K cA a z ++ WM K cA b w) 300 [(3, .int (nI i)), (2, .ref (b 0)), (1, .ref (a 0)), (0, .ref sb)] [] := by
  refine V_aload_n hc d_L0_law_300 rfl 2 rfl ?_
  refine V_aload_n hc d_L0_law_301 rfl 3 rfl ?_
  refine V_iload_n hc d_L0_law_302 rfl 0 rfl ?_
  refine V_iconst (v := 1) hc d_L0_law_303 (by decide) ?_
  refine V_iadd hc d_L0_law_304 rfl ?_
  refine V_sld (x := xs (i + 1)) hc hX hbl (fun h => absurd hbl (Nat.not_lt.mpr h)) (ixa 1 1 rfl (by omega) hN).1 (congrArg xs (ixa 1 1 rfl (by omega) hN).2) d_L0_law_305 ?_
  refine V_aload_n hc d_L0_law_306 rfl 3 rfl ?_
  refine V_iload_n hc d_L0_law_307 rfl 0 rfl ?_
  refine V_iconst (v := 2) hc d_L0_law_308 (by decide) ?_
  refine V_iadd hc d_L0_law_309 rfl ?_
  refine V_sld (x := xs (i + 2)) hc hX hbl (fun h => absurd hbl (Nat.not_lt.mpr h)) (ixa 2 2 rfl (by omega) hN).1 (congrArg xs (ixa 2 2 rfl (by omega) hN).2) d_L0_law_310 ?_
  refine V_if_eq (tgt := 318) hc d_L0_law_311 rfl (fun hb => ?_) (fun hb => ?_)
  · replace hw := hw 0 (Or.inl rfl)
    refine V_iconst (v := 0) hc d_L0_law_318 (by decide) ?_
    refine V_callJi (wr := WM K cA b w) (As := [.int (xs (i + 1)), .int 0]) (st := []) hc TS_good NS_nest (fun _ h => h) mapX (c_X0_end l K cA D a (xs (i + 1)) 0 z) [0, 1, 2, 3, 4, 5, 6, 7, 8, 9, 10, 11, 12, 13, 14, 15, 16, 17, 18, 19, 20, 21, 22] [23, 24, 25, 26, 27, 28, 29, 30, 31, 32, 33, 34, 35, 36, 37, 38, 39, 40, 41] rfl rfl (by decide) (by decide) (by decide) k_315 k_1 k_318 k_316 k_317 0 eX_0 rfl q_X0_end (by decide) (by decide) (by decide) rfl (Nat.le_of_ble_eq_true rfl) d_L0_law_319 hw (fun r0 u0 hw => ?_)
    try dsimp only at hw
    refine V_aload_n hc d_L0_law_322 rfl 1 rfl ?_
    refine V_aload_n hc d_L0_law_323 rfl 3 rfl ?_
    refine V_iload_n hc d_L0_law_324 rfl 0 rfl ?_
    refine V_iconst (v := 1) hc d_L0_law_325 (by decide) ?_
    refine V_iadd hc d_L0_law_326 rfl ?_
    refine V_sld (x := xs (i + 1)) hc hX hbl (fun h => absurd hbl (Nat.not_lt.mpr h)) (ixa 1 1 rfl (by omega) hN).1 (congrArg xs (ixa 1 1 rfl (by omega) hN).2) d_L0_law_327 ?_
    refine V_aload_n hc d_L0_law_328 rfl 3 rfl ?_
    refine V_iload_n hc d_L0_law_329 rfl 0 rfl ?_
    refine V_iconst (v := 2) hc d_L0_law_330 (by decide) ?_
    refine V_iadd hc d_L0_law_331 rfl ?_
    refine V_sld (x := xs (i + 2)) hc hX hbl (fun h => absurd hbl (Nat.not_lt.mpr h)) (ixa 2 2 rfl (by omega) hN).1 (congrArg xs (ixa 2 2 rfl (by omega) hN).2) d_L0_law_332 ?_
    refine V_if_eq (tgt := 340) hc d_L0_law_333 rfl (fun _ => ?_) (fun h => absurd hb h)
    refine V_iconst (v := 0) hc d_L0_law_340 (by decide) ?_
    refine V_callJi (wr := WX K cA a u0) (As := [.int (xs (i + 1)), .int 0]) (st := [.int r0]) hc TS_good NS_nest (fun _ h => h) mapM (c_M0_end l K cA D b (xs (i + 1)) 0 w) [0, 1, 2, 3, 4, 5, 6, 7, 8, 9, 10, 11, 12, 13, 14, 15, 16, 17, 18] [19, 20, 21, 22, 23, 24, 25, 26, 27, 28, 29, 30, 31, 32, 33, 34, 35, 36, 37, 38, 39, 40, 41] rfl rfl (by decide) (by decide) (by decide) k_793 k_10 k_796 k_794 k_795 0 eM_0 rfl q_M0_end (by decide) (by decide) (by decide) rfl (Nat.le_of_ble_eq_true rfl) d_L0_law_341 hw (fun r1 u1 hw => ?_)
    try dsimp only at hw
    refine V_icmp_eq (tgt := 709) hc d_L0_law_344 rfl (fun _ => ?_) (fun h => absurd hw.1 h)
    exact hnext u0 u1 hw.2
  · replace hw := hw 1 (Or.inr rfl)
    refine V_iconst (v := 1) hc d_L0_law_314 (by decide) ?_
    refine V_goto (tgt := 319) hc d_L0_law_315 rfl ?_
    refine V_callJi (wr := WM K cA b w) (As := [.int (xs (i + 1)), .int 1]) (st := []) hc TS_good NS_nest (fun _ h => h) mapX (c_X0_end l K cA D a (xs (i + 1)) 1 z) [0, 1, 2, 3, 4, 5, 6, 7, 8, 9, 10, 11, 12, 13, 14, 15, 16, 17, 18, 19, 20, 21, 22] [23, 24, 25, 26, 27, 28, 29, 30, 31, 32, 33, 34, 35, 36, 37, 38, 39, 40, 41] rfl rfl (by decide) (by decide) (by decide) k_315 k_1 k_318 k_316 k_317 0 eX_0 rfl q_X0_end (by decide) (by decide) (by decide) rfl (Nat.le_of_ble_eq_true rfl) d_L0_law_319 hw (fun r0 u0 hw => ?_)
    try dsimp only at hw
    refine V_aload_n hc d_L0_law_322 rfl 1 rfl ?_
    refine V_aload_n hc d_L0_law_323 rfl 3 rfl ?_
    refine V_iload_n hc d_L0_law_324 rfl 0 rfl ?_
    refine V_iconst (v := 1) hc d_L0_law_325 (by decide) ?_
    refine V_iadd hc d_L0_law_326 rfl ?_
    refine V_sld (x := xs (i + 1)) hc hX hbl (fun h => absurd hbl (Nat.not_lt.mpr h)) (ixa 1 1 rfl (by omega) hN).1 (congrArg xs (ixa 1 1 rfl (by omega) hN).2) d_L0_law_327 ?_
    refine V_aload_n hc d_L0_law_328 rfl 3 rfl ?_
    refine V_iload_n hc d_L0_law_329 rfl 0 rfl ?_
    refine V_iconst (v := 2) hc d_L0_law_330 (by decide) ?_
    refine V_iadd hc d_L0_law_331 rfl ?_
    refine V_sld (x := xs (i + 2)) hc hX hbl (fun h => absurd hbl (Nat.not_lt.mpr h)) (ixa 2 2 rfl (by omega) hN).1 (congrArg xs (ixa 2 2 rfl (by omega) hN).2) d_L0_law_332 ?_
    refine V_if_eq (tgt := 340) hc d_L0_law_333 rfl (fun h => absurd h hb) (fun _ => ?_)
    refine V_iconst (v := 1) hc d_L0_law_336 (by decide) ?_
    refine V_goto (tgt := 341) hc d_L0_law_337 rfl ?_
    refine V_callJi (wr := WX K cA a u0) (As := [.int (xs (i + 1)), .int 1]) (st := [.int r0]) hc TS_good NS_nest (fun _ h => h) mapM (c_M0_end l K cA D b (xs (i + 1)) 1 w) [0, 1, 2, 3, 4, 5, 6, 7, 8, 9, 10, 11, 12, 13, 14, 15, 16, 17, 18] [19, 20, 21, 22, 23, 24, 25, 26, 27, 28, 29, 30, 31, 32, 33, 34, 35, 36, 37, 38, 39, 40, 41] rfl rfl (by decide) (by decide) (by decide) k_793 k_10 k_796 k_794 k_795 0 eM_0 rfl q_M0_end (by decide) (by decide) (by decide) rfl (Nat.le_of_ble_eq_true rfl) d_L0_law_341 hw (fun r1 u1 hw => ?_)
    try dsimp only at hw
    refine V_icmp_eq (tgt := 709) hc d_L0_law_344 rfl (fun _ => ?_) (fun h => absurd hw.1 h)
    exact hnext u0 u1 hw.2
set_option maxHeartbeats 4000000 in
set_option maxRecDepth 100000 in
theorem lw_row (l : Launch) (K : Nat) (cA : Nat → ClassId) (D : va_G) (p : Program) (e : Env) (s : State) (m : MethodId) (below : List Frame) (meth : Method) (c : Code) (sb N : Nat) (xs : Nat → Int32) (hN : N ≤ 2564) (hc : Cx TS NS CL D (tyX cA) p s m #[Value.ref sb] meth c code 4 "ChangeFeedLaw") (hX : va_X sb N xs s s.heap) (hbl : sb < s.heap.size) (a b : Nat → Nat) (i : Nat) (hi : i + 4 < N) (J : St → St → Prop) (z w : St) (hw : w_X0_row K (xs (i + 1)) (xs (i + 2)) z (fun r u => w_M0_row K (xs (i + 1)) (xs (i + 2)) w (fun r' u' => r = r' ∧ J u u'))) (hnext : ∀ z w, J z w → V CL p l e room_1 s m #[Value.ref sb] below meth c 4 D (fun q => s.heap.size ≤ q) 42 2440 (lw_Z below #[Value.ref sb] s) (WX K cA a z ++ WM K cA b w) 709 [(3, .int (nI i)), (2, .ref (b 0)), (1, .ref (a 0)), (0, .ref sb)] []) : V CL p l e room_1 s m #[Value.ref sb] below meth c 4 D (fun q => s.heap.size ≤ q) 42 2440 (lw_Z below #[Value.ref sb] s) (WX K cA a z ++ WM K cA b w) 349 [(3, .int (nI i)), (2, .ref (b 0)), (1, .ref (a 0)), (0, .ref sb)] [] := by
  refine V_aload_n hc d_L0_law_349 rfl 2 rfl ?_
  refine V_aload_n hc d_L0_law_350 rfl 3 rfl ?_
  refine V_iload_n hc d_L0_law_351 rfl 0 rfl ?_
  refine V_iconst (v := 1) hc d_L0_law_352 (by decide) ?_
  refine V_iadd hc d_L0_law_353 rfl ?_
  refine V_sld (x := xs (i + 1)) hc hX hbl (fun h => absurd hbl (Nat.not_lt.mpr h)) (ixa 1 1 rfl (by omega) hN).1 (congrArg xs (ixa 1 1 rfl (by omega) hN).2) d_L0_law_354 ?_
  refine V_aload_n hc d_L0_law_355 rfl 3 rfl ?_
  refine V_iload_n hc d_L0_law_356 rfl 0 rfl ?_
  refine V_iconst (v := 2) hc d_L0_law_357 (by decide) ?_
  refine V_iadd hc d_L0_law_358 rfl ?_
  refine V_sld (x := xs (i + 2)) hc hX hbl (fun h => absurd hbl (Nat.not_lt.mpr h)) (ixa 2 2 rfl (by omega) hN).1 (congrArg xs (ixa 2 2 rfl (by omega) hN).2) d_L0_law_359 ?_
  refine V_callJl (wr := WM K cA b w) (As := [.int (xs (i + 1)), .int (xs (i + 2))]) (st := []) hc TS_good NS_nest (fun _ h => h) mapX (c_X0_row l K cA D a (xs (i + 1)) (xs (i + 2)) z) [0, 1, 2, 3, 4, 5, 6, 7, 8, 9, 10, 11, 12, 13, 14, 15, 16, 17, 18, 19, 20, 21, 22] [23, 24, 25, 26, 27, 28, 29, 30, 31, 32, 33, 34, 35, 36, 37, 38, 39, 40, 41] rfl rfl (by decide) (by decide) (by decide) k_332 k_1 k_335 k_333 k_334 0 eX_0 rfl q_X0_row (by decide) (by decide) (by decide) rfl (Nat.le_of_ble_eq_true rfl) d_L0_law_360 hw (fun r0 u0 hw => ?_)
  try dsimp only at hw
  refine V_aload_n hc d_L0_law_363 rfl 1 rfl ?_
  refine V_aload_n hc d_L0_law_364 rfl 3 rfl ?_
  refine V_iload_n hc d_L0_law_365 rfl 0 rfl ?_
  refine V_iconst (v := 1) hc d_L0_law_366 (by decide) ?_
  refine V_iadd hc d_L0_law_367 rfl ?_
  refine V_sld (x := xs (i + 1)) hc hX hbl (fun h => absurd hbl (Nat.not_lt.mpr h)) (ixa 1 1 rfl (by omega) hN).1 (congrArg xs (ixa 1 1 rfl (by omega) hN).2) d_L0_law_368 ?_
  refine V_aload_n hc d_L0_law_369 rfl 3 rfl ?_
  refine V_iload_n hc d_L0_law_370 rfl 0 rfl ?_
  refine V_iconst (v := 2) hc d_L0_law_371 (by decide) ?_
  refine V_iadd hc d_L0_law_372 rfl ?_
  refine V_sld (x := xs (i + 2)) hc hX hbl (fun h => absurd hbl (Nat.not_lt.mpr h)) (ixa 2 2 rfl (by omega) hN).1 (congrArg xs (ixa 2 2 rfl (by omega) hN).2) d_L0_law_373 ?_
  refine V_callJl (wr := WX K cA a u0) (As := [.int (xs (i + 1)), .int (xs (i + 2))]) (st := [.long r0]) hc TS_good NS_nest (fun _ h => h) mapM (c_M0_row l K cA D b (xs (i + 1)) (xs (i + 2)) w) [0, 1, 2, 3, 4, 5, 6, 7, 8, 9, 10, 11, 12, 13, 14, 15, 16, 17, 18] [19, 20, 21, 22, 23, 24, 25, 26, 27, 28, 29, 30, 31, 32, 33, 34, 35, 36, 37, 38, 39, 40, 41] rfl rfl (by decide) (by decide) (by decide) k_797 k_10 k_792 k_790 k_791 0 eM_0 rfl q_M0_row (by decide) (by decide) (by decide) rfl (Nat.le_of_ble_eq_true rfl) d_L0_law_374 hw (fun r1 u1 hw => ?_)
  try dsimp only at hw
  refine V_lcmp hc d_L0_law_377 rfl ?_
  refine V_if_eq (tgt := 709) hc d_L0_law_378 rfl (fun _ => ?_) (fun h => absurd (by rw [hw.1]; exact lc_self _) h)
  exact hnext u0 u1 hw.2
set_option maxHeartbeats 4000000 in
set_option maxRecDepth 100000 in
theorem lw_crash (l : Launch) (K : Nat) (cA : Nat → ClassId) (D : va_G) (p : Program) (e : Env) (s : State) (m : MethodId) (below : List Frame) (meth : Method) (c : Code) (sb N : Nat) (xs : Nat → Int32) (hN : N ≤ 2564) (hc : Cx TS NS CL D (tyX cA) p s m #[Value.ref sb] meth c code 4 "ChangeFeedLaw") (hX : va_X sb N xs s s.heap) (hbl : sb < s.heap.size) (a b : Nat → Nat) (i : Nat) (hi : i + 4 < N) (J : St → St → Prop) (z w : St) (hw : w_X0_crash K (xs (i + 1)) z (fun r u => w_M0_crash K (xs (i + 1)) w (fun r' u' => r = r' ∧ J u u'))) (hnext : ∀ z w, J z w → V CL p l e room_1 s m #[Value.ref sb] below meth c 4 D (fun q => s.heap.size ≤ q) 42 2440 (lw_Z below #[Value.ref sb] s) (WX K cA a z ++ WM K cA b w) 709 [(3, .int (nI i)), (2, .ref (b 0)), (1, .ref (a 0)), (0, .ref sb)] []) : V CL p l e room_1 s m #[Value.ref sb] below meth c 4 D (fun q => s.heap.size ≤ q) 42 2440 (lw_Z below #[Value.ref sb] s) (WX K cA a z ++ WM K cA b w) 383 [(3, .int (nI i)), (2, .ref (b 0)), (1, .ref (a 0)), (0, .ref sb)] [] := by
  refine V_aload_n hc d_L0_law_383 rfl 2 rfl ?_
  refine V_aload_n hc d_L0_law_384 rfl 3 rfl ?_
  refine V_iload_n hc d_L0_law_385 rfl 0 rfl ?_
  refine V_iconst (v := 1) hc d_L0_law_386 (by decide) ?_
  refine V_iadd hc d_L0_law_387 rfl ?_
  refine V_sld (x := xs (i + 1)) hc hX hbl (fun h => absurd hbl (Nat.not_lt.mpr h)) (ixa 1 1 rfl (by omega) hN).1 (congrArg xs (ixa 1 1 rfl (by omega) hN).2) d_L0_law_388 ?_
  refine V_callJi (wr := WM K cA b w) (As := [.int (xs (i + 1))]) (st := []) hc TS_good NS_nest (fun _ h => h) mapX (c_X0_crash l K cA D a (xs (i + 1)) z) [0, 1, 2, 3, 4, 5, 6, 7, 8, 9, 10, 11, 12, 13, 14, 15, 16, 17, 18, 19, 20, 21, 22] [23, 24, 25, 26, 27, 28, 29, 30, 31, 32, 33, 34, 35, 36, 37, 38, 39, 40, 41] rfl rfl (by decide) (by decide) (by decide) k_340 k_1 k_343 k_341 k_342 0 eX_0 rfl q_X0_crash (by decide) (by decide) (by decide) rfl (Nat.le_of_ble_eq_true rfl) d_L0_law_389 hw (fun r0 u0 hw => ?_)
  try dsimp only at hw
  refine V_aload_n hc d_L0_law_392 rfl 1 rfl ?_
  refine V_aload_n hc d_L0_law_393 rfl 3 rfl ?_
  refine V_iload_n hc d_L0_law_394 rfl 0 rfl ?_
  refine V_iconst (v := 1) hc d_L0_law_395 (by decide) ?_
  refine V_iadd hc d_L0_law_396 rfl ?_
  refine V_sld (x := xs (i + 1)) hc hX hbl (fun h => absurd hbl (Nat.not_lt.mpr h)) (ixa 1 1 rfl (by omega) hN).1 (congrArg xs (ixa 1 1 rfl (by omega) hN).2) d_L0_law_397 ?_
  refine V_callJi (wr := WX K cA a u0) (As := [.int (xs (i + 1))]) (st := [.int r0]) hc TS_good NS_nest (fun _ h => h) mapM (c_M0_crash l K cA D b (xs (i + 1)) w) [0, 1, 2, 3, 4, 5, 6, 7, 8, 9, 10, 11, 12, 13, 14, 15, 16, 17, 18] [19, 20, 21, 22, 23, 24, 25, 26, 27, 28, 29, 30, 31, 32, 33, 34, 35, 36, 37, 38, 39, 40, 41] rfl rfl (by decide) (by decide) (by decide) k_798 k_10 k_801 k_799 k_800 0 eM_0 rfl q_M0_crash (by decide) (by decide) (by decide) rfl (Nat.le_of_ble_eq_true rfl) d_L0_law_398 hw (fun r1 u1 hw => ?_)
  try dsimp only at hw
  refine V_icmp_eq (tgt := 709) hc d_L0_law_401 rfl (fun _ => ?_) (fun h => absurd hw.1 h)
  exact hnext u0 u1 hw.2
set_option maxHeartbeats 4000000 in
set_option maxRecDepth 100000 in
theorem lw_snapshot (l : Launch) (K : Nat) (cA : Nat → ClassId) (D : va_G) (p : Program) (e : Env) (s : State) (m : MethodId) (below : List Frame) (meth : Method) (c : Code) (sb N : Nat) (xs : Nat → Int32) (hN : N ≤ 2564) (hc : Cx TS NS CL D (tyX cA) p s m #[Value.ref sb] meth c code 4 "ChangeFeedLaw") (hX : va_X sb N xs s s.heap) (hbl : sb < s.heap.size) (a b : Nat → Nat) (i : Nat) (hi : i + 4 < N) (J : St → St → Prop) (z w : St) (hw : w_X0_snapshot K  z (fun r u => w_M0_snapshot K  w (fun r' u' => r = r' ∧ J u u'))) (hnext : ∀ z w, J z w → V CL p l e room_1 s m #[Value.ref sb] below meth c 4 D (fun q => s.heap.size ≤ q) 42 2440 (lw_Z below #[Value.ref sb] s) (WX K cA a z ++ WM K cA b w) 709 [(3, .int (nI i)), (2, .ref (b 0)), (1, .ref (a 0)), (0, .ref sb)] []) : V CL p l e room_1 s m #[Value.ref sb] below meth c 4 D (fun q => s.heap.size ≤ q) 42 2440 (lw_Z below #[Value.ref sb] s) (WX K cA a z ++ WM K cA b w) 406 [(3, .int (nI i)), (2, .ref (b 0)), (1, .ref (a 0)), (0, .ref sb)] [] := by
  refine V_aload_n hc d_L0_law_406 rfl 2 rfl ?_
  refine V_callJi (wr := WM K cA b w) (As := []) (st := []) hc TS_good NS_nest (fun _ h => h) mapX (c_X0_snapshot l K cA D a  z) [0, 1, 2, 3, 4, 5, 6, 7, 8, 9, 10, 11, 12, 13, 14, 15, 16, 17, 18, 19, 20, 21, 22] [23, 24, 25, 26, 27, 28, 29, 30, 31, 32, 33, 34, 35, 36, 37, 38, 39, 40, 41] rfl rfl (by decide) (by decide) (by decide) k_365 k_1 k_368 k_366 k_367 0 eX_0 rfl q_X0_snapshot (by decide) (by decide) (by decide) rfl (Nat.le_of_ble_eq_true rfl) d_L0_law_407 hw (fun r0 u0 hw => ?_)
  try dsimp only at hw
  refine V_aload_n hc d_L0_law_410 rfl 1 rfl ?_
  refine V_callJi (wr := WX K cA a u0) (As := []) (st := [.int r0]) hc TS_good NS_nest (fun _ h => h) mapM (c_M0_snapshot l K cA D b  w) [0, 1, 2, 3, 4, 5, 6, 7, 8, 9, 10, 11, 12, 13, 14, 15, 16, 17, 18] [19, 20, 21, 22, 23, 24, 25, 26, 27, 28, 29, 30, 31, 32, 33, 34, 35, 36, 37, 38, 39, 40, 41] rfl rfl (by decide) (by decide) (by decide) k_805 k_10 k_808 k_806 k_807 0 eM_0 rfl q_M0_snapshot (by decide) (by decide) (by decide) rfl (Nat.le_of_ble_eq_true rfl) d_L0_law_411 hw (fun r1 u1 hw => ?_)
  try dsimp only at hw
  refine V_icmp_eq (tgt := 709) hc d_L0_law_414 rfl (fun _ => ?_) (fun h => absurd hw.1 h)
  exact hnext u0 u1 hw.2
set_option maxHeartbeats 4000000 in
set_option maxRecDepth 100000 in
theorem lw_step (l : Launch) (K : Nat) (cA : Nat → ClassId) (D : va_G) (p : Program) (e : Env) (s : State) (m : MethodId) (below : List Frame) (meth : Method) (c : Code) (sb N : Nat) (xs : Nat → Int32) (hN : N ≤ 2564) (hc : Cx TS NS CL D (tyX cA) p s m #[Value.ref sb] meth c code 4 "ChangeFeedLaw") (hX : va_X sb N xs s s.heap) (hbl : sb < s.heap.size) (a b : Nat → Nat) (i : Nat) (hi : i + 4 < N) (J : St → St → Prop) (z w : St) (hw : w_X0_step K (xs (i + 1)) z (fun r u => w_M0_step K (xs (i + 1)) w (fun r' u' => r = r' ∧ J u u'))) (hnext : ∀ z w, J z w → V CL p l e room_1 s m #[Value.ref sb] below meth c 4 D (fun q => s.heap.size ≤ q) 42 2440 (lw_Z below #[Value.ref sb] s) (WX K cA a z ++ WM K cA b w) 709 [(3, .int (nI i)), (2, .ref (b 0)), (1, .ref (a 0)), (0, .ref sb)] []) : V CL p l e room_1 s m #[Value.ref sb] below meth c 4 D (fun q => s.heap.size ≤ q) 42 2440 (lw_Z below #[Value.ref sb] s) (WX K cA a z ++ WM K cA b w) 419 [(3, .int (nI i)), (2, .ref (b 0)), (1, .ref (a 0)), (0, .ref sb)] [] := by
  refine V_aload_n hc d_L0_law_419 rfl 2 rfl ?_
  refine V_aload_n hc d_L0_law_420 rfl 3 rfl ?_
  refine V_iload_n hc d_L0_law_421 rfl 0 rfl ?_
  refine V_iconst (v := 1) hc d_L0_law_422 (by decide) ?_
  refine V_iadd hc d_L0_law_423 rfl ?_
  refine V_sld (x := xs (i + 1)) hc hX hbl (fun h => absurd hbl (Nat.not_lt.mpr h)) (ixa 1 1 rfl (by omega) hN).1 (congrArg xs (ixa 1 1 rfl (by omega) hN).2) d_L0_law_424 ?_
  refine V_callJi (wr := WM K cA b w) (As := [.int (xs (i + 1))]) (st := []) hc TS_good NS_nest (fun _ h => h) mapX (c_X0_step l K cA D a (xs (i + 1)) z) [0, 1, 2, 3, 4, 5, 6, 7, 8, 9, 10, 11, 12, 13, 14, 15, 16, 17, 18, 19, 20, 21, 22] [23, 24, 25, 26, 27, 28, 29, 30, 31, 32, 33, 34, 35, 36, 37, 38, 39, 40, 41] rfl rfl (by decide) (by decide) (by decide) k_402 k_1 k_405 k_403 k_404 0 eX_0 rfl q_X0_step (by decide) (by decide) (by decide) rfl (Nat.le_of_ble_eq_true rfl) d_L0_law_425 hw (fun r0 u0 hw => ?_)
  try dsimp only at hw
  refine V_aload_n hc d_L0_law_428 rfl 1 rfl ?_
  refine V_aload_n hc d_L0_law_429 rfl 3 rfl ?_
  refine V_iload_n hc d_L0_law_430 rfl 0 rfl ?_
  refine V_iconst (v := 1) hc d_L0_law_431 (by decide) ?_
  refine V_iadd hc d_L0_law_432 rfl ?_
  refine V_sld (x := xs (i + 1)) hc hX hbl (fun h => absurd hbl (Nat.not_lt.mpr h)) (ixa 1 1 rfl (by omega) hN).1 (congrArg xs (ixa 1 1 rfl (by omega) hN).2) d_L0_law_433 ?_
  refine V_callJi (wr := WX K cA a u0) (As := [.int (xs (i + 1))]) (st := [.int r0]) hc TS_good NS_nest (fun _ h => h) mapM (c_M0_step l K cA D b (xs (i + 1)) w) [0, 1, 2, 3, 4, 5, 6, 7, 8, 9, 10, 11, 12, 13, 14, 15, 16, 17, 18] [19, 20, 21, 22, 23, 24, 25, 26, 27, 28, 29, 30, 31, 32, 33, 34, 35, 36, 37, 38, 39, 40, 41] rfl rfl (by decide) (by decide) (by decide) k_809 k_10 k_812 k_810 k_811 0 eM_0 rfl q_M0_step (by decide) (by decide) (by decide) rfl (Nat.le_of_ble_eq_true rfl) d_L0_law_434 hw (fun r1 u1 hw => ?_)
  try dsimp only at hw
  refine V_icmp_eq (tgt := 709) hc d_L0_law_437 rfl (fun _ => ?_) (fun h => absurd hw.1 h)
  exact hnext u0 u1 hw.2
set_option maxHeartbeats 4000000 in
set_option maxRecDepth 100000 in
theorem lw_waiting (l : Launch) (K : Nat) (cA : Nat → ClassId) (D : va_G) (p : Program) (e : Env) (s : State) (m : MethodId) (below : List Frame) (meth : Method) (c : Code) (sb N : Nat) (xs : Nat → Int32) (hN : N ≤ 2564) (hc : Cx TS NS CL D (tyX cA) p s m #[Value.ref sb] meth c code 4 "ChangeFeedLaw") (hX : va_X sb N xs s s.heap) (hbl : sb < s.heap.size) (a b : Nat → Nat) (i : Nat) (hi : i + 4 < N) (J : St → St → Prop) (z w : St) (hw : w_X0_waiting K  z (fun r u => w_M0_waiting K  w (fun r' u' => r = r' ∧ J u u'))) (hnext : ∀ z w, J z w → V CL p l e room_1 s m #[Value.ref sb] below meth c 4 D (fun q => s.heap.size ≤ q) 42 2440 (lw_Z below #[Value.ref sb] s) (WX K cA a z ++ WM K cA b w) 709 [(3, .int (nI i)), (2, .ref (b 0)), (1, .ref (a 0)), (0, .ref sb)] []) : V CL p l e room_1 s m #[Value.ref sb] below meth c 4 D (fun q => s.heap.size ≤ q) 42 2440 (lw_Z below #[Value.ref sb] s) (WX K cA a z ++ WM K cA b w) 442 [(3, .int (nI i)), (2, .ref (b 0)), (1, .ref (a 0)), (0, .ref sb)] [] := by
  refine V_aload_n hc d_L0_law_442 rfl 2 rfl ?_
  refine V_callJi (wr := WM K cA b w) (As := []) (st := []) hc TS_good NS_nest (fun _ h => h) mapX (c_X0_waiting l K cA D a  z) [0, 1, 2, 3, 4, 5, 6, 7, 8, 9, 10, 11, 12, 13, 14, 15, 16, 17, 18, 19, 20, 21, 22] [23, 24, 25, 26, 27, 28, 29, 30, 31, 32, 33, 34, 35, 36, 37, 38, 39, 40, 41] rfl rfl (by decide) (by decide) (by decide) k_459 k_1 k_462 k_460 k_461 0 eX_0 rfl q_X0_waiting (by decide) (by decide) (by decide) rfl (Nat.le_of_ble_eq_true rfl) d_L0_law_443 hw (fun r0 u0 hw => ?_)
  try dsimp only at hw
  refine V_aload_n hc d_L0_law_446 rfl 1 rfl ?_
  refine V_callJi (wr := WX K cA a u0) (As := []) (st := [.int r0]) hc TS_good NS_nest (fun _ h => h) mapM (c_M0_waiting l K cA D b  w) [0, 1, 2, 3, 4, 5, 6, 7, 8, 9, 10, 11, 12, 13, 14, 15, 16, 17, 18] [19, 20, 21, 22, 23, 24, 25, 26, 27, 28, 29, 30, 31, 32, 33, 34, 35, 36, 37, 38, 39, 40, 41] rfl rfl (by decide) (by decide) (by decide) k_825 k_10 k_828 k_826 k_827 0 eM_0 rfl q_M0_waiting (by decide) (by decide) (by decide) rfl (Nat.le_of_ble_eq_true rfl) d_L0_law_447 hw (fun r1 u1 hw => ?_)
  try dsimp only at hw
  refine V_icmp_eq (tgt := 709) hc d_L0_law_450 rfl (fun _ => ?_) (fun h => absurd hw.1 h)
  exact hnext u0 u1 hw.2
set_option maxHeartbeats 4000000 in
set_option maxRecDepth 100000 in
theorem lw_tick (l : Launch) (K : Nat) (cA : Nat → ClassId) (D : va_G) (p : Program) (e : Env) (s : State) (m : MethodId) (below : List Frame) (meth : Method) (c : Code) (sb N : Nat) (xs : Nat → Int32) (hN : N ≤ 2564) (hc : Cx TS NS CL D (tyX cA) p s m #[Value.ref sb] meth c code 4 "ChangeFeedLaw") (hX : va_X sb N xs s s.heap) (hbl : sb < s.heap.size) (a b : Nat → Nat) (i : Nat) (hi : i + 4 < N) (J : St → St → Prop) (z w : St) (hw : w_X0_tick K (xs (i + 1)) z (fun r u => w_M0_tick K (xs (i + 1)) w (fun r' u' => r = r' ∧ J u u'))) (hnext : ∀ z w, J z w → V CL p l e room_1 s m #[Value.ref sb] below meth c 4 D (fun q => s.heap.size ≤ q) 42 2440 (lw_Z below #[Value.ref sb] s) (WX K cA a z ++ WM K cA b w) 709 [(3, .int (nI i)), (2, .ref (b 0)), (1, .ref (a 0)), (0, .ref sb)] []) : V CL p l e room_1 s m #[Value.ref sb] below meth c 4 D (fun q => s.heap.size ≤ q) 42 2440 (lw_Z below #[Value.ref sb] s) (WX K cA a z ++ WM K cA b w) 455 [(3, .int (nI i)), (2, .ref (b 0)), (1, .ref (a 0)), (0, .ref sb)] [] := by
  refine V_aload_n hc d_L0_law_455 rfl 2 rfl ?_
  refine V_aload_n hc d_L0_law_456 rfl 3 rfl ?_
  refine V_iload_n hc d_L0_law_457 rfl 0 rfl ?_
  refine V_iconst (v := 1) hc d_L0_law_458 (by decide) ?_
  refine V_iadd hc d_L0_law_459 rfl ?_
  refine V_sld (x := xs (i + 1)) hc hX hbl (fun h => absurd hbl (Nat.not_lt.mpr h)) (ixa 1 1 rfl (by omega) hN).1 (congrArg xs (ixa 1 1 rfl (by omega) hN).2) d_L0_law_460 ?_
  refine V_callJi (wr := WM K cA b w) (As := [.int (xs (i + 1))]) (st := []) hc TS_good NS_nest (fun _ h => h) mapX (c_X0_tick l K cA D a (xs (i + 1)) z) [0, 1, 2, 3, 4, 5, 6, 7, 8, 9, 10, 11, 12, 13, 14, 15, 16, 17, 18, 19, 20, 21, 22] [23, 24, 25, 26, 27, 28, 29, 30, 31, 32, 33, 34, 35, 36, 37, 38, 39, 40, 41] rfl rfl (by decide) (by decide) (by decide) k_463 k_1 k_466 k_464 k_465 0 eX_0 rfl q_X0_tick (by decide) (by decide) (by decide) rfl (Nat.le_of_ble_eq_true rfl) d_L0_law_461 hw (fun r0 u0 hw => ?_)
  try dsimp only at hw
  refine V_aload_n hc d_L0_law_464 rfl 1 rfl ?_
  refine V_aload_n hc d_L0_law_465 rfl 3 rfl ?_
  refine V_iload_n hc d_L0_law_466 rfl 0 rfl ?_
  refine V_iconst (v := 1) hc d_L0_law_467 (by decide) ?_
  refine V_iadd hc d_L0_law_468 rfl ?_
  refine V_sld (x := xs (i + 1)) hc hX hbl (fun h => absurd hbl (Nat.not_lt.mpr h)) (ixa 1 1 rfl (by omega) hN).1 (congrArg xs (ixa 1 1 rfl (by omega) hN).2) d_L0_law_469 ?_
  refine V_callJi (wr := WX K cA a u0) (As := [.int (xs (i + 1))]) (st := [.int r0]) hc TS_good NS_nest (fun _ h => h) mapM (c_M0_tick l K cA D b (xs (i + 1)) w) [0, 1, 2, 3, 4, 5, 6, 7, 8, 9, 10, 11, 12, 13, 14, 15, 16, 17, 18] [19, 20, 21, 22, 23, 24, 25, 26, 27, 28, 29, 30, 31, 32, 33, 34, 35, 36, 37, 38, 39, 40, 41] rfl rfl (by decide) (by decide) (by decide) k_829 k_10 k_832 k_830 k_831 0 eM_0 rfl q_M0_tick (by decide) (by decide) (by decide) rfl (Nat.le_of_ble_eq_true rfl) d_L0_law_470 hw (fun r1 u1 hw => ?_)
  try dsimp only at hw
  refine V_icmp_eq (tgt := 709) hc d_L0_law_473 rfl (fun _ => ?_) (fun h => absurd hw.1 h)
  exact hnext u0 u1 hw.2
set_option maxHeartbeats 4000000 in
set_option maxRecDepth 100000 in
theorem lw_deliver (l : Launch) (K : Nat) (cA : Nat → ClassId) (D : va_G) (p : Program) (e : Env) (s : State) (m : MethodId) (below : List Frame) (meth : Method) (c : Code) (sb N : Nat) (xs : Nat → Int32) (hN : N ≤ 2564) (hc : Cx TS NS CL D (tyX cA) p s m #[Value.ref sb] meth c code 4 "ChangeFeedLaw") (hX : va_X sb N xs s s.heap) (hbl : sb < s.heap.size) (a b : Nat → Nat) (i : Nat) (hi : i + 4 < N) (J : St → St → Prop) (z w : St) (hw : w_X0_deliver K (xs (i + 1)) z (fun r u => w_M0_deliver K (xs (i + 1)) w (fun r' u' => r = r' ∧ J u u'))) (hnext : ∀ z w, J z w → V CL p l e room_1 s m #[Value.ref sb] below meth c 4 D (fun q => s.heap.size ≤ q) 42 2440 (lw_Z below #[Value.ref sb] s) (WX K cA a z ++ WM K cA b w) 709 [(3, .int (nI i)), (2, .ref (b 0)), (1, .ref (a 0)), (0, .ref sb)] []) : V CL p l e room_1 s m #[Value.ref sb] below meth c 4 D (fun q => s.heap.size ≤ q) 42 2440 (lw_Z below #[Value.ref sb] s) (WX K cA a z ++ WM K cA b w) 478 [(3, .int (nI i)), (2, .ref (b 0)), (1, .ref (a 0)), (0, .ref sb)] [] := by
  refine V_aload_n hc d_L0_law_478 rfl 2 rfl ?_
  refine V_aload_n hc d_L0_law_479 rfl 3 rfl ?_
  refine V_iload_n hc d_L0_law_480 rfl 0 rfl ?_
  refine V_iconst (v := 1) hc d_L0_law_481 (by decide) ?_
  refine V_iadd hc d_L0_law_482 rfl ?_
  refine V_sld (x := xs (i + 1)) hc hX hbl (fun h => absurd hbl (Nat.not_lt.mpr h)) (ixa 1 1 rfl (by omega) hN).1 (congrArg xs (ixa 1 1 rfl (by omega) hN).2) d_L0_law_483 ?_
  refine V_callJi (wr := WM K cA b w) (As := [.int (xs (i + 1))]) (st := []) hc TS_good NS_nest (fun _ h => h) mapX (c_X0_deliver l K cA D a (xs (i + 1)) z) [0, 1, 2, 3, 4, 5, 6, 7, 8, 9, 10, 11, 12, 13, 14, 15, 16, 17, 18, 19, 20, 21, 22] [23, 24, 25, 26, 27, 28, 29, 30, 31, 32, 33, 34, 35, 36, 37, 38, 39, 40, 41] rfl rfl (by decide) (by decide) (by decide) k_471 k_1 k_474 k_472 k_473 0 eX_0 rfl q_X0_deliver (by decide) (by decide) (by decide) rfl (Nat.le_of_ble_eq_true rfl) d_L0_law_484 hw (fun r0 u0 hw => ?_)
  try dsimp only at hw
  refine V_aload_n hc d_L0_law_487 rfl 1 rfl ?_
  refine V_aload_n hc d_L0_law_488 rfl 3 rfl ?_
  refine V_iload_n hc d_L0_law_489 rfl 0 rfl ?_
  refine V_iconst (v := 1) hc d_L0_law_490 (by decide) ?_
  refine V_iadd hc d_L0_law_491 rfl ?_
  refine V_sld (x := xs (i + 1)) hc hX hbl (fun h => absurd hbl (Nat.not_lt.mpr h)) (ixa 1 1 rfl (by omega) hN).1 (congrArg xs (ixa 1 1 rfl (by omega) hN).2) d_L0_law_492 ?_
  refine V_callJi (wr := WX K cA a u0) (As := [.int (xs (i + 1))]) (st := [.int r0]) hc TS_good NS_nest (fun _ h => h) mapM (c_M0_deliver l K cA D b (xs (i + 1)) w) [0, 1, 2, 3, 4, 5, 6, 7, 8, 9, 10, 11, 12, 13, 14, 15, 16, 17, 18] [19, 20, 21, 22, 23, 24, 25, 26, 27, 28, 29, 30, 31, 32, 33, 34, 35, 36, 37, 38, 39, 40, 41] rfl rfl (by decide) (by decide) (by decide) k_833 k_10 k_836 k_834 k_835 0 eM_0 rfl q_M0_deliver (by decide) (by decide) (by decide) rfl (Nat.le_of_ble_eq_true rfl) d_L0_law_493 hw (fun r1 u1 hw => ?_)
  try dsimp only at hw
  refine V_icmp_eq (tgt := 709) hc d_L0_law_496 rfl (fun _ => ?_) (fun h => absurd hw.1 h)
  exact hnext u0 u1 hw.2
set_option maxHeartbeats 4000000 in
set_option maxRecDepth 100000 in
theorem lw_alter (l : Launch) (K : Nat) (cA : Nat → ClassId) (D : va_G) (p : Program) (e : Env) (s : State) (m : MethodId) (below : List Frame) (meth : Method) (c : Code) (sb N : Nat) (xs : Nat → Int32) (hN : N ≤ 2564) (hc : Cx TS NS CL D (tyX cA) p s m #[Value.ref sb] meth c code 4 "ChangeFeedLaw") (hX : va_X sb N xs s s.heap) (hbl : sb < s.heap.size) (a b : Nat → Nat) (i : Nat) (hi : i + 4 < N) (J : St → St → Prop) (z w : St) (hw : (∀ bb : Int32, (bb = 0 ∨ bb = 1) → w_X0_alter K (xs (i + 1)) bb z (fun r u => w_M0_alter K (xs (i + 1)) bb w (fun r' u' => r = r' ∧ J u u')))) (hnext : ∀ z w, J z w → V CL p l e room_1 s m #[Value.ref sb] below meth c 4 D (fun q => s.heap.size ≤ q) 42 2440 (lw_Z below #[Value.ref sb] s) (WX K cA a z ++ WM K cA b w) 709 [(3, .int (nI i)), (2, .ref (b 0)), (1, .ref (a 0)), (0, .ref sb)] []) : V CL p l e room_1 s m #[Value.ref sb] below meth c 4 D (fun q => s.heap.size ≤ q) 42 2440 (lw_Z below #[Value.ref sb] s) (WX K cA a z ++ WM K cA b w) 501 [(3, .int (nI i)), (2, .ref (b 0)), (1, .ref (a 0)), (0, .ref sb)] [] := by
  refine V_aload_n hc d_L0_law_501 rfl 2 rfl ?_
  refine V_aload_n hc d_L0_law_502 rfl 3 rfl ?_
  refine V_iload_n hc d_L0_law_503 rfl 0 rfl ?_
  refine V_iconst (v := 1) hc d_L0_law_504 (by decide) ?_
  refine V_iadd hc d_L0_law_505 rfl ?_
  refine V_sld (x := xs (i + 1)) hc hX hbl (fun h => absurd hbl (Nat.not_lt.mpr h)) (ixa 1 1 rfl (by omega) hN).1 (congrArg xs (ixa 1 1 rfl (by omega) hN).2) d_L0_law_506 ?_
  refine V_aload_n hc d_L0_law_507 rfl 3 rfl ?_
  refine V_iload_n hc d_L0_law_508 rfl 0 rfl ?_
  refine V_iconst (v := 2) hc d_L0_law_509 (by decide) ?_
  refine V_iadd hc d_L0_law_510 rfl ?_
  refine V_sld (x := xs (i + 2)) hc hX hbl (fun h => absurd hbl (Nat.not_lt.mpr h)) (ixa 2 2 rfl (by omega) hN).1 (congrArg xs (ixa 2 2 rfl (by omega) hN).2) d_L0_law_511 ?_
  refine V_if_eq (tgt := 519) hc d_L0_law_512 rfl (fun hb => ?_) (fun hb => ?_)
  · replace hw := hw 0 (Or.inl rfl)
    refine V_iconst (v := 0) hc d_L0_law_519 (by decide) ?_
    refine V_callJi (wr := WM K cA b w) (As := [.int (xs (i + 1)), .int 0]) (st := []) hc TS_good NS_nest (fun _ h => h) mapX (c_X0_alter l K cA D a (xs (i + 1)) 0 z) [0, 1, 2, 3, 4, 5, 6, 7, 8, 9, 10, 11, 12, 13, 14, 15, 16, 17, 18, 19, 20, 21, 22] [23, 24, 25, 26, 27, 28, 29, 30, 31, 32, 33, 34, 35, 36, 37, 38, 39, 40, 41] rfl rfl (by decide) (by decide) (by decide) k_503 k_1 k_506 k_504 k_505 0 eX_0 rfl q_X0_alter (by decide) (by decide) (by decide) rfl (Nat.le_of_ble_eq_true rfl) d_L0_law_520 hw (fun r0 u0 hw => ?_)
    try dsimp only at hw
    refine V_aload_n hc d_L0_law_523 rfl 1 rfl ?_
    refine V_aload_n hc d_L0_law_524 rfl 3 rfl ?_
    refine V_iload_n hc d_L0_law_525 rfl 0 rfl ?_
    refine V_iconst (v := 1) hc d_L0_law_526 (by decide) ?_
    refine V_iadd hc d_L0_law_527 rfl ?_
    refine V_sld (x := xs (i + 1)) hc hX hbl (fun h => absurd hbl (Nat.not_lt.mpr h)) (ixa 1 1 rfl (by omega) hN).1 (congrArg xs (ixa 1 1 rfl (by omega) hN).2) d_L0_law_528 ?_
    refine V_aload_n hc d_L0_law_529 rfl 3 rfl ?_
    refine V_iload_n hc d_L0_law_530 rfl 0 rfl ?_
    refine V_iconst (v := 2) hc d_L0_law_531 (by decide) ?_
    refine V_iadd hc d_L0_law_532 rfl ?_
    refine V_sld (x := xs (i + 2)) hc hX hbl (fun h => absurd hbl (Nat.not_lt.mpr h)) (ixa 2 2 rfl (by omega) hN).1 (congrArg xs (ixa 2 2 rfl (by omega) hN).2) d_L0_law_533 ?_
    refine V_if_eq (tgt := 541) hc d_L0_law_534 rfl (fun _ => ?_) (fun h => absurd hb h)
    refine V_iconst (v := 0) hc d_L0_law_541 (by decide) ?_
    refine V_callJi (wr := WX K cA a u0) (As := [.int (xs (i + 1)), .int 0]) (st := [.int r0]) hc TS_good NS_nest (fun _ h => h) mapM (c_M0_alter l K cA D b (xs (i + 1)) 0 w) [0, 1, 2, 3, 4, 5, 6, 7, 8, 9, 10, 11, 12, 13, 14, 15, 16, 17, 18] [19, 20, 21, 22, 23, 24, 25, 26, 27, 28, 29, 30, 31, 32, 33, 34, 35, 36, 37, 38, 39, 40, 41] rfl rfl (by decide) (by decide) (by decide) k_849 k_10 k_852 k_850 k_851 0 eM_0 rfl q_M0_alter (by decide) (by decide) (by decide) rfl (Nat.le_of_ble_eq_true rfl) d_L0_law_542 hw (fun r1 u1 hw => ?_)
    try dsimp only at hw
    refine V_icmp_eq (tgt := 709) hc d_L0_law_545 rfl (fun _ => ?_) (fun h => absurd hw.1 h)
    exact hnext u0 u1 hw.2
  · replace hw := hw 1 (Or.inr rfl)
    refine V_iconst (v := 1) hc d_L0_law_515 (by decide) ?_
    refine V_goto (tgt := 520) hc d_L0_law_516 rfl ?_
    refine V_callJi (wr := WM K cA b w) (As := [.int (xs (i + 1)), .int 1]) (st := []) hc TS_good NS_nest (fun _ h => h) mapX (c_X0_alter l K cA D a (xs (i + 1)) 1 z) [0, 1, 2, 3, 4, 5, 6, 7, 8, 9, 10, 11, 12, 13, 14, 15, 16, 17, 18, 19, 20, 21, 22] [23, 24, 25, 26, 27, 28, 29, 30, 31, 32, 33, 34, 35, 36, 37, 38, 39, 40, 41] rfl rfl (by decide) (by decide) (by decide) k_503 k_1 k_506 k_504 k_505 0 eX_0 rfl q_X0_alter (by decide) (by decide) (by decide) rfl (Nat.le_of_ble_eq_true rfl) d_L0_law_520 hw (fun r0 u0 hw => ?_)
    try dsimp only at hw
    refine V_aload_n hc d_L0_law_523 rfl 1 rfl ?_
    refine V_aload_n hc d_L0_law_524 rfl 3 rfl ?_
    refine V_iload_n hc d_L0_law_525 rfl 0 rfl ?_
    refine V_iconst (v := 1) hc d_L0_law_526 (by decide) ?_
    refine V_iadd hc d_L0_law_527 rfl ?_
    refine V_sld (x := xs (i + 1)) hc hX hbl (fun h => absurd hbl (Nat.not_lt.mpr h)) (ixa 1 1 rfl (by omega) hN).1 (congrArg xs (ixa 1 1 rfl (by omega) hN).2) d_L0_law_528 ?_
    refine V_aload_n hc d_L0_law_529 rfl 3 rfl ?_
    refine V_iload_n hc d_L0_law_530 rfl 0 rfl ?_
    refine V_iconst (v := 2) hc d_L0_law_531 (by decide) ?_
    refine V_iadd hc d_L0_law_532 rfl ?_
    refine V_sld (x := xs (i + 2)) hc hX hbl (fun h => absurd hbl (Nat.not_lt.mpr h)) (ixa 2 2 rfl (by omega) hN).1 (congrArg xs (ixa 2 2 rfl (by omega) hN).2) d_L0_law_533 ?_
    refine V_if_eq (tgt := 541) hc d_L0_law_534 rfl (fun h => absurd h hb) (fun _ => ?_)
    refine V_iconst (v := 1) hc d_L0_law_537 (by decide) ?_
    refine V_goto (tgt := 542) hc d_L0_law_538 rfl ?_
    refine V_callJi (wr := WX K cA a u0) (As := [.int (xs (i + 1)), .int 1]) (st := [.int r0]) hc TS_good NS_nest (fun _ h => h) mapM (c_M0_alter l K cA D b (xs (i + 1)) 1 w) [0, 1, 2, 3, 4, 5, 6, 7, 8, 9, 10, 11, 12, 13, 14, 15, 16, 17, 18] [19, 20, 21, 22, 23, 24, 25, 26, 27, 28, 29, 30, 31, 32, 33, 34, 35, 36, 37, 38, 39, 40, 41] rfl rfl (by decide) (by decide) (by decide) k_849 k_10 k_852 k_850 k_851 0 eM_0 rfl q_M0_alter (by decide) (by decide) (by decide) rfl (Nat.le_of_ble_eq_true rfl) d_L0_law_542 hw (fun r1 u1 hw => ?_)
    try dsimp only at hw
    refine V_icmp_eq (tgt := 709) hc d_L0_law_545 rfl (fun _ => ?_) (fun h => absurd hw.1 h)
    exact hnext u0 u1 hw.2
set_option maxHeartbeats 4000000 in
set_option maxRecDepth 100000 in
theorem lw_flight (l : Launch) (K : Nat) (cA : Nat → ClassId) (D : va_G) (p : Program) (e : Env) (s : State) (m : MethodId) (below : List Frame) (meth : Method) (c : Code) (sb N : Nat) (xs : Nat → Int32) (hN : N ≤ 2564) (hc : Cx TS NS CL D (tyX cA) p s m #[Value.ref sb] meth c code 4 "ChangeFeedLaw") (hX : va_X sb N xs s s.heap) (hbl : sb < s.heap.size) (a b : Nat → Nat) (i : Nat) (hi : i + 4 < N) (J : St → St → Prop) (z w : St) (hw : w_X0_flight K  z (fun r u => w_M0_flight K  w (fun r' u' => r = r' ∧ J u u'))) (hnext : ∀ z w, J z w → V CL p l e room_1 s m #[Value.ref sb] below meth c 4 D (fun q => s.heap.size ≤ q) 42 2440 (lw_Z below #[Value.ref sb] s) (WX K cA a z ++ WM K cA b w) 709 [(3, .int (nI i)), (2, .ref (b 0)), (1, .ref (a 0)), (0, .ref sb)] []) : V CL p l e room_1 s m #[Value.ref sb] below meth c 4 D (fun q => s.heap.size ≤ q) 42 2440 (lw_Z below #[Value.ref sb] s) (WX K cA a z ++ WM K cA b w) 550 [(3, .int (nI i)), (2, .ref (b 0)), (1, .ref (a 0)), (0, .ref sb)] [] := by
  refine V_aload_n hc d_L0_law_550 rfl 2 rfl ?_
  refine V_callJi (wr := WM K cA b w) (As := []) (st := []) hc TS_good NS_nest (fun _ h => h) mapX (c_X0_flight l K cA D a  z) [0, 1, 2, 3, 4, 5, 6, 7, 8, 9, 10, 11, 12, 13, 14, 15, 16, 17, 18, 19, 20, 21, 22] [23, 24, 25, 26, 27, 28, 29, 30, 31, 32, 33, 34, 35, 36, 37, 38, 39, 40, 41] rfl rfl (by decide) (by decide) (by decide) k_512 k_1 k_515 k_513 k_514 0 eX_0 rfl q_X0_flight (by decide) (by decide) (by decide) rfl (Nat.le_of_ble_eq_true rfl) d_L0_law_551 hw (fun r0 u0 hw => ?_)
  try dsimp only at hw
  refine V_aload_n hc d_L0_law_554 rfl 1 rfl ?_
  refine V_callJi (wr := WX K cA a u0) (As := []) (st := [.int r0]) hc TS_good NS_nest (fun _ h => h) mapM (c_M0_flight l K cA D b  w) [0, 1, 2, 3, 4, 5, 6, 7, 8, 9, 10, 11, 12, 13, 14, 15, 16, 17, 18] [19, 20, 21, 22, 23, 24, 25, 26, 27, 28, 29, 30, 31, 32, 33, 34, 35, 36, 37, 38, 39, 40, 41] rfl rfl (by decide) (by decide) (by decide) k_853 k_10 k_856 k_854 k_855 0 eM_0 rfl q_M0_flight (by decide) (by decide) (by decide) rfl (Nat.le_of_ble_eq_true rfl) d_L0_law_555 hw (fun r1 u1 hw => ?_)
  try dsimp only at hw
  refine V_icmp_eq (tgt := 709) hc d_L0_law_558 rfl (fun _ => ?_) (fun h => absurd hw.1 h)
  exact hnext u0 u1 hw.2
set_option maxHeartbeats 4000000 in
set_option maxRecDepth 100000 in
theorem lw_packet (l : Launch) (K : Nat) (cA : Nat → ClassId) (D : va_G) (p : Program) (e : Env) (s : State) (m : MethodId) (below : List Frame) (meth : Method) (c : Code) (sb N : Nat) (xs : Nat → Int32) (hN : N ≤ 2564) (hc : Cx TS NS CL D (tyX cA) p s m #[Value.ref sb] meth c code 4 "ChangeFeedLaw") (hX : va_X sb N xs s s.heap) (hbl : sb < s.heap.size) (a b : Nat → Nat) (i : Nat) (hi : i + 4 < N) (J : St → St → Prop) (z w : St) (hw : w_X0_packet K (xs (i + 1)) (xs (i + 2)) z (fun r u => w_M0_packet K (xs (i + 1)) (xs (i + 2)) w (fun r' u' => r = r' ∧ J u u'))) (hnext : ∀ z w, J z w → V CL p l e room_1 s m #[Value.ref sb] below meth c 4 D (fun q => s.heap.size ≤ q) 42 2440 (lw_Z below #[Value.ref sb] s) (WX K cA a z ++ WM K cA b w) 709 [(3, .int (nI i)), (2, .ref (b 0)), (1, .ref (a 0)), (0, .ref sb)] []) : V CL p l e room_1 s m #[Value.ref sb] below meth c 4 D (fun q => s.heap.size ≤ q) 42 2440 (lw_Z below #[Value.ref sb] s) (WX K cA a z ++ WM K cA b w) 563 [(3, .int (nI i)), (2, .ref (b 0)), (1, .ref (a 0)), (0, .ref sb)] [] := by
  refine V_aload_n hc d_L0_law_563 rfl 2 rfl ?_
  refine V_aload_n hc d_L0_law_564 rfl 3 rfl ?_
  refine V_iload_n hc d_L0_law_565 rfl 0 rfl ?_
  refine V_iconst (v := 1) hc d_L0_law_566 (by decide) ?_
  refine V_iadd hc d_L0_law_567 rfl ?_
  refine V_sld (x := xs (i + 1)) hc hX hbl (fun h => absurd hbl (Nat.not_lt.mpr h)) (ixa 1 1 rfl (by omega) hN).1 (congrArg xs (ixa 1 1 rfl (by omega) hN).2) d_L0_law_568 ?_
  refine V_aload_n hc d_L0_law_569 rfl 3 rfl ?_
  refine V_iload_n hc d_L0_law_570 rfl 0 rfl ?_
  refine V_iconst (v := 2) hc d_L0_law_571 (by decide) ?_
  refine V_iadd hc d_L0_law_572 rfl ?_
  refine V_sld (x := xs (i + 2)) hc hX hbl (fun h => absurd hbl (Nat.not_lt.mpr h)) (ixa 2 2 rfl (by omega) hN).1 (congrArg xs (ixa 2 2 rfl (by omega) hN).2) d_L0_law_573 ?_
  refine V_callJi (wr := WM K cA b w) (As := [.int (xs (i + 1)), .int (xs (i + 2))]) (st := []) hc TS_good NS_nest (fun _ h => h) mapX (c_X0_packet l K cA D a (xs (i + 1)) (xs (i + 2)) z) [0, 1, 2, 3, 4, 5, 6, 7, 8, 9, 10, 11, 12, 13, 14, 15, 16, 17, 18, 19, 20, 21, 22] [23, 24, 25, 26, 27, 28, 29, 30, 31, 32, 33, 34, 35, 36, 37, 38, 39, 40, 41] rfl rfl (by decide) (by decide) (by decide) k_516 k_1 k_519 k_517 k_518 0 eX_0 rfl q_X0_packet (by decide) (by decide) (by decide) rfl (Nat.le_of_ble_eq_true rfl) d_L0_law_574 hw (fun r0 u0 hw => ?_)
  try dsimp only at hw
  refine V_aload_n hc d_L0_law_577 rfl 1 rfl ?_
  refine V_aload_n hc d_L0_law_578 rfl 3 rfl ?_
  refine V_iload_n hc d_L0_law_579 rfl 0 rfl ?_
  refine V_iconst (v := 1) hc d_L0_law_580 (by decide) ?_
  refine V_iadd hc d_L0_law_581 rfl ?_
  refine V_sld (x := xs (i + 1)) hc hX hbl (fun h => absurd hbl (Nat.not_lt.mpr h)) (ixa 1 1 rfl (by omega) hN).1 (congrArg xs (ixa 1 1 rfl (by omega) hN).2) d_L0_law_582 ?_
  refine V_aload_n hc d_L0_law_583 rfl 3 rfl ?_
  refine V_iload_n hc d_L0_law_584 rfl 0 rfl ?_
  refine V_iconst (v := 2) hc d_L0_law_585 (by decide) ?_
  refine V_iadd hc d_L0_law_586 rfl ?_
  refine V_sld (x := xs (i + 2)) hc hX hbl (fun h => absurd hbl (Nat.not_lt.mpr h)) (ixa 2 2 rfl (by omega) hN).1 (congrArg xs (ixa 2 2 rfl (by omega) hN).2) d_L0_law_587 ?_
  refine V_callJi (wr := WX K cA a u0) (As := [.int (xs (i + 1)), .int (xs (i + 2))]) (st := [.int r0]) hc TS_good NS_nest (fun _ h => h) mapM (c_M0_packet l K cA D b (xs (i + 1)) (xs (i + 2)) w) [0, 1, 2, 3, 4, 5, 6, 7, 8, 9, 10, 11, 12, 13, 14, 15, 16, 17, 18] [19, 20, 21, 22, 23, 24, 25, 26, 27, 28, 29, 30, 31, 32, 33, 34, 35, 36, 37, 38, 39, 40, 41] rfl rfl (by decide) (by decide) (by decide) k_857 k_10 k_860 k_858 k_859 0 eM_0 rfl q_M0_packet (by decide) (by decide) (by decide) rfl (Nat.le_of_ble_eq_true rfl) d_L0_law_588 hw (fun r1 u1 hw => ?_)
  try dsimp only at hw
  refine V_icmp_eq (tgt := 709) hc d_L0_law_591 rfl (fun _ => ?_) (fun h => absurd hw.1 h)
  exact hnext u0 u1 hw.2
set_option maxHeartbeats 4000000 in
set_option maxRecDepth 100000 in
theorem lw_apply (l : Launch) (K : Nat) (cA : Nat → ClassId) (D : va_G) (p : Program) (e : Env) (s : State) (m : MethodId) (below : List Frame) (meth : Method) (c : Code) (sb N : Nat) (xs : Nat → Int32) (hN : N ≤ 2564) (hc : Cx TS NS CL D (tyX cA) p s m #[Value.ref sb] meth c code 4 "ChangeFeedLaw") (hX : va_X sb N xs s s.heap) (hbl : sb < s.heap.size) (a b : Nat → Nat) (i : Nat) (hi : i + 4 < N) (J : St → St → Prop) (z w : St) (hw : w_X0_apply K  z (fun r u => w_M0_apply K  w (fun r' u' => r = r' ∧ J u u'))) (hnext : ∀ z w, J z w → V CL p l e room_1 s m #[Value.ref sb] below meth c 4 D (fun q => s.heap.size ≤ q) 42 2440 (lw_Z below #[Value.ref sb] s) (WX K cA a z ++ WM K cA b w) 709 [(3, .int (nI i)), (2, .ref (b 0)), (1, .ref (a 0)), (0, .ref sb)] []) : V CL p l e room_1 s m #[Value.ref sb] below meth c 4 D (fun q => s.heap.size ≤ q) 42 2440 (lw_Z below #[Value.ref sb] s) (WX K cA a z ++ WM K cA b w) 596 [(3, .int (nI i)), (2, .ref (b 0)), (1, .ref (a 0)), (0, .ref sb)] [] := by
  refine V_aload_n hc d_L0_law_596 rfl 2 rfl ?_
  refine V_callJi (wr := WM K cA b w) (As := []) (st := []) hc TS_good NS_nest (fun _ h => h) mapX (c_X0_apply l K cA D a  z) [0, 1, 2, 3, 4, 5, 6, 7, 8, 9, 10, 11, 12, 13, 14, 15, 16, 17, 18, 19, 20, 21, 22] [23, 24, 25, 26, 27, 28, 29, 30, 31, 32, 33, 34, 35, 36, 37, 38, 39, 40, 41] rfl rfl (by decide) (by decide) (by decide) k_520 k_1 k_523 k_521 k_522 0 eX_0 rfl q_X0_apply (by decide) (by decide) (by decide) rfl (Nat.le_of_ble_eq_true rfl) d_L0_law_597 hw (fun r0 u0 hw => ?_)
  try dsimp only at hw
  refine V_aload_n hc d_L0_law_600 rfl 1 rfl ?_
  refine V_callJi (wr := WX K cA a u0) (As := []) (st := [.int r0]) hc TS_good NS_nest (fun _ h => h) mapM (c_M0_apply l K cA D b  w) [0, 1, 2, 3, 4, 5, 6, 7, 8, 9, 10, 11, 12, 13, 14, 15, 16, 17, 18] [19, 20, 21, 22, 23, 24, 25, 26, 27, 28, 29, 30, 31, 32, 33, 34, 35, 36, 37, 38, 39, 40, 41] rfl rfl (by decide) (by decide) (by decide) k_861 k_10 k_864 k_862 k_863 0 eM_0 rfl q_M0_apply (by decide) (by decide) (by decide) rfl (Nat.le_of_ble_eq_true rfl) d_L0_law_601 hw (fun r1 u1 hw => ?_)
  try dsimp only at hw
  refine V_icmp_eq (tgt := 709) hc d_L0_law_604 rfl (fun _ => ?_) (fun h => absurd hw.1 h)
  exact hnext u0 u1 hw.2
set_option maxHeartbeats 4000000 in
set_option maxRecDepth 100000 in
theorem lw_stored (l : Launch) (K : Nat) (cA : Nat → ClassId) (D : va_G) (p : Program) (e : Env) (s : State) (m : MethodId) (below : List Frame) (meth : Method) (c : Code) (sb N : Nat) (xs : Nat → Int32) (hN : N ≤ 2564) (hc : Cx TS NS CL D (tyX cA) p s m #[Value.ref sb] meth c code 4 "ChangeFeedLaw") (hX : va_X sb N xs s s.heap) (hbl : sb < s.heap.size) (a b : Nat → Nat) (i : Nat) (hi : i + 4 < N) (J : St → St → Prop) (z w : St) (hw : w_X0_stored K (xs (i + 1)) z (fun r u => w_M0_stored K (xs (i + 1)) w (fun r' u' => r = r' ∧ J u u'))) (hnext : ∀ z w, J z w → V CL p l e room_1 s m #[Value.ref sb] below meth c 4 D (fun q => s.heap.size ≤ q) 42 2440 (lw_Z below #[Value.ref sb] s) (WX K cA a z ++ WM K cA b w) 709 [(3, .int (nI i)), (2, .ref (b 0)), (1, .ref (a 0)), (0, .ref sb)] []) : V CL p l e room_1 s m #[Value.ref sb] below meth c 4 D (fun q => s.heap.size ≤ q) 42 2440 (lw_Z below #[Value.ref sb] s) (WX K cA a z ++ WM K cA b w) 609 [(3, .int (nI i)), (2, .ref (b 0)), (1, .ref (a 0)), (0, .ref sb)] [] := by
  refine V_aload_n hc d_L0_law_609 rfl 2 rfl ?_
  refine V_aload_n hc d_L0_law_610 rfl 3 rfl ?_
  refine V_iload_n hc d_L0_law_611 rfl 0 rfl ?_
  refine V_iconst (v := 1) hc d_L0_law_612 (by decide) ?_
  refine V_iadd hc d_L0_law_613 rfl ?_
  refine V_sld (x := xs (i + 1)) hc hX hbl (fun h => absurd hbl (Nat.not_lt.mpr h)) (ixa 1 1 rfl (by omega) hN).1 (congrArg xs (ixa 1 1 rfl (by omega) hN).2) d_L0_law_614 ?_
  refine V_callJl (wr := WM K cA b w) (As := [.int (xs (i + 1))]) (st := []) hc TS_good NS_nest (fun _ h => h) mapX (c_X0_stored l K cA D a (xs (i + 1)) z) [0, 1, 2, 3, 4, 5, 6, 7, 8, 9, 10, 11, 12, 13, 14, 15, 16, 17, 18, 19, 20, 21, 22] [23, 24, 25, 26, 27, 28, 29, 30, 31, 32, 33, 34, 35, 36, 37, 38, 39, 40, 41] rfl rfl (by decide) (by decide) (by decide) k_545 k_1 k_548 k_546 k_547 0 eX_0 rfl q_X0_stored (by decide) (by decide) (by decide) rfl (Nat.le_of_ble_eq_true rfl) d_L0_law_615 hw (fun r0 u0 hw => ?_)
  try dsimp only at hw
  refine V_aload_n hc d_L0_law_618 rfl 1 rfl ?_
  refine V_aload_n hc d_L0_law_619 rfl 3 rfl ?_
  refine V_iload_n hc d_L0_law_620 rfl 0 rfl ?_
  refine V_iconst (v := 1) hc d_L0_law_621 (by decide) ?_
  refine V_iadd hc d_L0_law_622 rfl ?_
  refine V_sld (x := xs (i + 1)) hc hX hbl (fun h => absurd hbl (Nat.not_lt.mpr h)) (ixa 1 1 rfl (by omega) hN).1 (congrArg xs (ixa 1 1 rfl (by omega) hN).2) d_L0_law_623 ?_
  refine V_callJl (wr := WX K cA a u0) (As := [.int (xs (i + 1))]) (st := [.long r0]) hc TS_good NS_nest (fun _ h => h) mapM (c_M0_stored l K cA D b (xs (i + 1)) w) [0, 1, 2, 3, 4, 5, 6, 7, 8, 9, 10, 11, 12, 13, 14, 15, 16, 17, 18] [19, 20, 21, 22, 23, 24, 25, 26, 27, 28, 29, 30, 31, 32, 33, 34, 35, 36, 37, 38, 39, 40, 41] rfl rfl (by decide) (by decide) (by decide) k_703 k_10 k_706 k_704 k_705 0 eM_0 rfl q_M0_stored (by decide) (by decide) (by decide) rfl (Nat.le_of_ble_eq_true rfl) d_L0_law_624 hw (fun r1 u1 hw => ?_)
  try dsimp only at hw
  refine V_lcmp hc d_L0_law_627 rfl ?_
  refine V_if_eq (tgt := 709) hc d_L0_law_628 rfl (fun _ => ?_) (fun h => absurd (by rw [hw.1]; exact lc_self _) h)
  exact hnext u0 u1 hw.2
set_option maxHeartbeats 4000000 in
set_option maxRecDepth 100000 in
theorem lw_view (l : Launch) (K : Nat) (cA : Nat → ClassId) (D : va_G) (p : Program) (e : Env) (s : State) (m : MethodId) (below : List Frame) (meth : Method) (c : Code) (sb N : Nat) (xs : Nat → Int32) (hN : N ≤ 2564) (hc : Cx TS NS CL D (tyX cA) p s m #[Value.ref sb] meth c code 4 "ChangeFeedLaw") (hX : va_X sb N xs s s.heap) (hbl : sb < s.heap.size) (a b : Nat → Nat) (i : Nat) (hi : i + 4 < N) (J : St → St → Prop) (z w : St) (hw : (∀ bb : Int32, (bb = 0 ∨ bb = 1) → w_X0_view K (xs (i + 1)) bb z (fun r u => w_M0_view K (xs (i + 1)) bb w (fun r' u' => r = r' ∧ J u u')))) (hnext : ∀ z w, J z w → V CL p l e room_1 s m #[Value.ref sb] below meth c 4 D (fun q => s.heap.size ≤ q) 42 2440 (lw_Z below #[Value.ref sb] s) (WX K cA a z ++ WM K cA b w) 709 [(3, .int (nI i)), (2, .ref (b 0)), (1, .ref (a 0)), (0, .ref sb)] []) : V CL p l e room_1 s m #[Value.ref sb] below meth c 4 D (fun q => s.heap.size ≤ q) 42 2440 (lw_Z below #[Value.ref sb] s) (WX K cA a z ++ WM K cA b w) 633 [(3, .int (nI i)), (2, .ref (b 0)), (1, .ref (a 0)), (0, .ref sb)] [] := by
  refine V_aload_n hc d_L0_law_633 rfl 2 rfl ?_
  refine V_aload_n hc d_L0_law_634 rfl 3 rfl ?_
  refine V_iload_n hc d_L0_law_635 rfl 0 rfl ?_
  refine V_iconst (v := 1) hc d_L0_law_636 (by decide) ?_
  refine V_iadd hc d_L0_law_637 rfl ?_
  refine V_sld (x := xs (i + 1)) hc hX hbl (fun h => absurd hbl (Nat.not_lt.mpr h)) (ixa 1 1 rfl (by omega) hN).1 (congrArg xs (ixa 1 1 rfl (by omega) hN).2) d_L0_law_638 ?_
  refine V_aload_n hc d_L0_law_639 rfl 3 rfl ?_
  refine V_iload_n hc d_L0_law_640 rfl 0 rfl ?_
  refine V_iconst (v := 2) hc d_L0_law_641 (by decide) ?_
  refine V_iadd hc d_L0_law_642 rfl ?_
  refine V_sld (x := xs (i + 2)) hc hX hbl (fun h => absurd hbl (Nat.not_lt.mpr h)) (ixa 2 2 rfl (by omega) hN).1 (congrArg xs (ixa 2 2 rfl (by omega) hN).2) d_L0_law_643 ?_
  refine V_if_eq (tgt := 651) hc d_L0_law_644 rfl (fun hb => ?_) (fun hb => ?_)
  · replace hw := hw 0 (Or.inl rfl)
    refine V_iconst (v := 0) hc d_L0_law_651 (by decide) ?_
    refine V_callJl (wr := WM K cA b w) (As := [.int (xs (i + 1)), .int 0]) (st := []) hc TS_good NS_nest (fun _ h => h) mapX (c_X0_view l K cA D a (xs (i + 1)) 0 z) [0, 1, 2, 3, 4, 5, 6, 7, 8, 9, 10, 11, 12, 13, 14, 15, 16, 17, 18, 19, 20, 21, 22] [23, 24, 25, 26, 27, 28, 29, 30, 31, 32, 33, 34, 35, 36, 37, 38, 39, 40, 41] rfl rfl (by decide) (by decide) (by decide) k_549 k_1 k_552 k_550 k_551 0 eX_0 rfl q_X0_view (by decide) (by decide) (by decide) rfl (Nat.le_of_ble_eq_true rfl) d_L0_law_652 hw (fun r0 u0 hw => ?_)
    try dsimp only at hw
    refine V_aload_n hc d_L0_law_655 rfl 1 rfl ?_
    refine V_aload_n hc d_L0_law_656 rfl 3 rfl ?_
    refine V_iload_n hc d_L0_law_657 rfl 0 rfl ?_
    refine V_iconst (v := 1) hc d_L0_law_658 (by decide) ?_
    refine V_iadd hc d_L0_law_659 rfl ?_
    refine V_sld (x := xs (i + 1)) hc hX hbl (fun h => absurd hbl (Nat.not_lt.mpr h)) (ixa 1 1 rfl (by omega) hN).1 (congrArg xs (ixa 1 1 rfl (by omega) hN).2) d_L0_law_660 ?_
    refine V_aload_n hc d_L0_law_661 rfl 3 rfl ?_
    refine V_iload_n hc d_L0_law_662 rfl 0 rfl ?_
    refine V_iconst (v := 2) hc d_L0_law_663 (by decide) ?_
    refine V_iadd hc d_L0_law_664 rfl ?_
    refine V_sld (x := xs (i + 2)) hc hX hbl (fun h => absurd hbl (Nat.not_lt.mpr h)) (ixa 2 2 rfl (by omega) hN).1 (congrArg xs (ixa 2 2 rfl (by omega) hN).2) d_L0_law_665 ?_
    refine V_if_eq (tgt := 673) hc d_L0_law_666 rfl (fun _ => ?_) (fun h => absurd hb h)
    refine V_iconst (v := 0) hc d_L0_law_673 (by decide) ?_
    refine V_callJl (wr := WX K cA a u0) (As := [.int (xs (i + 1)), .int 0]) (st := [.long r0]) hc TS_good NS_nest (fun _ h => h) mapM (c_M0_view l K cA D b (xs (i + 1)) 0 w) [0, 1, 2, 3, 4, 5, 6, 7, 8, 9, 10, 11, 12, 13, 14, 15, 16, 17, 18] [19, 20, 21, 22, 23, 24, 25, 26, 27, 28, 29, 30, 31, 32, 33, 34, 35, 36, 37, 38, 39, 40, 41] rfl rfl (by decide) (by decide) (by decide) k_744 k_10 k_747 k_745 k_746 0 eM_0 rfl q_M0_view (by decide) (by decide) (by decide) rfl (Nat.le_of_ble_eq_true rfl) d_L0_law_674 hw (fun r1 u1 hw => ?_)
    try dsimp only at hw
    refine V_lcmp hc d_L0_law_677 rfl ?_
    refine V_if_eq (tgt := 709) hc d_L0_law_678 rfl (fun _ => ?_) (fun h => absurd (by rw [hw.1]; exact lc_self _) h)
    exact hnext u0 u1 hw.2
  · replace hw := hw 1 (Or.inr rfl)
    refine V_iconst (v := 1) hc d_L0_law_647 (by decide) ?_
    refine V_goto (tgt := 652) hc d_L0_law_648 rfl ?_
    refine V_callJl (wr := WM K cA b w) (As := [.int (xs (i + 1)), .int 1]) (st := []) hc TS_good NS_nest (fun _ h => h) mapX (c_X0_view l K cA D a (xs (i + 1)) 1 z) [0, 1, 2, 3, 4, 5, 6, 7, 8, 9, 10, 11, 12, 13, 14, 15, 16, 17, 18, 19, 20, 21, 22] [23, 24, 25, 26, 27, 28, 29, 30, 31, 32, 33, 34, 35, 36, 37, 38, 39, 40, 41] rfl rfl (by decide) (by decide) (by decide) k_549 k_1 k_552 k_550 k_551 0 eX_0 rfl q_X0_view (by decide) (by decide) (by decide) rfl (Nat.le_of_ble_eq_true rfl) d_L0_law_652 hw (fun r0 u0 hw => ?_)
    try dsimp only at hw
    refine V_aload_n hc d_L0_law_655 rfl 1 rfl ?_
    refine V_aload_n hc d_L0_law_656 rfl 3 rfl ?_
    refine V_iload_n hc d_L0_law_657 rfl 0 rfl ?_
    refine V_iconst (v := 1) hc d_L0_law_658 (by decide) ?_
    refine V_iadd hc d_L0_law_659 rfl ?_
    refine V_sld (x := xs (i + 1)) hc hX hbl (fun h => absurd hbl (Nat.not_lt.mpr h)) (ixa 1 1 rfl (by omega) hN).1 (congrArg xs (ixa 1 1 rfl (by omega) hN).2) d_L0_law_660 ?_
    refine V_aload_n hc d_L0_law_661 rfl 3 rfl ?_
    refine V_iload_n hc d_L0_law_662 rfl 0 rfl ?_
    refine V_iconst (v := 2) hc d_L0_law_663 (by decide) ?_
    refine V_iadd hc d_L0_law_664 rfl ?_
    refine V_sld (x := xs (i + 2)) hc hX hbl (fun h => absurd hbl (Nat.not_lt.mpr h)) (ixa 2 2 rfl (by omega) hN).1 (congrArg xs (ixa 2 2 rfl (by omega) hN).2) d_L0_law_665 ?_
    refine V_if_eq (tgt := 673) hc d_L0_law_666 rfl (fun h => absurd h hb) (fun _ => ?_)
    refine V_iconst (v := 1) hc d_L0_law_669 (by decide) ?_
    refine V_goto (tgt := 674) hc d_L0_law_670 rfl ?_
    refine V_callJl (wr := WX K cA a u0) (As := [.int (xs (i + 1)), .int 1]) (st := [.long r0]) hc TS_good NS_nest (fun _ h => h) mapM (c_M0_view l K cA D b (xs (i + 1)) 1 w) [0, 1, 2, 3, 4, 5, 6, 7, 8, 9, 10, 11, 12, 13, 14, 15, 16, 17, 18] [19, 20, 21, 22, 23, 24, 25, 26, 27, 28, 29, 30, 31, 32, 33, 34, 35, 36, 37, 38, 39, 40, 41] rfl rfl (by decide) (by decide) (by decide) k_744 k_10 k_747 k_745 k_746 0 eM_0 rfl q_M0_view (by decide) (by decide) (by decide) rfl (Nat.le_of_ble_eq_true rfl) d_L0_law_674 hw (fun r1 u1 hw => ?_)
    try dsimp only at hw
    refine V_lcmp hc d_L0_law_677 rfl ?_
    refine V_if_eq (tgt := 709) hc d_L0_law_678 rfl (fun _ => ?_) (fun h => absurd (by rw [hw.1]; exact lc_self _) h)
    exact hnext u0 u1 hw.2
set_option maxHeartbeats 4000000 in
set_option maxRecDepth 100000 in
theorem lw_position (l : Launch) (K : Nat) (cA : Nat → ClassId) (D : va_G) (p : Program) (e : Env) (s : State) (m : MethodId) (below : List Frame) (meth : Method) (c : Code) (sb N : Nat) (xs : Nat → Int32) (hN : N ≤ 2564) (hc : Cx TS NS CL D (tyX cA) p s m #[Value.ref sb] meth c code 4 "ChangeFeedLaw") (hX : va_X sb N xs s s.heap) (hbl : sb < s.heap.size) (a b : Nat → Nat) (i : Nat) (hi : i + 4 < N) (J : St → St → Prop) (z w : St) (hw : w_X0_position K  z (fun r u => w_M0_position K  w (fun r' u' => r = r' ∧ J u u'))) (hnext : ∀ z w, J z w → V CL p l e room_1 s m #[Value.ref sb] below meth c 4 D (fun q => s.heap.size ≤ q) 42 2440 (lw_Z below #[Value.ref sb] s) (WX K cA a z ++ WM K cA b w) 709 [(3, .int (nI i)), (2, .ref (b 0)), (1, .ref (a 0)), (0, .ref sb)] []) : V CL p l e room_1 s m #[Value.ref sb] below meth c 4 D (fun q => s.heap.size ≤ q) 42 2440 (lw_Z below #[Value.ref sb] s) (WX K cA a z ++ WM K cA b w) 683 [(3, .int (nI i)), (2, .ref (b 0)), (1, .ref (a 0)), (0, .ref sb)] [] := by
  refine V_aload_n hc d_L0_law_683 rfl 2 rfl ?_
  refine V_callJi (wr := WM K cA b w) (As := []) (st := []) hc TS_good NS_nest (fun _ h => h) mapX (c_X0_position l K cA D a  z) [0, 1, 2, 3, 4, 5, 6, 7, 8, 9, 10, 11, 12, 13, 14, 15, 16, 17, 18, 19, 20, 21, 22] [23, 24, 25, 26, 27, 28, 29, 30, 31, 32, 33, 34, 35, 36, 37, 38, 39, 40, 41] rfl rfl (by decide) (by decide) (by decide) k_568 k_1 k_571 k_569 k_570 0 eX_0 rfl q_X0_position (by decide) (by decide) (by decide) rfl (Nat.le_of_ble_eq_true rfl) d_L0_law_684 hw (fun r0 u0 hw => ?_)
  try dsimp only at hw
  refine V_aload_n hc d_L0_law_687 rfl 1 rfl ?_
  refine V_callJi (wr := WX K cA a u0) (As := []) (st := [.int r0]) hc TS_good NS_nest (fun _ h => h) mapM (c_M0_position l K cA D b  w) [0, 1, 2, 3, 4, 5, 6, 7, 8, 9, 10, 11, 12, 13, 14, 15, 16, 17, 18] [19, 20, 21, 22, 23, 24, 25, 26, 27, 28, 29, 30, 31, 32, 33, 34, 35, 36, 37, 38, 39, 40, 41] rfl rfl (by decide) (by decide) (by decide) k_749 k_10 k_752 k_750 k_751 0 eM_0 rfl q_M0_position (by decide) (by decide) (by decide) rfl (Nat.le_of_ble_eq_true rfl) d_L0_law_688 hw (fun r1 u1 hw => ?_)
  try dsimp only at hw
  refine V_icmp_eq (tgt := 709) hc d_L0_law_691 rfl (fun _ => ?_) (fun h => absurd hw.1 h)
  exact hnext u0 u1 hw.2
set_option maxHeartbeats 4000000 in
set_option maxRecDepth 100000 in
theorem lw_progress (l : Launch) (K : Nat) (cA : Nat → ClassId) (D : va_G) (p : Program) (e : Env) (s : State) (m : MethodId) (below : List Frame) (meth : Method) (c : Code) (sb N : Nat) (xs : Nat → Int32) (hN : N ≤ 2564) (hc : Cx TS NS CL D (tyX cA) p s m #[Value.ref sb] meth c code 4 "ChangeFeedLaw") (hX : va_X sb N xs s s.heap) (hbl : sb < s.heap.size) (a b : Nat → Nat) (i : Nat) (hi : i + 4 < N) (J : St → St → Prop) (z w : St) (hw : w_X0_progress K  z (fun r u => w_M0_progress K  w (fun r' u' => r = r' ∧ J u u'))) (hnext : ∀ z w, J z w → V CL p l e room_1 s m #[Value.ref sb] below meth c 4 D (fun q => s.heap.size ≤ q) 42 2440 (lw_Z below #[Value.ref sb] s) (WX K cA a z ++ WM K cA b w) 709 [(3, .int (nI i)), (2, .ref (b 0)), (1, .ref (a 0)), (0, .ref sb)] []) : V CL p l e room_1 s m #[Value.ref sb] below meth c 4 D (fun q => s.heap.size ≤ q) 42 2440 (lw_Z below #[Value.ref sb] s) (WX K cA a z ++ WM K cA b w) 696 [(3, .int (nI i)), (2, .ref (b 0)), (1, .ref (a 0)), (0, .ref sb)] [] := by
  refine V_aload_n hc d_L0_law_696 rfl 2 rfl ?_
  refine V_callJi (wr := WM K cA b w) (As := []) (st := []) hc TS_good NS_nest (fun _ h => h) mapX (c_X0_progress l K cA D a  z) [0, 1, 2, 3, 4, 5, 6, 7, 8, 9, 10, 11, 12, 13, 14, 15, 16, 17, 18, 19, 20, 21, 22] [23, 24, 25, 26, 27, 28, 29, 30, 31, 32, 33, 34, 35, 36, 37, 38, 39, 40, 41] rfl rfl (by decide) (by decide) (by decide) k_572 k_1 k_575 k_573 k_574 0 eX_0 rfl q_X0_progress (by decide) (by decide) (by decide) rfl (Nat.le_of_ble_eq_true rfl) d_L0_law_697 hw (fun r0 u0 hw => ?_)
  try dsimp only at hw
  refine V_aload_n hc d_L0_law_700 rfl 1 rfl ?_
  refine V_callJi (wr := WX K cA a u0) (As := []) (st := [.int r0]) hc TS_good NS_nest (fun _ h => h) mapM (c_M0_progress l K cA D b  w) [0, 1, 2, 3, 4, 5, 6, 7, 8, 9, 10, 11, 12, 13, 14, 15, 16, 17, 18] [19, 20, 21, 22, 23, 24, 25, 26, 27, 28, 29, 30, 31, 32, 33, 34, 35, 36, 37, 38, 39, 40, 41] rfl rfl (by decide) (by decide) (by decide) k_753 k_10 k_756 k_754 k_755 0 eM_0 rfl q_M0_progress (by decide) (by decide) (by decide) rfl (Nat.le_of_ble_eq_true rfl) d_L0_law_701 hw (fun r1 u1 hw => ?_)
  try dsimp only at hw
  refine V_icmp_eq (tgt := 709) hc d_L0_law_704 rfl (fun _ => ?_) (fun h => absurd hw.1 h)
  exact hnext u0 u1 hw.2
/-- what the pure part owes: every call answers alike, and the relation is kept -/
def Sim (K : Nat) (J : Nat → St → St → Prop) : Prop :=
  (∀ (t : Nat) (z w : St) , t < 512 → J t z w → w_X0_begin K  z (fun r u => w_M0_begin K  w (fun r' u' => r = r' ∧ J (t + 1) u u'))) ∧
  (∀ (t : Nat) (z w : St) (x1 : Int32) (x2 : Int32), t < 512 → J t z w → w_X0_lock K x1 x2 z (fun r u => w_M0_lock K x1 x2 w (fun r' u' => r = r' ∧ J (t + 1) u u'))) ∧
  (∀ (t : Nat) (z w : St) (x1 : Int32) (x2 : Int32) (x3 : Int32) (x4 : Int32), t < 512 → J t z w → w_X0_put K x1 x2 x3 x4 z (fun r u => w_M0_put K x1 x2 x3 x4 w (fun r' u' => r = r' ∧ J (t + 1) u u'))) ∧
  (∀ (t : Nat) (z w : St) (x1 : Int32) (x2 : Int32), t < 512 → J t z w → w_X0_remove K x1 x2 z (fun r u => w_M0_remove K x1 x2 w (fun r' u' => r = r' ∧ J (t + 1) u u'))) ∧
  (∀ (t : Nat) (z w : St) (x1 : Int32) (bb : Int32), t < 512 → J t z w → (bb = 0 ∨ bb = 1) → w_X0_end K x1 bb z (fun r u => w_M0_end K x1 bb w (fun r' u' => r = r' ∧ J (t + 1) u u'))) ∧
  (∀ (t : Nat) (z w : St) (x1 : Int32) (x2 : Int32), t < 512 → J t z w → w_X0_row K x1 x2 z (fun r u => w_M0_row K x1 x2 w (fun r' u' => r = r' ∧ J (t + 1) u u'))) ∧
  (∀ (t : Nat) (z w : St) (x1 : Int32), t < 512 → J t z w → w_X0_crash K x1 z (fun r u => w_M0_crash K x1 w (fun r' u' => r = r' ∧ J (t + 1) u u'))) ∧
  (∀ (t : Nat) (z w : St) , t < 512 → J t z w → w_X0_snapshot K  z (fun r u => w_M0_snapshot K  w (fun r' u' => r = r' ∧ J (t + 1) u u'))) ∧
  (∀ (t : Nat) (z w : St) (x1 : Int32), t < 512 → J t z w → w_X0_step K x1 z (fun r u => w_M0_step K x1 w (fun r' u' => r = r' ∧ J (t + 1) u u'))) ∧
  (∀ (t : Nat) (z w : St) , t < 512 → J t z w → w_X0_waiting K  z (fun r u => w_M0_waiting K  w (fun r' u' => r = r' ∧ J (t + 1) u u'))) ∧
  (∀ (t : Nat) (z w : St) (x1 : Int32), t < 512 → J t z w → w_X0_tick K x1 z (fun r u => w_M0_tick K x1 w (fun r' u' => r = r' ∧ J (t + 1) u u'))) ∧
  (∀ (t : Nat) (z w : St) (x1 : Int32), t < 512 → J t z w → w_X0_deliver K x1 z (fun r u => w_M0_deliver K x1 w (fun r' u' => r = r' ∧ J (t + 1) u u'))) ∧
  (∀ (t : Nat) (z w : St) (x1 : Int32) (bb : Int32), t < 512 → J t z w → (bb = 0 ∨ bb = 1) → w_X0_alter K x1 bb z (fun r u => w_M0_alter K x1 bb w (fun r' u' => r = r' ∧ J (t + 1) u u'))) ∧
  (∀ (t : Nat) (z w : St) , t < 512 → J t z w → w_X0_flight K  z (fun r u => w_M0_flight K  w (fun r' u' => r = r' ∧ J (t + 1) u u'))) ∧
  (∀ (t : Nat) (z w : St) (x1 : Int32) (x2 : Int32), t < 512 → J t z w → w_X0_packet K x1 x2 z (fun r u => w_M0_packet K x1 x2 w (fun r' u' => r = r' ∧ J (t + 1) u u'))) ∧
  (∀ (t : Nat) (z w : St) , t < 512 → J t z w → w_X0_apply K  z (fun r u => w_M0_apply K  w (fun r' u' => r = r' ∧ J (t + 1) u u'))) ∧
  (∀ (t : Nat) (z w : St) (x1 : Int32), t < 512 → J t z w → w_X0_stored K x1 z (fun r u => w_M0_stored K x1 w (fun r' u' => r = r' ∧ J (t + 1) u u'))) ∧
  (∀ (t : Nat) (z w : St) (x1 : Int32) (bb : Int32), t < 512 → J t z w → (bb = 0 ∨ bb = 1) → w_X0_view K x1 bb z (fun r u => w_M0_view K x1 bb w (fun r' u' => r = r' ∧ J (t + 1) u u'))) ∧
  (∀ (t : Nat) (z w : St) , t < 512 → J t z w → w_X0_position K  z (fun r u => w_M0_position K  w (fun r' u' => r = r' ∧ J (t + 1) u u'))) ∧
  (∀ (t : Nat) (z w : St) , t < 512 → J t z w → w_X0_progress K  z (fun r u => w_M0_progress K  w (fun r' u' => r = r' ∧ J (t + 1) u u'))) ∧
  (∀ (t : Nat) (z w : St), t < 512 → J t z w → J (t + 1) z w)
theorem lw_lt {i N : Nat} (hN : N ≤ 2564) (hi : i + 4 < N) (h4 : i ≤ 2564) : ¬ (Int32.ofNat N - 5) < nI i := by
  intro h
  have e := pk_sub_toInt (a := N) (b := 5) (by omega) (by omega)
  rw [Int32.lt_iff_toInt_lt] at h
  have e2 : (Int32.ofNat N - 5).toInt = (N : Int) - 5 := e
  rw [e2, nI_toInt (by omega)] at h
  omega
theorem lw_ge {i N : Nat} (hN : N ≤ 2564) (hi : N ≤ i + 4) (h4 : i ≤ 6000) : (Int32.ofNat N - 5) < nI i := by
  have e := pk_sub_toInt (a := N) (b := 5) (by omega) (by omega)
  rw [Int32.lt_iff_toInt_lt]
  have e2 : (Int32.ofNat N - 5).toInt = (N : Int) - 5 := e
  rw [e2, nI_toInt (by omega)]
  omega
theorem lw_fin (l : Launch) (K : Nat) (cA : Nat → ClassId) (D : va_G) (p : Program) (e : Env) (s : State) (m : MethodId) (below : List Frame) (meth : Method) (c : Code) (sb N : Nat) (xs : Nat → Int32) (hN : N ≤ 2564) (hc : Cx TS NS CL D (tyX cA) p s m #[Value.ref sb] meth c code 4 "ChangeFeedLaw") (hX : va_X sb N xs s s.heap) (hbl : sb < s.heap.size) (a b : Nat → Nat) (hr : meth.sig.returnType = ret) (t : Nat) (ht : N < 4 + 5 * t + 5) (ht5 : 5 * t ≤ N) (z w : St) : V CL p l e room_1 s m #[Value.ref sb] below meth c 4 D (fun q => s.heap.size ≤ q) 42 2440 (lw_Z below #[Value.ref sb] s) (WX K cA a z ++ WM K cA b w) 58 [(3, .int (nI (4 + 5 * t))), (2, .ref (b 0)), (1, .ref (a 0)), (0, .ref sb)] [] := by
  refine V_iload_n hc d_L0_law_58 rfl 0 rfl ?_
  refine V_aload_n hc d_L0_law_59 rfl 3 rfl ?_
  refine V_slen hc hX hbl (fun h => absurd hbl (Nat.not_lt.mpr h)) d_L0_law_60 ?_
  refine V_iconst (v := 5) hc d_L0_law_61 (by decide) ?_
  refine V_isub hc d_L0_law_62 rfl ?_
  refine V_icmp_gt (tgt := 715) hc d_L0_law_63 rfl (fun _ => ?_) (fun h => absurd (lw_ge hN (by omega) (by omega)) h)
  refine V_iconst (v := 1) hc d_L0_law_715 (by decide) ?_
  intro H locs ls hP hD hS hL
  refine va_forget hS.2.2 ?_
  refine W.widen (k := 600000) (n := 7302250) (by decide) (by decide) ?_
  exact lw_ret hc.1 hc.2.1 hr hc.2.2.2.2.2.2.2 d_L0_law_716
set_option maxHeartbeats 4000000 in
set_option maxRecDepth 100000 in
theorem lw_loop (l : Launch) (K : Nat) (cA : Nat → ClassId) (D : va_G) (p : Program) (e : Env) (s : State) (m : MethodId) (below : List Frame) (meth : Method) (c : Code) (sb N : Nat) (xs : Nat → Int32) (hN : N ≤ 2564) (hc : Cx TS NS CL D (tyX cA) p s m #[Value.ref sb] meth c code 4 "ChangeFeedLaw") (hX : va_X sb N xs s s.heap) (hbl : sb < s.heap.size) (a b : Nat → Nat) (hr : meth.sig.returnType = ret) (J : Nat → St → St → Prop) (hs : Sim K J) : ∀ (n t : Nat) (z w : St), N + 5 - (4 + 5 * t) < n → 5 * t ≤ N → J t z w → V CL p l e room_1 s m #[Value.ref sb] below meth c 4 D (fun q => s.heap.size ≤ q) 42 2440 (lw_Z below #[Value.ref sb] s) (WX K cA a z ++ WM K cA b w) 58 [(3, .int (nI (4 + 5 * t))), (2, .ref (b 0)), (1, .ref (a 0)), (0, .ref sb)] [] := by
  obtain ⟨s0, s1, s2, s3, s4, s5, s6, s7, s8, s9, s10, s11, s12, s13, s14, s15, s16, s17, s18, s19, sd⟩ := hs
  intro n
  induction n with
  | zero =>
    intro t z w hn
    omega
  | succ n ih =>
    intro t z w hn ht5 hJ
    by_cases hg : N < 4 + 5 * t + 5
    · exact lw_fin l K cA D p e s m below meth c sb N xs hN hc hX hbl a b hr t hg ht5 z w
    have hnext : ∀ z w, J (t + 1) z w → V CL p l e room_1 s m #[Value.ref sb] below meth c 4 D (fun q => s.heap.size ≤ q) 42 2440 (lw_Z below #[Value.ref sb] s) (WX K cA a z ++ WM K cA b w) 709 [(3, .int (nI (4 + 5 * t))), (2, .ref (b 0)), (1, .ref (a 0)), (0, .ref sb)] [] := by
      intro z w hJ
      refine V_iinc (v := nI (4 + 5 * (t + 1))) hc [(3, .int (nI (4 + 5 * (t + 1)))), (2, .ref (b 0)), (1, .ref (a 0)), (0, .ref sb)] d_L0_law_709 0 rfl (by rw [show Int32.ofInt 5 = nI 5 from rfl, nI_add, show 4 + 5 * t + 5 = 4 + 5 * (t + 1) from by omega]) (by decide) rfl ?_
      refine V_goto (tgt := 58) hc d_L0_law_712 rfl ?_
      exact ih (t + 1) z w (by omega) (by omega) hJ
    generalize hie : 4 + 5 * t = i at *
    refine V_iload_n hc d_L0_law_58 rfl 0 rfl ?_
    refine V_aload_n hc d_L0_law_59 rfl 3 rfl ?_
    refine V_slen hc hX hbl (fun h => absurd hbl (Nat.not_lt.mpr h)) d_L0_law_60 ?_
    refine V_iconst (v := 5) hc d_L0_law_61 (by decide) ?_
    refine V_isub hc d_L0_law_62 rfl ?_
    refine V_icmp_gt (tgt := 715) hc d_L0_law_63 rfl (fun h => absurd h (lw_lt hN (by omega) (by omega))) (fun _ => ?_)
    refine V_aload_n hc d_L0_law_66 rfl 3 rfl ?_
    refine V_iload_n hc d_L0_law_67 rfl 0 rfl ?_
    refine V_sld (x := xs i) hc hX hbl (fun h => absurd hbl (Nat.not_lt.mpr h)) (ix0 (by omega) hN).1 (congrArg xs (ix0 (by omega) hN).2) d_L0_law_68 ?_
    refine V_bipush (v := 31) hc d_L0_law_69 (by decide) ?_
    refine V_iand hc d_L0_law_71 rfl ?_
    by_cases h0 : (xs i &&& 31) = 0
    · refine V_tableIn (tgt := 168) (off := 96) hc d_L0_law_72 (by rw [h0]; decide) (by rw [h0]; decide) (by rw [h0]; decide) rfl ?_
      exact lw_begin l K cA D p e s m below meth c sb N xs hN hc hX hbl a b i (by omega) (J (t + 1)) z w (s0 t z w  (by omega) hJ) hnext
    by_cases h1 : (xs i &&& 31) = 1
    · refine V_tableIn (tgt := 181) (off := 109) hc d_L0_law_72 (by rw [h1]; decide) (by rw [h1]; decide) (by rw [h1]; decide) rfl ?_
      exact lw_lock l K cA D p e s m below meth c sb N xs hN hc hX hbl a b i (by omega) (J (t + 1)) z w (s1 t z w (xs (i + 1)) (xs (i + 2)) (by omega) hJ) hnext
    by_cases h2 : (xs i &&& 31) = 2
    · refine V_tableIn (tgt := 214) (off := 142) hc d_L0_law_72 (by rw [h2]; decide) (by rw [h2]; decide) (by rw [h2]; decide) rfl ?_
      exact lw_put l K cA D p e s m below meth c sb N xs hN hc hX hbl a b i (by omega) (J (t + 1)) z w (s2 t z w (xs (i + 1)) (xs (i + 2)) (xs (i + 3)) (xs (i + 4)) (by omega) hJ) hnext
    by_cases h3 : (xs i &&& 31) = 3
    · refine V_tableIn (tgt := 267) (off := 195) hc d_L0_law_72 (by rw [h3]; decide) (by rw [h3]; decide) (by rw [h3]; decide) rfl ?_
      exact lw_remove l K cA D p e s m below meth c sb N xs hN hc hX hbl a b i (by omega) (J (t + 1)) z w (s3 t z w (xs (i + 1)) (xs (i + 2)) (by omega) hJ) hnext
    by_cases h4 : (xs i &&& 31) = 4
    · refine V_tableIn (tgt := 300) (off := 228) hc d_L0_law_72 (by rw [h4]; decide) (by rw [h4]; decide) (by rw [h4]; decide) rfl ?_
      exact lw_end l K cA D p e s m below meth c sb N xs hN hc hX hbl a b i (by omega) (J (t + 1)) z w ((fun bb hb => s4 t z w (xs (i + 1)) bb (by omega) hJ hb)) hnext
    by_cases h5 : (xs i &&& 31) = 5
    · refine V_tableIn (tgt := 349) (off := 277) hc d_L0_law_72 (by rw [h5]; decide) (by rw [h5]; decide) (by rw [h5]; decide) rfl ?_
      exact lw_row l K cA D p e s m below meth c sb N xs hN hc hX hbl a b i (by omega) (J (t + 1)) z w (s5 t z w (xs (i + 1)) (xs (i + 2)) (by omega) hJ) hnext
    by_cases h6 : (xs i &&& 31) = 6
    · refine V_tableIn (tgt := 383) (off := 311) hc d_L0_law_72 (by rw [h6]; decide) (by rw [h6]; decide) (by rw [h6]; decide) rfl ?_
      exact lw_crash l K cA D p e s m below meth c sb N xs hN hc hX hbl a b i (by omega) (J (t + 1)) z w (s6 t z w (xs (i + 1)) (by omega) hJ) hnext
    by_cases h7 : (xs i &&& 31) = 7
    · refine V_tableIn (tgt := 406) (off := 334) hc d_L0_law_72 (by rw [h7]; decide) (by rw [h7]; decide) (by rw [h7]; decide) rfl ?_
      exact lw_snapshot l K cA D p e s m below meth c sb N xs hN hc hX hbl a b i (by omega) (J (t + 1)) z w (s7 t z w  (by omega) hJ) hnext
    by_cases h8 : (xs i &&& 31) = 8
    · refine V_tableIn (tgt := 419) (off := 347) hc d_L0_law_72 (by rw [h8]; decide) (by rw [h8]; decide) (by rw [h8]; decide) rfl ?_
      exact lw_step l K cA D p e s m below meth c sb N xs hN hc hX hbl a b i (by omega) (J (t + 1)) z w (s8 t z w (xs (i + 1)) (by omega) hJ) hnext
    by_cases h9 : (xs i &&& 31) = 9
    · refine V_tableIn (tgt := 442) (off := 370) hc d_L0_law_72 (by rw [h9]; decide) (by rw [h9]; decide) (by rw [h9]; decide) rfl ?_
      exact lw_waiting l K cA D p e s m below meth c sb N xs hN hc hX hbl a b i (by omega) (J (t + 1)) z w (s9 t z w  (by omega) hJ) hnext
    by_cases h10 : (xs i &&& 31) = 10
    · refine V_tableIn (tgt := 455) (off := 383) hc d_L0_law_72 (by rw [h10]; decide) (by rw [h10]; decide) (by rw [h10]; decide) rfl ?_
      exact lw_tick l K cA D p e s m below meth c sb N xs hN hc hX hbl a b i (by omega) (J (t + 1)) z w (s10 t z w (xs (i + 1)) (by omega) hJ) hnext
    by_cases h11 : (xs i &&& 31) = 11
    · refine V_tableIn (tgt := 478) (off := 406) hc d_L0_law_72 (by rw [h11]; decide) (by rw [h11]; decide) (by rw [h11]; decide) rfl ?_
      exact lw_deliver l K cA D p e s m below meth c sb N xs hN hc hX hbl a b i (by omega) (J (t + 1)) z w (s11 t z w (xs (i + 1)) (by omega) hJ) hnext
    by_cases h12 : (xs i &&& 31) = 12
    · refine V_tableIn (tgt := 501) (off := 429) hc d_L0_law_72 (by rw [h12]; decide) (by rw [h12]; decide) (by rw [h12]; decide) rfl ?_
      exact lw_alter l K cA D p e s m below meth c sb N xs hN hc hX hbl a b i (by omega) (J (t + 1)) z w ((fun bb hb => s12 t z w (xs (i + 1)) bb (by omega) hJ hb)) hnext
    by_cases h13 : (xs i &&& 31) = 13
    · refine V_tableIn (tgt := 550) (off := 478) hc d_L0_law_72 (by rw [h13]; decide) (by rw [h13]; decide) (by rw [h13]; decide) rfl ?_
      exact lw_flight l K cA D p e s m below meth c sb N xs hN hc hX hbl a b i (by omega) (J (t + 1)) z w (s13 t z w  (by omega) hJ) hnext
    by_cases h14 : (xs i &&& 31) = 14
    · refine V_tableIn (tgt := 563) (off := 491) hc d_L0_law_72 (by rw [h14]; decide) (by rw [h14]; decide) (by rw [h14]; decide) rfl ?_
      exact lw_packet l K cA D p e s m below meth c sb N xs hN hc hX hbl a b i (by omega) (J (t + 1)) z w (s14 t z w (xs (i + 1)) (xs (i + 2)) (by omega) hJ) hnext
    by_cases h15 : (xs i &&& 31) = 15
    · refine V_tableIn (tgt := 596) (off := 524) hc d_L0_law_72 (by rw [h15]; decide) (by rw [h15]; decide) (by rw [h15]; decide) rfl ?_
      exact lw_apply l K cA D p e s m below meth c sb N xs hN hc hX hbl a b i (by omega) (J (t + 1)) z w (s15 t z w  (by omega) hJ) hnext
    by_cases h16 : (xs i &&& 31) = 16
    · refine V_tableIn (tgt := 609) (off := 537) hc d_L0_law_72 (by rw [h16]; decide) (by rw [h16]; decide) (by rw [h16]; decide) rfl ?_
      exact lw_stored l K cA D p e s m below meth c sb N xs hN hc hX hbl a b i (by omega) (J (t + 1)) z w (s16 t z w (xs (i + 1)) (by omega) hJ) hnext
    by_cases h17 : (xs i &&& 31) = 17
    · refine V_tableIn (tgt := 633) (off := 561) hc d_L0_law_72 (by rw [h17]; decide) (by rw [h17]; decide) (by rw [h17]; decide) rfl ?_
      exact lw_view l K cA D p e s m below meth c sb N xs hN hc hX hbl a b i (by omega) (J (t + 1)) z w ((fun bb hb => s17 t z w (xs (i + 1)) bb (by omega) hJ hb)) hnext
    by_cases h18 : (xs i &&& 31) = 18
    · refine V_tableIn (tgt := 683) (off := 611) hc d_L0_law_72 (by rw [h18]; decide) (by rw [h18]; decide) (by rw [h18]; decide) rfl ?_
      exact lw_position l K cA D p e s m below meth c sb N xs hN hc hX hbl a b i (by omega) (J (t + 1)) z w (s18 t z w  (by omega) hJ) hnext
    by_cases h19 : (xs i &&& 31) = 19
    · refine V_tableIn (tgt := 696) (off := 624) hc d_L0_law_72 (by rw [h19]; decide) (by rw [h19]; decide) (by rw [h19]; decide) rfl ?_
      exact lw_progress l K cA D p e s m below meth c sb N xs hN hc hX hbl a b i (by omega) (J (t + 1)) z w (s19 t z w  (by omega) hJ) hnext
    refine V_tableOut (tgt := 709) hc d_L0_law_72 (by have e0 := lv_neT h0 (show (0 : Int32).toInt = 0 from by decide); have e1 := lv_neT h1 (show (1 : Int32).toInt = 1 from by decide); have e2 := lv_neT h2 (show (2 : Int32).toInt = 2 from by decide); have e3 := lv_neT h3 (show (3 : Int32).toInt = 3 from by decide); have e4 := lv_neT h4 (show (4 : Int32).toInt = 4 from by decide); have e5 := lv_neT h5 (show (5 : Int32).toInt = 5 from by decide); have e6 := lv_neT h6 (show (6 : Int32).toInt = 6 from by decide); have e7 := lv_neT h7 (show (7 : Int32).toInt = 7 from by decide); have e8 := lv_neT h8 (show (8 : Int32).toInt = 8 from by decide); have e9 := lv_neT h9 (show (9 : Int32).toInt = 9 from by decide); have e10 := lv_neT h10 (show (10 : Int32).toInt = 10 from by decide); have e11 := lv_neT h11 (show (11 : Int32).toInt = 11 from by decide); have e12 := lv_neT h12 (show (12 : Int32).toInt = 12 from by decide); have e13 := lv_neT h13 (show (13 : Int32).toInt = 13 from by decide); have e14 := lv_neT h14 (show (14 : Int32).toInt = 14 from by decide); have e15 := lv_neT h15 (show (15 : Int32).toInt = 15 from by decide); have e16 := lv_neT h16 (show (16 : Int32).toInt = 16 from by decide); have e17 := lv_neT h17 (show (17 : Int32).toInt = 17 from by decide); have e18 := lv_neT h18 (show (18 : Int32).toInt = 18 from by decide); have e19 := lv_neT h19 (show (19 : Int32).toInt = 19 from by decide); omega) rfl ?_
    exact hnext z w (sd t z w (by omega) hJ)
