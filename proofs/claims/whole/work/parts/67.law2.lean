set_option maxRecDepth 100000 in
set_option maxHeartbeats 4000000 in
theorem o_submit {p : Program} {l : Launch} {e : Env} {s : State} {m : MethodId} {args : Array Value} {below : List Frame} {meth : Method} {c : Code} {H : Heap} {ls : Array Slot} {cells slots : Nat} {Q : State → Prop} {X : WX} {S : Nat → Nat → Nat} {b L V i : Nat} {xs : Nat → Int32} (C0 : LwS p m c s args ls H X S b L V i xs cells slots) (nx : LwN p l e s m args below meth c ls H cells slots Q X V) : W p l e room_1 s m args below meth c H [] cells slots Q (F0 m 156 ls []) := by
  obtain ⟨cf, hX, hK, hN, hP, hV, hV1, hsc, hbl, hbA, hi, hL, hl, hcs⟩ := C0
  have hx := cf.1
  have hb := cf.2.1
  have hS : va_S (xA X) H H [] := va_S.rf
  obtain ⟨hmm, heq, hkv⟩ := hV.submit hV1 (xs (i + 1)) (xs (i + 2)) (xs (i + 3)) (xs (i + 4))
  refine lv_aload_n hx hb d_L_law_156 rfl (lv_at hl 1 rfl) ?_
  refine l_arg (j := 1) cf hl hsc hbl hbA hS (by omega) hL (by decide) d_L_law_157 d_L_law_158 d_L_law_159 d_L_law_160 d_L_law_161 ?_
  refine l_arg (j := 2) cf hl hsc hbl hbA hS (by omega) hL (by decide) d_L_law_162 d_L_law_163 d_L_law_164 d_L_law_165 d_L_law_166 ?_
  refine l_arg (j := 3) cf hl hsc hbl hbA hS (by omega) hL (by decide) d_L_law_167 d_L_law_168 d_L_law_169 d_L_law_170 d_L_law_171 ?_
  refine l_arg (j := 4) cf hl hsc hbl hbA hS (by omega) hL (by decide) d_L_law_172 d_L_law_173 d_L_law_174 d_L_law_175 d_L_law_176 ?_
  refine x_callVi (As := [.int (xs (i + 1)), .int (xs (i + 2)), .int (xs (i + 3)), .int (xs (i + 4))]) (rest := []) cf hK hN hP hS (k_T_submit l hX hV.2.1 (xs (i + 1)) (xs (i + 2)) (xs (i + 3)) (xs (i + 4))) (cw_T_submit cf.2.2.2.2 w_205 ⟨Nat.le_of_ble_eq_true rfl, Nat.le_of_ble_eq_true rfl⟩) (rv_T hK hP) hl.1 rfl rfl (Nat.le_of_ble_eq_true rfl) hcs d_L_law_177 (fun H1 locs1 hP hS => ?_)
  refine lv_aload_n hx hb d_L_law_180 rfl (lv_at hl 2 rfl) ?_
  refine l_arg (j := 1) cf hl hsc hbl hbA hS (by omega) hL (by decide) d_L_law_181 d_L_law_182 d_L_law_183 d_L_law_184 d_L_law_185 ?_
  refine l_arg (j := 2) cf hl hsc hbl hbA hS (by omega) hL (by decide) d_L_law_186 d_L_law_187 d_L_law_188 d_L_law_189 d_L_law_190 ?_
  refine l_arg (j := 3) cf hl hsc hbl hbA hS (by omega) hL (by decide) d_L_law_191 d_L_law_192 d_L_law_193 d_L_law_194 d_L_law_195 ?_
  refine l_arg (j := 4) cf hl hsc hbl hbA hS (by omega) hL (by decide) d_L_law_196 d_L_law_197 d_L_law_198 d_L_law_199 d_L_law_200 ?_
  refine x_callVi (As := [.int (xs (i + 1)), .int (xs (i + 2)), .int (xs (i + 3)), .int (xs (i + 4))]) (rest := [.int (qSubmit S (xs (i + 1)) (xs (i + 2)) (xs (i + 3)) (xs (i + 4)))]) cf hK hN hP hS (k_M_submit l hX hmm.1 (xs (i + 1)) (xs (i + 2)) (xs (i + 3)) (xs (i + 4))) (cw_M_submit cf.2.2.2.2 w_559 ⟨Nat.le_of_ble_eq_true rfl, Nat.le_of_ble_eq_true rfl⟩) (rv_M hK hP) hl.1 rfl rfl (Nat.le_of_ble_eq_true rfl) hcs d_L_law_201 (fun H1 locs1 hP hS => ?_)
  refine lv_icmp_eq (tgt := 746) hx hb d_L_law_204 (by decide) (fun _ => nx _ _ _ hP hS hkv) (fun h => absurd heq h)
set_option maxRecDepth 100000 in
set_option maxHeartbeats 4000000 in
theorem o_lead {p : Program} {l : Launch} {e : Env} {s : State} {m : MethodId} {args : Array Value} {below : List Frame} {meth : Method} {c : Code} {H : Heap} {ls : Array Slot} {cells slots : Nat} {Q : State → Prop} {X : WX} {S : Nat → Nat → Nat} {b L V i : Nat} {xs : Nat → Int32} (C0 : LwS p m c s args ls H X S b L V i xs cells slots) (nx : LwN p l e s m args below meth c ls H cells slots Q X V) : W p l e room_1 s m args below meth c H [] cells slots Q (F0 m 209 ls []) := by
  obtain ⟨cf, hX, hK, hN, hP, hV, hV1, hsc, hbl, hbA, hi, hL, hl, hcs⟩ := C0
  have hx := cf.1
  have hb := cf.2.1
  have hS : va_S (xA X) H H [] := va_S.rf
  obtain ⟨hmm, heq, hkv⟩ := hV.lead hV1 (xs (i + 1))
  refine lv_aload_n hx hb d_L_law_209 rfl (lv_at hl 1 rfl) ?_
  refine l_arg (j := 1) cf hl hsc hbl hbA hS (by omega) hL (by decide) d_L_law_210 d_L_law_211 d_L_law_212 d_L_law_213 d_L_law_214 ?_
  refine x_callVi (As := [.int (xs (i + 1))]) (rest := []) cf hK hN hP hS (k_T_lead l hX hV.2.1 hV1 (xs (i + 1))) (cw_T_lead cf.2.2.2.2 w_223 ⟨Nat.le_of_ble_eq_true rfl, Nat.le_of_ble_eq_true rfl⟩) (rv_T hK hP) hl.1 rfl rfl (Nat.le_of_ble_eq_true rfl) hcs d_L_law_215 (fun H1 locs1 hP hS => ?_)
  refine lv_aload_n hx hb d_L_law_218 rfl (lv_at hl 2 rfl) ?_
  refine l_arg (j := 1) cf hl hsc hbl hbA hS (by omega) hL (by decide) d_L_law_219 d_L_law_220 d_L_law_221 d_L_law_222 d_L_law_223 ?_
  refine x_callVi (As := [.int (xs (i + 1))]) (rest := [.int (qLead S X.2.2.1 (xs (i + 1)))]) cf hK hN hP hS (k_M_lead l hX hmm.1 hV1 (xs (i + 1))) (cw_M_lead cf.2.2.2.2 w_563 ⟨Nat.le_of_ble_eq_true rfl, Nat.le_of_ble_eq_true rfl⟩) (rv_M hK hP) hl.1 rfl rfl (Nat.le_of_ble_eq_true rfl) hcs d_L_law_224 (fun H1 locs1 hP hS => ?_)
  refine lv_icmp_eq (tgt := 746) hx hb d_L_law_227 (by decide) (fun _ => nx _ _ _ hP hS hkv) (fun h => absurd heq h)
set_option maxRecDepth 100000 in
set_option maxHeartbeats 4000000 in
theorem o_tick {p : Program} {l : Launch} {e : Env} {s : State} {m : MethodId} {args : Array Value} {below : List Frame} {meth : Method} {c : Code} {H : Heap} {ls : Array Slot} {cells slots : Nat} {Q : State → Prop} {X : WX} {S : Nat → Nat → Nat} {b L V i : Nat} {xs : Nat → Int32} (C0 : LwS p m c s args ls H X S b L V i xs cells slots) (nx : LwN p l e s m args below meth c ls H cells slots Q X V) : W p l e room_1 s m args below meth c H [] cells slots Q (F0 m 232 ls []) := by
  obtain ⟨cf, hX, hK, hN, hP, hV, hV1, hsc, hbl, hbA, hi, hL, hl, hcs⟩ := C0
  have hx := cf.1
  have hb := cf.2.1
  have hS : va_S (xA X) H H [] := va_S.rf
  obtain ⟨hmm, heq, hkv⟩ := hV.tick hV1 (xs (i + 1))
  refine lv_aload_n hx hb d_L_law_232 rfl (lv_at hl 1 rfl) ?_
  refine l_arg (j := 1) cf hl hsc hbl hbA hS (by omega) hL (by decide) d_L_law_233 d_L_law_234 d_L_law_235 d_L_law_236 d_L_law_237 ?_
  refine x_callVi (As := [.int (xs (i + 1))]) (rest := []) cf hK hN hP hS (k_T_tick l hX hV.2.1 hV1 (xs (i + 1))) (cw_T_tick cf.2.2.2.2 w_270 ⟨Nat.le_of_ble_eq_true rfl, Nat.le_of_ble_eq_true rfl⟩) (rv_T hK hP) hl.1 rfl rfl (Nat.le_of_ble_eq_true rfl) hcs d_L_law_238 (fun H1 locs1 hP hS => ?_)
  refine lv_aload_n hx hb d_L_law_241 rfl (lv_at hl 2 rfl) ?_
  refine l_arg (j := 1) cf hl hsc hbl hbA hS (by omega) hL (by decide) d_L_law_242 d_L_law_243 d_L_law_244 d_L_law_245 d_L_law_246 ?_
  refine x_callVi (As := [.int (xs (i + 1))]) (rest := [.int (qTick S (xs (i + 1)))]) cf hK hN hP hS (k_M_tick l hX hmm.1 hV1 (xs (i + 1))) (cw_M_tick cf.2.2.2.2 w_595 ⟨Nat.le_of_ble_eq_true rfl, Nat.le_of_ble_eq_true rfl⟩) (rv_M hK hP) hl.1 rfl rfl (Nat.le_of_ble_eq_true rfl) hcs d_L_law_247 (fun H1 locs1 hP hS => ?_)
  refine lv_icmp_eq (tgt := 746) hx hb d_L_law_250 (by decide) (fun _ => nx _ _ _ hP hS hkv) (fun h => absurd heq h)
set_option maxRecDepth 100000 in
set_option maxHeartbeats 4000000 in
theorem o_deliver {p : Program} {l : Launch} {e : Env} {s : State} {m : MethodId} {args : Array Value} {below : List Frame} {meth : Method} {c : Code} {H : Heap} {ls : Array Slot} {cells slots : Nat} {Q : State → Prop} {X : WX} {S : Nat → Nat → Nat} {b L V i : Nat} {xs : Nat → Int32} (C0 : LwS p m c s args ls H X S b L V i xs cells slots) (nx : LwN p l e s m args below meth c ls H cells slots Q X V) : W p l e room_1 s m args below meth c H [] cells slots Q (F0 m 255 ls []) := by
  obtain ⟨cf, hX, hK, hN, hP, hV, hV1, hsc, hbl, hbA, hi, hL, hl, hcs⟩ := C0
  have hx := cf.1
  have hb := cf.2.1
  have hS : va_S (xA X) H H [] := va_S.rf
  obtain ⟨hmm, heq, hkv⟩ := hV.deliver hV1 (xs (i + 1))
  refine lv_aload_n hx hb d_L_law_255 rfl (lv_at hl 1 rfl) ?_
  refine l_arg (j := 1) cf hl hsc hbl hbA hS (by omega) hL (by decide) d_L_law_256 d_L_law_257 d_L_law_258 d_L_law_259 d_L_law_260 ?_
  refine x_callVi (As := [.int (xs (i + 1))]) (rest := []) cf hK hN hP hS (k_T_deliver l hX hV.2.1 (xs (i + 1))) (cw_T_deliver cf.2.2.2.2 w_278 ⟨Nat.le_of_ble_eq_true rfl, Nat.le_of_ble_eq_true rfl⟩) (rv_T hK hP) hl.1 rfl rfl (Nat.le_of_ble_eq_true rfl) hcs d_L_law_261 (fun H1 locs1 hP hS => ?_)
  refine lv_aload_n hx hb d_L_law_264 rfl (lv_at hl 2 rfl) ?_
  refine l_arg (j := 1) cf hl hsc hbl hbA hS (by omega) hL (by decide) d_L_law_265 d_L_law_266 d_L_law_267 d_L_law_268 d_L_law_269 ?_
  refine x_callVi (As := [.int (xs (i + 1))]) (rest := [.int (qDeliver S (xs (i + 1)))]) cf hK hN hP hS (k_M_deliver l hX hmm.1 hmm.2.1 (xs (i + 1))) (cw_M_deliver cf.2.2.2.2 w_603 ⟨Nat.le_of_ble_eq_true rfl, Nat.le_of_ble_eq_true rfl⟩) (rv_M hK hP) hl.1 rfl rfl (Nat.le_of_ble_eq_true rfl) hcs d_L_law_270 (fun H1 locs1 hP hS => ?_)
  refine lv_icmp_eq (tgt := 746) hx hb d_L_law_273 (by decide) (fun _ => nx _ _ _ hP hS hkv) (fun h => absurd heq h)
set_option maxRecDepth 100000 in
set_option maxHeartbeats 4000000 in
theorem o_flow {p : Program} {l : Launch} {e : Env} {s : State} {m : MethodId} {args : Array Value} {below : List Frame} {meth : Method} {c : Code} {H : Heap} {ls : Array Slot} {cells slots : Nat} {Q : State → Prop} {X : WX} {S : Nat → Nat → Nat} {b L V i : Nat} {xs : Nat → Int32} (C0 : LwS p m c s args ls H X S b L V i xs cells slots) (nx : LwN p l e s m args below meth c ls H cells slots Q X V) : W p l e room_1 s m args below meth c H [] cells slots Q (F0 m 278 ls []) := by
  obtain ⟨cf, hX, hK, hN, hP, hV, hV1, hsc, hbl, hbA, hi, hL, hl, hcs⟩ := C0
  have hx := cf.1
  have hb := cf.2.1
  have hS : va_S (xA X) H H [] := va_S.rf
  obtain ⟨hmm, heq, hkv⟩ := hV.flow hV1 (xs (i + 1))
  refine lv_aload_n hx hb d_L_law_278 rfl (lv_at hl 1 rfl) ?_
  refine l_arg (j := 1) cf hl hsc hbl hbA hS (by omega) hL (by decide) d_L_law_279 d_L_law_280 d_L_law_281 d_L_law_282 d_L_law_283 ?_
  refine x_callVi (As := [.int (xs (i + 1))]) (rest := []) cf hK hN hP hS (k_T_flow l hX hV.2.1 hV.hF (xs (i + 1))) (cw_T_flow cf.2.2.2.2 w_348 ⟨Nat.le_of_ble_eq_true rfl, Nat.le_of_ble_eq_true rfl⟩) (rv_T hK hP) hl.1 rfl rfl (Nat.le_of_ble_eq_true rfl) hcs d_L_law_284 (fun H1 locs1 hP hS => ?_)
  refine lv_aload_n hx hb d_L_law_287 rfl (lv_at hl 2 rfl) ?_
  refine l_arg (j := 1) cf hl hsc hbl hbA hS (by omega) hL (by decide) d_L_law_288 d_L_law_289 d_L_law_290 d_L_law_291 d_L_law_292 ?_
  refine x_callVi (As := [.int (xs (i + 1))]) (rest := [.int (qFlow S X.2.2.1 (xs (i + 1)))]) cf hK hN hP hS (k_M_flow l hX hmm.1 hmm.2.1 (xs (i + 1))) (cw_M_flow cf.2.2.2.2 w_642 ⟨Nat.le_of_ble_eq_true rfl, Nat.le_of_ble_eq_true rfl⟩) (rv_M hK hP) hl.1 rfl rfl (Nat.le_of_ble_eq_true rfl) hcs d_L_law_293 (fun H1 locs1 hP hS => ?_)
  refine lv_icmp_eq (tgt := 746) hx hb d_L_law_296 (by decide) (fun _ => nx _ _ _ hP hS hkv) (fun h => absurd heq h)
set_option maxRecDepth 100000 in
set_option maxHeartbeats 4000000 in
theorem o_drop {p : Program} {l : Launch} {e : Env} {s : State} {m : MethodId} {args : Array Value} {below : List Frame} {meth : Method} {c : Code} {H : Heap} {ls : Array Slot} {cells slots : Nat} {Q : State → Prop} {X : WX} {S : Nat → Nat → Nat} {b L V i : Nat} {xs : Nat → Int32} (C0 : LwS p m c s args ls H X S b L V i xs cells slots) (nx : LwN p l e s m args below meth c ls H cells slots Q X V) : W p l e room_1 s m args below meth c H [] cells slots Q (F0 m 301 ls []) := by
  obtain ⟨cf, hX, hK, hN, hP, hV, hV1, hsc, hbl, hbA, hi, hL, hl, hcs⟩ := C0
  have hx := cf.1
  have hb := cf.2.1
  have hS : va_S (xA X) H H [] := va_S.rf
  obtain ⟨hmm, heq, hkv⟩ := hV.drop hV1 (xs (i + 1))
  refine lv_aload_n hx hb d_L_law_301 rfl (lv_at hl 1 rfl) ?_
  refine l_arg (j := 1) cf hl hsc hbl hbA hS (by omega) hL (by decide) d_L_law_302 d_L_law_303 d_L_law_304 d_L_law_305 d_L_law_306 ?_
  refine x_callVi (As := [.int (xs (i + 1))]) (rest := []) cf hK hN hP hS (k_T_drop l hX hV.2.1 (xs (i + 1))) (cw_T_drop cf.2.2.2.2 w_352 ⟨Nat.le_of_ble_eq_true rfl, Nat.le_of_ble_eq_true rfl⟩) (rv_T hK hP) hl.1 rfl rfl (Nat.le_of_ble_eq_true rfl) hcs d_L_law_307 (fun H1 locs1 hP hS => ?_)
  refine lv_aload_n hx hb d_L_law_310 rfl (lv_at hl 2 rfl) ?_
  refine l_arg (j := 1) cf hl hsc hbl hbA hS (by omega) hL (by decide) d_L_law_311 d_L_law_312 d_L_law_313 d_L_law_314 d_L_law_315 ?_
  refine x_callVi (As := [.int (xs (i + 1))]) (rest := [.int (nI (cPlace S (xs (i + 1))).toNat)]) cf hK hN hP hS (k_M_drop l hX hmm.1 (xs (i + 1))) (cw_M_drop cf.2.2.2.2 w_647 ⟨Nat.le_of_ble_eq_true rfl, Nat.le_of_ble_eq_true rfl⟩) (rv_M hK hP) hl.1 rfl rfl (Nat.le_of_ble_eq_true rfl) hcs d_L_law_316 (fun H1 locs1 hP hS => ?_)
  refine lv_icmp_eq (tgt := 746) hx hb d_L_law_319 (by decide) (fun _ => nx _ _ _ hP hS hkv) (fun h => absurd (by rw [heq]) h)
set_option maxRecDepth 100000 in
set_option maxHeartbeats 4000000 in
theorem o_forge {p : Program} {l : Launch} {e : Env} {s : State} {m : MethodId} {args : Array Value} {below : List Frame} {meth : Method} {c : Code} {H : Heap} {ls : Array Slot} {cells slots : Nat} {Q : State → Prop} {X : WX} {S : Nat → Nat → Nat} {b L V i : Nat} {xs : Nat → Int32} (C0 : LwS p m c s args ls H X S b L V i xs cells slots) (nx : LwN p l e s m args below meth c ls H cells slots Q X V) : W p l e room_1 s m args below meth c H [] cells slots Q (F0 m 324 ls []) := by
  obtain ⟨cf, hX, hK, hN, hP, hV, hV1, hsc, hbl, hbA, hi, hL, hl, hcs⟩ := C0
  have hx := cf.1
  have hb := cf.2.1
  have hS : va_S (xA X) H H [] := va_S.rf
  obtain ⟨hmm, heq, hkv⟩ := hV.forge hV1 (xs (i + 1)) (xs (i + 2)) (xs (i + 3))
  refine lv_aload_n hx hb d_L_law_324 rfl (lv_at hl 1 rfl) ?_
  refine l_arg (j := 1) cf hl hsc hbl hbA hS (by omega) hL (by decide) d_L_law_325 d_L_law_326 d_L_law_327 d_L_law_328 d_L_law_329 ?_
  refine l_arg (j := 2) cf hl hsc hbl hbA hS (by omega) hL (by decide) d_L_law_330 d_L_law_331 d_L_law_332 d_L_law_333 d_L_law_334 ?_
  refine l_arg (j := 3) cf hl hsc hbl hbA hS (by omega) hL (by decide) d_L_law_335 d_L_law_336 d_L_law_337 d_L_law_338 d_L_law_339 ?_
  refine x_callVi (As := [.int (xs (i + 1)), .int (xs (i + 2)), .int (xs (i + 3))]) (rest := []) cf hK hN hP hS (k_T_forge l hX hV.2.1 (xs (i + 1)) (xs (i + 2)) (xs (i + 3))) (cw_T_forge cf.2.2.2.2 w_356 ⟨Nat.le_of_ble_eq_true rfl, Nat.le_of_ble_eq_true rfl⟩) (rv_T hK hP) hl.1 rfl rfl (Nat.le_of_ble_eq_true rfl) hcs d_L_law_340 (fun H1 locs1 hP hS => ?_)
  refine lv_aload_n hx hb d_L_law_343 rfl (lv_at hl 2 rfl) ?_
  refine l_arg (j := 1) cf hl hsc hbl hbA hS (by omega) hL (by decide) d_L_law_344 d_L_law_345 d_L_law_346 d_L_law_347 d_L_law_348 ?_
  refine l_arg (j := 2) cf hl hsc hbl hbA hS (by omega) hL (by decide) d_L_law_349 d_L_law_350 d_L_law_351 d_L_law_352 d_L_law_353 ?_
  refine l_arg (j := 3) cf hl hsc hbl hbA hS (by omega) hL (by decide) d_L_law_354 d_L_law_355 d_L_law_356 d_L_law_357 d_L_law_358 ?_
  refine x_callVi (As := [.int (xs (i + 1)), .int (xs (i + 2)), .int (xs (i + 3))]) (rest := [.int (qForge S (xs (i + 1)) (xs (i + 2)) (xs (i + 3)))]) cf hK hN hP hS (k_M_forge l hX hmm.1 (xs (i + 1)) (xs (i + 2)) (xs (i + 3))) (cw_M_forge cf.2.2.2.2 w_651 ⟨Nat.le_of_ble_eq_true rfl, Nat.le_of_ble_eq_true rfl⟩) (rv_M hK hP) hl.1 rfl rfl (Nat.le_of_ble_eq_true rfl) hcs d_L_law_359 (fun H1 locs1 hP hS => ?_)
  refine lv_icmp_eq (tgt := 746) hx hb d_L_law_362 (by decide) (fun _ => nx _ _ _ hP hS hkv) (fun h => absurd heq h)
set_option maxRecDepth 100000 in
set_option maxHeartbeats 4000000 in
theorem o_offer {p : Program} {l : Launch} {e : Env} {s : State} {m : MethodId} {args : Array Value} {below : List Frame} {meth : Method} {c : Code} {H : Heap} {ls : Array Slot} {cells slots : Nat} {Q : State → Prop} {X : WX} {S : Nat → Nat → Nat} {b L V i : Nat} {xs : Nat → Int32} (C0 : LwS p m c s args ls H X S b L V i xs cells slots) (nx : LwN p l e s m args below meth c ls H cells slots Q X V) : W p l e room_1 s m args below meth c H [] cells slots Q (F0 m 367 ls []) := by
  obtain ⟨cf, hX, hK, hN, hP, hV, hV1, hsc, hbl, hbA, hi, hL, hl, hcs⟩ := C0
  have hx := cf.1
  have hb := cf.2.1
  have hS : va_S (xA X) H H [] := va_S.rf
  obtain ⟨hmm, heq, hkv⟩ := hV.offer hV1 (xs (i + 1)) (xs (i + 2))
  refine lv_aload_n hx hb d_L_law_367 rfl (lv_at hl 1 rfl) ?_
  refine l_arg (j := 1) cf hl hsc hbl hbA hS (by omega) hL (by decide) d_L_law_368 d_L_law_369 d_L_law_370 d_L_law_371 d_L_law_372 ?_
  refine l_arg (j := 2) cf hl hsc hbl hbA hS (by omega) hL (by decide) d_L_law_373 d_L_law_374 d_L_law_375 d_L_law_376 d_L_law_377 ?_
  refine x_callVi (As := [.int (xs (i + 1)), .int (xs (i + 2))]) (rest := []) cf hK hN hP hS (k_T_offer l hX hV.2.1 (xs (i + 1)) (xs (i + 2))) (cw_T_offer cf.2.2.2.2 w_372 ⟨Nat.le_of_ble_eq_true rfl, Nat.le_of_ble_eq_true rfl⟩) (rv_T hK hP) hl.1 rfl rfl (Nat.le_of_ble_eq_true rfl) hcs d_L_law_378 (fun H1 locs1 hP hS => ?_)
  refine lv_aload_n hx hb d_L_law_381 rfl (lv_at hl 2 rfl) ?_
  refine l_arg (j := 1) cf hl hsc hbl hbA hS (by omega) hL (by decide) d_L_law_382 d_L_law_383 d_L_law_384 d_L_law_385 d_L_law_386 ?_
  refine l_arg (j := 2) cf hl hsc hbl hbA hS (by omega) hL (by decide) d_L_law_387 d_L_law_388 d_L_law_389 d_L_law_390 d_L_law_391 ?_
  refine x_callVi (As := [.int (xs (i + 1)), .int (xs (i + 2))]) (rest := [.int (nI (qOffer S (xs (i + 1)) (xs (i + 2))).toNat)]) cf hK hN hP hS (k_M_offer l hX hmm.1 (xs (i + 1)) (xs (i + 2))) (cw_M_offer cf.2.2.2.2 w_663 ⟨Nat.le_of_ble_eq_true rfl, Nat.le_of_ble_eq_true rfl⟩) (rv_M hK hP) hl.1 rfl rfl (Nat.le_of_ble_eq_true rfl) hcs d_L_law_392 (fun H1 locs1 hP hS => ?_)
  refine lv_icmp_eq (tgt := 746) hx hb d_L_law_395 (by decide) (fun _ => nx _ _ _ hP hS hkv) (fun h => absurd (by rw [heq]) h)
set_option maxRecDepth 100000 in
set_option maxHeartbeats 4000000 in
theorem o_vote {p : Program} {l : Launch} {e : Env} {s : State} {m : MethodId} {args : Array Value} {below : List Frame} {meth : Method} {c : Code} {H : Heap} {ls : Array Slot} {cells slots : Nat} {Q : State → Prop} {X : WX} {S : Nat → Nat → Nat} {b L V i : Nat} {xs : Nat → Int32} (C0 : LwS p m c s args ls H X S b L V i xs cells slots) (nx : LwN p l e s m args below meth c ls H cells slots Q X V) : W p l e room_1 s m args below meth c H [] cells slots Q (F0 m 400 ls []) := by
  obtain ⟨cf, hX, hK, hN, hP, hV, hV1, hsc, hbl, hbA, hi, hL, hl, hcs⟩ := C0
  have hx := cf.1
  have hb := cf.2.1
  have hS : va_S (xA X) H H [] := va_S.rf
  obtain ⟨hmm, heq, hkv⟩ := hV.vote hV1 (xs (i + 1)) (xs (i + 2)) (xs (i + 3))
  refine lv_aload_n hx hb d_L_law_400 rfl (lv_at hl 1 rfl) ?_
  refine l_arg (j := 1) cf hl hsc hbl hbA hS (by omega) hL (by decide) d_L_law_401 d_L_law_402 d_L_law_403 d_L_law_404 d_L_law_405 ?_
  refine l_arg (j := 2) cf hl hsc hbl hbA hS (by omega) hL (by decide) d_L_law_406 d_L_law_407 d_L_law_408 d_L_law_409 d_L_law_410 ?_
  refine l_arg (j := 3) cf hl hsc hbl hbA hS (by omega) hL (by decide) d_L_law_411 d_L_law_412 d_L_law_413 d_L_law_414 d_L_law_415 ?_
  refine x_callVi (As := [.int (xs (i + 1)), .int (xs (i + 2)), .int (xs (i + 3))]) (rest := []) cf hK hN hP hS (k_T_vote l hX hV.2.1 (xs (i + 1)) (xs (i + 2)) (xs (i + 3))) (cw_T_vote cf.2.2.2.2 w_381 ⟨Nat.le_of_ble_eq_true rfl, Nat.le_of_ble_eq_true rfl⟩) (rv_T hK hP) hl.1 rfl rfl (Nat.le_of_ble_eq_true rfl) hcs d_L_law_416 (fun H1 locs1 hP hS => ?_)
  refine lv_aload_n hx hb d_L_law_419 rfl (lv_at hl 2 rfl) ?_
  refine l_arg (j := 1) cf hl hsc hbl hbA hS (by omega) hL (by decide) d_L_law_420 d_L_law_421 d_L_law_422 d_L_law_423 d_L_law_424 ?_
  refine l_arg (j := 2) cf hl hsc hbl hbA hS (by omega) hL (by decide) d_L_law_425 d_L_law_426 d_L_law_427 d_L_law_428 d_L_law_429 ?_
  refine l_arg (j := 3) cf hl hsc hbl hbA hS (by omega) hL (by decide) d_L_law_430 d_L_law_431 d_L_law_432 d_L_law_433 d_L_law_434 ?_
  refine x_callVi (As := [.int (xs (i + 1)), .int (xs (i + 2)), .int (xs (i + 3))]) (rest := [.int (nI (qVote S (xs (i + 1)) (xs (i + 2)) (xs (i + 3))).toNat)]) cf hK hN hP hS (k_M_vote l hX hmm.1 (xs (i + 1)) (xs (i + 2)) (xs (i + 3))) (cw_M_vote cf.2.2.2.2 w_667 ⟨Nat.le_of_ble_eq_true rfl, Nat.le_of_ble_eq_true rfl⟩) (rv_M hK hP) hl.1 rfl rfl (Nat.le_of_ble_eq_true rfl) hcs d_L_law_435 (fun H1 locs1 hP hS => ?_)
  refine lv_icmp_eq (tgt := 746) hx hb d_L_law_438 (by decide) (fun _ => nx _ _ _ hP hS hkv) (fun h => absurd (by rw [heq]) h)
set_option maxRecDepth 100000 in
set_option maxHeartbeats 4000000 in
theorem o_claim {p : Program} {l : Launch} {e : Env} {s : State} {m : MethodId} {args : Array Value} {below : List Frame} {meth : Method} {c : Code} {H : Heap} {ls : Array Slot} {cells slots : Nat} {Q : State → Prop} {X : WX} {S : Nat → Nat → Nat} {b L V i : Nat} {xs : Nat → Int32} (C0 : LwS p m c s args ls H X S b L V i xs cells slots) (nx : LwN p l e s m args below meth c ls H cells slots Q X V) : W p l e room_1 s m args below meth c H [] cells slots Q (F0 m 443 ls []) := by
  obtain ⟨cf, hX, hK, hN, hP, hV, hV1, hsc, hbl, hbA, hi, hL, hl, hcs⟩ := C0
  have hx := cf.1
  have hb := cf.2.1
  have hS : va_S (xA X) H H [] := va_S.rf
  obtain ⟨hmm, heq, hkv⟩ := hV.claim hV1 (xs (i + 1)) (xs (i + 2)) (xs (i + 3)) (xs (i + 4))
  refine lv_aload_n hx hb d_L_law_443 rfl (lv_at hl 1 rfl) ?_
  refine l_arg (j := 1) cf hl hsc hbl hbA hS (by omega) hL (by decide) d_L_law_444 d_L_law_445 d_L_law_446 d_L_law_447 d_L_law_448 ?_
  refine l_arg (j := 2) cf hl hsc hbl hbA hS (by omega) hL (by decide) d_L_law_449 d_L_law_450 d_L_law_451 d_L_law_452 d_L_law_453 ?_
  refine l_arg (j := 3) cf hl hsc hbl hbA hS (by omega) hL (by decide) d_L_law_454 d_L_law_455 d_L_law_456 d_L_law_457 d_L_law_458 ?_
  refine l_arg (j := 4) cf hl hsc hbl hbA hS (by omega) hL (by decide) d_L_law_459 d_L_law_460 d_L_law_461 d_L_law_462 d_L_law_463 ?_
  refine x_callVi (As := [.int (xs (i + 1)), .int (xs (i + 2)), .int (xs (i + 3)), .int (xs (i + 4))]) (rest := []) cf hK hN hP hS (k_T_claim l hX hV.2.1 (xs (i + 1)) (xs (i + 2)) (xs (i + 3)) (xs (i + 4))) (cw_T_claim cf.2.2.2.2 w_385 ⟨Nat.le_of_ble_eq_true rfl, Nat.le_of_ble_eq_true rfl⟩) (rv_T hK hP) hl.1 rfl rfl (Nat.le_of_ble_eq_true rfl) hcs d_L_law_464 (fun H1 locs1 hP hS => ?_)
  refine lv_aload_n hx hb d_L_law_467 rfl (lv_at hl 2 rfl) ?_
  refine l_arg (j := 1) cf hl hsc hbl hbA hS (by omega) hL (by decide) d_L_law_468 d_L_law_469 d_L_law_470 d_L_law_471 d_L_law_472 ?_
  refine l_arg (j := 2) cf hl hsc hbl hbA hS (by omega) hL (by decide) d_L_law_473 d_L_law_474 d_L_law_475 d_L_law_476 d_L_law_477 ?_
  refine l_arg (j := 3) cf hl hsc hbl hbA hS (by omega) hL (by decide) d_L_law_478 d_L_law_479 d_L_law_480 d_L_law_481 d_L_law_482 ?_
  refine l_arg (j := 4) cf hl hsc hbl hbA hS (by omega) hL (by decide) d_L_law_483 d_L_law_484 d_L_law_485 d_L_law_486 d_L_law_487 ?_
  refine x_callVi (As := [.int (xs (i + 1)), .int (xs (i + 2)), .int (xs (i + 3)), .int (xs (i + 4))]) (rest := [.int (nI (qClaim S (xs (i + 1)) (xs (i + 2)) (xs (i + 3)) (xs (i + 4))).toNat)]) cf hK hN hP hS (k_M_claim l hX hmm.1 (xs (i + 1)) (xs (i + 2)) (xs (i + 3)) (xs (i + 4))) (cw_M_claim cf.2.2.2.2 w_671 ⟨Nat.le_of_ble_eq_true rfl, Nat.le_of_ble_eq_true rfl⟩) (rv_M hK hP) hl.1 rfl rfl (Nat.le_of_ble_eq_true rfl) hcs d_L_law_488 (fun H1 locs1 hP hS => ?_)
  refine lv_icmp_eq (tgt := 746) hx hb d_L_law_491 (by decide) (fun _ => nx _ _ _ hP hS hkv) (fun h => absurd (by rw [heq]) h)
