/-! the law's loop -/
section XL
variable {g : xw_G} {ro : Bool} {cc : ByteArray} {nL : Nat} {own : String} {p : Program} {l : Launch} {e : Env} {R : Room} {s : State} {m : MethodId} {args : Array Value} {below : List Frame} {meth : Method} {c : Code} {cells slots : Nat} {Q : State → Prop}
variable {pc : Nat} {lv : List (Option Value)} {st : List Value} {hp : List va_E}
theorem xa_iaddN (C : xw_C g cc nL own p s m args c) {a b : Nat} (hdg : decode cc pc = .ok (.iadd, 1)) (k : xw_At g ro nL p l e R s m args below meth c cells slots Q (pc + 1) lv (.int (nI (a + b)) :: st) hp) : xw_At g ro nL p l e R s m args below meth c cells slots Q pc lv (.int (nI b) :: .int (nI a) :: st) hp := xa_iadd C hdg (by rw [nI_add]; exact k)
theorem xa_ialoadN (C : xw_C g cc nL own p s m args c) {j : Nat} (hdg : decode cc pc = .ok (.iaload, 1)) (hj : j < xg_L g) (hL : xg_L g < 2 ^ 31) (k : xw_At g ro nL p l e R s m args below meth c cells slots Q (pc + 1) lv (.int (xg_x g j) :: st) hp) : xw_At g ro nL p l e R s m args below meth c cells slots Q pc lv (.int (nI j) :: .ref xw_sp :: st) hp := by
  refine xa_iaload C hdg (vp_in_nI hj hL) ?_
  rw [nI_clamp (Nat.lt_trans hj hL)]
  exact k
end XL
theorem np_L_commit : (parseMethodDescriptor yL_commit.desc).map (fun d => d.parameters.length) = some 4 := by decide +kernel
theorem np_L_begin : (parseMethodDescriptor yL_begin.desc).map (fun d => d.parameters.length) = some 4 := by decide +kernel
theorem np_L_sign : (parseMethodDescriptor yL_sign.desc).map (fun d => d.parameters.length) = some 3 := by decide +kernel
theorem np_L_submit : (parseMethodDescriptor yL_submit.desc).map (fun d => d.parameters.length) = some 4 := by decide +kernel
theorem np_L_relay : (parseMethodDescriptor yL_relay.desc).map (fun d => d.parameters.length) = some 4 := by decide +kernel
theorem np_L_seal : (parseMethodDescriptor yL_seal.desc).map (fun d => d.parameters.length) = some 2 := by decide +kernel
theorem np_L_holds : (parseMethodDescriptor yL_holds.desc).map (fun d => d.parameters.length) = some 4 := by decide +kernel
theorem np_L_recover : (parseMethodDescriptor yL_recover.desc).map (fun d => d.parameters.length) = some 3 := by decide +kernel
set_option maxHeartbeats 4000000 in
set_option maxRecDepth 100000 in
theorem w_0 {g : xw_G} {p : Program} {l : Launch} {e : Env} {s : State} {m : MethodId} {args : Array Value} {below : List Frame} {meth : Method} {c : Code} {cells slots : Nat} {Q : State → Prop} (C : xw_C g cL_law 8 "ThresholdSealLaw" p s m args c) (htr : xw_tr l) {n t : Nat} (hn : n ≤ 6) (ht : t ≤ 6) {q : Nat} (hq : q + 7 ≤ xg_L g) (hL : xg_L g ≤ 3586)
    (hcA : cells ≤ room_1.cells ∧ slots ≤ room_1.slots) (hcA2 : cells + 1 ≤ room_1.cells ∧ slots + 6 ≤ room_1.slots) (hcB : cells + 1 ≤ room_1.cells ∧ slots + 6 ≤ room_1.slots)
    (K : ∀ (z : Sg) (o5 o6 o7 : Option Value), Iv n t z → xw_At g false 8 p l e room_1 s m args below meth c (cells + 1) (slots + 6) Q 1272 [some (.ref xw_sp), some (.ref 0), some (.ref 16), some (.ref 32), some (.int (nI (q))), o5, o6, o7] [] (hT g n t z)) (z : Sg) (hI : Iv n t z) (o5 o6 o7 : Option Value) : xw_At g false 8 p l e room_1 s m args below meth c (cells) (slots) Q 152 [some (.ref xw_sp), some (.ref 0), some (.ref 16), some (.ref 32), some (.int (nI (q))), o5, o6, o7] [] (hT g n t z) := by
  obtain ⟨hp1, z2, v, hA, hB, hI2, fs1, h16⟩ := J_deal g hn ht z hI ((xg_x g (q + 1)).toInt64 <<< ((nI 32).toInt64 &&& 63) ||| (xg_x g (q + 2)).toInt64 &&& 4294967295)
  obtain ⟨fs0, h0⟩ := T0 g n t z
  refine xa_aload_n C dL_law_152 rfl ?_
  refine xa_aload_n C dL_law_153 rfl ?_
  refine xa_iload C dL_law_154 rfl ?_
  refine xa_icN C 1 dL_law_156 ?_
  refine xa_iaddN C dL_law_157 ?_
  refine xa_ialoadN C dL_law_158 (by omega) (by omega) ?_
  refine xa_i2l C dL_law_159 ?_
  refine xa_bpN C 32 dL_law_160 (by decide) ?_
  refine xa_lshl C dL_law_162 ?_
  refine xa_aload_n C dL_law_163 rfl ?_
  refine xa_iload C dL_law_164 rfl ?_
  refine xa_icN C 2 dL_law_166 ?_
  refine xa_iaddN C dL_law_167 ?_
  refine xa_ialoadN C dL_law_168 (by omega) (by omega) ?_
  refine xa_i2l C dL_law_169 ?_
  refine xa_ldc2 C (xw_in wk_L_54 rfl) dL_law_170 ?_
  refine xa_land C dL_law_173 ?_
  refine xa_lor C dL_law_174 ?_
  refine xa_callV1 C (hA) b_L_56 (xw_in wi_S_deal rfl) e_S_deal dL_law_175 rfl h0 rfl rfl (Nat.le_of_ble_eq_true rfl) ⟨Nat.le_of_ble_eq_true rfl, Nat.le_of_ble_eq_true rfl⟩ hcA ?_
  refine xa_aload_n C dL_law_178 rfl ?_
  refine xa_aload_n C dL_law_179 rfl ?_
  refine xa_iload C dL_law_180 rfl ?_
  refine xa_icN C 1 dL_law_182 ?_
  refine xa_iaddN C dL_law_183 ?_
  refine xa_ialoadN C dL_law_184 (by omega) (by omega) ?_
  refine xa_i2l C dL_law_185 ?_
  refine xa_bpN C 32 dL_law_186 (by decide) ?_
  refine xa_lshl C dL_law_188 ?_
  refine xa_aload_n C dL_law_189 rfl ?_
  refine xa_iload C dL_law_190 rfl ?_
  refine xa_icN C 2 dL_law_192 ?_
  refine xa_iaddN C dL_law_193 ?_
  refine xa_ialoadN C dL_law_194 (by omega) (by omega) ?_
  refine xa_i2l C dL_law_195 ?_
  refine xa_ldc2 C (xw_in wk_L_54 rfl) dL_law_196 ?_
  refine xa_land C dL_law_199 ?_
  refine xa_lor C dL_law_200 ?_
  refine xa_callV1 C (hB) b_L_60 (xw_in wi_M_deal rfl) e_M_deal dL_law_201 rfl h16 rfl rfl (Nat.le_of_ble_eq_true rfl) ⟨Nat.le_of_ble_eq_true rfl, Nat.le_of_ble_eq_true rfl⟩ hcA ?_
  refine xa_lcmp C dL_law_204 ?_
  refine xa_if_eq C dL_law_205 (tgt := 1272) rfl (fun h205 => ?_) (fun h205 => ?_)
  · refine xa_widen (k := cells + 1) (n := slots + 6) (by omega) (by omega) ?_
    exact K z2 _ _ _ hI2
  · exact absurd ((lg_cmp_eq _ _).mpr rfl) h205
set_option maxHeartbeats 4000000 in
set_option maxRecDepth 100000 in
theorem w_1 {g : xw_G} {p : Program} {l : Launch} {e : Env} {s : State} {m : MethodId} {args : Array Value} {below : List Frame} {meth : Method} {c : Code} {cells slots : Nat} {Q : State → Prop} (C : xw_C g cL_law 8 "ThresholdSealLaw" p s m args c) (htr : xw_tr l) {n t : Nat} (hn : n ≤ 6) (ht : t ≤ 6) {q : Nat} (hq : q + 7 ≤ xg_L g) (hL : xg_L g ≤ 3586)
    (hcA : cells ≤ room_1.cells ∧ slots ≤ room_1.slots) (hcA2 : cells + 1 ≤ room_1.cells ∧ slots + 6 ≤ room_1.slots) (hcB : cells + 1 ≤ room_1.cells ∧ slots + 6 ≤ room_1.slots)
    (K : ∀ (z : Sg) (o5 o6 o7 : Option Value), Iv n t z → xw_At g false 8 p l e room_1 s m args below meth c (cells + 1) (slots + 6) Q 1272 [some (.ref xw_sp), some (.ref 0), some (.ref 16), some (.ref 32), some (.int (nI (q))), o5, o6, o7] [] (hT g n t z)) (z : Sg) (hI : Iv n t z) (o5 o6 o7 : Option Value) : xw_At g false 8 p l e room_1 s m args below meth c (cells) (slots) Q 210 [some (.ref xw_sp), some (.ref 0), some (.ref 16), some (.ref 32), some (.int (nI (q))), o5, o6, o7] [] (hT g n t z) := by
  obtain ⟨k, hp1, z2, b, hA, hB, hI2, hth, hou, hk3, fs1, h16⟩ := J_commit g htr hn ht z hI (xg_x g (q + 1)) ((xg_x g (q + 2)).toInt64 <<< ((nI 32).toInt64 &&& 63) ||| (xg_x g (q + 3)).toInt64 &&& 4294967295)
  obtain ⟨fs2, h2⟩ := T16 g n t z2
  have h32 := T32 g n t z2
  refine xa_aload_n C dL_law_210 rfl ?_
  refine xa_aload_n C dL_law_211 rfl ?_
  refine xa_iload C dL_law_212 rfl ?_
  refine xa_icN C 1 dL_law_214 ?_
  refine xa_iaddN C dL_law_215 ?_
  refine xa_ialoadN C dL_law_216 (by omega) (by omega) ?_
  refine xa_aload_n C dL_law_217 rfl ?_
  refine xa_iload C dL_law_218 rfl ?_
  refine xa_icN C 2 dL_law_220 ?_
  refine xa_iaddN C dL_law_221 ?_
  refine xa_ialoadN C dL_law_222 (by omega) (by omega) ?_
  refine xa_i2l C dL_law_223 ?_
  refine xa_bpN C 32 dL_law_224 (by decide) ?_
  refine xa_lshl C dL_law_226 ?_
  refine xa_aload_n C dL_law_227 rfl ?_
  refine xa_iload C dL_law_228 rfl ?_
  refine xa_icN C 3 dL_law_230 ?_
  refine xa_iaddN C dL_law_231 ?_
  refine xa_ialoadN C dL_law_232 (by omega) (by omega) ?_
  refine xa_i2l C dL_law_233 ?_
  refine xa_ldc2 C (xw_in wk_L_54 rfl) dL_law_234 ?_
  refine xa_land C dL_law_237 ?_
  refine xa_lor C dL_law_238 ?_
  refine xa_aload_n C dL_law_239 rfl ?_
  refine xa_callH C (hA) (xw_in wc_L_commit rfl) (xw_in wn_L rfl) (xw_in wm_L_61 rfl) (xw_in wt_L_commit rfl) ⟨by decide, by decide, np_L_commit⟩ dL_law_240 rfl (Nat.le_of_ble_eq_true rfl) ⟨Nat.le_of_ble_eq_true rfl, Nat.le_of_ble_eq_true rfl⟩ hcB ?_
  refine xa_istore C dL_law_243 (Nat.le_of_ble_eq_true rfl) ?_
  refine xa_aload_n C dL_law_245 rfl ?_
  refine xa_aload_n C dL_law_246 rfl ?_
  refine xa_iload C dL_law_247 rfl ?_
  refine xa_icN C 1 dL_law_249 ?_
  refine xa_iaddN C dL_law_250 ?_
  refine xa_ialoadN C dL_law_251 (by omega) (by omega) ?_
  refine xa_aload_n C dL_law_252 rfl ?_
  refine xa_iload C dL_law_253 rfl ?_
  refine xa_icN C 2 dL_law_255 ?_
  refine xa_iaddN C dL_law_256 ?_
  refine xa_ialoadN C dL_law_257 (by omega) (by omega) ?_
  refine xa_i2l C dL_law_258 ?_
  refine xa_bpN C 32 dL_law_259 (by decide) ?_
  refine xa_lshl C dL_law_261 ?_
  refine xa_aload_n C dL_law_262 rfl ?_
  refine xa_iload C dL_law_263 rfl ?_
  refine xa_icN C 3 dL_law_265 ?_
  refine xa_iaddN C dL_law_266 ?_
  refine xa_ialoadN C dL_law_267 (by omega) (by omega) ?_
  refine xa_i2l C dL_law_268 ?_
  refine xa_ldc2 C (xw_in wk_L_54 rfl) dL_law_269 ?_
  refine xa_land C dL_law_272 ?_
  refine xa_lor C dL_law_273 ?_
  refine xa_callV1 C (hB) b_L_64 (xw_in wi_M_commit rfl) e_M_commit dL_law_274 rfl h16 rfl rfl (Nat.le_of_ble_eq_true rfl) ⟨Nat.le_of_ble_eq_true rfl, Nat.le_of_ble_eq_true rfl⟩ hcA2 ?_
  refine xa_lstore C dL_law_277 (Nat.le_of_ble_eq_true rfl) ?_
  refine xa_aload_n C dL_law_279 rfl ?_
  refine xa_callV1 C (J_thrown g z2) b_L_65 (xw_in wi_M_thrown rfl) e_M_thrown dL_law_280 rfl h2 rfl rfl (Nat.le_of_ble_eq_true rfl) ⟨Nat.le_of_ble_eq_true rfl, Nat.le_of_ble_eq_true rfl⟩ hcA2 ?_
  rw [hth]
  refine xa_iload C dL_law_283 rfl ?_
  refine xa_icmp_eq C dL_law_285 (tgt := 290) rfl (fun h285 => ?_) (fun h285 => ?_)
  · refine xa_iload C dL_law_290 rfl ?_
    refine xa_if_ne C dL_law_292 (tgt := 306) rfl (fun h292 => ?_) (fun h292 => ?_)
    · refine xa_goto C dL_law_306 (tgt := 1272) rfl ?_
      exact K z2 _ _ _ hI2
    · have hk0 : k = 0 := (nI_eq (a := k) (b := 0) (by omega) (by decide)).mp h292
      refine xa_aload_n C dL_law_295 rfl ?_
      refine xa_icN C 0 dL_law_296 ?_
      refine xa_laloadN C dL_law_297 h32 (by omega) (by omega) ?_
      rw [hou hk0]
      refine xa_lload C dL_law_298 rfl ?_
      refine xa_lcmp C dL_law_300 ?_
      refine xa_if_eq C dL_law_301 (tgt := 306) rfl (fun h301 => ?_) (fun h301 => ?_)
      · refine xa_goto C dL_law_306 (tgt := 1272) rfl ?_
        exact K z2 _ _ _ hI2
      · exact absurd ((lg_cmp_eq _ _).mpr rfl) h301
  · exact absurd rfl h285
set_option maxHeartbeats 4000000 in
set_option maxRecDepth 100000 in
theorem w_2 {g : xw_G} {p : Program} {l : Launch} {e : Env} {s : State} {m : MethodId} {args : Array Value} {below : List Frame} {meth : Method} {c : Code} {cells slots : Nat} {Q : State → Prop} (C : xw_C g cL_law 8 "ThresholdSealLaw" p s m args c) (htr : xw_tr l) {n t : Nat} (hn : n ≤ 6) (ht : t ≤ 6) {q : Nat} (hq : q + 7 ≤ xg_L g) (hL : xg_L g ≤ 3586)
    (hcA : cells ≤ room_1.cells ∧ slots ≤ room_1.slots) (hcA2 : cells + 1 ≤ room_1.cells ∧ slots + 6 ≤ room_1.slots) (hcB : cells + 1 ≤ room_1.cells ∧ slots + 6 ≤ room_1.slots)
    (K : ∀ (z : Sg) (o5 o6 o7 : Option Value), Iv n t z → xw_At g false 8 p l e room_1 s m args below meth c (cells + 1) (slots + 6) Q 1272 [some (.ref xw_sp), some (.ref 0), some (.ref 16), some (.ref 32), some (.int (nI (q))), o5, o6, o7] [] (hT g n t z)) (z : Sg) (hI : Iv n t z) (o5 o6 o7 : Option Value) : xw_At g false 8 p l e room_1 s m args below meth c (cells) (slots) Q 309 [some (.ref xw_sp), some (.ref 0), some (.ref 16), some (.ref 32), some (.int (nI (q))), o5, o6, o7] [] (hT g n t z) := by
  obtain ⟨k, hp1, z2, b, hA, hB, hI2, hth, hou, hk3, fs1, h16⟩ := J_begin g htr hn ht z hI (xg_x g (q + 1)) ((xg_x g (q + 2)).toInt64 <<< ((nI 32).toInt64 &&& 63) ||| (xg_x g (q + 3)).toInt64 &&& 4294967295)
  obtain ⟨fs2, h2⟩ := T16 g n t z2
  have h32 := T32 g n t z2
  refine xa_aload_n C dL_law_309 rfl ?_
  refine xa_aload_n C dL_law_310 rfl ?_
  refine xa_iload C dL_law_311 rfl ?_
  refine xa_icN C 1 dL_law_313 ?_
  refine xa_iaddN C dL_law_314 ?_
  refine xa_ialoadN C dL_law_315 (by omega) (by omega) ?_
  refine xa_aload_n C dL_law_316 rfl ?_
  refine xa_iload C dL_law_317 rfl ?_
  refine xa_icN C 2 dL_law_319 ?_
  refine xa_iaddN C dL_law_320 ?_
  refine xa_ialoadN C dL_law_321 (by omega) (by omega) ?_
  refine xa_i2l C dL_law_322 ?_
  refine xa_bpN C 32 dL_law_323 (by decide) ?_
  refine xa_lshl C dL_law_325 ?_
  refine xa_aload_n C dL_law_326 rfl ?_
  refine xa_iload C dL_law_327 rfl ?_
  refine xa_icN C 3 dL_law_329 ?_
  refine xa_iaddN C dL_law_330 ?_
  refine xa_ialoadN C dL_law_331 (by omega) (by omega) ?_
  refine xa_i2l C dL_law_332 ?_
  refine xa_ldc2 C (xw_in wk_L_54 rfl) dL_law_333 ?_
  refine xa_land C dL_law_336 ?_
  refine xa_lor C dL_law_337 ?_
  refine xa_aload_n C dL_law_338 rfl ?_
  refine xa_callH C (hA) (xw_in wc_L_begin rfl) (xw_in wn_L rfl) (xw_in wm_L_69 rfl) (xw_in wt_L_begin rfl) ⟨by decide, by decide, np_L_begin⟩ dL_law_339 rfl (Nat.le_of_ble_eq_true rfl) ⟨Nat.le_of_ble_eq_true rfl, Nat.le_of_ble_eq_true rfl⟩ hcB ?_
  refine xa_istore C dL_law_342 (Nat.le_of_ble_eq_true rfl) ?_
  refine xa_aload_n C dL_law_344 rfl ?_
  refine xa_aload_n C dL_law_345 rfl ?_
  refine xa_iload C dL_law_346 rfl ?_
  refine xa_icN C 1 dL_law_348 ?_
  refine xa_iaddN C dL_law_349 ?_
  refine xa_ialoadN C dL_law_350 (by omega) (by omega) ?_
  refine xa_aload_n C dL_law_351 rfl ?_
  refine xa_iload C dL_law_352 rfl ?_
  refine xa_icN C 2 dL_law_354 ?_
  refine xa_iaddN C dL_law_355 ?_
  refine xa_ialoadN C dL_law_356 (by omega) (by omega) ?_
  refine xa_i2l C dL_law_357 ?_
  refine xa_bpN C 32 dL_law_358 (by decide) ?_
  refine xa_lshl C dL_law_360 ?_
  refine xa_aload_n C dL_law_361 rfl ?_
  refine xa_iload C dL_law_362 rfl ?_
  refine xa_icN C 3 dL_law_364 ?_
  refine xa_iaddN C dL_law_365 ?_
  refine xa_ialoadN C dL_law_366 (by omega) (by omega) ?_
  refine xa_i2l C dL_law_367 ?_
  refine xa_ldc2 C (xw_in wk_L_54 rfl) dL_law_368 ?_
  refine xa_land C dL_law_371 ?_
  refine xa_lor C dL_law_372 ?_
  refine xa_callV1 C (hB) b_L_71 (xw_in wi_M_begin rfl) e_M_begin dL_law_373 rfl h16 rfl rfl (Nat.le_of_ble_eq_true rfl) ⟨Nat.le_of_ble_eq_true rfl, Nat.le_of_ble_eq_true rfl⟩ hcA2 ?_
  refine xa_lstore C dL_law_376 (Nat.le_of_ble_eq_true rfl) ?_
  refine xa_aload_n C dL_law_378 rfl ?_
  refine xa_callV1 C (J_thrown g z2) b_L_65 (xw_in wi_M_thrown rfl) e_M_thrown dL_law_379 rfl h2 rfl rfl (Nat.le_of_ble_eq_true rfl) ⟨Nat.le_of_ble_eq_true rfl, Nat.le_of_ble_eq_true rfl⟩ hcA2 ?_
  rw [hth]
  refine xa_iload C dL_law_382 rfl ?_
  refine xa_icmp_eq C dL_law_384 (tgt := 389) rfl (fun h384 => ?_) (fun h384 => ?_)
  · refine xa_iload C dL_law_389 rfl ?_
    refine xa_if_ne C dL_law_391 (tgt := 405) rfl (fun h391 => ?_) (fun h391 => ?_)
    · refine xa_goto C dL_law_405 (tgt := 1272) rfl ?_
      exact K z2 _ _ _ hI2
    · have hk0 : k = 0 := (nI_eq (a := k) (b := 0) (by omega) (by decide)).mp h391
      refine xa_aload_n C dL_law_394 rfl ?_
      refine xa_icN C 0 dL_law_395 ?_
      refine xa_laloadN C dL_law_396 h32 (by omega) (by omega) ?_
      rw [hou hk0]
      refine xa_lload C dL_law_397 rfl ?_
      refine xa_lcmp C dL_law_399 ?_
      refine xa_if_eq C dL_law_400 (tgt := 405) rfl (fun h400 => ?_) (fun h400 => ?_)
      · refine xa_goto C dL_law_405 (tgt := 1272) rfl ?_
        exact K z2 _ _ _ hI2
      · exact absurd ((lg_cmp_eq _ _).mpr rfl) h400
  · exact absurd rfl h384
set_option maxHeartbeats 4000000 in
set_option maxRecDepth 100000 in
theorem w_3 {g : xw_G} {p : Program} {l : Launch} {e : Env} {s : State} {m : MethodId} {args : Array Value} {below : List Frame} {meth : Method} {c : Code} {cells slots : Nat} {Q : State → Prop} (C : xw_C g cL_law 8 "ThresholdSealLaw" p s m args c) (htr : xw_tr l) {n t : Nat} (hn : n ≤ 6) (ht : t ≤ 6) {q : Nat} (hq : q + 7 ≤ xg_L g) (hL : xg_L g ≤ 3586)
    (hcA : cells ≤ room_1.cells ∧ slots ≤ room_1.slots) (hcA2 : cells + 1 ≤ room_1.cells ∧ slots + 6 ≤ room_1.slots) (hcB : cells + 1 ≤ room_1.cells ∧ slots + 6 ≤ room_1.slots)
    (K : ∀ (z : Sg) (o5 o6 o7 : Option Value), Iv n t z → xw_At g false 8 p l e room_1 s m args below meth c (cells + 1) (slots + 6) Q 1272 [some (.ref xw_sp), some (.ref 0), some (.ref 16), some (.ref 32), some (.int (nI (q))), o5, o6, o7] [] (hT g n t z)) (z : Sg) (hI : Iv n t z) (o5 o6 o7 : Option Value) : xw_At g false 8 p l e room_1 s m args below meth c (cells) (slots) Q 408 [some (.ref xw_sp), some (.ref 0), some (.ref 16), some (.ref 32), some (.int (nI (q))), o5, o6, o7] [] (hT g n t z) := by
  obtain ⟨k, hp1, z2, b, hA, hB, hI2, hth, hou, hk3, fs1, h16⟩ := J_sign g htr hn ht z hI (xg_x g (q + 1))
  obtain ⟨fs2, h2⟩ := T16 g n t z2
  have h32 := T32 g n t z2
  refine xa_aload_n C dL_law_408 rfl ?_
  refine xa_aload_n C dL_law_409 rfl ?_
  refine xa_iload C dL_law_410 rfl ?_
  refine xa_icN C 1 dL_law_412 ?_
  refine xa_iaddN C dL_law_413 ?_
  refine xa_ialoadN C dL_law_414 (by omega) (by omega) ?_
  refine xa_aload_n C dL_law_415 rfl ?_
  refine xa_callH C (hA) (xw_in wc_L_sign rfl) (xw_in wn_L rfl) (xw_in wm_L_72 rfl) (xw_in wt_L_sign rfl) ⟨by decide, by decide, np_L_sign⟩ dL_law_416 rfl (Nat.le_of_ble_eq_true rfl) ⟨Nat.le_of_ble_eq_true rfl, Nat.le_of_ble_eq_true rfl⟩ hcB ?_
  refine xa_istore C dL_law_419 (Nat.le_of_ble_eq_true rfl) ?_
  refine xa_aload_n C dL_law_421 rfl ?_
  refine xa_aload_n C dL_law_422 rfl ?_
  refine xa_iload C dL_law_423 rfl ?_
  refine xa_icN C 1 dL_law_425 ?_
  refine xa_iaddN C dL_law_426 ?_
  refine xa_ialoadN C dL_law_427 (by omega) (by omega) ?_
  refine xa_callV1 C (hB) b_L_75 (xw_in wi_M_sign rfl) e_M_sign dL_law_428 rfl h16 rfl rfl (Nat.le_of_ble_eq_true rfl) ⟨Nat.le_of_ble_eq_true rfl, Nat.le_of_ble_eq_true rfl⟩ hcA2 ?_
  refine xa_lstore C dL_law_431 (Nat.le_of_ble_eq_true rfl) ?_
  refine xa_aload_n C dL_law_433 rfl ?_
  refine xa_callV1 C (J_thrown g z2) b_L_65 (xw_in wi_M_thrown rfl) e_M_thrown dL_law_434 rfl h2 rfl rfl (Nat.le_of_ble_eq_true rfl) ⟨Nat.le_of_ble_eq_true rfl, Nat.le_of_ble_eq_true rfl⟩ hcA2 ?_
  rw [hth]
  refine xa_iload C dL_law_437 rfl ?_
  refine xa_icmp_eq C dL_law_439 (tgt := 444) rfl (fun h439 => ?_) (fun h439 => ?_)
  · refine xa_iload C dL_law_444 rfl ?_
    refine xa_if_ne C dL_law_446 (tgt := 460) rfl (fun h446 => ?_) (fun h446 => ?_)
    · refine xa_goto C dL_law_460 (tgt := 1272) rfl ?_
      exact K z2 _ _ _ hI2
    · have hk0 : k = 0 := (nI_eq (a := k) (b := 0) (by omega) (by decide)).mp h446
      refine xa_aload_n C dL_law_449 rfl ?_
      refine xa_icN C 0 dL_law_450 ?_
      refine xa_laloadN C dL_law_451 h32 (by omega) (by omega) ?_
      rw [hou hk0]
      refine xa_lload C dL_law_452 rfl ?_
      refine xa_lcmp C dL_law_454 ?_
      refine xa_if_eq C dL_law_455 (tgt := 460) rfl (fun h455 => ?_) (fun h455 => ?_)
      · refine xa_goto C dL_law_460 (tgt := 1272) rfl ?_
        exact K z2 _ _ _ hI2
      · exact absurd ((lg_cmp_eq _ _).mpr rfl) h455
  · exact absurd rfl h439
set_option maxHeartbeats 4000000 in
set_option maxRecDepth 100000 in
theorem w_4 {g : xw_G} {p : Program} {l : Launch} {e : Env} {s : State} {m : MethodId} {args : Array Value} {below : List Frame} {meth : Method} {c : Code} {cells slots : Nat} {Q : State → Prop} (C : xw_C g cL_law 8 "ThresholdSealLaw" p s m args c) (htr : xw_tr l) {n t : Nat} (hn : n ≤ 6) (ht : t ≤ 6) {q : Nat} (hq : q + 7 ≤ xg_L g) (hL : xg_L g ≤ 3586)
    (hcA : cells ≤ room_1.cells ∧ slots ≤ room_1.slots) (hcA2 : cells + 1 ≤ room_1.cells ∧ slots + 6 ≤ room_1.slots) (hcB : cells + 1 ≤ room_1.cells ∧ slots + 6 ≤ room_1.slots)
    (K : ∀ (z : Sg) (o5 o6 o7 : Option Value), Iv n t z → xw_At g false 8 p l e room_1 s m args below meth c (cells + 1) (slots + 6) Q 1272 [some (.ref xw_sp), some (.ref 0), some (.ref 16), some (.ref 32), some (.int (nI (q))), o5, o6, o7] [] (hT g n t z)) (z : Sg) (hI : Iv n t z) (o5 o6 o7 : Option Value) : xw_At g false 8 p l e room_1 s m args below meth c (cells) (slots) Q 463 [some (.ref xw_sp), some (.ref 0), some (.ref 16), some (.ref 32), some (.int (nI (q))), o5, o6, o7] [] (hT g n t z) := by
  obtain ⟨k, hp1, z2, b, hA, hB, hI2, hth, hou, hk3, hb2, fs1, h16⟩ := J_submit g htr hn ht z hI (xg_x g (q + 1)) ((xg_x g (q + 2)).toInt64 <<< ((nI 32).toInt64 &&& 63) ||| (xg_x g (q + 3)).toInt64 &&& 4294967295)
  obtain ⟨fs2, h2⟩ := T16 g n t z2
  have h32 := T32 g n t z2
  refine xa_aload_n C dL_law_463 rfl ?_
  refine xa_aload_n C dL_law_464 rfl ?_
  refine xa_iload C dL_law_465 rfl ?_
  refine xa_icN C 1 dL_law_467 ?_
  refine xa_iaddN C dL_law_468 ?_
  refine xa_ialoadN C dL_law_469 (by omega) (by omega) ?_
  refine xa_aload_n C dL_law_470 rfl ?_
  refine xa_iload C dL_law_471 rfl ?_
  refine xa_icN C 2 dL_law_473 ?_
  refine xa_iaddN C dL_law_474 ?_
  refine xa_ialoadN C dL_law_475 (by omega) (by omega) ?_
  refine xa_i2l C dL_law_476 ?_
  refine xa_bpN C 32 dL_law_477 (by decide) ?_
  refine xa_lshl C dL_law_479 ?_
  refine xa_aload_n C dL_law_480 rfl ?_
  refine xa_iload C dL_law_481 rfl ?_
  refine xa_icN C 3 dL_law_483 ?_
  refine xa_iaddN C dL_law_484 ?_
  refine xa_ialoadN C dL_law_485 (by omega) (by omega) ?_
  refine xa_i2l C dL_law_486 ?_
  refine xa_ldc2 C (xw_in wk_L_54 rfl) dL_law_487 ?_
  refine xa_land C dL_law_490 ?_
  refine xa_lor C dL_law_491 ?_
  refine xa_aload_n C dL_law_492 rfl ?_
  refine xa_callH C (hA) (xw_in wc_L_submit rfl) (xw_in wn_L rfl) (xw_in wm_L_76 rfl) (xw_in wt_L_submit rfl) ⟨by decide, by decide, np_L_submit⟩ dL_law_493 rfl (Nat.le_of_ble_eq_true rfl) ⟨Nat.le_of_ble_eq_true rfl, Nat.le_of_ble_eq_true rfl⟩ hcB ?_
  refine xa_istore C dL_law_496 (Nat.le_of_ble_eq_true rfl) ?_
  refine xa_aload_n C dL_law_498 rfl ?_
  refine xa_aload_n C dL_law_499 rfl ?_
  refine xa_iload C dL_law_500 rfl ?_
  refine xa_icN C 1 dL_law_502 ?_
  refine xa_iaddN C dL_law_503 ?_
  refine xa_ialoadN C dL_law_504 (by omega) (by omega) ?_
  refine xa_aload_n C dL_law_505 rfl ?_
  refine xa_iload C dL_law_506 rfl ?_
  refine xa_icN C 2 dL_law_508 ?_
  refine xa_iaddN C dL_law_509 ?_
  refine xa_ialoadN C dL_law_510 (by omega) (by omega) ?_
  refine xa_i2l C dL_law_511 ?_
  refine xa_bpN C 32 dL_law_512 (by decide) ?_
  refine xa_lshl C dL_law_514 ?_
  refine xa_aload_n C dL_law_515 rfl ?_
  refine xa_iload C dL_law_516 rfl ?_
  refine xa_icN C 3 dL_law_518 ?_
  refine xa_iaddN C dL_law_519 ?_
  refine xa_ialoadN C dL_law_520 (by omega) (by omega) ?_
  refine xa_i2l C dL_law_521 ?_
  refine xa_ldc2 C (xw_in wk_L_54 rfl) dL_law_522 ?_
  refine xa_land C dL_law_525 ?_
  refine xa_lor C dL_law_526 ?_
  refine xa_callV1 C (hB) b_L_78 (xw_in wi_M_submit rfl) e_M_submit dL_law_527 rfl h16 rfl rfl (Nat.le_of_ble_eq_true rfl) ⟨Nat.le_of_ble_eq_true rfl, Nat.le_of_ble_eq_true rfl⟩ hcA2 ?_
  refine xa_istore C dL_law_530 (Nat.le_of_ble_eq_true rfl) ?_
  refine xa_aload_n C dL_law_532 rfl ?_
  refine xa_callV1 C (J_thrown g z2) b_L_65 (xw_in wi_M_thrown rfl) e_M_thrown dL_law_533 rfl h2 rfl rfl (Nat.le_of_ble_eq_true rfl) ⟨Nat.le_of_ble_eq_true rfl, Nat.le_of_ble_eq_true rfl⟩ hcA2 ?_
  rw [hth]
  refine xa_iload C dL_law_536 rfl ?_
  refine xa_icmp_eq C dL_law_538 (tgt := 543) rfl (fun h538 => ?_) (fun h538 => ?_)
  · refine xa_iload C dL_law_543 rfl ?_
    refine xa_if_ne C dL_law_545 (tgt := 567) rfl (fun h545 => ?_) (fun h545 => ?_)
    · refine xa_goto C dL_law_567 (tgt := 1272) rfl ?_
      exact K z2 _ _ _ hI2
    · have hk0 : k = 0 := (nI_eq (a := k) (b := 0) (by omega) (by decide)).mp h545
      refine xa_aload_n C dL_law_548 rfl ?_
      refine xa_icN C 0 dL_law_549 ?_
      refine xa_laloadN C dL_law_550 h32 (by omega) (by omega) ?_
      rw [hou hk0]
      refine xa_iload C dL_law_551 rfl ?_
      refine xa_if_eq C dL_law_553 (tgt := 560) rfl (fun h553 => ?_) (fun h553 => ?_)
      · have hb0 : b = 0 := (nI_eq (a := b) (b := 0) (by omega) (by decide)).mp h553
        subst hb0
        refine xa_lcN C 0 dL_law_560 ?_
        refine xa_lcmp C dL_law_561 ?_
        refine xa_if_eq C dL_law_562 (tgt := 567) rfl (fun h562 => ?_) (fun h562 => ?_)
        · refine xa_goto C dL_law_567 (tgt := 1272) rfl ?_
          exact K z2 _ _ _ hI2
        · exact absurd ((lg_cmp_eq _ _).mpr rfl) h562
      · have q0 : b ≠ 0 := fun q9 => h553 (by rw [q9]; rfl)
        have hb0 : b = 1 := by omega
        subst hb0
        refine xa_lcN C 1 dL_law_556 ?_
        refine xa_goto C dL_law_557 (tgt := 561) rfl ?_
        refine xa_lcmp C dL_law_561 ?_
        refine xa_if_eq C dL_law_562 (tgt := 567) rfl (fun h562 => ?_) (fun h562 => ?_)
        · refine xa_goto C dL_law_567 (tgt := 1272) rfl ?_
          exact K z2 _ _ _ hI2
        · exact absurd ((lg_cmp_eq _ _).mpr rfl) h562
  · exact absurd rfl h538
set_option maxHeartbeats 4000000 in
set_option maxRecDepth 100000 in
theorem w_5 {g : xw_G} {p : Program} {l : Launch} {e : Env} {s : State} {m : MethodId} {args : Array Value} {below : List Frame} {meth : Method} {c : Code} {cells slots : Nat} {Q : State → Prop} (C : xw_C g cL_law 8 "ThresholdSealLaw" p s m args c) (htr : xw_tr l) {n t : Nat} (hn : n ≤ 6) (ht : t ≤ 6) {q : Nat} (hq : q + 7 ≤ xg_L g) (hL : xg_L g ≤ 3586)
    (hcA : cells ≤ room_1.cells ∧ slots ≤ room_1.slots) (hcA2 : cells + 1 ≤ room_1.cells ∧ slots + 6 ≤ room_1.slots) (hcB : cells + 1 ≤ room_1.cells ∧ slots + 6 ≤ room_1.slots)
    (K : ∀ (z : Sg) (o5 o6 o7 : Option Value), Iv n t z → xw_At g false 8 p l e room_1 s m args below meth c (cells + 1) (slots + 6) Q 1272 [some (.ref xw_sp), some (.ref 0), some (.ref 16), some (.ref 32), some (.int (nI (q))), o5, o6, o7] [] (hT g n t z)) (z : Sg) (hI : Iv n t z) (o5 o6 o7 : Option Value) : xw_At g false 8 p l e room_1 s m args below meth c (cells) (slots) Q 570 [some (.ref xw_sp), some (.ref 0), some (.ref 16), some (.ref 32), some (.int (nI (q))), o5, o6, o7] [] (hT g n t z) := by
  obtain ⟨k, hp1, z2, b, hA, hB, hI2, hth, hou, hk3, hb2, fs1, h16⟩ := J_relay g htr hn ht z hI (xg_x g (q + 1)) ((xg_x g (q + 2)).toInt64 <<< ((nI 32).toInt64 &&& 63) ||| (xg_x g (q + 3)).toInt64 &&& 4294967295)
  obtain ⟨fs2, h2⟩ := T16 g n t z2
  have h32 := T32 g n t z2
  refine xa_aload_n C dL_law_570 rfl ?_
  refine xa_aload_n C dL_law_571 rfl ?_
  refine xa_iload C dL_law_572 rfl ?_
  refine xa_icN C 1 dL_law_574 ?_
  refine xa_iaddN C dL_law_575 ?_
  refine xa_ialoadN C dL_law_576 (by omega) (by omega) ?_
  refine xa_aload_n C dL_law_577 rfl ?_
  refine xa_iload C dL_law_578 rfl ?_
  refine xa_icN C 2 dL_law_580 ?_
  refine xa_iaddN C dL_law_581 ?_
  refine xa_ialoadN C dL_law_582 (by omega) (by omega) ?_
  refine xa_i2l C dL_law_583 ?_
  refine xa_bpN C 32 dL_law_584 (by decide) ?_
  refine xa_lshl C dL_law_586 ?_
  refine xa_aload_n C dL_law_587 rfl ?_
  refine xa_iload C dL_law_588 rfl ?_
  refine xa_icN C 3 dL_law_590 ?_
  refine xa_iaddN C dL_law_591 ?_
  refine xa_ialoadN C dL_law_592 (by omega) (by omega) ?_
  refine xa_i2l C dL_law_593 ?_
  refine xa_ldc2 C (xw_in wk_L_54 rfl) dL_law_594 ?_
  refine xa_land C dL_law_597 ?_
  refine xa_lor C dL_law_598 ?_
  refine xa_aload_n C dL_law_599 rfl ?_
  refine xa_callH C (hA) (xw_in wc_L_relay rfl) (xw_in wn_L rfl) (xw_in wm_L_79 rfl) (xw_in wt_L_relay rfl) ⟨by decide, by decide, np_L_relay⟩ dL_law_600 rfl (Nat.le_of_ble_eq_true rfl) ⟨Nat.le_of_ble_eq_true rfl, Nat.le_of_ble_eq_true rfl⟩ hcB ?_
  refine xa_istore C dL_law_603 (Nat.le_of_ble_eq_true rfl) ?_
  refine xa_aload_n C dL_law_605 rfl ?_
  refine xa_aload_n C dL_law_606 rfl ?_
  refine xa_iload C dL_law_607 rfl ?_
  refine xa_icN C 1 dL_law_609 ?_
  refine xa_iaddN C dL_law_610 ?_
  refine xa_ialoadN C dL_law_611 (by omega) (by omega) ?_
  refine xa_aload_n C dL_law_612 rfl ?_
  refine xa_iload C dL_law_613 rfl ?_
  refine xa_icN C 2 dL_law_615 ?_
  refine xa_iaddN C dL_law_616 ?_
  refine xa_ialoadN C dL_law_617 (by omega) (by omega) ?_
  refine xa_i2l C dL_law_618 ?_
  refine xa_bpN C 32 dL_law_619 (by decide) ?_
  refine xa_lshl C dL_law_621 ?_
  refine xa_aload_n C dL_law_622 rfl ?_
  refine xa_iload C dL_law_623 rfl ?_
  refine xa_icN C 3 dL_law_625 ?_
  refine xa_iaddN C dL_law_626 ?_
  refine xa_ialoadN C dL_law_627 (by omega) (by omega) ?_
  refine xa_i2l C dL_law_628 ?_
  refine xa_ldc2 C (xw_in wk_L_54 rfl) dL_law_629 ?_
  refine xa_land C dL_law_632 ?_
  refine xa_lor C dL_law_633 ?_
  refine xa_callV1 C (hB) b_L_81 (xw_in wi_M_relay rfl) e_M_relay dL_law_634 rfl h16 rfl rfl (Nat.le_of_ble_eq_true rfl) ⟨Nat.le_of_ble_eq_true rfl, Nat.le_of_ble_eq_true rfl⟩ hcA2 ?_
  refine xa_istore C dL_law_637 (Nat.le_of_ble_eq_true rfl) ?_
  refine xa_aload_n C dL_law_639 rfl ?_
  refine xa_callV1 C (J_thrown g z2) b_L_65 (xw_in wi_M_thrown rfl) e_M_thrown dL_law_640 rfl h2 rfl rfl (Nat.le_of_ble_eq_true rfl) ⟨Nat.le_of_ble_eq_true rfl, Nat.le_of_ble_eq_true rfl⟩ hcA2 ?_
  rw [hth]
  refine xa_iload C dL_law_643 rfl ?_
  refine xa_icmp_eq C dL_law_645 (tgt := 650) rfl (fun h645 => ?_) (fun h645 => ?_)
  · refine xa_iload C dL_law_650 rfl ?_
    refine xa_if_ne C dL_law_652 (tgt := 674) rfl (fun h652 => ?_) (fun h652 => ?_)
    · refine xa_goto C dL_law_674 (tgt := 1272) rfl ?_
      exact K z2 _ _ _ hI2
    · have hk0 : k = 0 := (nI_eq (a := k) (b := 0) (by omega) (by decide)).mp h652
      refine xa_aload_n C dL_law_655 rfl ?_
      refine xa_icN C 0 dL_law_656 ?_
      refine xa_laloadN C dL_law_657 h32 (by omega) (by omega) ?_
      rw [hou hk0]
      refine xa_iload C dL_law_658 rfl ?_
      refine xa_if_eq C dL_law_660 (tgt := 667) rfl (fun h660 => ?_) (fun h660 => ?_)
      · have hb0 : b = 0 := (nI_eq (a := b) (b := 0) (by omega) (by decide)).mp h660
        subst hb0
        refine xa_lcN C 0 dL_law_667 ?_
        refine xa_lcmp C dL_law_668 ?_
        refine xa_if_eq C dL_law_669 (tgt := 674) rfl (fun h669 => ?_) (fun h669 => ?_)
        · refine xa_goto C dL_law_674 (tgt := 1272) rfl ?_
          exact K z2 _ _ _ hI2
        · exact absurd ((lg_cmp_eq _ _).mpr rfl) h669
      · have q0 : b ≠ 0 := fun q9 => h660 (by rw [q9]; rfl)
        have hb0 : b = 1 := by omega
        subst hb0
        refine xa_lcN C 1 dL_law_663 ?_
        refine xa_goto C dL_law_664 (tgt := 668) rfl ?_
        refine xa_lcmp C dL_law_668 ?_
        refine xa_if_eq C dL_law_669 (tgt := 674) rfl (fun h669 => ?_) (fun h669 => ?_)
        · refine xa_goto C dL_law_674 (tgt := 1272) rfl ?_
          exact K z2 _ _ _ hI2
        · exact absurd ((lg_cmp_eq _ _).mpr rfl) h669
  · exact absurd rfl h645
set_option maxHeartbeats 4000000 in
set_option maxRecDepth 100000 in
theorem w_6 {g : xw_G} {p : Program} {l : Launch} {e : Env} {s : State} {m : MethodId} {args : Array Value} {below : List Frame} {meth : Method} {c : Code} {cells slots : Nat} {Q : State → Prop} (C : xw_C g cL_law 8 "ThresholdSealLaw" p s m args c) (htr : xw_tr l) {n t : Nat} (hn : n ≤ 6) (ht : t ≤ 6) {q : Nat} (hq : q + 7 ≤ xg_L g) (hL : xg_L g ≤ 3586)
    (hcA : cells ≤ room_1.cells ∧ slots ≤ room_1.slots) (hcA2 : cells + 1 ≤ room_1.cells ∧ slots + 6 ≤ room_1.slots) (hcB : cells + 1 ≤ room_1.cells ∧ slots + 6 ≤ room_1.slots)
    (K : ∀ (z : Sg) (o5 o6 o7 : Option Value), Iv n t z → xw_At g false 8 p l e room_1 s m args below meth c (cells + 1) (slots + 6) Q 1272 [some (.ref xw_sp), some (.ref 0), some (.ref 16), some (.ref 32), some (.int (nI (q))), o5, o6, o7] [] (hT g n t z)) (z : Sg) (hI : Iv n t z) (o5 o6 o7 : Option Value) : xw_At g false 8 p l e room_1 s m args below meth c (cells) (slots) Q 677 [some (.ref xw_sp), some (.ref 0), some (.ref 16), some (.ref 32), some (.int (nI (q))), o5, o6, o7] [] (hT g n t z) := by
  obtain ⟨k, hp1, z2, b, hA, hB, hI2, hth, hou, hk3, fs1, h16⟩ := J_seal g htr hn ht z hI 
  obtain ⟨fs2, h2⟩ := T16 g n t z2
  have h32 := T32 g n t z2
  refine xa_aload_n C dL_law_677 rfl ?_
  refine xa_aload_n C dL_law_678 rfl ?_
  refine xa_callH C (hA) (xw_in wc_L_seal rfl) (xw_in wn_L rfl) (xw_in wm_L_82 rfl) (xw_in wt_L_seal rfl) ⟨by decide, by decide, np_L_seal⟩ dL_law_679 rfl (Nat.le_of_ble_eq_true rfl) ⟨Nat.le_of_ble_eq_true rfl, Nat.le_of_ble_eq_true rfl⟩ hcB ?_
  refine xa_istore C dL_law_682 (Nat.le_of_ble_eq_true rfl) ?_
  refine xa_aload_n C dL_law_684 rfl ?_
  refine xa_callV1 C (hB) b_L_85 (xw_in wi_M_seal rfl) e_M_seal dL_law_685 rfl h16 rfl rfl (Nat.le_of_ble_eq_true rfl) ⟨Nat.le_of_ble_eq_true rfl, Nat.le_of_ble_eq_true rfl⟩ hcA2 ?_
  refine xa_lstore C dL_law_688 (Nat.le_of_ble_eq_true rfl) ?_
  refine xa_aload_n C dL_law_690 rfl ?_
  refine xa_callV1 C (J_thrown g z2) b_L_65 (xw_in wi_M_thrown rfl) e_M_thrown dL_law_691 rfl h2 rfl rfl (Nat.le_of_ble_eq_true rfl) ⟨Nat.le_of_ble_eq_true rfl, Nat.le_of_ble_eq_true rfl⟩ hcA2 ?_
  rw [hth]
  refine xa_iload C dL_law_694 rfl ?_
  refine xa_icmp_eq C dL_law_696 (tgt := 701) rfl (fun h696 => ?_) (fun h696 => ?_)
  · refine xa_iload C dL_law_701 rfl ?_
    refine xa_if_ne C dL_law_703 (tgt := 717) rfl (fun h703 => ?_) (fun h703 => ?_)
    · refine xa_goto C dL_law_717 (tgt := 1272) rfl ?_
      exact K z2 _ _ _ hI2
    · have hk0 : k = 0 := (nI_eq (a := k) (b := 0) (by omega) (by decide)).mp h703
      refine xa_aload_n C dL_law_706 rfl ?_
      refine xa_icN C 0 dL_law_707 ?_
      refine xa_laloadN C dL_law_708 h32 (by omega) (by omega) ?_
      rw [hou hk0]
      refine xa_lload C dL_law_709 rfl ?_
      refine xa_lcmp C dL_law_711 ?_
      refine xa_if_eq C dL_law_712 (tgt := 717) rfl (fun h712 => ?_) (fun h712 => ?_)
      · refine xa_goto C dL_law_717 (tgt := 1272) rfl ?_
        exact K z2 _ _ _ hI2
      · exact absurd ((lg_cmp_eq _ _).mpr rfl) h712
  · exact absurd rfl h696
set_option maxHeartbeats 4000000 in
set_option maxRecDepth 100000 in
theorem w_7 {g : xw_G} {p : Program} {l : Launch} {e : Env} {s : State} {m : MethodId} {args : Array Value} {below : List Frame} {meth : Method} {c : Code} {cells slots : Nat} {Q : State → Prop} (C : xw_C g cL_law 8 "ThresholdSealLaw" p s m args c) (htr : xw_tr l) {n t : Nat} (hn : n ≤ 6) (ht : t ≤ 6) {q : Nat} (hq : q + 7 ≤ xg_L g) (hL : xg_L g ≤ 3586)
    (hcA : cells ≤ room_1.cells ∧ slots ≤ room_1.slots) (hcA2 : cells + 1 ≤ room_1.cells ∧ slots + 6 ≤ room_1.slots) (hcB : cells + 1 ≤ room_1.cells ∧ slots + 6 ≤ room_1.slots)
    (K : ∀ (z : Sg) (o5 o6 o7 : Option Value), Iv n t z → xw_At g false 8 p l e room_1 s m args below meth c (cells + 1) (slots + 6) Q 1272 [some (.ref xw_sp), some (.ref 0), some (.ref 16), some (.ref 32), some (.int (nI (q))), o5, o6, o7] [] (hT g n t z)) (z : Sg) (hI : Iv n t z) (o5 o6 o7 : Option Value) : xw_At g false 8 p l e room_1 s m args below meth c (cells) (slots) Q 720 [some (.ref xw_sp), some (.ref 0), some (.ref 16), some (.ref 32), some (.int (nI (q))), o5, o6, o7] [] (hT g n t z) := by
  obtain ⟨hp1, z2, v, hA, hB, hI2, fs1, h16⟩ := J_check g hn ht z hI ((xg_x g (q + 1)).toInt64 <<< ((nI 32).toInt64 &&& 63) ||| (xg_x g (q + 2)).toInt64 &&& 4294967295) ((xg_x g (q + 3)).toInt64 <<< ((nI 32).toInt64 &&& 63) ||| (xg_x g (q + 4)).toInt64 &&& 4294967295) ((xg_x g (q + 5)).toInt64 <<< ((nI 32).toInt64 &&& 63) ||| (xg_x g (q + 6)).toInt64 &&& 4294967295)
  obtain ⟨fs0, h0⟩ := T0 g n t z
  refine xa_aload_n C dL_law_720 rfl ?_
  refine xa_aload_n C dL_law_721 rfl ?_
  refine xa_iload C dL_law_722 rfl ?_
  refine xa_icN C 1 dL_law_724 ?_
  refine xa_iaddN C dL_law_725 ?_
  refine xa_ialoadN C dL_law_726 (by omega) (by omega) ?_
  refine xa_i2l C dL_law_727 ?_
  refine xa_bpN C 32 dL_law_728 (by decide) ?_
  refine xa_lshl C dL_law_730 ?_
  refine xa_aload_n C dL_law_731 rfl ?_
  refine xa_iload C dL_law_732 rfl ?_
  refine xa_icN C 2 dL_law_734 ?_
  refine xa_iaddN C dL_law_735 ?_
  refine xa_ialoadN C dL_law_736 (by omega) (by omega) ?_
  refine xa_i2l C dL_law_737 ?_
  refine xa_ldc2 C (xw_in wk_L_54 rfl) dL_law_738 ?_
  refine xa_land C dL_law_741 ?_
  refine xa_lor C dL_law_742 ?_
  refine xa_aload_n C dL_law_743 rfl ?_
  refine xa_iload C dL_law_744 rfl ?_
  refine xa_icN C 3 dL_law_746 ?_
  refine xa_iaddN C dL_law_747 ?_
  refine xa_ialoadN C dL_law_748 (by omega) (by omega) ?_
  refine xa_i2l C dL_law_749 ?_
  refine xa_bpN C 32 dL_law_750 (by decide) ?_
  refine xa_lshl C dL_law_752 ?_
  refine xa_aload_n C dL_law_753 rfl ?_
  refine xa_iload C dL_law_754 rfl ?_
  refine xa_icN C 4 dL_law_756 ?_
  refine xa_iaddN C dL_law_757 ?_
  refine xa_ialoadN C dL_law_758 (by omega) (by omega) ?_
  refine xa_i2l C dL_law_759 ?_
  refine xa_ldc2 C (xw_in wk_L_54 rfl) dL_law_760 ?_
  refine xa_land C dL_law_763 ?_
  refine xa_lor C dL_law_764 ?_
  refine xa_aload_n C dL_law_765 rfl ?_
  refine xa_iload C dL_law_766 rfl ?_
  refine xa_icN C 5 dL_law_768 ?_
  refine xa_iaddN C dL_law_769 ?_
  refine xa_ialoadN C dL_law_770 (by omega) (by omega) ?_
  refine xa_i2l C dL_law_771 ?_
  refine xa_bpN C 32 dL_law_772 (by decide) ?_
  refine xa_lshl C dL_law_774 ?_
  refine xa_aload_n C dL_law_775 rfl ?_
  refine xa_iload C dL_law_776 rfl ?_
  refine xa_bpN C 6 dL_law_778 (by decide) ?_
  refine xa_iaddN C dL_law_780 ?_
  refine xa_ialoadN C dL_law_781 (by omega) (by omega) ?_
  refine xa_i2l C dL_law_782 ?_
  refine xa_ldc2 C (xw_in wk_L_54 rfl) dL_law_783 ?_
  refine xa_land C dL_law_786 ?_
  refine xa_lor C dL_law_787 ?_
  refine xa_callV1 C (hA) b_L_86 (xw_in wi_S_check rfl) e_S_check dL_law_788 rfl h0 rfl rfl (Nat.le_of_ble_eq_true rfl) ⟨Nat.le_of_ble_eq_true rfl, Nat.le_of_ble_eq_true rfl⟩ hcA ?_
  refine xa_aload_n C dL_law_791 rfl ?_
  refine xa_aload_n C dL_law_792 rfl ?_
  refine xa_iload C dL_law_793 rfl ?_
  refine xa_icN C 1 dL_law_795 ?_
  refine xa_iaddN C dL_law_796 ?_
  refine xa_ialoadN C dL_law_797 (by omega) (by omega) ?_
  refine xa_i2l C dL_law_798 ?_
  refine xa_bpN C 32 dL_law_799 (by decide) ?_
  refine xa_lshl C dL_law_801 ?_
  refine xa_aload_n C dL_law_802 rfl ?_
  refine xa_iload C dL_law_803 rfl ?_
  refine xa_icN C 2 dL_law_805 ?_
  refine xa_iaddN C dL_law_806 ?_
  refine xa_ialoadN C dL_law_807 (by omega) (by omega) ?_
  refine xa_i2l C dL_law_808 ?_
  refine xa_ldc2 C (xw_in wk_L_54 rfl) dL_law_809 ?_
  refine xa_land C dL_law_812 ?_
  refine xa_lor C dL_law_813 ?_
  refine xa_aload_n C dL_law_814 rfl ?_
  refine xa_iload C dL_law_815 rfl ?_
  refine xa_icN C 3 dL_law_817 ?_
  refine xa_iaddN C dL_law_818 ?_
  refine xa_ialoadN C dL_law_819 (by omega) (by omega) ?_
  refine xa_i2l C dL_law_820 ?_
  refine xa_bpN C 32 dL_law_821 (by decide) ?_
  refine xa_lshl C dL_law_823 ?_
  refine xa_aload_n C dL_law_824 rfl ?_
  refine xa_iload C dL_law_825 rfl ?_
  refine xa_icN C 4 dL_law_827 ?_
  refine xa_iaddN C dL_law_828 ?_
  refine xa_ialoadN C dL_law_829 (by omega) (by omega) ?_
  refine xa_i2l C dL_law_830 ?_
  refine xa_ldc2 C (xw_in wk_L_54 rfl) dL_law_831 ?_
  refine xa_land C dL_law_834 ?_
  refine xa_lor C dL_law_835 ?_
  refine xa_aload_n C dL_law_836 rfl ?_
  refine xa_iload C dL_law_837 rfl ?_
  refine xa_icN C 5 dL_law_839 ?_
  refine xa_iaddN C dL_law_840 ?_
  refine xa_ialoadN C dL_law_841 (by omega) (by omega) ?_
  refine xa_i2l C dL_law_842 ?_
  refine xa_bpN C 32 dL_law_843 (by decide) ?_
  refine xa_lshl C dL_law_845 ?_
  refine xa_aload_n C dL_law_846 rfl ?_
  refine xa_iload C dL_law_847 rfl ?_
  refine xa_bpN C 6 dL_law_849 (by decide) ?_
  refine xa_iaddN C dL_law_851 ?_
  refine xa_ialoadN C dL_law_852 (by omega) (by omega) ?_
  refine xa_i2l C dL_law_853 ?_
  refine xa_ldc2 C (xw_in wk_L_54 rfl) dL_law_854 ?_
  refine xa_land C dL_law_857 ?_
  refine xa_lor C dL_law_858 ?_
  refine xa_callV1 C (hB) b_L_90 (xw_in wi_M_check rfl) e_M_check dL_law_859 rfl h16 rfl rfl (Nat.le_of_ble_eq_true rfl) ⟨Nat.le_of_ble_eq_true rfl, Nat.le_of_ble_eq_true rfl⟩ hcA ?_
  refine xa_icmp_eq C dL_law_862 (tgt := 1272) rfl (fun h862 => ?_) (fun h862 => ?_)
  · refine xa_widen (k := cells + 1) (n := slots + 6) (by omega) (by omega) ?_
    exact K z2 _ _ _ hI2
  · exact absurd rfl h862
set_option maxHeartbeats 4000000 in
set_option maxRecDepth 100000 in
theorem w_8 {g : xw_G} {p : Program} {l : Launch} {e : Env} {s : State} {m : MethodId} {args : Array Value} {below : List Frame} {meth : Method} {c : Code} {cells slots : Nat} {Q : State → Prop} (C : xw_C g cL_law 8 "ThresholdSealLaw" p s m args c) (htr : xw_tr l) {n t : Nat} (hn : n ≤ 6) (ht : t ≤ 6) {q : Nat} (hq : q + 7 ≤ xg_L g) (hL : xg_L g ≤ 3586)
    (hcA : cells ≤ room_1.cells ∧ slots ≤ room_1.slots) (hcA2 : cells + 1 ≤ room_1.cells ∧ slots + 6 ≤ room_1.slots) (hcB : cells + 1 ≤ room_1.cells ∧ slots + 6 ≤ room_1.slots)
    (K : ∀ (z : Sg) (o5 o6 o7 : Option Value), Iv n t z → xw_At g false 8 p l e room_1 s m args below meth c (cells + 1) (slots + 6) Q 1272 [some (.ref xw_sp), some (.ref 0), some (.ref 16), some (.ref 32), some (.int (nI (q))), o5, o6, o7] [] (hT g n t z)) (z : Sg) (hI : Iv n t z) (o5 o6 o7 : Option Value) : xw_At g false 8 p l e room_1 s m args below meth c (cells) (slots) Q 867 [some (.ref xw_sp), some (.ref 0), some (.ref 16), some (.ref 32), some (.int (nI (q))), o5, o6, o7] [] (hT g n t z) := by
  obtain ⟨k, hp1, z2, b, hA, hB, hI2, hth, hou, hk3, hb2, fs1, h16⟩ := J_holds g htr hn ht z hI ((xg_x g (q + 1)).toInt64 <<< ((nI 32).toInt64 &&& 63) ||| (xg_x g (q + 2)).toInt64 &&& 4294967295) ((xg_x g (q + 3)).toInt64 <<< ((nI 32).toInt64 &&& 63) ||| (xg_x g (q + 4)).toInt64 &&& 4294967295)
  obtain ⟨fs2, h2⟩ := T16 g n t z2
  have h32 := T32 g n t z2
  refine xa_aload_n C dL_law_867 rfl ?_
  refine xa_aload_n C dL_law_868 rfl ?_
  refine xa_iload C dL_law_869 rfl ?_
  refine xa_icN C 1 dL_law_871 ?_
  refine xa_iaddN C dL_law_872 ?_
  refine xa_ialoadN C dL_law_873 (by omega) (by omega) ?_
  refine xa_i2l C dL_law_874 ?_
  refine xa_bpN C 32 dL_law_875 (by decide) ?_
  refine xa_lshl C dL_law_877 ?_
  refine xa_aload_n C dL_law_878 rfl ?_
  refine xa_iload C dL_law_879 rfl ?_
  refine xa_icN C 2 dL_law_881 ?_
  refine xa_iaddN C dL_law_882 ?_
  refine xa_ialoadN C dL_law_883 (by omega) (by omega) ?_
  refine xa_i2l C dL_law_884 ?_
  refine xa_ldc2 C (xw_in wk_L_54 rfl) dL_law_885 ?_
  refine xa_land C dL_law_888 ?_
  refine xa_lor C dL_law_889 ?_
  refine xa_aload_n C dL_law_890 rfl ?_
  refine xa_iload C dL_law_891 rfl ?_
  refine xa_icN C 3 dL_law_893 ?_
  refine xa_iaddN C dL_law_894 ?_
  refine xa_ialoadN C dL_law_895 (by omega) (by omega) ?_
  refine xa_i2l C dL_law_896 ?_
  refine xa_bpN C 32 dL_law_897 (by decide) ?_
  refine xa_lshl C dL_law_899 ?_
  refine xa_aload_n C dL_law_900 rfl ?_
  refine xa_iload C dL_law_901 rfl ?_
  refine xa_icN C 4 dL_law_903 ?_
  refine xa_iaddN C dL_law_904 ?_
  refine xa_ialoadN C dL_law_905 (by omega) (by omega) ?_
  refine xa_i2l C dL_law_906 ?_
  refine xa_ldc2 C (xw_in wk_L_54 rfl) dL_law_907 ?_
  refine xa_land C dL_law_910 ?_
  refine xa_lor C dL_law_911 ?_
  refine xa_aload_n C dL_law_912 rfl ?_
  refine xa_callH C (hA) (xw_in wc_L_holds rfl) (xw_in wn_L rfl) (xw_in wm_L_91 rfl) (xw_in wt_L_holds rfl) ⟨by decide, by decide, np_L_holds⟩ dL_law_913 rfl (Nat.le_of_ble_eq_true rfl) ⟨Nat.le_of_ble_eq_true rfl, Nat.le_of_ble_eq_true rfl⟩ hcB ?_
  refine xa_istore C dL_law_916 (Nat.le_of_ble_eq_true rfl) ?_
  refine xa_aload_n C dL_law_918 rfl ?_
  refine xa_aload_n C dL_law_919 rfl ?_
  refine xa_iload C dL_law_920 rfl ?_
  refine xa_icN C 1 dL_law_922 ?_
  refine xa_iaddN C dL_law_923 ?_
  refine xa_ialoadN C dL_law_924 (by omega) (by omega) ?_
  refine xa_i2l C dL_law_925 ?_
  refine xa_bpN C 32 dL_law_926 (by decide) ?_
  refine xa_lshl C dL_law_928 ?_
  refine xa_aload_n C dL_law_929 rfl ?_
  refine xa_iload C dL_law_930 rfl ?_
  refine xa_icN C 2 dL_law_932 ?_
  refine xa_iaddN C dL_law_933 ?_
  refine xa_ialoadN C dL_law_934 (by omega) (by omega) ?_
  refine xa_i2l C dL_law_935 ?_
  refine xa_ldc2 C (xw_in wk_L_54 rfl) dL_law_936 ?_
  refine xa_land C dL_law_939 ?_
  refine xa_lor C dL_law_940 ?_
  refine xa_aload_n C dL_law_941 rfl ?_
  refine xa_iload C dL_law_942 rfl ?_
  refine xa_icN C 3 dL_law_944 ?_
  refine xa_iaddN C dL_law_945 ?_
  refine xa_ialoadN C dL_law_946 (by omega) (by omega) ?_
  refine xa_i2l C dL_law_947 ?_
  refine xa_bpN C 32 dL_law_948 (by decide) ?_
  refine xa_lshl C dL_law_950 ?_
  refine xa_aload_n C dL_law_951 rfl ?_
  refine xa_iload C dL_law_952 rfl ?_
  refine xa_icN C 4 dL_law_954 ?_
  refine xa_iaddN C dL_law_955 ?_
  refine xa_ialoadN C dL_law_956 (by omega) (by omega) ?_
  refine xa_i2l C dL_law_957 ?_
  refine xa_ldc2 C (xw_in wk_L_54 rfl) dL_law_958 ?_
  refine xa_land C dL_law_961 ?_
  refine xa_lor C dL_law_962 ?_
  refine xa_callV1 C (hB) b_L_94 (xw_in wi_M_holds rfl) e_M_holds dL_law_963 rfl h16 rfl rfl (Nat.le_of_ble_eq_true rfl) ⟨Nat.le_of_ble_eq_true rfl, Nat.le_of_ble_eq_true rfl⟩ hcA2 ?_
  refine xa_istore C dL_law_966 (Nat.le_of_ble_eq_true rfl) ?_
  refine xa_aload_n C dL_law_968 rfl ?_
  refine xa_callV1 C (J_thrown g z2) b_L_65 (xw_in wi_M_thrown rfl) e_M_thrown dL_law_969 rfl h2 rfl rfl (Nat.le_of_ble_eq_true rfl) ⟨Nat.le_of_ble_eq_true rfl, Nat.le_of_ble_eq_true rfl⟩ hcA2 ?_
  rw [hth]
  refine xa_iload C dL_law_972 rfl ?_
  refine xa_icmp_eq C dL_law_974 (tgt := 979) rfl (fun h974 => ?_) (fun h974 => ?_)
  · refine xa_iload C dL_law_979 rfl ?_
    refine xa_if_ne C dL_law_981 (tgt := 1003) rfl (fun h981 => ?_) (fun h981 => ?_)
    · refine xa_goto C dL_law_1003 (tgt := 1272) rfl ?_
      exact K z2 _ _ _ hI2
    · have hk0 : k = 0 := (nI_eq (a := k) (b := 0) (by omega) (by decide)).mp h981
      refine xa_aload_n C dL_law_984 rfl ?_
      refine xa_icN C 0 dL_law_985 ?_
      refine xa_laloadN C dL_law_986 h32 (by omega) (by omega) ?_
      rw [hou hk0]
      refine xa_iload C dL_law_987 rfl ?_
      refine xa_if_eq C dL_law_989 (tgt := 996) rfl (fun h989 => ?_) (fun h989 => ?_)
      · have hb0 : b = 0 := (nI_eq (a := b) (b := 0) (by omega) (by decide)).mp h989
        subst hb0
        refine xa_lcN C 0 dL_law_996 ?_
        refine xa_lcmp C dL_law_997 ?_
        refine xa_if_eq C dL_law_998 (tgt := 1003) rfl (fun h998 => ?_) (fun h998 => ?_)
        · refine xa_goto C dL_law_1003 (tgt := 1272) rfl ?_
          exact K z2 _ _ _ hI2
        · exact absurd ((lg_cmp_eq _ _).mpr rfl) h998
      · have q0 : b ≠ 0 := fun q9 => h989 (by rw [q9]; rfl)
        have hb0 : b = 1 := by omega
        subst hb0
        refine xa_lcN C 1 dL_law_992 ?_
        refine xa_goto C dL_law_993 (tgt := 997) rfl ?_
        refine xa_lcmp C dL_law_997 ?_
        refine xa_if_eq C dL_law_998 (tgt := 1003) rfl (fun h998 => ?_) (fun h998 => ?_)
        · refine xa_goto C dL_law_1003 (tgt := 1272) rfl ?_
          exact K z2 _ _ _ hI2
        · exact absurd ((lg_cmp_eq _ _).mpr rfl) h998
  · exact absurd rfl h974
set_option maxHeartbeats 4000000 in
set_option maxRecDepth 100000 in
theorem w_9 {g : xw_G} {p : Program} {l : Launch} {e : Env} {s : State} {m : MethodId} {args : Array Value} {below : List Frame} {meth : Method} {c : Code} {cells slots : Nat} {Q : State → Prop} (C : xw_C g cL_law 8 "ThresholdSealLaw" p s m args c) (htr : xw_tr l) {n t : Nat} (hn : n ≤ 6) (ht : t ≤ 6) {q : Nat} (hq : q + 7 ≤ xg_L g) (hL : xg_L g ≤ 3586)
    (hcA : cells ≤ room_1.cells ∧ slots ≤ room_1.slots) (hcA2 : cells + 1 ≤ room_1.cells ∧ slots + 6 ≤ room_1.slots) (hcB : cells + 1 ≤ room_1.cells ∧ slots + 6 ≤ room_1.slots)
    (K : ∀ (z : Sg) (o5 o6 o7 : Option Value), Iv n t z → xw_At g false 8 p l e room_1 s m args below meth c (cells + 1) (slots + 6) Q 1272 [some (.ref xw_sp), some (.ref 0), some (.ref 16), some (.ref 32), some (.int (nI (q))), o5, o6, o7] [] (hT g n t z)) (z : Sg) (hI : Iv n t z) (o5 o6 o7 : Option Value) : xw_At g false 8 p l e room_1 s m args below meth c (cells) (slots) Q 1006 [some (.ref xw_sp), some (.ref 0), some (.ref 16), some (.ref 32), some (.int (nI (q))), o5, o6, o7] [] (hT g n t z) := by
  obtain ⟨k, hp1, z2, b, hA, hB, hI2, hth, hou, hk3, fs1, h16⟩ := J_recover g htr hn ht z hI (xg_x g (q + 1))
  obtain ⟨fs2, h2⟩ := T16 g n t z2
  have h32 := T32 g n t z2
  refine xa_aload_n C dL_law_1006 rfl ?_
  refine xa_aload_n C dL_law_1007 rfl ?_
  refine xa_iload C dL_law_1008 rfl ?_
  refine xa_icN C 1 dL_law_1010 ?_
  refine xa_iaddN C dL_law_1011 ?_
  refine xa_ialoadN C dL_law_1012 (by omega) (by omega) ?_
  refine xa_aload_n C dL_law_1013 rfl ?_
  refine xa_callH C (hA) (xw_in wc_L_recover rfl) (xw_in wn_L rfl) (xw_in wm_L_95 rfl) (xw_in wt_L_recover rfl) ⟨by decide, by decide, np_L_recover⟩ dL_law_1014 rfl (Nat.le_of_ble_eq_true rfl) ⟨Nat.le_of_ble_eq_true rfl, Nat.le_of_ble_eq_true rfl⟩ hcB ?_
  refine xa_istore C dL_law_1017 (Nat.le_of_ble_eq_true rfl) ?_
  refine xa_aload_n C dL_law_1019 rfl ?_
  refine xa_aload_n C dL_law_1020 rfl ?_
  refine xa_iload C dL_law_1021 rfl ?_
  refine xa_icN C 1 dL_law_1023 ?_
  refine xa_iaddN C dL_law_1024 ?_
  refine xa_ialoadN C dL_law_1025 (by omega) (by omega) ?_
  refine xa_callV1 C (hB) b_L_97 (xw_in wi_M_recover rfl) e_M_recover dL_law_1026 rfl h16 rfl rfl (Nat.le_of_ble_eq_true rfl) ⟨Nat.le_of_ble_eq_true rfl, Nat.le_of_ble_eq_true rfl⟩ hcA2 ?_
  refine xa_lstore C dL_law_1029 (Nat.le_of_ble_eq_true rfl) ?_
  refine xa_aload_n C dL_law_1031 rfl ?_
  refine xa_callV1 C (J_thrown g z2) b_L_65 (xw_in wi_M_thrown rfl) e_M_thrown dL_law_1032 rfl h2 rfl rfl (Nat.le_of_ble_eq_true rfl) ⟨Nat.le_of_ble_eq_true rfl, Nat.le_of_ble_eq_true rfl⟩ hcA2 ?_
  rw [hth]
  refine xa_iload C dL_law_1035 rfl ?_
  refine xa_icmp_eq C dL_law_1037 (tgt := 1042) rfl (fun h1037 => ?_) (fun h1037 => ?_)
  · refine xa_iload C dL_law_1042 rfl ?_
    refine xa_if_ne C dL_law_1044 (tgt := 1058) rfl (fun h1044 => ?_) (fun h1044 => ?_)
    · refine xa_goto C dL_law_1058 (tgt := 1272) rfl ?_
      exact K z2 _ _ _ hI2
    · have hk0 : k = 0 := (nI_eq (a := k) (b := 0) (by omega) (by decide)).mp h1044
      refine xa_aload_n C dL_law_1047 rfl ?_
      refine xa_icN C 0 dL_law_1048 ?_
      refine xa_laloadN C dL_law_1049 h32 (by omega) (by omega) ?_
      rw [hou hk0]
      refine xa_lload C dL_law_1050 rfl ?_
      refine xa_lcmp C dL_law_1052 ?_
      refine xa_if_eq C dL_law_1053 (tgt := 1058) rfl (fun h1053 => ?_) (fun h1053 => ?_)
      · refine xa_goto C dL_law_1058 (tgt := 1272) rfl ?_
        exact K z2 _ _ _ hI2
      · exact absurd ((lg_cmp_eq _ _).mpr rfl) h1053
  · exact absurd rfl h1037
set_option maxHeartbeats 4000000 in
set_option maxRecDepth 100000 in
theorem w_10 {g : xw_G} {p : Program} {l : Launch} {e : Env} {s : State} {m : MethodId} {args : Array Value} {below : List Frame} {meth : Method} {c : Code} {cells slots : Nat} {Q : State → Prop} (C : xw_C g cL_law 8 "ThresholdSealLaw" p s m args c) (htr : xw_tr l) {n t : Nat} (hn : n ≤ 6) (ht : t ≤ 6) {q : Nat} (hq : q + 7 ≤ xg_L g) (hL : xg_L g ≤ 3586)
    (hcA : cells ≤ room_1.cells ∧ slots ≤ room_1.slots) (hcA2 : cells + 1 ≤ room_1.cells ∧ slots + 6 ≤ room_1.slots) (hcB : cells + 1 ≤ room_1.cells ∧ slots + 6 ≤ room_1.slots)
    (K : ∀ (z : Sg) (o5 o6 o7 : Option Value), Iv n t z → xw_At g false 8 p l e room_1 s m args below meth c (cells + 1) (slots + 6) Q 1272 [some (.ref xw_sp), some (.ref 0), some (.ref 16), some (.ref 32), some (.int (nI (q))), o5, o6, o7] [] (hT g n t z)) (z : Sg) (hI : Iv n t z) (o5 o6 o7 : Option Value) : xw_At g false 8 p l e room_1 s m args below meth c (cells) (slots) Q 1061 [some (.ref xw_sp), some (.ref 0), some (.ref 16), some (.ref 32), some (.int (nI (q))), o5, o6, o7] [] (hT g n t z) := by
  obtain ⟨hp1, z2, v, hA, hB, hI2, fs1, h16⟩ := J_key g hn ht z hI (xg_x g (q + 1))
  obtain ⟨fs0, h0⟩ := T0 g n t z
  refine xa_aload_n C dL_law_1061 rfl ?_
  refine xa_aload_n C dL_law_1062 rfl ?_
  refine xa_iload C dL_law_1063 rfl ?_
  refine xa_icN C 1 dL_law_1065 ?_
  refine xa_iaddN C dL_law_1066 ?_
  refine xa_ialoadN C dL_law_1067 (by omega) (by omega) ?_
  refine xa_callV1 C (hA) b_L_98 (xw_in wi_S_key rfl) e_S_key dL_law_1068 rfl h0 rfl rfl (Nat.le_of_ble_eq_true rfl) ⟨Nat.le_of_ble_eq_true rfl, Nat.le_of_ble_eq_true rfl⟩ hcA ?_
  refine xa_aload_n C dL_law_1071 rfl ?_
  refine xa_aload_n C dL_law_1072 rfl ?_
  refine xa_iload C dL_law_1073 rfl ?_
  refine xa_icN C 1 dL_law_1075 ?_
  refine xa_iaddN C dL_law_1076 ?_
  refine xa_ialoadN C dL_law_1077 (by omega) (by omega) ?_
  refine xa_callV1 C (hB) b_L_101 (xw_in wi_M_key rfl) e_M_key dL_law_1078 rfl h16 rfl rfl (Nat.le_of_ble_eq_true rfl) ⟨Nat.le_of_ble_eq_true rfl, Nat.le_of_ble_eq_true rfl⟩ hcA ?_
  refine xa_lcmp C dL_law_1081 ?_
  refine xa_if_eq C dL_law_1082 (tgt := 1272) rfl (fun h1082 => ?_) (fun h1082 => ?_)
  · refine xa_widen (k := cells + 1) (n := slots + 6) (by omega) (by omega) ?_
    exact K z2 _ _ _ hI2
  · exact absurd ((lg_cmp_eq _ _).mpr rfl) h1082
set_option maxHeartbeats 4000000 in
set_option maxRecDepth 100000 in
theorem w_11 {g : xw_G} {p : Program} {l : Launch} {e : Env} {s : State} {m : MethodId} {args : Array Value} {below : List Frame} {meth : Method} {c : Code} {cells slots : Nat} {Q : State → Prop} (C : xw_C g cL_law 8 "ThresholdSealLaw" p s m args c) (htr : xw_tr l) {n t : Nat} (hn : n ≤ 6) (ht : t ≤ 6) {q : Nat} (hq : q + 7 ≤ xg_L g) (hL : xg_L g ≤ 3586)
    (hcA : cells ≤ room_1.cells ∧ slots ≤ room_1.slots) (hcA2 : cells + 1 ≤ room_1.cells ∧ slots + 6 ≤ room_1.slots) (hcB : cells + 1 ≤ room_1.cells ∧ slots + 6 ≤ room_1.slots)
    (K : ∀ (z : Sg) (o5 o6 o7 : Option Value), Iv n t z → xw_At g false 8 p l e room_1 s m args below meth c (cells + 1) (slots + 6) Q 1272 [some (.ref xw_sp), some (.ref 0), some (.ref 16), some (.ref 32), some (.int (nI (q))), o5, o6, o7] [] (hT g n t z)) (z : Sg) (hI : Iv n t z) (o5 o6 o7 : Option Value) : xw_At g false 8 p l e room_1 s m args below meth c (cells) (slots) Q 1087 [some (.ref xw_sp), some (.ref 0), some (.ref 16), some (.ref 32), some (.int (nI (q))), o5, o6, o7] [] (hT g n t z) := by
  obtain ⟨hp1, z2, v, hA, hB, hI2, fs1, h16⟩ := J_secret g hn ht z hI (xg_x g (q + 1))
  obtain ⟨fs0, h0⟩ := T0 g n t z
  refine xa_aload_n C dL_law_1087 rfl ?_
  refine xa_aload_n C dL_law_1088 rfl ?_
  refine xa_iload C dL_law_1089 rfl ?_
  refine xa_icN C 1 dL_law_1091 ?_
  refine xa_iaddN C dL_law_1092 ?_
  refine xa_ialoadN C dL_law_1093 (by omega) (by omega) ?_
  refine xa_callV1 C (hA) b_L_102 (xw_in wi_S_secret rfl) e_S_secret dL_law_1094 rfl h0 rfl rfl (Nat.le_of_ble_eq_true rfl) ⟨Nat.le_of_ble_eq_true rfl, Nat.le_of_ble_eq_true rfl⟩ hcA ?_
  refine xa_aload_n C dL_law_1097 rfl ?_
  refine xa_aload_n C dL_law_1098 rfl ?_
  refine xa_iload C dL_law_1099 rfl ?_
  refine xa_icN C 1 dL_law_1101 ?_
  refine xa_iaddN C dL_law_1102 ?_
  refine xa_ialoadN C dL_law_1103 (by omega) (by omega) ?_
  refine xa_callV1 C (hB) b_L_105 (xw_in wi_M_secret rfl) e_M_secret dL_law_1104 rfl h16 rfl rfl (Nat.le_of_ble_eq_true rfl) ⟨Nat.le_of_ble_eq_true rfl, Nat.le_of_ble_eq_true rfl⟩ hcA ?_
  refine xa_lcmp C dL_law_1107 ?_
  refine xa_if_eq C dL_law_1108 (tgt := 1272) rfl (fun h1108 => ?_) (fun h1108 => ?_)
  · refine xa_widen (k := cells + 1) (n := slots + 6) (by omega) (by omega) ?_
    exact K z2 _ _ _ hI2
  · exact absurd ((lg_cmp_eq _ _).mpr rfl) h1108
set_option maxHeartbeats 4000000 in
set_option maxRecDepth 100000 in
theorem w_12 {g : xw_G} {p : Program} {l : Launch} {e : Env} {s : State} {m : MethodId} {args : Array Value} {below : List Frame} {meth : Method} {c : Code} {cells slots : Nat} {Q : State → Prop} (C : xw_C g cL_law 8 "ThresholdSealLaw" p s m args c) (htr : xw_tr l) {n t : Nat} (hn : n ≤ 6) (ht : t ≤ 6) {q : Nat} (hq : q + 7 ≤ xg_L g) (hL : xg_L g ≤ 3586)
    (hcA : cells ≤ room_1.cells ∧ slots ≤ room_1.slots) (hcA2 : cells + 1 ≤ room_1.cells ∧ slots + 6 ≤ room_1.slots) (hcB : cells + 1 ≤ room_1.cells ∧ slots + 6 ≤ room_1.slots)
    (K : ∀ (z : Sg) (o5 o6 o7 : Option Value), Iv n t z → xw_At g false 8 p l e room_1 s m args below meth c (cells + 1) (slots + 6) Q 1272 [some (.ref xw_sp), some (.ref 0), some (.ref 16), some (.ref 32), some (.int (nI (q))), o5, o6, o7] [] (hT g n t z)) (z : Sg) (hI : Iv n t z) (o5 o6 o7 : Option Value) : xw_At g false 8 p l e room_1 s m args below meth c (cells) (slots) Q 1113 [some (.ref xw_sp), some (.ref 0), some (.ref 16), some (.ref 32), some (.int (nI (q))), o5, o6, o7] [] (hT g n t z) := by
  refine xa_aload_n C dL_law_1113 rfl ?_
  refine xa_aload_n C dL_law_1114 rfl ?_
  refine xa_iload C dL_law_1115 rfl ?_
  refine xa_icN C 1 dL_law_1117 ?_
  refine xa_iaddN C dL_law_1118 ?_
  refine xa_ialoadN C dL_law_1119 (by omega) (by omega) ?_
  refine xa_aload_n C dL_law_1120 rfl ?_
  refine xa_iload C dL_law_1121 rfl ?_
  refine xa_icN C 2 dL_law_1123 ?_
  refine xa_iaddN C dL_law_1124 ?_
  refine xa_ialoadN C dL_law_1125 (by omega) (by omega) ?_
  refine xa_if_eq C dL_law_1126 (tgt := 1133) rfl (fun h1126 => ?_) (fun h1126 => ?_)
  · obtain ⟨hp1, z2, v, hA, hB, hI2, fs1, h16⟩ := J_commitment g hn ht z hI (xg_x g (q + 1)) (nI 0)
    obtain ⟨fs0, h0⟩ := T0 g n t z
    refine xa_icN C 0 dL_law_1133 ?_
    refine xa_callV1 C (hA) b_L_106 (xw_in wi_S_commitment rfl) e_S_commitment dL_law_1134 rfl h0 rfl rfl (Nat.le_of_ble_eq_true rfl) ⟨Nat.le_of_ble_eq_true rfl, Nat.le_of_ble_eq_true rfl⟩ hcA ?_
    refine xa_aload_n C dL_law_1137 rfl ?_
    refine xa_aload_n C dL_law_1138 rfl ?_
    refine xa_iload C dL_law_1139 rfl ?_
    refine xa_icN C 1 dL_law_1141 ?_
    refine xa_iaddN C dL_law_1142 ?_
    refine xa_ialoadN C dL_law_1143 (by omega) (by omega) ?_
    refine xa_aload_n C dL_law_1144 rfl ?_
    refine xa_iload C dL_law_1145 rfl ?_
    refine xa_icN C 2 dL_law_1147 ?_
    refine xa_iaddN C dL_law_1148 ?_
    refine xa_ialoadN C dL_law_1149 (by omega) (by omega) ?_
    refine xa_if_eq C dL_law_1150 (tgt := 1157) rfl (fun h1150 => ?_) (fun h1150 => ?_)
    · refine xa_icN C 0 dL_law_1157 ?_
      refine xa_callV1 C (hB) b_L_110 (xw_in wi_M_commitment rfl) e_M_commitment dL_law_1158 rfl h16 rfl rfl (Nat.le_of_ble_eq_true rfl) ⟨Nat.le_of_ble_eq_true rfl, Nat.le_of_ble_eq_true rfl⟩ hcA ?_
      refine xa_lcmp C dL_law_1161 ?_
      refine xa_if_eq C dL_law_1162 (tgt := 1272) rfl (fun h1162 => ?_) (fun h1162 => ?_)
      · refine xa_widen (k := cells + 1) (n := slots + 6) (by omega) (by omega) ?_
        exact K z2 _ _ _ hI2
      · exact absurd ((lg_cmp_eq _ _).mpr rfl) h1162
    · exact absurd h1126 h1150
  · obtain ⟨hp1, z2, v, hA, hB, hI2, fs1, h16⟩ := J_commitment g hn ht z hI (xg_x g (q + 1)) (nI 1)
    obtain ⟨fs0, h0⟩ := T0 g n t z
    refine xa_icN C 1 dL_law_1129 ?_
    refine xa_goto C dL_law_1130 (tgt := 1134) rfl ?_
    refine xa_callV1 C (hA) b_L_106 (xw_in wi_S_commitment rfl) e_S_commitment dL_law_1134 rfl h0 rfl rfl (Nat.le_of_ble_eq_true rfl) ⟨Nat.le_of_ble_eq_true rfl, Nat.le_of_ble_eq_true rfl⟩ hcA ?_
    refine xa_aload_n C dL_law_1137 rfl ?_
    refine xa_aload_n C dL_law_1138 rfl ?_
    refine xa_iload C dL_law_1139 rfl ?_
    refine xa_icN C 1 dL_law_1141 ?_
    refine xa_iaddN C dL_law_1142 ?_
    refine xa_ialoadN C dL_law_1143 (by omega) (by omega) ?_
    refine xa_aload_n C dL_law_1144 rfl ?_
    refine xa_iload C dL_law_1145 rfl ?_
    refine xa_icN C 2 dL_law_1147 ?_
    refine xa_iaddN C dL_law_1148 ?_
    refine xa_ialoadN C dL_law_1149 (by omega) (by omega) ?_
    refine xa_if_eq C dL_law_1150 (tgt := 1157) rfl (fun h1150 => ?_) (fun h1150 => ?_)
    · exact absurd h1150 h1126
    · refine xa_icN C 1 dL_law_1153 ?_
      refine xa_goto C dL_law_1154 (tgt := 1158) rfl ?_
      refine xa_callV1 C (hB) b_L_110 (xw_in wi_M_commitment rfl) e_M_commitment dL_law_1158 rfl h16 rfl rfl (Nat.le_of_ble_eq_true rfl) ⟨Nat.le_of_ble_eq_true rfl, Nat.le_of_ble_eq_true rfl⟩ hcA ?_
      refine xa_lcmp C dL_law_1161 ?_
      refine xa_if_eq C dL_law_1162 (tgt := 1272) rfl (fun h1162 => ?_) (fun h1162 => ?_)
      · refine xa_widen (k := cells + 1) (n := slots + 6) (by omega) (by omega) ?_
        exact K z2 _ _ _ hI2
      · exact absurd ((lg_cmp_eq _ _).mpr rfl) h1162
set_option maxHeartbeats 4000000 in
set_option maxRecDepth 100000 in
theorem w_13 {g : xw_G} {p : Program} {l : Launch} {e : Env} {s : State} {m : MethodId} {args : Array Value} {below : List Frame} {meth : Method} {c : Code} {cells slots : Nat} {Q : State → Prop} (C : xw_C g cL_law 8 "ThresholdSealLaw" p s m args c) (htr : xw_tr l) {n t : Nat} (hn : n ≤ 6) (ht : t ≤ 6) {q : Nat} (hq : q + 7 ≤ xg_L g) (hL : xg_L g ≤ 3586)
    (hcA : cells ≤ room_1.cells ∧ slots ≤ room_1.slots) (hcA2 : cells + 1 ≤ room_1.cells ∧ slots + 6 ≤ room_1.slots) (hcB : cells + 1 ≤ room_1.cells ∧ slots + 6 ≤ room_1.slots)
    (K : ∀ (z : Sg) (o5 o6 o7 : Option Value), Iv n t z → xw_At g false 8 p l e room_1 s m args below meth c (cells + 1) (slots + 6) Q 1272 [some (.ref xw_sp), some (.ref 0), some (.ref 16), some (.ref 32), some (.int (nI (q))), o5, o6, o7] [] (hT g n t z)) (z : Sg) (hI : Iv n t z) (o5 o6 o7 : Option Value) : xw_At g false 8 p l e room_1 s m args below meth c (cells) (slots) Q 1167 [some (.ref xw_sp), some (.ref 0), some (.ref 16), some (.ref 32), some (.int (nI (q))), o5, o6, o7] [] (hT g n t z) := by
  obtain ⟨hp1, z2, v, hA, hB, hI2, fs1, h16⟩ := J_factor g hn ht z hI (xg_x g (q + 1))
  obtain ⟨fs0, h0⟩ := T0 g n t z
  refine xa_aload_n C dL_law_1167 rfl ?_
  refine xa_aload_n C dL_law_1168 rfl ?_
  refine xa_iload C dL_law_1169 rfl ?_
  refine xa_icN C 1 dL_law_1171 ?_
  refine xa_iaddN C dL_law_1172 ?_
  refine xa_ialoadN C dL_law_1173 (by omega) (by omega) ?_
  refine xa_callV1 C (hA) b_L_111 (xw_in wi_S_factor rfl) e_S_factor dL_law_1174 rfl h0 rfl rfl (Nat.le_of_ble_eq_true rfl) ⟨Nat.le_of_ble_eq_true rfl, Nat.le_of_ble_eq_true rfl⟩ hcA ?_
  refine xa_aload_n C dL_law_1177 rfl ?_
  refine xa_aload_n C dL_law_1178 rfl ?_
  refine xa_iload C dL_law_1179 rfl ?_
  refine xa_icN C 1 dL_law_1181 ?_
  refine xa_iaddN C dL_law_1182 ?_
  refine xa_ialoadN C dL_law_1183 (by omega) (by omega) ?_
  refine xa_callV1 C (hB) b_L_114 (xw_in wi_M_factor rfl) e_M_factor dL_law_1184 rfl h16 rfl rfl (Nat.le_of_ble_eq_true rfl) ⟨Nat.le_of_ble_eq_true rfl, Nat.le_of_ble_eq_true rfl⟩ hcA ?_
  refine xa_lcmp C dL_law_1187 ?_
  refine xa_if_eq C dL_law_1188 (tgt := 1272) rfl (fun h1188 => ?_) (fun h1188 => ?_)
  · refine xa_widen (k := cells + 1) (n := slots + 6) (by omega) (by omega) ?_
    exact K z2 _ _ _ hI2
  · exact absurd ((lg_cmp_eq _ _).mpr rfl) h1188
set_option maxHeartbeats 4000000 in
set_option maxRecDepth 100000 in
theorem w_14 {g : xw_G} {p : Program} {l : Launch} {e : Env} {s : State} {m : MethodId} {args : Array Value} {below : List Frame} {meth : Method} {c : Code} {cells slots : Nat} {Q : State → Prop} (C : xw_C g cL_law 8 "ThresholdSealLaw" p s m args c) (htr : xw_tr l) {n t : Nat} (hn : n ≤ 6) (ht : t ≤ 6) {q : Nat} (hq : q + 7 ≤ xg_L g) (hL : xg_L g ≤ 3586)
    (hcA : cells ≤ room_1.cells ∧ slots ≤ room_1.slots) (hcA2 : cells + 1 ≤ room_1.cells ∧ slots + 6 ≤ room_1.slots) (hcB : cells + 1 ≤ room_1.cells ∧ slots + 6 ≤ room_1.slots)
    (K : ∀ (z : Sg) (o5 o6 o7 : Option Value), Iv n t z → xw_At g false 8 p l e room_1 s m args below meth c (cells + 1) (slots + 6) Q 1272 [some (.ref xw_sp), some (.ref 0), some (.ref 16), some (.ref 32), some (.int (nI (q))), o5, o6, o7] [] (hT g n t z)) (z : Sg) (hI : Iv n t z) (o5 o6 o7 : Option Value) : xw_At g false 8 p l e room_1 s m args below meth c (cells) (slots) Q 1193 [some (.ref xw_sp), some (.ref 0), some (.ref 16), some (.ref 32), some (.int (nI (q))), o5, o6, o7] [] (hT g n t z) := by
  obtain ⟨hp1, z2, v, hA, hB, hI2, fs1, h16⟩ := J_weight g hn ht z hI (xg_x g (q + 1))
  obtain ⟨fs0, h0⟩ := T0 g n t z
  refine xa_aload_n C dL_law_1193 rfl ?_
  refine xa_aload_n C dL_law_1194 rfl ?_
  refine xa_iload C dL_law_1195 rfl ?_
  refine xa_icN C 1 dL_law_1197 ?_
  refine xa_iaddN C dL_law_1198 ?_
  refine xa_ialoadN C dL_law_1199 (by omega) (by omega) ?_
  refine xa_callV1 C (hA) b_L_115 (xw_in wi_S_weight rfl) e_S_weight dL_law_1200 rfl h0 rfl rfl (Nat.le_of_ble_eq_true rfl) ⟨Nat.le_of_ble_eq_true rfl, Nat.le_of_ble_eq_true rfl⟩ hcA ?_
  refine xa_aload_n C dL_law_1203 rfl ?_
  refine xa_aload_n C dL_law_1204 rfl ?_
  refine xa_iload C dL_law_1205 rfl ?_
  refine xa_icN C 1 dL_law_1207 ?_
  refine xa_iaddN C dL_law_1208 ?_
  refine xa_ialoadN C dL_law_1209 (by omega) (by omega) ?_
  refine xa_callV1 C (hB) b_L_118 (xw_in wi_M_weight rfl) e_M_weight dL_law_1210 rfl h16 rfl rfl (Nat.le_of_ble_eq_true rfl) ⟨Nat.le_of_ble_eq_true rfl, Nat.le_of_ble_eq_true rfl⟩ hcA ?_
  refine xa_lcmp C dL_law_1213 ?_
  refine xa_if_eq C dL_law_1214 (tgt := 1272) rfl (fun h1214 => ?_) (fun h1214 => ?_)
  · refine xa_widen (k := cells + 1) (n := slots + 6) (by omega) (by omega) ?_
    exact K z2 _ _ _ hI2
  · exact absurd ((lg_cmp_eq _ _).mpr rfl) h1214
set_option maxHeartbeats 4000000 in
set_option maxRecDepth 100000 in
theorem w_15 {g : xw_G} {p : Program} {l : Launch} {e : Env} {s : State} {m : MethodId} {args : Array Value} {below : List Frame} {meth : Method} {c : Code} {cells slots : Nat} {Q : State → Prop} (C : xw_C g cL_law 8 "ThresholdSealLaw" p s m args c) (htr : xw_tr l) {n t : Nat} (hn : n ≤ 6) (ht : t ≤ 6) {q : Nat} (hq : q + 7 ≤ xg_L g) (hL : xg_L g ≤ 3586)
    (hcA : cells ≤ room_1.cells ∧ slots ≤ room_1.slots) (hcA2 : cells + 1 ≤ room_1.cells ∧ slots + 6 ≤ room_1.slots) (hcB : cells + 1 ≤ room_1.cells ∧ slots + 6 ≤ room_1.slots)
    (K : ∀ (z : Sg) (o5 o6 o7 : Option Value), Iv n t z → xw_At g false 8 p l e room_1 s m args below meth c (cells + 1) (slots + 6) Q 1272 [some (.ref xw_sp), some (.ref 0), some (.ref 16), some (.ref 32), some (.int (nI (q))), o5, o6, o7] [] (hT g n t z)) (z : Sg) (hI : Iv n t z) (o5 o6 o7 : Option Value) : xw_At g false 8 p l e room_1 s m args below meth c (cells) (slots) Q 1219 [some (.ref xw_sp), some (.ref 0), some (.ref 16), some (.ref 32), some (.int (nI (q))), o5, o6, o7] [] (hT g n t z) := by
  obtain ⟨hp1, z2, v, hA, hB, hI2, fs1, h16⟩ := J_challenge g hn ht z hI 
  obtain ⟨fs0, h0⟩ := T0 g n t z
  refine xa_aload_n C dL_law_1219 rfl ?_
  refine xa_callV1 C (hA) b_L_119 (xw_in wi_S_challenge rfl) e_S_challenge dL_law_1220 rfl h0 rfl rfl (Nat.le_of_ble_eq_true rfl) ⟨Nat.le_of_ble_eq_true rfl, Nat.le_of_ble_eq_true rfl⟩ hcA ?_
  refine xa_aload_n C dL_law_1223 rfl ?_
  refine xa_callV1 C (hB) b_L_122 (xw_in wi_M_challenge rfl) e_M_challenge dL_law_1224 rfl h16 rfl rfl (Nat.le_of_ble_eq_true rfl) ⟨Nat.le_of_ble_eq_true rfl, Nat.le_of_ble_eq_true rfl⟩ hcA ?_
  refine xa_lcmp C dL_law_1227 ?_
  refine xa_if_eq C dL_law_1228 (tgt := 1272) rfl (fun h1228 => ?_) (fun h1228 => ?_)
  · refine xa_widen (k := cells + 1) (n := slots + 6) (by omega) (by omega) ?_
    exact K z2 _ _ _ hI2
  · exact absurd ((lg_cmp_eq _ _).mpr rfl) h1228
set_option maxHeartbeats 4000000 in
set_option maxRecDepth 100000 in
theorem w_16 {g : xw_G} {p : Program} {l : Launch} {e : Env} {s : State} {m : MethodId} {args : Array Value} {below : List Frame} {meth : Method} {c : Code} {cells slots : Nat} {Q : State → Prop} (C : xw_C g cL_law 8 "ThresholdSealLaw" p s m args c) (htr : xw_tr l) {n t : Nat} (hn : n ≤ 6) (ht : t ≤ 6) {q : Nat} (hq : q + 7 ≤ xg_L g) (hL : xg_L g ≤ 3586)
    (hcA : cells ≤ room_1.cells ∧ slots ≤ room_1.slots) (hcA2 : cells + 1 ≤ room_1.cells ∧ slots + 6 ≤ room_1.slots) (hcB : cells + 1 ≤ room_1.cells ∧ slots + 6 ≤ room_1.slots)
    (K : ∀ (z : Sg) (o5 o6 o7 : Option Value), Iv n t z → xw_At g false 8 p l e room_1 s m args below meth c (cells + 1) (slots + 6) Q 1272 [some (.ref xw_sp), some (.ref 0), some (.ref 16), some (.ref 32), some (.int (nI (q))), o5, o6, o7] [] (hT g n t z)) (z : Sg) (hI : Iv n t z) (o5 o6 o7 : Option Value) : xw_At g false 8 p l e room_1 s m args below meth c (cells) (slots) Q 1233 [some (.ref xw_sp), some (.ref 0), some (.ref 16), some (.ref 32), some (.int (nI (q))), o5, o6, o7] [] (hT g n t z) := by
  obtain ⟨hp1, z2, v, hA, hB, hI2, fs1, h16⟩ := J_members g hn ht z hI 
  obtain ⟨fs0, h0⟩ := T0 g n t z
  refine xa_aload_n C dL_law_1233 rfl ?_
  refine xa_callV1 C (hA) b_L_123 (xw_in wi_S_members rfl) e_S_members dL_law_1234 rfl h0 rfl rfl (Nat.le_of_ble_eq_true rfl) ⟨Nat.le_of_ble_eq_true rfl, Nat.le_of_ble_eq_true rfl⟩ hcA ?_
  refine xa_aload_n C dL_law_1237 rfl ?_
  refine xa_callV1 C (hB) b_L_126 (xw_in wi_M_members rfl) e_M_members dL_law_1238 rfl h16 rfl rfl (Nat.le_of_ble_eq_true rfl) ⟨Nat.le_of_ble_eq_true rfl, Nat.le_of_ble_eq_true rfl⟩ hcA ?_
  refine xa_icmp_eq C dL_law_1241 (tgt := 1272) rfl (fun h1241 => ?_) (fun h1241 => ?_)
  · refine xa_widen (k := cells + 1) (n := slots + 6) (by omega) (by omega) ?_
    exact K z2 _ _ _ hI2
  · exact absurd rfl h1241
set_option maxHeartbeats 4000000 in
set_option maxRecDepth 100000 in
theorem w_17 {g : xw_G} {p : Program} {l : Launch} {e : Env} {s : State} {m : MethodId} {args : Array Value} {below : List Frame} {meth : Method} {c : Code} {cells slots : Nat} {Q : State → Prop} (C : xw_C g cL_law 8 "ThresholdSealLaw" p s m args c) (htr : xw_tr l) {n t : Nat} (hn : n ≤ 6) (ht : t ≤ 6) {q : Nat} (hq : q + 7 ≤ xg_L g) (hL : xg_L g ≤ 3586)
    (hcA : cells ≤ room_1.cells ∧ slots ≤ room_1.slots) (hcA2 : cells + 1 ≤ room_1.cells ∧ slots + 6 ≤ room_1.slots) (hcB : cells + 1 ≤ room_1.cells ∧ slots + 6 ≤ room_1.slots)
    (K : ∀ (z : Sg) (o5 o6 o7 : Option Value), Iv n t z → xw_At g false 8 p l e room_1 s m args below meth c (cells + 1) (slots + 6) Q 1272 [some (.ref xw_sp), some (.ref 0), some (.ref 16), some (.ref 32), some (.int (nI (q))), o5, o6, o7] [] (hT g n t z)) (z : Sg) (hI : Iv n t z) (o5 o6 o7 : Option Value) : xw_At g false 8 p l e room_1 s m args below meth c (cells) (slots) Q 1246 [some (.ref xw_sp), some (.ref 0), some (.ref 16), some (.ref 32), some (.int (nI (q))), o5, o6, o7] [] (hT g n t z) := by
  obtain ⟨hp1, z2, v, hA, hB, hI2, fs1, h16⟩ := J_taken g hn ht z hI 
  obtain ⟨fs0, h0⟩ := T0 g n t z
  refine xa_aload_n C dL_law_1246 rfl ?_
  refine xa_callV1 C (hA) b_L_127 (xw_in wi_S_taken rfl) e_S_taken dL_law_1247 rfl h0 rfl rfl (Nat.le_of_ble_eq_true rfl) ⟨Nat.le_of_ble_eq_true rfl, Nat.le_of_ble_eq_true rfl⟩ hcA ?_
  refine xa_aload_n C dL_law_1250 rfl ?_
  refine xa_callV1 C (hB) b_L_130 (xw_in wi_M_taken rfl) e_M_taken dL_law_1251 rfl h16 rfl rfl (Nat.le_of_ble_eq_true rfl) ⟨Nat.le_of_ble_eq_true rfl, Nat.le_of_ble_eq_true rfl⟩ hcA ?_
  refine xa_icmp_eq C dL_law_1254 (tgt := 1272) rfl (fun h1254 => ?_) (fun h1254 => ?_)
  · refine xa_widen (k := cells + 1) (n := slots + 6) (by omega) (by omega) ?_
    exact K z2 _ _ _ hI2
  · exact absurd rfl h1254
set_option maxHeartbeats 4000000 in
set_option maxRecDepth 100000 in
theorem w_18 {g : xw_G} {p : Program} {l : Launch} {e : Env} {s : State} {m : MethodId} {args : Array Value} {below : List Frame} {meth : Method} {c : Code} {cells slots : Nat} {Q : State → Prop} (C : xw_C g cL_law 8 "ThresholdSealLaw" p s m args c) (htr : xw_tr l) {n t : Nat} (hn : n ≤ 6) (ht : t ≤ 6) {q : Nat} (hq : q + 7 ≤ xg_L g) (hL : xg_L g ≤ 3586)
    (hcA : cells ≤ room_1.cells ∧ slots ≤ room_1.slots) (hcA2 : cells + 1 ≤ room_1.cells ∧ slots + 6 ≤ room_1.slots) (hcB : cells + 1 ≤ room_1.cells ∧ slots + 6 ≤ room_1.slots)
    (K : ∀ (z : Sg) (o5 o6 o7 : Option Value), Iv n t z → xw_At g false 8 p l e room_1 s m args below meth c (cells + 1) (slots + 6) Q 1272 [some (.ref xw_sp), some (.ref 0), some (.ref 16), some (.ref 32), some (.int (nI (q))), o5, o6, o7] [] (hT g n t z)) (z : Sg) (hI : Iv n t z) (o5 o6 o7 : Option Value) : xw_At g false 8 p l e room_1 s m args below meth c (cells) (slots) Q 1259 [some (.ref xw_sp), some (.ref 0), some (.ref 16), some (.ref 32), some (.int (nI (q))), o5, o6, o7] [] (hT g n t z) := by
  obtain ⟨hp1, z2, v, hA, hB, hI2, fs1, h16⟩ := J_blamed g hn ht z hI 
  obtain ⟨fs0, h0⟩ := T0 g n t z
  refine xa_aload_n C dL_law_1259 rfl ?_
  refine xa_callV1 C (hA) b_L_131 (xw_in wi_S_blamed rfl) e_S_blamed dL_law_1260 rfl h0 rfl rfl (Nat.le_of_ble_eq_true rfl) ⟨Nat.le_of_ble_eq_true rfl, Nat.le_of_ble_eq_true rfl⟩ hcA ?_
  refine xa_aload_n C dL_law_1263 rfl ?_
  refine xa_callV1 C (hB) b_L_134 (xw_in wi_M_blamed rfl) e_M_blamed dL_law_1264 rfl h16 rfl rfl (Nat.le_of_ble_eq_true rfl) ⟨Nat.le_of_ble_eq_true rfl, Nat.le_of_ble_eq_true rfl⟩ hcA ?_
  refine xa_icmp_eq C dL_law_1267 (tgt := 1272) rfl (fun h1267 => ?_) (fun h1267 => ?_)
  · refine xa_widen (k := cells + 1) (n := slots + 6) (by omega) (by omega) ?_
    exact K z2 _ _ _ hI2
  · exact absurd rfl h1267
