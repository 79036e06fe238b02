set_option maxHeartbeats 4000000 in
set_option maxRecDepth 100000 in
theorem lc_0 {b0 : Nat} {D : va_G} {dA : Nat → ClassId} {nm : String} {b L : Nat} {xs : Nat → Int32} {t c s : Nat} {ad : Nat → Nat → Nat} {S : St} (I : Inv S t) (ht : t < 512) (hL : L ≤ 3072) (h6 : 6 * t + 6 ≤ L) (hc : c + 3 ≤ 600000) (hs : s + 14 ≤ 7302250) (hk : ∀ (S' : St) (ad' : Nat → Nat → Nat), Inv S' (t + 1) → E b0 D dA (yLw nm) cL_law 4 ret room_1 (EXL b L xs b0) QFL 1237 (lfA [some (.ref b), some (.ref (ad' 0 0)), some (.ref (ad' 16 0)), some (.int (nI (6 * t)))]) [] (dmW S' 0) ad' (cw dA ad' S' S' 0) (c + 3) (s + 14)) : E b0 D dA (yLw nm) cL_law 4 ret room_1 (EXL b L xs b0) QFL 156 (lfA [some (.ref b), some (.ref (ad 0 0)), some (.ref (ad 16 0)), some (.int (nI (6 * t)))]) [] (dmW S 0) ad (cw dA ad S S 0) c s := by
  refine e_aload dL_law_156 rfl ?_
  refine e_aload dL_law_157 rfl ?_
  refine e_iload dL_law_158 rfl ?_
  refine e_push dL_law_159 ?_
  refine e_iadd dL_law_160 ?_
  refine e_sld (6 * t + 1) dL_law_161 (show nI (6 * t) + 1 = nI (6 * t + 1) from nI_add (6 * t) 1) (by omega) (by omega) ?_
  refine e_aload dL_law_162 rfl ?_
  refine e_iload dL_law_163 rfl ?_
  refine e_push dL_law_164 ?_
  refine e_iadd dL_law_165 ?_
  refine e_sld (6 * t + 2) dL_law_166 (show nI (6 * t) + 2 = nI (6 * t + 2) from nI_add (6 * t) 2) (by omega) (by omega) ?_
  refine e_i2l dL_law_167 ?_
  refine e_push dL_law_168 ?_
  refine e_lshl dL_law_170 ?_
  refine e_aload dL_law_171 rfl ?_
  refine e_iload dL_law_172 rfl ?_
  refine e_push dL_law_173 ?_
  refine e_iadd dL_law_174 ?_
  refine e_sld (6 * t + 3) dL_law_175 (show nI (6 * t) + 3 = nI (6 * t + 3) from nI_add (6 * t) 3) (by omega) (by omega) ?_
  refine e_i2l dL_law_176 ?_
  refine e_ldc2 dL_law_177 kw_L_13 ?_
  refine e_land dL_law_180 ?_
  refine e_lor dL_law_181 ?_
  refine e_aload dL_law_182 rfl ?_
  refine e_iload dL_law_183 rfl ?_
  refine e_push dL_law_184 ?_
  refine e_iadd dL_law_185 ?_
  refine e_sld (6 * t + 4) dL_law_186 (show nI (6 * t) + 4 = nI (6 * t + 4) from nI_add (6 * t) 4) (by omega) (by omega) ?_
  refine e_callV3 dL_law_187 ca_L_15 (show dmW S 0 0 0 from rfl) cw_0 (rm_law (by decide) (by decide) (by omega) (by omega)) (c_X11_constant I _ _ _ (fun ad2 g1 g2 => ?_)) (by exact Nat.le_of_ble_eq_true rfl)
  rw [← g1, ← g2]
  refine e_aload dL_law_190 rfl ?_
  refine e_aload dL_law_191 rfl ?_
  refine e_iload dL_law_192 rfl ?_
  refine e_push dL_law_193 ?_
  refine e_iadd dL_law_194 ?_
  refine e_sld (6 * t + 1) dL_law_195 (show nI (6 * t) + 1 = nI (6 * t + 1) from nI_add (6 * t) 1) (by omega) (by omega) ?_
  refine e_aload dL_law_196 rfl ?_
  refine e_iload dL_law_197 rfl ?_
  refine e_push dL_law_198 ?_
  refine e_iadd dL_law_199 ?_
  refine e_sld (6 * t + 2) dL_law_200 (show nI (6 * t) + 2 = nI (6 * t + 2) from nI_add (6 * t) 2) (by omega) (by omega) ?_
  refine e_i2l dL_law_201 ?_
  refine e_push dL_law_202 ?_
  refine e_lshl dL_law_204 ?_
  refine e_aload dL_law_205 rfl ?_
  refine e_iload dL_law_206 rfl ?_
  refine e_push dL_law_207 ?_
  refine e_iadd dL_law_208 ?_
  refine e_sld (6 * t + 3) dL_law_209 (show nI (6 * t) + 3 = nI (6 * t + 3) from nI_add (6 * t) 3) (by omega) (by omega) ?_
  refine e_i2l dL_law_210 ?_
  refine e_ldc2 dL_law_211 kw_L_13 ?_
  refine e_land dL_law_214 ?_
  refine e_lor dL_law_215 ?_
  refine e_aload dL_law_216 rfl ?_
  refine e_iload dL_law_217 rfl ?_
  refine e_push dL_law_218 ?_
  refine e_iadd dL_law_219 ?_
  refine e_sld (6 * t + 4) dL_law_220 (show nI (6 * t) + 4 = nI (6 * t + 4) from nI_add (6 * t) 4) (by omega) (by omega) ?_
  refine e_cM ?_
  refine e_callV3 dL_law_221 ca_L_19 (dmW_M _ _).1 ctM_o (rm_law (by decide) (by decide) (by simp only [RmA]; omega) (by simp only [RmA]; omega)) (c_X12_constant (dmW_M _ _) I _ _ _ ?_) (by exact Nat.le_of_ble_eq_true rfl)
  refine e_cM2 ?_
  refine e_icmp_eq dL_law_224 (fun _ => ?_) (fun h => absurd rfl h)
  exact e_wide (by simp only [RmA]; omega) (by simp only [RmA]; omega) (hk _ _ (I.constant.mono (by omega) (by omega)))
set_option maxHeartbeats 4000000 in
set_option maxRecDepth 100000 in
theorem lc_1 {b0 : Nat} {D : va_G} {dA : Nat → ClassId} {nm : String} {b L : Nat} {xs : Nat → Int32} {t c s : Nat} {ad : Nat → Nat → Nat} {S : St} (I : Inv S t) (ht : t < 512) (hL : L ≤ 3072) (h6 : 6 * t + 6 ≤ L) (hc : c + 3 ≤ 600000) (hs : s + 14 ≤ 7302250) (hk : ∀ (S' : St) (ad' : Nat → Nat → Nat), Inv S' (t + 1) → E b0 D dA (yLw nm) cL_law 4 ret room_1 (EXL b L xs b0) QFL 1237 (lfA [some (.ref b), some (.ref (ad' 0 0)), some (.ref (ad' 16 0)), some (.int (nI (6 * t)))]) [] (dmW S' 0) ad' (cw dA ad' S' S' 0) (c + 3) (s + 14)) : E b0 D dA (yLw nm) cL_law 4 ret room_1 (EXL b L xs b0) QFL 229 (lfA [some (.ref b), some (.ref (ad 0 0)), some (.ref (ad 16 0)), some (.int (nI (6 * t)))]) [] (dmW S 0) ad (cw dA ad S S 0) c s := by
  refine e_aload dL_law_229 rfl ?_
  refine e_aload dL_law_230 rfl ?_
  refine e_iload dL_law_231 rfl ?_
  refine e_push dL_law_232 ?_
  refine e_iadd dL_law_233 ?_
  refine e_sld (6 * t + 1) dL_law_234 (show nI (6 * t) + 1 = nI (6 * t + 1) from nI_add (6 * t) 1) (by omega) (by omega) ?_
  refine e_aload dL_law_235 rfl ?_
  refine e_iload dL_law_236 rfl ?_
  refine e_push dL_law_237 ?_
  refine e_iadd dL_law_238 ?_
  refine e_sld (6 * t + 2) dL_law_239 (show nI (6 * t) + 2 = nI (6 * t + 2) from nI_add (6 * t) 2) (by omega) (by omega) ?_
  refine e_callV2 dL_law_240 ca_L_20 (show dmW S 0 0 0 from rfl) cw_0 (rm_law (by decide) (by decide) (by omega) (by omega)) (c_X11_arrange I _ _ ?_) (by exact Nat.le_of_ble_eq_true rfl)
  refine e_aload dL_law_243 rfl ?_
  refine e_aload dL_law_244 rfl ?_
  refine e_iload dL_law_245 rfl ?_
  refine e_push dL_law_246 ?_
  refine e_iadd dL_law_247 ?_
  refine e_sld (6 * t + 1) dL_law_248 (show nI (6 * t) + 1 = nI (6 * t + 1) from nI_add (6 * t) 1) (by omega) (by omega) ?_
  refine e_aload dL_law_249 rfl ?_
  refine e_iload dL_law_250 rfl ?_
  refine e_push dL_law_251 ?_
  refine e_iadd dL_law_252 ?_
  refine e_sld (6 * t + 2) dL_law_253 (show nI (6 * t) + 2 = nI (6 * t + 2) from nI_add (6 * t) 2) (by omega) (by omega) ?_
  refine e_cM ?_
  refine e_callV2 dL_law_254 ca_L_24 (dmW_M _ _).1 ctM_o (rm_law (by decide) (by decide) (by simp only [RmA]; omega) (by simp only [RmA]; omega)) (c_X12_arrange (dmW_M _ _) I _ _ ?_) (by exact Nat.le_of_ble_eq_true rfl)
  refine e_cM2 ?_
  refine e_icmp_eq dL_law_257 (fun _ => ?_) (fun h => absurd rfl h)
  exact e_wide (by simp only [RmA]; omega) (by simp only [RmA]; omega) (hk _ _ (I.arrange.mono (by omega) (by omega)))
set_option maxHeartbeats 4000000 in
set_option maxRecDepth 100000 in
theorem lc_2 {b0 : Nat} {D : va_G} {dA : Nat → ClassId} {nm : String} {b L : Nat} {xs : Nat → Int32} {t c s : Nat} {ad : Nat → Nat → Nat} {S : St} (I : Inv S t) (ht : t < 512) (hL : L ≤ 3072) (h6 : 6 * t + 6 ≤ L) (hc : c + 3 ≤ 600000) (hs : s + 14 ≤ 7302250) (hk : ∀ (S' : St) (ad' : Nat → Nat → Nat), Inv S' (t + 1) → E b0 D dA (yLw nm) cL_law 4 ret room_1 (EXL b L xs b0) QFL 1237 (lfA [some (.ref b), some (.ref (ad' 0 0)), some (.ref (ad' 16 0)), some (.int (nI (6 * t)))]) [] (dmW S' 0) ad' (cw dA ad' S' S' 0) (c + 3) (s + 14)) : E b0 D dA (yLw nm) cL_law 4 ret room_1 (EXL b L xs b0) QFL 262 (lfA [some (.ref b), some (.ref (ad 0 0)), some (.ref (ad 16 0)), some (.int (nI (6 * t)))]) [] (dmW S 0) ad (cw dA ad S S 0) c s := by
  refine e_aload dL_law_262 rfl ?_
  refine e_aload dL_law_263 rfl ?_
  refine e_iload dL_law_264 rfl ?_
  refine e_push dL_law_265 ?_
  refine e_iadd dL_law_266 ?_
  refine e_sld (6 * t + 1) dL_law_267 (show nI (6 * t) + 1 = nI (6 * t + 1) from nI_add (6 * t) 1) (by omega) (by omega) ?_
  refine e_aload dL_law_268 rfl ?_
  refine e_iload dL_law_269 rfl ?_
  refine e_push dL_law_270 ?_
  refine e_iadd dL_law_271 ?_
  refine e_sld (6 * t + 2) dL_law_272 (show nI (6 * t) + 2 = nI (6 * t + 2) from nI_add (6 * t) 2) (by omega) (by omega) ?_
  refine e_aload dL_law_273 rfl ?_
  refine e_iload dL_law_274 rfl ?_
  refine e_push dL_law_275 ?_
  refine e_iadd dL_law_276 ?_
  refine e_sld (6 * t + 3) dL_law_277 (show nI (6 * t) + 3 = nI (6 * t + 3) from nI_add (6 * t) 3) (by omega) (by omega) ?_
  refine e_i2l dL_law_278 ?_
  refine e_push dL_law_279 ?_
  refine e_lshl dL_law_281 ?_
  refine e_aload dL_law_282 rfl ?_
  refine e_iload dL_law_283 rfl ?_
  refine e_push dL_law_284 ?_
  refine e_iadd dL_law_285 ?_
  refine e_sld (6 * t + 4) dL_law_286 (show nI (6 * t) + 4 = nI (6 * t + 4) from nI_add (6 * t) 4) (by omega) (by omega) ?_
  refine e_i2l dL_law_287 ?_
  refine e_ldc2 dL_law_288 kw_L_13 ?_
  refine e_land dL_law_291 ?_
  refine e_lor dL_law_292 ?_
  refine e_callV3 dL_law_293 ca_L_25 (show dmW S 0 0 0 from rfl) cw_0 (rm_law (by decide) (by decide) (by omega) (by omega)) (c_X11_shuffle I _ _ _ ?_) (by exact Nat.le_of_ble_eq_true rfl)
  refine e_aload dL_law_296 rfl ?_
  refine e_aload dL_law_297 rfl ?_
  refine e_iload dL_law_298 rfl ?_
  refine e_push dL_law_299 ?_
  refine e_iadd dL_law_300 ?_
  refine e_sld (6 * t + 1) dL_law_301 (show nI (6 * t) + 1 = nI (6 * t + 1) from nI_add (6 * t) 1) (by omega) (by omega) ?_
  refine e_aload dL_law_302 rfl ?_
  refine e_iload dL_law_303 rfl ?_
  refine e_push dL_law_304 ?_
  refine e_iadd dL_law_305 ?_
  refine e_sld (6 * t + 2) dL_law_306 (show nI (6 * t) + 2 = nI (6 * t + 2) from nI_add (6 * t) 2) (by omega) (by omega) ?_
  refine e_aload dL_law_307 rfl ?_
  refine e_iload dL_law_308 rfl ?_
  refine e_push dL_law_309 ?_
  refine e_iadd dL_law_310 ?_
  refine e_sld (6 * t + 3) dL_law_311 (show nI (6 * t) + 3 = nI (6 * t + 3) from nI_add (6 * t) 3) (by omega) (by omega) ?_
  refine e_i2l dL_law_312 ?_
  refine e_push dL_law_313 ?_
  refine e_lshl dL_law_315 ?_
  refine e_aload dL_law_316 rfl ?_
  refine e_iload dL_law_317 rfl ?_
  refine e_push dL_law_318 ?_
  refine e_iadd dL_law_319 ?_
  refine e_sld (6 * t + 4) dL_law_320 (show nI (6 * t) + 4 = nI (6 * t + 4) from nI_add (6 * t) 4) (by omega) (by omega) ?_
  refine e_i2l dL_law_321 ?_
  refine e_ldc2 dL_law_322 kw_L_13 ?_
  refine e_land dL_law_325 ?_
  refine e_lor dL_law_326 ?_
  refine e_cM ?_
  refine e_callV3 dL_law_327 ca_L_29 (dmW_M _ _).1 ctM_o (rm_law (by decide) (by decide) (by simp only [RmA]; omega) (by simp only [RmA]; omega)) (c_X12_shuffle (dmW_M _ _) I _ _ _ ?_) (by exact Nat.le_of_ble_eq_true rfl)
  refine e_cM2 ?_
  refine e_icmp_eq dL_law_330 (fun _ => ?_) (fun h => absurd rfl h)
  exact e_wide (by simp only [RmA]; omega) (by simp only [RmA]; omega) (hk _ _ (I.shuffle.mono (by omega) (by omega)))
set_option maxHeartbeats 4000000 in
set_option maxRecDepth 100000 in
theorem lc_3 {b0 : Nat} {D : va_G} {dA : Nat → ClassId} {nm : String} {b L : Nat} {xs : Nat → Int32} {t c s : Nat} {ad : Nat → Nat → Nat} {S : St} (I : Inv S t) (ht : t < 512) (hL : L ≤ 3072) (h6 : 6 * t + 6 ≤ L) (hc : c + 3 ≤ 600000) (hs : s + 14 ≤ 7302250) (hk : ∀ (S' : St) (ad' : Nat → Nat → Nat), Inv S' (t + 1) → E b0 D dA (yLw nm) cL_law 4 ret room_1 (EXL b L xs b0) QFL 1237 (lfA [some (.ref b), some (.ref (ad' 0 0)), some (.ref (ad' 16 0)), some (.int (nI (6 * t)))]) [] (dmW S' 0) ad' (cw dA ad' S' S' 0) (c + 3) (s + 14)) : E b0 D dA (yLw nm) cL_law 4 ret room_1 (EXL b L xs b0) QFL 335 (lfA [some (.ref b), some (.ref (ad 0 0)), some (.ref (ad 16 0)), some (.int (nI (6 * t)))]) [] (dmW S 0) ad (cw dA ad S S 0) c s := by
  refine e_aload dL_law_335 rfl ?_
  refine e_aload dL_law_336 rfl ?_
  refine e_iload dL_law_337 rfl ?_
  refine e_push dL_law_338 ?_
  refine e_iadd dL_law_339 ?_
  refine e_sld (6 * t + 1) dL_law_340 (show nI (6 * t) + 1 = nI (6 * t + 1) from nI_add (6 * t) 1) (by omega) (by omega) ?_
  refine e_aload dL_law_341 rfl ?_
  refine e_iload dL_law_342 rfl ?_
  refine e_push dL_law_343 ?_
  refine e_iadd dL_law_344 ?_
  refine e_sld (6 * t + 2) dL_law_345 (show nI (6 * t) + 2 = nI (6 * t + 2) from nI_add (6 * t) 2) (by omega) (by omega) ?_
  refine e_aload dL_law_346 rfl ?_
  refine e_iload dL_law_347 rfl ?_
  refine e_push dL_law_348 ?_
  refine e_iadd dL_law_349 ?_
  refine e_sld (6 * t + 3) dL_law_350 (show nI (6 * t) + 3 = nI (6 * t + 3) from nI_add (6 * t) 3) (by omega) (by omega) ?_
  refine e_callV3 dL_law_351 ca_L_30 (show dmW S 0 0 0 from rfl) cw_0 (rm_law (by decide) (by decide) (by omega) (by omega)) (c_X11_kind I _ _ _ ?_) (by exact Nat.le_of_ble_eq_true rfl)
  refine e_aload dL_law_354 rfl ?_
  refine e_aload dL_law_355 rfl ?_
  refine e_iload dL_law_356 rfl ?_
  refine e_push dL_law_357 ?_
  refine e_iadd dL_law_358 ?_
  refine e_sld (6 * t + 1) dL_law_359 (show nI (6 * t) + 1 = nI (6 * t + 1) from nI_add (6 * t) 1) (by omega) (by omega) ?_
  refine e_aload dL_law_360 rfl ?_
  refine e_iload dL_law_361 rfl ?_
  refine e_push dL_law_362 ?_
  refine e_iadd dL_law_363 ?_
  refine e_sld (6 * t + 2) dL_law_364 (show nI (6 * t) + 2 = nI (6 * t + 2) from nI_add (6 * t) 2) (by omega) (by omega) ?_
  refine e_aload dL_law_365 rfl ?_
  refine e_iload dL_law_366 rfl ?_
  refine e_push dL_law_367 ?_
  refine e_iadd dL_law_368 ?_
  refine e_sld (6 * t + 3) dL_law_369 (show nI (6 * t) + 3 = nI (6 * t + 3) from nI_add (6 * t) 3) (by omega) (by omega) ?_
  refine e_cM ?_
  refine e_callV3 dL_law_370 ca_L_34 (dmW_M _ _).1 ctM_o (rm_law (by decide) (by decide) (by simp only [RmA]; omega) (by simp only [RmA]; omega)) (c_X12_kind (dmW_M _ _) I _ _ _ ?_) (by exact Nat.le_of_ble_eq_true rfl)
  refine e_cM2 ?_
  refine e_icmp_eq dL_law_373 (fun _ => ?_) (fun h => absurd rfl h)
  exact e_wide (by simp only [RmA]; omega) (by simp only [RmA]; omega) (hk _ _ (I.mono (by omega) (by omega)))
set_option maxHeartbeats 4000000 in
set_option maxRecDepth 100000 in
theorem lc_4 {b0 : Nat} {D : va_G} {dA : Nat → ClassId} {nm : String} {b L : Nat} {xs : Nat → Int32} {t c s : Nat} {ad : Nat → Nat → Nat} {S : St} (I : Inv S t) (ht : t < 512) (hL : L ≤ 3072) (h6 : 6 * t + 6 ≤ L) (hc : c + 3 ≤ 600000) (hs : s + 14 ≤ 7302250) (hk : ∀ (S' : St) (ad' : Nat → Nat → Nat), Inv S' (t + 1) → E b0 D dA (yLw nm) cL_law 4 ret room_1 (EXL b L xs b0) QFL 1237 (lfA [some (.ref b), some (.ref (ad' 0 0)), some (.ref (ad' 16 0)), some (.int (nI (6 * t)))]) [] (dmW S' 0) ad' (cw dA ad' S' S' 0) (c + 3) (s + 14)) : E b0 D dA (yLw nm) cL_law 4 ret room_1 (EXL b L xs b0) QFL 378 (lfA [some (.ref b), some (.ref (ad 0 0)), some (.ref (ad 16 0)), some (.int (nI (6 * t)))]) [] (dmW S 0) ad (cw dA ad S S 0) c s := by
  refine e_aload dL_law_378 rfl ?_
  refine e_aload dL_law_379 rfl ?_
  refine e_iload dL_law_380 rfl ?_
  refine e_push dL_law_381 ?_
  refine e_iadd dL_law_382 ?_
  refine e_sld (6 * t + 1) dL_law_383 (show nI (6 * t) + 1 = nI (6 * t + 1) from nI_add (6 * t) 1) (by omega) (by omega) ?_
  refine e_aload dL_law_384 rfl ?_
  refine e_iload dL_law_385 rfl ?_
  refine e_push dL_law_386 ?_
  refine e_iadd dL_law_387 ?_
  refine e_sld (6 * t + 2) dL_law_388 (show nI (6 * t) + 2 = nI (6 * t + 2) from nI_add (6 * t) 2) (by omega) (by omega) ?_
  refine e_i2l dL_law_389 ?_
  refine e_push dL_law_390 ?_
  refine e_lshl dL_law_392 ?_
  refine e_aload dL_law_393 rfl ?_
  refine e_iload dL_law_394 rfl ?_
  refine e_push dL_law_395 ?_
  refine e_iadd dL_law_396 ?_
  refine e_sld (6 * t + 3) dL_law_397 (show nI (6 * t) + 3 = nI (6 * t + 3) from nI_add (6 * t) 3) (by omega) (by omega) ?_
  refine e_i2l dL_law_398 ?_
  refine e_ldc2 dL_law_399 kw_L_13 ?_
  refine e_land dL_law_402 ?_
  refine e_lor dL_law_403 ?_
  refine e_callV2 dL_law_404 ca_L_35 (show dmW S 0 0 0 from rfl) cw_0 (rm_law (by decide) (by decide) (by omega) (by omega)) (c_X11_named I _ _ ?_) (by exact Nat.le_of_ble_eq_true rfl)
  refine e_aload dL_law_407 rfl ?_
  refine e_aload dL_law_408 rfl ?_
  refine e_iload dL_law_409 rfl ?_
  refine e_push dL_law_410 ?_
  refine e_iadd dL_law_411 ?_
  refine e_sld (6 * t + 1) dL_law_412 (show nI (6 * t) + 1 = nI (6 * t + 1) from nI_add (6 * t) 1) (by omega) (by omega) ?_
  refine e_aload dL_law_413 rfl ?_
  refine e_iload dL_law_414 rfl ?_
  refine e_push dL_law_415 ?_
  refine e_iadd dL_law_416 ?_
  refine e_sld (6 * t + 2) dL_law_417 (show nI (6 * t) + 2 = nI (6 * t + 2) from nI_add (6 * t) 2) (by omega) (by omega) ?_
  refine e_i2l dL_law_418 ?_
  refine e_push dL_law_419 ?_
  refine e_lshl dL_law_421 ?_
  refine e_aload dL_law_422 rfl ?_
  refine e_iload dL_law_423 rfl ?_
  refine e_push dL_law_424 ?_
  refine e_iadd dL_law_425 ?_
  refine e_sld (6 * t + 3) dL_law_426 (show nI (6 * t) + 3 = nI (6 * t + 3) from nI_add (6 * t) 3) (by omega) (by omega) ?_
  refine e_i2l dL_law_427 ?_
  refine e_ldc2 dL_law_428 kw_L_13 ?_
  refine e_land dL_law_431 ?_
  refine e_lor dL_law_432 ?_
  refine e_cM ?_
  refine e_callV2 dL_law_433 ca_L_39 (dmW_M _ _).1 ctM_o (rm_law (by decide) (by decide) (by simp only [RmA]; omega) (by simp only [RmA]; omega)) (c_X12_named (dmW_M _ _) I _ _ ?_) (by exact Nat.le_of_ble_eq_true rfl)
  refine e_cM2 ?_
  refine e_icmp_eq dL_law_436 (fun _ => ?_) (fun h => absurd rfl h)
  exact e_wide (by simp only [RmA]; omega) (by simp only [RmA]; omega) (hk _ _ (I.mono (by omega) (by omega)))
set_option maxHeartbeats 4000000 in
set_option maxRecDepth 100000 in
theorem lc_5 {b0 : Nat} {D : va_G} {dA : Nat → ClassId} {nm : String} {b L : Nat} {xs : Nat → Int32} {t c s : Nat} {ad : Nat → Nat → Nat} {S : St} (I : Inv S t) (ht : t < 512) (hL : L ≤ 3072) (h6 : 6 * t + 6 ≤ L) (hc : c + 3 ≤ 600000) (hs : s + 14 ≤ 7302250) (hk : ∀ (S' : St) (ad' : Nat → Nat → Nat), Inv S' (t + 1) → E b0 D dA (yLw nm) cL_law 4 ret room_1 (EXL b L xs b0) QFL 1237 (lfA [some (.ref b), some (.ref (ad' 0 0)), some (.ref (ad' 16 0)), some (.int (nI (6 * t)))]) [] (dmW S' 0) ad' (cw dA ad' S' S' 0) (c + 3) (s + 14)) : E b0 D dA (yLw nm) cL_law 4 ret room_1 (EXL b L xs b0) QFL 441 (lfA [some (.ref b), some (.ref (ad 0 0)), some (.ref (ad 16 0)), some (.int (nI (6 * t)))]) [] (dmW S 0) ad (cw dA ad S S 0) c s := by
  refine e_aload dL_law_441 rfl ?_
  refine e_aload dL_law_442 rfl ?_
  refine e_iload dL_law_443 rfl ?_
  refine e_push dL_law_444 ?_
  refine e_iadd dL_law_445 ?_
  refine e_sld (6 * t + 1) dL_law_446 (show nI (6 * t) + 1 = nI (6 * t + 1) from nI_add (6 * t) 1) (by omega) (by omega) ?_
  refine e_aload dL_law_447 rfl ?_
  refine e_iload dL_law_448 rfl ?_
  refine e_push dL_law_449 ?_
  refine e_iadd dL_law_450 ?_
  refine e_sld (6 * t + 2) dL_law_451 (show nI (6 * t) + 2 = nI (6 * t + 2) from nI_add (6 * t) 2) (by omega) (by omega) ?_
  refine e_callV2 dL_law_452 ca_L_40 (show dmW S 0 0 0 from rfl) cw_0 (rm_law (by decide) (by decide) (by omega) (by omega)) (c_X11_order I _ _ ?_) (by exact Nat.le_of_ble_eq_true rfl)
  refine e_aload dL_law_455 rfl ?_
  refine e_aload dL_law_456 rfl ?_
  refine e_iload dL_law_457 rfl ?_
  refine e_push dL_law_458 ?_
  refine e_iadd dL_law_459 ?_
  refine e_sld (6 * t + 1) dL_law_460 (show nI (6 * t) + 1 = nI (6 * t + 1) from nI_add (6 * t) 1) (by omega) (by omega) ?_
  refine e_aload dL_law_461 rfl ?_
  refine e_iload dL_law_462 rfl ?_
  refine e_push dL_law_463 ?_
  refine e_iadd dL_law_464 ?_
  refine e_sld (6 * t + 2) dL_law_465 (show nI (6 * t) + 2 = nI (6 * t + 2) from nI_add (6 * t) 2) (by omega) (by omega) ?_
  refine e_cM ?_
  refine e_callV2 dL_law_466 ca_L_43 (dmW_M _ _).1 ctM_o (rm_law (by decide) (by decide) (by simp only [RmA]; omega) (by simp only [RmA]; omega)) (c_X12_order (dmW_M _ _) I _ _ ?_) (by exact Nat.le_of_ble_eq_true rfl)
  refine e_cM2 ?_
  refine e_icmp_eq dL_law_469 (fun _ => ?_) (fun h => absurd rfl h)
  exact e_wide (by simp only [RmA]; omega) (by simp only [RmA]; omega) (hk _ _ (I.mono (by omega) (by omega)))
set_option maxHeartbeats 4000000 in
set_option maxRecDepth 100000 in
theorem lc_6 {b0 : Nat} {D : va_G} {dA : Nat → ClassId} {nm : String} {b L : Nat} {xs : Nat → Int32} {t c s : Nat} {ad : Nat → Nat → Nat} {S : St} (I : Inv S t) (ht : t < 512) (hL : L ≤ 3072) (h6 : 6 * t + 6 ≤ L) (hc : c + 3 ≤ 600000) (hs : s + 14 ≤ 7302250) (hk : ∀ (S' : St) (ad' : Nat → Nat → Nat), Inv S' (t + 1) → E b0 D dA (yLw nm) cL_law 4 ret room_1 (EXL b L xs b0) QFL 1237 (lfA [some (.ref b), some (.ref (ad' 0 0)), some (.ref (ad' 16 0)), some (.int (nI (6 * t)))]) [] (dmW S' 0) ad' (cw dA ad' S' S' 0) (c + 3) (s + 14)) : E b0 D dA (yLw nm) cL_law 4 ret room_1 (EXL b L xs b0) QFL 474 (lfA [some (.ref b), some (.ref (ad 0 0)), some (.ref (ad 16 0)), some (.int (nI (6 * t)))]) [] (dmW S 0) ad (cw dA ad S S 0) c s := by
  refine e_aload dL_law_474 rfl ?_
  refine e_aload dL_law_475 rfl ?_
  refine e_iload dL_law_476 rfl ?_
  refine e_push dL_law_477 ?_
  refine e_iadd dL_law_478 ?_
  refine e_sld (6 * t + 1) dL_law_479 (show nI (6 * t) + 1 = nI (6 * t + 1) from nI_add (6 * t) 1) (by omega) (by omega) ?_
  refine e_aload dL_law_480 rfl ?_
  refine e_iload dL_law_481 rfl ?_
  refine e_push dL_law_482 ?_
  refine e_iadd dL_law_483 ?_
  refine e_sld (6 * t + 2) dL_law_484 (show nI (6 * t) + 2 = nI (6 * t + 2) from nI_add (6 * t) 2) (by omega) (by omega) ?_
  refine e_callV2 dL_law_485 ca_L_44 (show dmW S 0 0 0 from rfl) cw_0 (rm_law (by decide) (by decide) (by omega) (by omega)) (c_X11_about I _ _ ?_) (by exact Nat.le_of_ble_eq_true rfl)
  refine e_aload dL_law_488 rfl ?_
  refine e_aload dL_law_489 rfl ?_
  refine e_iload dL_law_490 rfl ?_
  refine e_push dL_law_491 ?_
  refine e_iadd dL_law_492 ?_
  refine e_sld (6 * t + 1) dL_law_493 (show nI (6 * t) + 1 = nI (6 * t + 1) from nI_add (6 * t) 1) (by omega) (by omega) ?_
  refine e_aload dL_law_494 rfl ?_
  refine e_iload dL_law_495 rfl ?_
  refine e_push dL_law_496 ?_
  refine e_iadd dL_law_497 ?_
  refine e_sld (6 * t + 2) dL_law_498 (show nI (6 * t) + 2 = nI (6 * t + 2) from nI_add (6 * t) 2) (by omega) (by omega) ?_
  refine e_cM ?_
  refine e_callV2 dL_law_499 ca_L_47 (dmW_M _ _).1 ctM_o (rm_law (by decide) (by decide) (by simp only [RmA]; omega) (by simp only [RmA]; omega)) (c_X12_about (dmW_M _ _) I _ _ ?_) (by exact Nat.le_of_ble_eq_true rfl)
  refine e_cM2 ?_
  refine e_icmp_eq dL_law_502 (fun _ => ?_) (fun h => absurd rfl h)
  exact e_wide (by simp only [RmA]; omega) (by simp only [RmA]; omega) (hk _ _ (I.mono (by omega) (by omega)))
set_option maxHeartbeats 4000000 in
set_option maxRecDepth 100000 in
theorem lc_7 {b0 : Nat} {D : va_G} {dA : Nat → ClassId} {nm : String} {b L : Nat} {xs : Nat → Int32} {t c s : Nat} {ad : Nat → Nat → Nat} {S : St} (I : Inv S t) (ht : t < 512) (hL : L ≤ 3072) (h6 : 6 * t + 6 ≤ L) (hc : c + 3 ≤ 600000) (hs : s + 14 ≤ 7302250) (hk : ∀ (S' : St) (ad' : Nat → Nat → Nat), Inv S' (t + 1) → E b0 D dA (yLw nm) cL_law 4 ret room_1 (EXL b L xs b0) QFL 1237 (lfA [some (.ref b), some (.ref (ad' 0 0)), some (.ref (ad' 16 0)), some (.int (nI (6 * t)))]) [] (dmW S' 0) ad' (cw dA ad' S' S' 0) (c + 3) (s + 14)) : E b0 D dA (yLw nm) cL_law 4 ret room_1 (EXL b L xs b0) QFL 507 (lfA [some (.ref b), some (.ref (ad 0 0)), some (.ref (ad 16 0)), some (.int (nI (6 * t)))]) [] (dmW S 0) ad (cw dA ad S S 0) c s := by
  refine e_aload dL_law_507 rfl ?_
  refine e_aload dL_law_508 rfl ?_
  refine e_iload dL_law_509 rfl ?_
  refine e_push dL_law_510 ?_
  refine e_iadd dL_law_511 ?_
  refine e_sld (6 * t + 1) dL_law_512 (show nI (6 * t) + 1 = nI (6 * t + 1) from nI_add (6 * t) 1) (by omega) (by omega) ?_
  refine e_aload dL_law_513 rfl ?_
  refine e_iload dL_law_514 rfl ?_
  refine e_push dL_law_515 ?_
  refine e_iadd dL_law_516 ?_
  refine e_sld (6 * t + 2) dL_law_517 (show nI (6 * t) + 2 = nI (6 * t + 2) from nI_add (6 * t) 2) (by omega) (by omega) ?_
  refine e_callV2 dL_law_518 ca_L_48 (show dmW S 0 0 0 from rfl) cw_0 (rm_law (by decide) (by decide) (by omega) (by omega)) (c_X11_worth I _ _ ?_) (by exact Nat.le_of_ble_eq_true rfl)
  refine e_aload dL_law_521 rfl ?_
  refine e_aload dL_law_522 rfl ?_
  refine e_iload dL_law_523 rfl ?_
  refine e_push dL_law_524 ?_
  refine e_iadd dL_law_525 ?_
  refine e_sld (6 * t + 1) dL_law_526 (show nI (6 * t) + 1 = nI (6 * t + 1) from nI_add (6 * t) 1) (by omega) (by omega) ?_
  refine e_aload dL_law_527 rfl ?_
  refine e_iload dL_law_528 rfl ?_
  refine e_push dL_law_529 ?_
  refine e_iadd dL_law_530 ?_
  refine e_sld (6 * t + 2) dL_law_531 (show nI (6 * t) + 2 = nI (6 * t + 2) from nI_add (6 * t) 2) (by omega) (by omega) ?_
  refine e_cM ?_
  refine e_callV2 dL_law_532 ca_L_51 (dmW_M _ _).1 ctM_o (rm_law (by decide) (by decide) (by simp only [RmA]; omega) (by simp only [RmA]; omega)) (c_X12_worth (dmW_M _ _) I _ _ ?_) (by exact Nat.le_of_ble_eq_true rfl)
  refine e_cM2 ?_
  refine e_icmp_eq dL_law_535 (fun _ => ?_) (fun h => absurd rfl h)
  exact e_wide (by simp only [RmA]; omega) (by simp only [RmA]; omega) (hk _ _ (I.worth.mono (by omega) (by omega)))
set_option maxHeartbeats 4000000 in
set_option maxRecDepth 100000 in
theorem lc_8 {b0 : Nat} {D : va_G} {dA : Nat → ClassId} {nm : String} {b L : Nat} {xs : Nat → Int32} {t c s : Nat} {ad : Nat → Nat → Nat} {S : St} (I : Inv S t) (ht : t < 512) (hL : L ≤ 3072) (h6 : 6 * t + 6 ≤ L) (hc : c + 3 ≤ 600000) (hs : s + 14 ≤ 7302250) (hk : ∀ (S' : St) (ad' : Nat → Nat → Nat), Inv S' (t + 1) → E b0 D dA (yLw nm) cL_law 4 ret room_1 (EXL b L xs b0) QFL 1237 (lfA [some (.ref b), some (.ref (ad' 0 0)), some (.ref (ad' 16 0)), some (.int (nI (6 * t)))]) [] (dmW S' 0) ad' (cw dA ad' S' S' 0) (c + 3) (s + 14)) : E b0 D dA (yLw nm) cL_law 4 ret room_1 (EXL b L xs b0) QFL 540 (lfA [some (.ref b), some (.ref (ad 0 0)), some (.ref (ad 16 0)), some (.int (nI (6 * t)))]) [] (dmW S 0) ad (cw dA ad S S 0) c s := by
  refine e_aload dL_law_540 rfl ?_
  refine e_aload dL_law_541 rfl ?_
  refine e_iload dL_law_542 rfl ?_
  refine e_push dL_law_543 ?_
  refine e_iadd dL_law_544 ?_
  refine e_sld (6 * t + 1) dL_law_545 (show nI (6 * t) + 1 = nI (6 * t + 1) from nI_add (6 * t) 1) (by omega) (by omega) ?_
  refine e_aload dL_law_546 rfl ?_
  refine e_iload dL_law_547 rfl ?_
  refine e_push dL_law_548 ?_
  refine e_iadd dL_law_549 ?_
  refine e_sld (6 * t + 2) dL_law_550 (show nI (6 * t) + 2 = nI (6 * t + 2) from nI_add (6 * t) 2) (by omega) (by omega) ?_
  refine e_callV2 dL_law_551 ca_L_52 (show dmW S 0 0 0 from rfl) cw_0 (rm_law (by decide) (by decide) (by omega) (by omega)) (c_X11_weigh I _ _ ?_) (by exact Nat.le_of_ble_eq_true rfl)
  refine e_aload dL_law_554 rfl ?_
  refine e_aload dL_law_555 rfl ?_
  refine e_iload dL_law_556 rfl ?_
  refine e_push dL_law_557 ?_
  refine e_iadd dL_law_558 ?_
  refine e_sld (6 * t + 1) dL_law_559 (show nI (6 * t) + 1 = nI (6 * t + 1) from nI_add (6 * t) 1) (by omega) (by omega) ?_
  refine e_aload dL_law_560 rfl ?_
  refine e_iload dL_law_561 rfl ?_
  refine e_push dL_law_562 ?_
  refine e_iadd dL_law_563 ?_
  refine e_sld (6 * t + 2) dL_law_564 (show nI (6 * t) + 2 = nI (6 * t + 2) from nI_add (6 * t) 2) (by omega) (by omega) ?_
  refine e_cM ?_
  refine e_callV2 dL_law_565 ca_L_55 (dmW_M _ _).1 ctM_o (rm_law (by decide) (by decide) (by simp only [RmA]; omega) (by simp only [RmA]; omega)) (c_X12_weigh (dmW_M _ _) I _ _ ?_) (by exact Nat.le_of_ble_eq_true rfl)
  refine e_cM2 ?_
  refine e_icmp_eq dL_law_568 (fun _ => ?_) (fun h => absurd rfl h)
  exact e_wide (by simp only [RmA]; omega) (by simp only [RmA]; omega) (hk _ _ (I.weigh.mono (by omega) (by omega)))
set_option maxHeartbeats 4000000 in
set_option maxRecDepth 100000 in
theorem lc_9 {b0 : Nat} {D : va_G} {dA : Nat → ClassId} {nm : String} {b L : Nat} {xs : Nat → Int32} {t c s : Nat} {ad : Nat → Nat → Nat} {S : St} (I : Inv S t) (ht : t < 512) (hL : L ≤ 3072) (h6 : 6 * t + 6 ≤ L) (hc : c + 3 ≤ 600000) (hs : s + 14 ≤ 7302250) (hk : ∀ (S' : St) (ad' : Nat → Nat → Nat), Inv S' (t + 1) → E b0 D dA (yLw nm) cL_law 4 ret room_1 (EXL b L xs b0) QFL 1237 (lfA [some (.ref b), some (.ref (ad' 0 0)), some (.ref (ad' 16 0)), some (.int (nI (6 * t)))]) [] (dmW S' 0) ad' (cw dA ad' S' S' 0) (c + 3) (s + 14)) : E b0 D dA (yLw nm) cL_law 4 ret room_1 (EXL b L xs b0) QFL 573 (lfA [some (.ref b), some (.ref (ad 0 0)), some (.ref (ad 16 0)), some (.int (nI (6 * t)))]) [] (dmW S 0) ad (cw dA ad S S 0) c s := by
  refine e_aload dL_law_573 rfl ?_
  refine e_aload dL_law_574 rfl ?_
  refine e_iload dL_law_575 rfl ?_
  refine e_push dL_law_576 ?_
  refine e_iadd dL_law_577 ?_
  refine e_sld (6 * t + 1) dL_law_578 (show nI (6 * t) + 1 = nI (6 * t + 1) from nI_add (6 * t) 1) (by omega) (by omega) ?_
  refine e_aload dL_law_579 rfl ?_
  refine e_iload dL_law_580 rfl ?_
  refine e_push dL_law_581 ?_
  refine e_iadd dL_law_582 ?_
  refine e_sld (6 * t + 2) dL_law_583 (show nI (6 * t) + 2 = nI (6 * t + 2) from nI_add (6 * t) 2) (by omega) (by omega) ?_
  refine e_callV2 dL_law_584 ca_L_56 (show dmW S 0 0 0 from rfl) cw_0 (rm_law (by decide) (by decide) (by omega) (by omega)) (c_X11_table I _ _ ?_) (by exact Nat.le_of_ble_eq_true rfl)
  refine e_aload dL_law_587 rfl ?_
  refine e_aload dL_law_588 rfl ?_
  refine e_iload dL_law_589 rfl ?_
  refine e_push dL_law_590 ?_
  refine e_iadd dL_law_591 ?_
  refine e_sld (6 * t + 1) dL_law_592 (show nI (6 * t) + 1 = nI (6 * t + 1) from nI_add (6 * t) 1) (by omega) (by omega) ?_
  refine e_aload dL_law_593 rfl ?_
  refine e_iload dL_law_594 rfl ?_
  refine e_push dL_law_595 ?_
  refine e_iadd dL_law_596 ?_
  refine e_sld (6 * t + 2) dL_law_597 (show nI (6 * t) + 2 = nI (6 * t + 2) from nI_add (6 * t) 2) (by omega) (by omega) ?_
  refine e_cM ?_
  refine e_callV2 dL_law_598 ca_L_59 (dmW_M _ _).1 ctM_o (rm_law (by decide) (by decide) (by simp only [RmA]; omega) (by simp only [RmA]; omega)) (c_X12_table (dmW_M _ _) I _ _ ?_) (by exact Nat.le_of_ble_eq_true rfl)
  refine e_cM2 ?_
  refine e_icmp_eq dL_law_601 (fun _ => ?_) (fun h => absurd rfl h)
  exact e_wide (by simp only [RmA]; omega) (by simp only [RmA]; omega) (hk _ _ (I.mono (by omega) (by omega)))
set_option maxHeartbeats 4000000 in
set_option maxRecDepth 100000 in
theorem lc_10 {b0 : Nat} {D : va_G} {dA : Nat → ClassId} {nm : String} {b L : Nat} {xs : Nat → Int32} {t c s : Nat} {ad : Nat → Nat → Nat} {S : St} (I : Inv S t) (ht : t < 512) (hL : L ≤ 3072) (h6 : 6 * t + 6 ≤ L) (hc : c + 3 ≤ 600000) (hs : s + 14 ≤ 7302250) (hk : ∀ (S' : St) (ad' : Nat → Nat → Nat), Inv S' (t + 1) → E b0 D dA (yLw nm) cL_law 4 ret room_1 (EXL b L xs b0) QFL 1237 (lfA [some (.ref b), some (.ref (ad' 0 0)), some (.ref (ad' 16 0)), some (.int (nI (6 * t)))]) [] (dmW S' 0) ad' (cw dA ad' S' S' 0) (c + 3) (s + 14)) : E b0 D dA (yLw nm) cL_law 4 ret room_1 (EXL b L xs b0) QFL 606 (lfA [some (.ref b), some (.ref (ad 0 0)), some (.ref (ad 16 0)), some (.int (nI (6 * t)))]) [] (dmW S 0) ad (cw dA ad S S 0) c s := by
  refine e_aload dL_law_606 rfl ?_
  refine e_aload dL_law_607 rfl ?_
  refine e_iload dL_law_608 rfl ?_
  refine e_push dL_law_609 ?_
  refine e_iadd dL_law_610 ?_
  refine e_sld (6 * t + 1) dL_law_611 (show nI (6 * t) + 1 = nI (6 * t + 1) from nI_add (6 * t) 1) (by omega) (by omega) ?_
  refine e_aload dL_law_612 rfl ?_
  refine e_iload dL_law_613 rfl ?_
  refine e_push dL_law_614 ?_
  refine e_iadd dL_law_615 ?_
  refine e_sld (6 * t + 2) dL_law_616 (show nI (6 * t) + 2 = nI (6 * t + 2) from nI_add (6 * t) 2) (by omega) (by omega) ?_
  refine e_aload dL_law_617 rfl ?_
  refine e_iload dL_law_618 rfl ?_
  refine e_push dL_law_619 ?_
  refine e_iadd dL_law_620 ?_
  refine e_sld (6 * t + 3) dL_law_621 (show nI (6 * t) + 3 = nI (6 * t + 3) from nI_add (6 * t) 3) (by omega) (by omega) ?_
  refine e_i2l dL_law_622 ?_
  refine e_push dL_law_623 ?_
  refine e_lshl dL_law_625 ?_
  refine e_aload dL_law_626 rfl ?_
  refine e_iload dL_law_627 rfl ?_
  refine e_push dL_law_628 ?_
  refine e_iadd dL_law_629 ?_
  refine e_sld (6 * t + 4) dL_law_630 (show nI (6 * t) + 4 = nI (6 * t + 4) from nI_add (6 * t) 4) (by omega) (by omega) ?_
  refine e_i2l dL_law_631 ?_
  refine e_ldc2 dL_law_632 kw_L_13 ?_
  refine e_land dL_law_635 ?_
  refine e_lor dL_law_636 ?_
  refine e_aload dL_law_637 rfl ?_
  refine e_iload dL_law_638 rfl ?_
  refine e_push dL_law_639 ?_
  refine e_iadd dL_law_640 ?_
  refine e_sld (6 * t + 5) dL_law_641 (show nI (6 * t) + 5 = nI (6 * t + 5) from nI_add (6 * t) 5) (by omega) (by omega) ?_
  refine e_callV4 dL_law_642 ca_L_60 (show dmW S 0 0 0 from rfl) cw_0 (rm_law (by decide) (by decide) (by omega) (by omega)) (c_X11_draw I _ _ _ _ ?_) (by exact Nat.le_of_ble_eq_true rfl)
  refine e_aload dL_law_645 rfl ?_
  refine e_aload dL_law_646 rfl ?_
  refine e_iload dL_law_647 rfl ?_
  refine e_push dL_law_648 ?_
  refine e_iadd dL_law_649 ?_
  refine e_sld (6 * t + 1) dL_law_650 (show nI (6 * t) + 1 = nI (6 * t + 1) from nI_add (6 * t) 1) (by omega) (by omega) ?_
  refine e_aload dL_law_651 rfl ?_
  refine e_iload dL_law_652 rfl ?_
  refine e_push dL_law_653 ?_
  refine e_iadd dL_law_654 ?_
  refine e_sld (6 * t + 2) dL_law_655 (show nI (6 * t) + 2 = nI (6 * t + 2) from nI_add (6 * t) 2) (by omega) (by omega) ?_
  refine e_aload dL_law_656 rfl ?_
  refine e_iload dL_law_657 rfl ?_
  refine e_push dL_law_658 ?_
  refine e_iadd dL_law_659 ?_
  refine e_sld (6 * t + 3) dL_law_660 (show nI (6 * t) + 3 = nI (6 * t + 3) from nI_add (6 * t) 3) (by omega) (by omega) ?_
  refine e_i2l dL_law_661 ?_
  refine e_push dL_law_662 ?_
  refine e_lshl dL_law_664 ?_
  refine e_aload dL_law_665 rfl ?_
  refine e_iload dL_law_666 rfl ?_
  refine e_push dL_law_667 ?_
  refine e_iadd dL_law_668 ?_
  refine e_sld (6 * t + 4) dL_law_669 (show nI (6 * t) + 4 = nI (6 * t + 4) from nI_add (6 * t) 4) (by omega) (by omega) ?_
  refine e_i2l dL_law_670 ?_
  refine e_ldc2 dL_law_671 kw_L_13 ?_
  refine e_land dL_law_674 ?_
  refine e_lor dL_law_675 ?_
  refine e_aload dL_law_676 rfl ?_
  refine e_iload dL_law_677 rfl ?_
  refine e_push dL_law_678 ?_
  refine e_iadd dL_law_679 ?_
  refine e_sld (6 * t + 5) dL_law_680 (show nI (6 * t) + 5 = nI (6 * t + 5) from nI_add (6 * t) 5) (by omega) (by omega) ?_
  refine e_cM ?_
  refine e_callV4 dL_law_681 ca_L_64 (dmW_M _ _).1 ctM_o (rm_law (by decide) (by decide) (by simp only [RmA]; omega) (by simp only [RmA]; omega)) (c_X12_draw (dmW_M _ _) I _ _ _ _ ?_) (by exact Nat.le_of_ble_eq_true rfl)
  refine e_cM2 ?_
  refine e_icmp_eq dL_law_684 (fun _ => ?_) (fun h => absurd rfl h)
  exact e_wide (by simp only [RmA]; omega) (by simp only [RmA]; omega) (hk _ _ (I.draw.mono (by omega) (by omega)))
set_option maxHeartbeats 4000000 in
set_option maxRecDepth 100000 in
theorem lc_11 {b0 : Nat} {D : va_G} {dA : Nat → ClassId} {nm : String} {b L : Nat} {xs : Nat → Int32} {t c s : Nat} {ad : Nat → Nat → Nat} {S : St} (I : Inv S t) (ht : t < 512) (hL : L ≤ 3072) (h6 : 6 * t + 6 ≤ L) (hc : c + 3 ≤ 600000) (hs : s + 14 ≤ 7302250) (hk : ∀ (S' : St) (ad' : Nat → Nat → Nat), Inv S' (t + 1) → E b0 D dA (yLw nm) cL_law 4 ret room_1 (EXL b L xs b0) QFL 1237 (lfA [some (.ref b), some (.ref (ad' 0 0)), some (.ref (ad' 16 0)), some (.int (nI (6 * t)))]) [] (dmW S' 0) ad' (cw dA ad' S' S' 0) (c + 3) (s + 14)) : E b0 D dA (yLw nm) cL_law 4 ret room_1 (EXL b L xs b0) QFL 689 (lfA [some (.ref b), some (.ref (ad 0 0)), some (.ref (ad 16 0)), some (.int (nI (6 * t)))]) [] (dmW S 0) ad (cw dA ad S S 0) c s := by
  refine e_aload dL_law_689 rfl ?_
  refine e_aload dL_law_690 rfl ?_
  refine e_iload dL_law_691 rfl ?_
  refine e_push dL_law_692 ?_
  refine e_iadd dL_law_693 ?_
  refine e_sld (6 * t + 1) dL_law_694 (show nI (6 * t) + 1 = nI (6 * t + 1) from nI_add (6 * t) 1) (by omega) (by omega) ?_
  refine e_aload dL_law_695 rfl ?_
  refine e_iload dL_law_696 rfl ?_
  refine e_push dL_law_697 ?_
  refine e_iadd dL_law_698 ?_
  refine e_sld (6 * t + 2) dL_law_699 (show nI (6 * t) + 2 = nI (6 * t + 2) from nI_add (6 * t) 2) (by omega) (by omega) ?_
  refine e_callV2 dL_law_700 ca_L_65 (show dmW S 0 0 0 from rfl) cw_0 (rm_law (by decide) (by decide) (by omega) (by omega)) (c_X11_hold I _ _ ?_) (by exact Nat.le_of_ble_eq_true rfl)
  refine e_aload dL_law_703 rfl ?_
  refine e_aload dL_law_704 rfl ?_
  refine e_iload dL_law_705 rfl ?_
  refine e_push dL_law_706 ?_
  refine e_iadd dL_law_707 ?_
  refine e_sld (6 * t + 1) dL_law_708 (show nI (6 * t) + 1 = nI (6 * t + 1) from nI_add (6 * t) 1) (by omega) (by omega) ?_
  refine e_aload dL_law_709 rfl ?_
  refine e_iload dL_law_710 rfl ?_
  refine e_push dL_law_711 ?_
  refine e_iadd dL_law_712 ?_
  refine e_sld (6 * t + 2) dL_law_713 (show nI (6 * t) + 2 = nI (6 * t + 2) from nI_add (6 * t) 2) (by omega) (by omega) ?_
  refine e_cM ?_
  refine e_callV2 dL_law_714 ca_L_68 (dmW_M _ _).1 ctM_o (rm_law (by decide) (by decide) (by simp only [RmA]; omega) (by simp only [RmA]; omega)) (c_X12_hold (dmW_M _ _) I _ _ ?_) (by exact Nat.le_of_ble_eq_true rfl)
  refine e_cM2 ?_
  refine e_icmp_eq dL_law_717 (fun _ => ?_) (fun h => absurd rfl h)
  exact e_wide (by simp only [RmA]; omega) (by simp only [RmA]; omega) (hk _ _ (I.hold.mono (by omega) (by omega)))
set_option maxHeartbeats 4000000 in
set_option maxRecDepth 100000 in
theorem lc_12 {b0 : Nat} {D : va_G} {dA : Nat → ClassId} {nm : String} {b L : Nat} {xs : Nat → Int32} {t c s : Nat} {ad : Nat → Nat → Nat} {S : St} (I : Inv S t) (ht : t < 512) (hL : L ≤ 3072) (h6 : 6 * t + 6 ≤ L) (hc : c + 3 ≤ 600000) (hs : s + 14 ≤ 7302250) (hk : ∀ (S' : St) (ad' : Nat → Nat → Nat), Inv S' (t + 1) → E b0 D dA (yLw nm) cL_law 4 ret room_1 (EXL b L xs b0) QFL 1237 (lfA [some (.ref b), some (.ref (ad' 0 0)), some (.ref (ad' 16 0)), some (.int (nI (6 * t)))]) [] (dmW S' 0) ad' (cw dA ad' S' S' 0) (c + 3) (s + 14)) : E b0 D dA (yLw nm) cL_law 4 ret room_1 (EXL b L xs b0) QFL 722 (lfA [some (.ref b), some (.ref (ad 0 0)), some (.ref (ad 16 0)), some (.int (nI (6 * t)))]) [] (dmW S 0) ad (cw dA ad S S 0) c s := by
  refine e_aload dL_law_722 rfl ?_
  refine e_aload dL_law_723 rfl ?_
  refine e_iload dL_law_724 rfl ?_
  refine e_push dL_law_725 ?_
  refine e_iadd dL_law_726 ?_
  refine e_sld (6 * t + 1) dL_law_727 (show nI (6 * t) + 1 = nI (6 * t + 1) from nI_add (6 * t) 1) (by omega) (by omega) ?_
  refine e_aload dL_law_728 rfl ?_
  refine e_iload dL_law_729 rfl ?_
  refine e_push dL_law_730 ?_
  refine e_iadd dL_law_731 ?_
  refine e_sld (6 * t + 2) dL_law_732 (show nI (6 * t) + 2 = nI (6 * t + 2) from nI_add (6 * t) 2) (by omega) (by omega) ?_
  refine e_callV2 dL_law_733 ca_L_69 (show dmW S 0 0 0 from rfl) cw_0 (rm_law (by decide) (by decide) (by omega) (by omega)) (c_X11_row I _ _ (fun ad2 g1 g2 => ?_)) (by exact Nat.le_of_ble_eq_true rfl)
  rw [← g1, ← g2]
  refine e_aload dL_law_736 rfl ?_
  refine e_aload dL_law_737 rfl ?_
  refine e_iload dL_law_738 rfl ?_
  refine e_push dL_law_739 ?_
  refine e_iadd dL_law_740 ?_
  refine e_sld (6 * t + 1) dL_law_741 (show nI (6 * t) + 1 = nI (6 * t + 1) from nI_add (6 * t) 1) (by omega) (by omega) ?_
  refine e_aload dL_law_742 rfl ?_
  refine e_iload dL_law_743 rfl ?_
  refine e_push dL_law_744 ?_
  refine e_iadd dL_law_745 ?_
  refine e_sld (6 * t + 2) dL_law_746 (show nI (6 * t) + 2 = nI (6 * t + 2) from nI_add (6 * t) 2) (by omega) (by omega) ?_
  refine e_cM ?_
  refine e_callV2 dL_law_747 ca_L_72 (dmW_M _ _).1 ctM_o (rm_law (by decide) (by decide) (by simp only [RmA]; omega) (by simp only [RmA]; omega)) (c_X12_row (dmW_M _ _) I _ _ ht ?_) (by exact Nat.le_of_ble_eq_true rfl)
  refine e_cM2 ?_
  refine e_icmp_eq dL_law_750 (fun _ => ?_) (fun h => absurd rfl h)
  exact e_wide (by simp only [RmA]; omega) (by simp only [RmA]; omega) (hk _ _ (I.row ht))
set_option maxHeartbeats 4000000 in
set_option maxRecDepth 100000 in
theorem lc_13 {b0 : Nat} {D : va_G} {dA : Nat → ClassId} {nm : String} {b L : Nat} {xs : Nat → Int32} {t c s : Nat} {ad : Nat → Nat → Nat} {S : St} (I : Inv S t) (ht : t < 512) (hL : L ≤ 3072) (h6 : 6 * t + 6 ≤ L) (hc : c + 3 ≤ 600000) (hs : s + 14 ≤ 7302250) (hk : ∀ (S' : St) (ad' : Nat → Nat → Nat), Inv S' (t + 1) → E b0 D dA (yLw nm) cL_law 4 ret room_1 (EXL b L xs b0) QFL 1237 (lfA [some (.ref b), some (.ref (ad' 0 0)), some (.ref (ad' 16 0)), some (.int (nI (6 * t)))]) [] (dmW S' 0) ad' (cw dA ad' S' S' 0) (c + 3) (s + 14)) : E b0 D dA (yLw nm) cL_law 4 ret room_1 (EXL b L xs b0) QFL 755 (lfA [some (.ref b), some (.ref (ad 0 0)), some (.ref (ad 16 0)), some (.int (nI (6 * t)))]) [] (dmW S 0) ad (cw dA ad S S 0) c s := by
  refine e_aload dL_law_755 rfl ?_
  refine e_aload dL_law_756 rfl ?_
  refine e_iload dL_law_757 rfl ?_
  refine e_push dL_law_758 ?_
  refine e_iadd dL_law_759 ?_
  refine e_sld (6 * t + 1) dL_law_760 (show nI (6 * t) + 1 = nI (6 * t + 1) from nI_add (6 * t) 1) (by omega) (by omega) ?_
  refine e_aload dL_law_761 rfl ?_
  refine e_iload dL_law_762 rfl ?_
  refine e_push dL_law_763 ?_
  refine e_iadd dL_law_764 ?_
  refine e_sld (6 * t + 2) dL_law_765 (show nI (6 * t) + 2 = nI (6 * t + 2) from nI_add (6 * t) 2) (by omega) (by omega) ?_
  refine e_aload dL_law_766 rfl ?_
  refine e_iload dL_law_767 rfl ?_
  refine e_push dL_law_768 ?_
  refine e_iadd dL_law_769 ?_
  refine e_sld (6 * t + 3) dL_law_770 (show nI (6 * t) + 3 = nI (6 * t + 3) from nI_add (6 * t) 3) (by omega) (by omega) ?_
  refine e_callV3 dL_law_771 ca_L_73 (show dmW S 0 0 0 from rfl) cw_0 (rm_law (by decide) (by decide) (by omega) (by omega)) (c_X11_item I _ _ _ ?_) (by exact Nat.le_of_ble_eq_true rfl)
  refine e_aload dL_law_774 rfl ?_
  refine e_aload dL_law_775 rfl ?_
  refine e_iload dL_law_776 rfl ?_
  refine e_push dL_law_777 ?_
  refine e_iadd dL_law_778 ?_
  refine e_sld (6 * t + 1) dL_law_779 (show nI (6 * t) + 1 = nI (6 * t + 1) from nI_add (6 * t) 1) (by omega) (by omega) ?_
  refine e_aload dL_law_780 rfl ?_
  refine e_iload dL_law_781 rfl ?_
  refine e_push dL_law_782 ?_
  refine e_iadd dL_law_783 ?_
  refine e_sld (6 * t + 2) dL_law_784 (show nI (6 * t) + 2 = nI (6 * t + 2) from nI_add (6 * t) 2) (by omega) (by omega) ?_
  refine e_aload dL_law_785 rfl ?_
  refine e_iload dL_law_786 rfl ?_
  refine e_push dL_law_787 ?_
  refine e_iadd dL_law_788 ?_
  refine e_sld (6 * t + 3) dL_law_789 (show nI (6 * t) + 3 = nI (6 * t + 3) from nI_add (6 * t) 3) (by omega) (by omega) ?_
  refine e_cM ?_
  refine e_callV3 dL_law_790 ca_L_76 (dmW_M _ _).1 ctM_o (rm_law (by decide) (by decide) (by simp only [RmA]; omega) (by simp only [RmA]; omega)) (c_X12_item (dmW_M _ _) I _ _ _ ?_) (by exact Nat.le_of_ble_eq_true rfl)
  refine e_cM2 ?_
  refine e_icmp_eq dL_law_793 (fun _ => ?_) (fun h => absurd rfl h)
  exact e_wide (by simp only [RmA]; omega) (by simp only [RmA]; omega) (hk _ _ (I.item.mono (by omega) (by omega)))
set_option maxHeartbeats 4000000 in
set_option maxRecDepth 100000 in
theorem lc_14 {b0 : Nat} {D : va_G} {dA : Nat → ClassId} {nm : String} {b L : Nat} {xs : Nat → Int32} {t c s : Nat} {ad : Nat → Nat → Nat} {S : St} (I : Inv S t) (ht : t < 512) (hL : L ≤ 3072) (h6 : 6 * t + 6 ≤ L) (hc : c + 3 ≤ 600000) (hs : s + 14 ≤ 7302250) (hk : ∀ (S' : St) (ad' : Nat → Nat → Nat), Inv S' (t + 1) → E b0 D dA (yLw nm) cL_law 4 ret room_1 (EXL b L xs b0) QFL 1237 (lfA [some (.ref b), some (.ref (ad' 0 0)), some (.ref (ad' 16 0)), some (.int (nI (6 * t)))]) [] (dmW S' 0) ad' (cw dA ad' S' S' 0) (c + 3) (s + 14)) : E b0 D dA (yLw nm) cL_law 4 ret room_1 (EXL b L xs b0) QFL 798 (lfA [some (.ref b), some (.ref (ad 0 0)), some (.ref (ad 16 0)), some (.int (nI (6 * t)))]) [] (dmW S 0) ad (cw dA ad S S 0) c s := by
  refine e_aload dL_law_798 rfl ?_
  refine e_aload dL_law_799 rfl ?_
  refine e_iload dL_law_800 rfl ?_
  refine e_push dL_law_801 ?_
  refine e_iadd dL_law_802 ?_
  refine e_sld (6 * t + 1) dL_law_803 (show nI (6 * t) + 1 = nI (6 * t + 1) from nI_add (6 * t) 1) (by omega) (by omega) ?_
  refine e_aload dL_law_804 rfl ?_
  refine e_iload dL_law_805 rfl ?_
  refine e_push dL_law_806 ?_
  refine e_iadd dL_law_807 ?_
  refine e_sld (6 * t + 2) dL_law_808 (show nI (6 * t) + 2 = nI (6 * t + 2) from nI_add (6 * t) 2) (by omega) (by omega) ?_
  refine e_callV2 dL_law_809 ca_L_77 (show dmW S 0 0 0 from rfl) cw_0 (rm_law (by decide) (by decide) (by omega) (by omega)) (c_X11_share I _ _ ?_) (by exact Nat.le_of_ble_eq_true rfl)
  refine e_aload dL_law_812 rfl ?_
  refine e_aload dL_law_813 rfl ?_
  refine e_iload dL_law_814 rfl ?_
  refine e_push dL_law_815 ?_
  refine e_iadd dL_law_816 ?_
  refine e_sld (6 * t + 1) dL_law_817 (show nI (6 * t) + 1 = nI (6 * t + 1) from nI_add (6 * t) 1) (by omega) (by omega) ?_
  refine e_aload dL_law_818 rfl ?_
  refine e_iload dL_law_819 rfl ?_
  refine e_push dL_law_820 ?_
  refine e_iadd dL_law_821 ?_
  refine e_sld (6 * t + 2) dL_law_822 (show nI (6 * t) + 2 = nI (6 * t + 2) from nI_add (6 * t) 2) (by omega) (by omega) ?_
  refine e_cM ?_
  refine e_callV2 dL_law_823 ca_L_80 (dmW_M _ _).1 ctM_o (rm_law (by decide) (by decide) (by simp only [RmA]; omega) (by simp only [RmA]; omega)) (c_X12_share (dmW_M _ _) I _ _ ?_) (by exact Nat.le_of_ble_eq_true rfl)
  refine e_cM2 ?_
  refine e_icmp_eq dL_law_826 (fun _ => ?_) (fun h => absurd rfl h)
  exact e_wide (by simp only [RmA]; omega) (by simp only [RmA]; omega) (hk _ _ (I.share.mono (by omega) (by omega)))
set_option maxHeartbeats 4000000 in
set_option maxRecDepth 100000 in
theorem lc_15 {b0 : Nat} {D : va_G} {dA : Nat → ClassId} {nm : String} {b L : Nat} {xs : Nat → Int32} {t c s : Nat} {ad : Nat → Nat → Nat} {S : St} (I : Inv S t) (ht : t < 512) (hL : L ≤ 3072) (h6 : 6 * t + 6 ≤ L) (hc : c + 3 ≤ 600000) (hs : s + 14 ≤ 7302250) (hk : ∀ (S' : St) (ad' : Nat → Nat → Nat), Inv S' (t + 1) → E b0 D dA (yLw nm) cL_law 4 ret room_1 (EXL b L xs b0) QFL 1237 (lfA [some (.ref b), some (.ref (ad' 0 0)), some (.ref (ad' 16 0)), some (.int (nI (6 * t)))]) [] (dmW S' 0) ad' (cw dA ad' S' S' 0) (c + 3) (s + 14)) : E b0 D dA (yLw nm) cL_law 4 ret room_1 (EXL b L xs b0) QFL 831 (lfA [some (.ref b), some (.ref (ad 0 0)), some (.ref (ad 16 0)), some (.int (nI (6 * t)))]) [] (dmW S 0) ad (cw dA ad S S 0) c s := by
  refine e_aload dL_law_831 rfl ?_
  refine e_aload dL_law_832 rfl ?_
  refine e_iload dL_law_833 rfl ?_
  refine e_push dL_law_834 ?_
  refine e_iadd dL_law_835 ?_
  refine e_sld (6 * t + 1) dL_law_836 (show nI (6 * t) + 1 = nI (6 * t + 1) from nI_add (6 * t) 1) (by omega) (by omega) ?_
  refine e_callV1 dL_law_837 ca_L_81 (show dmW S 0 0 0 from rfl) cw_0 (rm_law (by decide) (by decide) (by omega) (by omega)) (c_X11_family I _ ?_) (by exact Nat.le_of_ble_eq_true rfl)
  refine e_aload dL_law_840 rfl ?_
  refine e_aload dL_law_841 rfl ?_
  refine e_iload dL_law_842 rfl ?_
  refine e_push dL_law_843 ?_
  refine e_iadd dL_law_844 ?_
  refine e_sld (6 * t + 1) dL_law_845 (show nI (6 * t) + 1 = nI (6 * t + 1) from nI_add (6 * t) 1) (by omega) (by omega) ?_
  refine e_cM ?_
  refine e_callV1 dL_law_846 ca_L_85 (dmW_M _ _).1 ctM_o (rm_law (by decide) (by decide) (by simp only [RmA]; omega) (by simp only [RmA]; omega)) (c_X12_family (dmW_M _ _) I _ ?_) (by exact Nat.le_of_ble_eq_true rfl)
  refine e_cM2 ?_
  refine e_icmp_eq dL_law_849 (fun _ => ?_) (fun h => absurd rfl h)
  exact e_wide (by simp only [RmA]; omega) (by simp only [RmA]; omega) (hk _ _ (I.mono (by omega) (by omega)))
set_option maxHeartbeats 4000000 in
set_option maxRecDepth 100000 in
theorem lc_16 {b0 : Nat} {D : va_G} {dA : Nat → ClassId} {nm : String} {b L : Nat} {xs : Nat → Int32} {t c s : Nat} {ad : Nat → Nat → Nat} {S : St} (I : Inv S t) (ht : t < 512) (hL : L ≤ 3072) (h6 : 6 * t + 6 ≤ L) (hc : c + 3 ≤ 600000) (hs : s + 14 ≤ 7302250) (hk : ∀ (S' : St) (ad' : Nat → Nat → Nat), Inv S' (t + 1) → E b0 D dA (yLw nm) cL_law 4 ret room_1 (EXL b L xs b0) QFL 1237 (lfA [some (.ref b), some (.ref (ad' 0 0)), some (.ref (ad' 16 0)), some (.int (nI (6 * t)))]) [] (dmW S' 0) ad' (cw dA ad' S' S' 0) (c + 3) (s + 14)) : E b0 D dA (yLw nm) cL_law 4 ret room_1 (EXL b L xs b0) QFL 854 (lfA [some (.ref b), some (.ref (ad 0 0)), some (.ref (ad 16 0)), some (.int (nI (6 * t)))]) [] (dmW S 0) ad (cw dA ad S S 0) c s := by
  refine e_aload dL_law_854 rfl ?_
  refine e_aload dL_law_855 rfl ?_
  refine e_iload dL_law_856 rfl ?_
  refine e_push dL_law_857 ?_
  refine e_iadd dL_law_858 ?_
  refine e_sld (6 * t + 1) dL_law_859 (show nI (6 * t) + 1 = nI (6 * t + 1) from nI_add (6 * t) 1) (by omega) (by omega) ?_
  refine e_aload dL_law_860 rfl ?_
  refine e_iload dL_law_861 rfl ?_
  refine e_push dL_law_862 ?_
  refine e_iadd dL_law_863 ?_
  refine e_sld (6 * t + 2) dL_law_864 (show nI (6 * t) + 2 = nI (6 * t + 2) from nI_add (6 * t) 2) (by omega) (by omega) ?_
  refine e_callV2 dL_law_865 ca_L_86 (show dmW S 0 0 0 from rfl) cw_0 (rm_law (by decide) (by decide) (by omega) (by omega)) (c_X11_is I _ _ ?_) (by exact Nat.le_of_ble_eq_true rfl)
  refine e_aload dL_law_868 rfl ?_
  refine e_aload dL_law_869 rfl ?_
  refine e_iload dL_law_870 rfl ?_
  refine e_push dL_law_871 ?_
  refine e_iadd dL_law_872 ?_
  refine e_sld (6 * t + 1) dL_law_873 (show nI (6 * t) + 1 = nI (6 * t + 1) from nI_add (6 * t) 1) (by omega) (by omega) ?_
  refine e_aload dL_law_874 rfl ?_
  refine e_iload dL_law_875 rfl ?_
  refine e_push dL_law_876 ?_
  refine e_iadd dL_law_877 ?_
  refine e_sld (6 * t + 2) dL_law_878 (show nI (6 * t) + 2 = nI (6 * t + 2) from nI_add (6 * t) 2) (by omega) (by omega) ?_
  refine e_cM ?_
  refine e_callV2 dL_law_879 ca_L_89 (dmW_M _ _).1 ctM_o (rm_law (by decide) (by decide) (by simp only [RmA]; omega) (by simp only [RmA]; omega)) (c_X12_is (dmW_M _ _) I _ _ ?_) (by exact Nat.le_of_ble_eq_true rfl)
  refine e_cM2 ?_
  refine e_icmp_eq dL_law_882 (fun _ => ?_) (fun h => absurd rfl h)
  exact e_wide (by simp only [RmA]; omega) (by simp only [RmA]; omega) (hk _ _ (I.mono (by omega) (by omega)))
set_option maxHeartbeats 4000000 in
set_option maxRecDepth 100000 in
theorem lc_17 {b0 : Nat} {D : va_G} {dA : Nat → ClassId} {nm : String} {b L : Nat} {xs : Nat → Int32} {t c s : Nat} {ad : Nat → Nat → Nat} {S : St} (I : Inv S t) (ht : t < 512) (hL : L ≤ 3072) (h6 : 6 * t + 6 ≤ L) (hc : c + 3 ≤ 600000) (hs : s + 14 ≤ 7302250) (hk : ∀ (S' : St) (ad' : Nat → Nat → Nat), Inv S' (t + 1) → E b0 D dA (yLw nm) cL_law 4 ret room_1 (EXL b L xs b0) QFL 1237 (lfA [some (.ref b), some (.ref (ad' 0 0)), some (.ref (ad' 16 0)), some (.int (nI (6 * t)))]) [] (dmW S' 0) ad' (cw dA ad' S' S' 0) (c + 3) (s + 14)) : E b0 D dA (yLw nm) cL_law 4 ret room_1 (EXL b L xs b0) QFL 887 (lfA [some (.ref b), some (.ref (ad 0 0)), some (.ref (ad 16 0)), some (.int (nI (6 * t)))]) [] (dmW S 0) ad (cw dA ad S S 0) c s := by
  refine e_aload dL_law_887 rfl ?_
  refine e_aload dL_law_888 rfl ?_
  refine e_iload dL_law_889 rfl ?_
  refine e_push dL_law_890 ?_
  refine e_iadd dL_law_891 ?_
  refine e_sld (6 * t + 1) dL_law_892 (show nI (6 * t) + 1 = nI (6 * t + 1) from nI_add (6 * t) 1) (by omega) (by omega) ?_
  refine e_aload dL_law_893 rfl ?_
  refine e_iload dL_law_894 rfl ?_
  refine e_push dL_law_895 ?_
  refine e_iadd dL_law_896 ?_
  refine e_sld (6 * t + 2) dL_law_897 (show nI (6 * t) + 2 = nI (6 * t + 2) from nI_add (6 * t) 2) (by omega) (by omega) ?_
  refine e_callV2 dL_law_898 ca_L_90 (show dmW S 0 0 0 from rfl) cw_0 (rm_law (by decide) (by decide) (by omega) (by omega)) (c_X11_like I _ _ ?_) (by exact Nat.le_of_ble_eq_true rfl)
  refine e_aload dL_law_901 rfl ?_
  refine e_aload dL_law_902 rfl ?_
  refine e_iload dL_law_903 rfl ?_
  refine e_push dL_law_904 ?_
  refine e_iadd dL_law_905 ?_
  refine e_sld (6 * t + 1) dL_law_906 (show nI (6 * t) + 1 = nI (6 * t + 1) from nI_add (6 * t) 1) (by omega) (by omega) ?_
  refine e_aload dL_law_907 rfl ?_
  refine e_iload dL_law_908 rfl ?_
  refine e_push dL_law_909 ?_
  refine e_iadd dL_law_910 ?_
  refine e_sld (6 * t + 2) dL_law_911 (show nI (6 * t) + 2 = nI (6 * t + 2) from nI_add (6 * t) 2) (by omega) (by omega) ?_
  refine e_cM ?_
  refine e_callV2 dL_law_912 ca_L_93 (dmW_M _ _).1 ctM_o (rm_law (by decide) (by decide) (by simp only [RmA]; omega) (by simp only [RmA]; omega)) (c_X12_like (dmW_M _ _) I _ _ (fun S2 hsc => ?_)) (by exact Nat.le_of_ble_eq_true rfl)
  refine e_cM2 ?_
  refine e_conv (sc_cv hsc) ?_
  refine e_icmp_eq dL_law_915 (fun _ => ?_) (fun h => absurd rfl h)
  exact e_wide (by simp only [RmA]; omega) (by simp only [RmA]; omega) (hk _ _ ((I.agr hsc.agr).mono (by omega) (by omega)))
set_option maxHeartbeats 4000000 in
set_option maxRecDepth 100000 in
theorem lc_18 {b0 : Nat} {D : va_G} {dA : Nat → ClassId} {nm : String} {b L : Nat} {xs : Nat → Int32} {t c s : Nat} {ad : Nat → Nat → Nat} {S : St} (I : Inv S t) (ht : t < 512) (hL : L ≤ 3072) (h6 : 6 * t + 6 ≤ L) (hc : c + 3 ≤ 600000) (hs : s + 14 ≤ 7302250) (hk : ∀ (S' : St) (ad' : Nat → Nat → Nat), Inv S' (t + 1) → E b0 D dA (yLw nm) cL_law 4 ret room_1 (EXL b L xs b0) QFL 1237 (lfA [some (.ref b), some (.ref (ad' 0 0)), some (.ref (ad' 16 0)), some (.int (nI (6 * t)))]) [] (dmW S' 0) ad' (cw dA ad' S' S' 0) (c + 3) (s + 14)) : E b0 D dA (yLw nm) cL_law 4 ret room_1 (EXL b L xs b0) QFL 920 (lfA [some (.ref b), some (.ref (ad 0 0)), some (.ref (ad 16 0)), some (.int (nI (6 * t)))]) [] (dmW S 0) ad (cw dA ad S S 0) c s := by
  refine e_aload dL_law_920 rfl ?_
  refine e_aload dL_law_921 rfl ?_
  refine e_iload dL_law_922 rfl ?_
  refine e_push dL_law_923 ?_
  refine e_iadd dL_law_924 ?_
  refine e_sld (6 * t + 1) dL_law_925 (show nI (6 * t) + 1 = nI (6 * t + 1) from nI_add (6 * t) 1) (by omega) (by omega) ?_
  refine e_aload dL_law_926 rfl ?_
  refine e_iload dL_law_927 rfl ?_
  refine e_push dL_law_928 ?_
  refine e_iadd dL_law_929 ?_
  refine e_sld (6 * t + 2) dL_law_930 (show nI (6 * t) + 2 = nI (6 * t + 2) from nI_add (6 * t) 2) (by omega) (by omega) ?_
  refine e_aload dL_law_931 rfl ?_
  refine e_iload dL_law_932 rfl ?_
  refine e_push dL_law_933 ?_
  refine e_iadd dL_law_934 ?_
  refine e_sld (6 * t + 3) dL_law_935 (show nI (6 * t) + 3 = nI (6 * t + 3) from nI_add (6 * t) 3) (by omega) (by omega) ?_
  refine e_callV3 dL_law_936 ca_L_94 (show dmW S 0 0 0 from rfl) cw_0 (rm_law (by decide) (by decide) (by omega) (by omega)) (c_X11_part I _ _ _ ?_) (by exact Nat.le_of_ble_eq_true rfl)
  refine e_aload dL_law_939 rfl ?_
  refine e_aload dL_law_940 rfl ?_
  refine e_iload dL_law_941 rfl ?_
  refine e_push dL_law_942 ?_
  refine e_iadd dL_law_943 ?_
  refine e_sld (6 * t + 1) dL_law_944 (show nI (6 * t) + 1 = nI (6 * t + 1) from nI_add (6 * t) 1) (by omega) (by omega) ?_
  refine e_aload dL_law_945 rfl ?_
  refine e_iload dL_law_946 rfl ?_
  refine e_push dL_law_947 ?_
  refine e_iadd dL_law_948 ?_
  refine e_sld (6 * t + 2) dL_law_949 (show nI (6 * t) + 2 = nI (6 * t + 2) from nI_add (6 * t) 2) (by omega) (by omega) ?_
  refine e_aload dL_law_950 rfl ?_
  refine e_iload dL_law_951 rfl ?_
  refine e_push dL_law_952 ?_
  refine e_iadd dL_law_953 ?_
  refine e_sld (6 * t + 3) dL_law_954 (show nI (6 * t) + 3 = nI (6 * t + 3) from nI_add (6 * t) 3) (by omega) (by omega) ?_
  refine e_cM ?_
  refine e_callV3 dL_law_955 ca_L_97 (dmW_M _ _).1 ctM_o (rm_law (by decide) (by decide) (by simp only [RmA]; omega) (by simp only [RmA]; omega)) (c_X12_part (dmW_M _ _) I _ _ _ ?_) (by exact Nat.le_of_ble_eq_true rfl)
  refine e_cM2 ?_
  refine e_icmp_eq dL_law_958 (fun _ => ?_) (fun h => absurd rfl h)
  exact e_wide (by simp only [RmA]; omega) (by simp only [RmA]; omega) (hk _ _ (I.part.mono (by omega) (by omega)))
set_option maxHeartbeats 4000000 in
set_option maxRecDepth 100000 in
theorem lc_19 {b0 : Nat} {D : va_G} {dA : Nat → ClassId} {nm : String} {b L : Nat} {xs : Nat → Int32} {t c s : Nat} {ad : Nat → Nat → Nat} {S : St} (I : Inv S t) (ht : t < 512) (hL : L ≤ 3072) (h6 : 6 * t + 6 ≤ L) (hc : c + 3 ≤ 600000) (hs : s + 14 ≤ 7302250) (hk : ∀ (S' : St) (ad' : Nat → Nat → Nat), Inv S' (t + 1) → E b0 D dA (yLw nm) cL_law 4 ret room_1 (EXL b L xs b0) QFL 1237 (lfA [some (.ref b), some (.ref (ad' 0 0)), some (.ref (ad' 16 0)), some (.int (nI (6 * t)))]) [] (dmW S' 0) ad' (cw dA ad' S' S' 0) (c + 3) (s + 14)) : E b0 D dA (yLw nm) cL_law 4 ret room_1 (EXL b L xs b0) QFL 963 (lfA [some (.ref b), some (.ref (ad 0 0)), some (.ref (ad 16 0)), some (.int (nI (6 * t)))]) [] (dmW S 0) ad (cw dA ad S S 0) c s := by
  refine e_aload dL_law_963 rfl ?_
  refine e_aload dL_law_964 rfl ?_
  refine e_iload dL_law_965 rfl ?_
  refine e_push dL_law_966 ?_
  refine e_iadd dL_law_967 ?_
  refine e_sld (6 * t + 1) dL_law_968 (show nI (6 * t) + 1 = nI (6 * t + 1) from nI_add (6 * t) 1) (by omega) (by omega) ?_
  refine e_aload dL_law_969 rfl ?_
  refine e_iload dL_law_970 rfl ?_
  refine e_push dL_law_971 ?_
  refine e_iadd dL_law_972 ?_
  refine e_sld (6 * t + 2) dL_law_973 (show nI (6 * t) + 2 = nI (6 * t + 2) from nI_add (6 * t) 2) (by omega) (by omega) ?_
  refine e_aload dL_law_974 rfl ?_
  refine e_iload dL_law_975 rfl ?_
  refine e_push dL_law_976 ?_
  refine e_iadd dL_law_977 ?_
  refine e_sld (6 * t + 3) dL_law_978 (show nI (6 * t) + 3 = nI (6 * t + 3) from nI_add (6 * t) 3) (by omega) (by omega) ?_
  refine e_aload dL_law_979 rfl ?_
  refine e_iload dL_law_980 rfl ?_
  refine e_push dL_law_981 ?_
  refine e_iadd dL_law_982 ?_
  refine e_sld (6 * t + 4) dL_law_983 (show nI (6 * t) + 4 = nI (6 * t + 4) from nI_add (6 * t) 4) (by omega) (by omega) ?_
  refine e_callV4 dL_law_984 ca_L_98 (show dmW S 0 0 0 from rfl) cw_0 (rm_law (by decide) (by decide) (by omega) (by omega)) (c_X11_check I _ _ _ _ (fun ad2 g1 g2 => ?_)) (by exact Nat.le_of_ble_eq_true rfl)
  rw [← g1, ← g2]
  refine e_aload dL_law_987 rfl ?_
  refine e_aload dL_law_988 rfl ?_
  refine e_iload dL_law_989 rfl ?_
  refine e_push dL_law_990 ?_
  refine e_iadd dL_law_991 ?_
  refine e_sld (6 * t + 1) dL_law_992 (show nI (6 * t) + 1 = nI (6 * t + 1) from nI_add (6 * t) 1) (by omega) (by omega) ?_
  refine e_aload dL_law_993 rfl ?_
  refine e_iload dL_law_994 rfl ?_
  refine e_push dL_law_995 ?_
  refine e_iadd dL_law_996 ?_
  refine e_sld (6 * t + 2) dL_law_997 (show nI (6 * t) + 2 = nI (6 * t + 2) from nI_add (6 * t) 2) (by omega) (by omega) ?_
  refine e_aload dL_law_998 rfl ?_
  refine e_iload dL_law_999 rfl ?_
  refine e_push dL_law_1000 ?_
  refine e_iadd dL_law_1001 ?_
  refine e_sld (6 * t + 3) dL_law_1002 (show nI (6 * t) + 3 = nI (6 * t + 3) from nI_add (6 * t) 3) (by omega) (by omega) ?_
  refine e_aload dL_law_1003 rfl ?_
  refine e_iload dL_law_1004 rfl ?_
  refine e_push dL_law_1005 ?_
  refine e_iadd dL_law_1006 ?_
  refine e_sld (6 * t + 4) dL_law_1007 (show nI (6 * t) + 4 = nI (6 * t + 4) from nI_add (6 * t) 4) (by omega) (by omega) ?_
  refine e_cM ?_
  refine e_callV4 dL_law_1008 ca_L_102 (dmW_M _ _).1 ctM_o (rm_law (by decide) (by decide) (by simp only [RmA]; omega) (by simp only [RmA]; omega)) (c_X12_check (dmW_M _ _) I _ _ _ _ ?_) (by exact Nat.le_of_ble_eq_true rfl)
  refine e_cM2 ?_
  refine e_icmp_eq dL_law_1011 (fun _ => ?_) (fun h => absurd rfl h)
  exact e_wide (by simp only [RmA]; omega) (by simp only [RmA]; omega) (hk _ _ (I.check.mono (by omega) (by omega)))
set_option maxHeartbeats 4000000 in
set_option maxRecDepth 100000 in
theorem lc_20 {b0 : Nat} {D : va_G} {dA : Nat → ClassId} {nm : String} {b L : Nat} {xs : Nat → Int32} {t c s : Nat} {ad : Nat → Nat → Nat} {S : St} (I : Inv S t) (ht : t < 512) (hL : L ≤ 3072) (h6 : 6 * t + 6 ≤ L) (hc : c + 3 ≤ 600000) (hs : s + 14 ≤ 7302250) (hk : ∀ (S' : St) (ad' : Nat → Nat → Nat), Inv S' (t + 1) → E b0 D dA (yLw nm) cL_law 4 ret room_1 (EXL b L xs b0) QFL 1237 (lfA [some (.ref b), some (.ref (ad' 0 0)), some (.ref (ad' 16 0)), some (.int (nI (6 * t)))]) [] (dmW S' 0) ad' (cw dA ad' S' S' 0) (c + 3) (s + 14)) : E b0 D dA (yLw nm) cL_law 4 ret room_1 (EXL b L xs b0) QFL 1016 (lfA [some (.ref b), some (.ref (ad 0 0)), some (.ref (ad 16 0)), some (.int (nI (6 * t)))]) [] (dmW S 0) ad (cw dA ad S S 0) c s := by
  refine e_aload dL_law_1016 rfl ?_
  refine e_aload dL_law_1017 rfl ?_
  refine e_iload dL_law_1018 rfl ?_
  refine e_push dL_law_1019 ?_
  refine e_iadd dL_law_1020 ?_
  refine e_sld (6 * t + 1) dL_law_1021 (show nI (6 * t) + 1 = nI (6 * t + 1) from nI_add (6 * t) 1) (by omega) (by omega) ?_
  refine e_aload dL_law_1022 rfl ?_
  refine e_iload dL_law_1023 rfl ?_
  refine e_push dL_law_1024 ?_
  refine e_iadd dL_law_1025 ?_
  refine e_sld (6 * t + 2) dL_law_1026 (show nI (6 * t) + 2 = nI (6 * t + 2) from nI_add (6 * t) 2) (by omega) (by omega) ?_
  refine e_aload dL_law_1027 rfl ?_
  refine e_iload dL_law_1028 rfl ?_
  refine e_push dL_law_1029 ?_
  refine e_iadd dL_law_1030 ?_
  refine e_sld (6 * t + 3) dL_law_1031 (show nI (6 * t) + 3 = nI (6 * t + 3) from nI_add (6 * t) 3) (by omega) (by omega) ?_
  refine e_callV3 dL_law_1032 ca_L_103 (show dmW S 0 0 0 from rfl) cw_0 (rm_law (by decide) (by decide) (by omega) (by omega)) (c_X11_give I _ _ _ ?_) (by exact Nat.le_of_ble_eq_true rfl)
  refine e_aload dL_law_1035 rfl ?_
  refine e_aload dL_law_1036 rfl ?_
  refine e_iload dL_law_1037 rfl ?_
  refine e_push dL_law_1038 ?_
  refine e_iadd dL_law_1039 ?_
  refine e_sld (6 * t + 1) dL_law_1040 (show nI (6 * t) + 1 = nI (6 * t + 1) from nI_add (6 * t) 1) (by omega) (by omega) ?_
  refine e_aload dL_law_1041 rfl ?_
  refine e_iload dL_law_1042 rfl ?_
  refine e_push dL_law_1043 ?_
  refine e_iadd dL_law_1044 ?_
  refine e_sld (6 * t + 2) dL_law_1045 (show nI (6 * t) + 2 = nI (6 * t + 2) from nI_add (6 * t) 2) (by omega) (by omega) ?_
  refine e_aload dL_law_1046 rfl ?_
  refine e_iload dL_law_1047 rfl ?_
  refine e_push dL_law_1048 ?_
  refine e_iadd dL_law_1049 ?_
  refine e_sld (6 * t + 3) dL_law_1050 (show nI (6 * t) + 3 = nI (6 * t + 3) from nI_add (6 * t) 3) (by omega) (by omega) ?_
  refine e_cM ?_
  refine e_callV3 dL_law_1051 ca_L_106 (dmW_M _ _).1 ctM_o (rm_law (by decide) (by decide) (by simp only [RmA]; omega) (by simp only [RmA]; omega)) (c_X12_give (dmW_M _ _) I _ _ _ ?_) (by exact Nat.le_of_ble_eq_true rfl)
  refine e_cM2 ?_
  refine e_icmp_eq dL_law_1054 (fun _ => ?_) (fun h => absurd rfl h)
  exact e_wide (by simp only [RmA]; omega) (by simp only [RmA]; omega) (hk _ _ (I.give.mono (by omega) (by omega)))
set_option maxHeartbeats 4000000 in
set_option maxRecDepth 100000 in
theorem lc_21 {b0 : Nat} {D : va_G} {dA : Nat → ClassId} {nm : String} {b L : Nat} {xs : Nat → Int32} {t c s : Nat} {ad : Nat → Nat → Nat} {S : St} (I : Inv S t) (ht : t < 512) (hL : L ≤ 3072) (h6 : 6 * t + 6 ≤ L) (hc : c + 3 ≤ 600000) (hs : s + 14 ≤ 7302250) (hk : ∀ (S' : St) (ad' : Nat → Nat → Nat), Inv S' (t + 1) → E b0 D dA (yLw nm) cL_law 4 ret room_1 (EXL b L xs b0) QFL 1237 (lfA [some (.ref b), some (.ref (ad' 0 0)), some (.ref (ad' 16 0)), some (.int (nI (6 * t)))]) [] (dmW S' 0) ad' (cw dA ad' S' S' 0) (c + 3) (s + 14)) : E b0 D dA (yLw nm) cL_law 4 ret room_1 (EXL b L xs b0) QFL 1059 (lfA [some (.ref b), some (.ref (ad 0 0)), some (.ref (ad 16 0)), some (.int (nI (6 * t)))]) [] (dmW S 0) ad (cw dA ad S S 0) c s := by
  refine e_aload dL_law_1059 rfl ?_
  refine e_aload dL_law_1060 rfl ?_
  refine e_iload dL_law_1061 rfl ?_
  refine e_push dL_law_1062 ?_
  refine e_iadd dL_law_1063 ?_
  refine e_sld (6 * t + 1) dL_law_1064 (show nI (6 * t) + 1 = nI (6 * t + 1) from nI_add (6 * t) 1) (by omega) (by omega) ?_
  refine e_aload dL_law_1065 rfl ?_
  refine e_iload dL_law_1066 rfl ?_
  refine e_push dL_law_1067 ?_
  refine e_iadd dL_law_1068 ?_
  refine e_sld (6 * t + 2) dL_law_1069 (show nI (6 * t) + 2 = nI (6 * t + 2) from nI_add (6 * t) 2) (by omega) (by omega) ?_
  refine e_callV2 dL_law_1070 ca_L_107 (show dmW S 0 0 0 from rfl) cw_0 (rm_law (by decide) (by decide) (by omega) (by omega)) (c_X11_make I _ _ (fun ad2 g1 g2 => ?_)) (by exact Nat.le_of_ble_eq_true rfl)
  rw [← g1, ← g2]
  refine e_aload dL_law_1073 rfl ?_
  refine e_aload dL_law_1074 rfl ?_
  refine e_iload dL_law_1075 rfl ?_
  refine e_push dL_law_1076 ?_
  refine e_iadd dL_law_1077 ?_
  refine e_sld (6 * t + 1) dL_law_1078 (show nI (6 * t) + 1 = nI (6 * t + 1) from nI_add (6 * t) 1) (by omega) (by omega) ?_
  refine e_aload dL_law_1079 rfl ?_
  refine e_iload dL_law_1080 rfl ?_
  refine e_push dL_law_1081 ?_
  refine e_iadd dL_law_1082 ?_
  refine e_sld (6 * t + 2) dL_law_1083 (show nI (6 * t) + 2 = nI (6 * t + 2) from nI_add (6 * t) 2) (by omega) (by omega) ?_
  refine e_cM ?_
  refine e_callV2 dL_law_1084 ca_L_110 (dmW_M _ _).1 ctM_o (rm_law (by decide) (by decide) (by simp only [RmA]; omega) (by simp only [RmA]; omega)) (c_X12_make (dmW_M _ _) I _ _ ht ?_) (by exact Nat.le_of_ble_eq_true rfl)
  refine e_cM2 ?_
  refine e_icmp_eq dL_law_1087 (fun _ => ?_) (fun h => absurd rfl h)
  exact e_wide (by simp only [RmA]; omega) (by simp only [RmA]; omega) (hk _ _ (I.make ht))
set_option maxHeartbeats 4000000 in
set_option maxRecDepth 100000 in
theorem lc_22 {b0 : Nat} {D : va_G} {dA : Nat → ClassId} {nm : String} {b L : Nat} {xs : Nat → Int32} {t c s : Nat} {ad : Nat → Nat → Nat} {S : St} (I : Inv S t) (ht : t < 512) (hL : L ≤ 3072) (h6 : 6 * t + 6 ≤ L) (hc : c + 3 ≤ 600000) (hs : s + 14 ≤ 7302250) (hk : ∀ (S' : St) (ad' : Nat → Nat → Nat), Inv S' (t + 1) → E b0 D dA (yLw nm) cL_law 4 ret room_1 (EXL b L xs b0) QFL 1237 (lfA [some (.ref b), some (.ref (ad' 0 0)), some (.ref (ad' 16 0)), some (.int (nI (6 * t)))]) [] (dmW S' 0) ad' (cw dA ad' S' S' 0) (c + 3) (s + 14)) : E b0 D dA (yLw nm) cL_law 4 ret room_1 (EXL b L xs b0) QFL 1092 (lfA [some (.ref b), some (.ref (ad 0 0)), some (.ref (ad 16 0)), some (.int (nI (6 * t)))]) [] (dmW S 0) ad (cw dA ad S S 0) c s := by
  refine e_aload dL_law_1092 rfl ?_
  refine e_aload dL_law_1093 rfl ?_
  refine e_iload dL_law_1094 rfl ?_
  refine e_push dL_law_1095 ?_
  refine e_iadd dL_law_1096 ?_
  refine e_sld (6 * t + 1) dL_law_1097 (show nI (6 * t) + 1 = nI (6 * t + 1) from nI_add (6 * t) 1) (by omega) (by omega) ?_
  refine e_callV1 dL_law_1098 ca_L_111 (show dmW S 0 0 0 from rfl) cw_0 (rm_law (by decide) (by decide) (by omega) (by omega)) (c_X11_cause _ ?_) (by exact Nat.le_of_ble_eq_true rfl)
  refine e_aload dL_law_1101 rfl ?_
  refine e_aload dL_law_1102 rfl ?_
  refine e_iload dL_law_1103 rfl ?_
  refine e_push dL_law_1104 ?_
  refine e_iadd dL_law_1105 ?_
  refine e_sld (6 * t + 1) dL_law_1106 (show nI (6 * t) + 1 = nI (6 * t + 1) from nI_add (6 * t) 1) (by omega) (by omega) ?_
  refine e_cM ?_
  refine e_callV1 dL_law_1107 ca_L_114 (dmW_M _ _).1 ctM_o (rm_law (by decide) (by decide) (by simp only [RmA]; omega) (by simp only [RmA]; omega)) (c_X12_cause (dmW_M _ _) _ ?_) (by exact Nat.le_of_ble_eq_true rfl)
  refine e_cM2 ?_
  refine e_icmp_eq dL_law_1110 (fun _ => ?_) (fun h => absurd rfl h)
  exact e_wide (by simp only [RmA]; omega) (by simp only [RmA]; omega) (hk _ _ (I.mono (by omega) (by omega)))
set_option maxHeartbeats 4000000 in
set_option maxRecDepth 100000 in
theorem lc_23 {b0 : Nat} {D : va_G} {dA : Nat → ClassId} {nm : String} {b L : Nat} {xs : Nat → Int32} {t c s : Nat} {ad : Nat → Nat → Nat} {S : St} (I : Inv S t) (ht : t < 512) (hL : L ≤ 3072) (h6 : 6 * t + 6 ≤ L) (hc : c + 3 ≤ 600000) (hs : s + 14 ≤ 7302250) (hk : ∀ (S' : St) (ad' : Nat → Nat → Nat), Inv S' (t + 1) → E b0 D dA (yLw nm) cL_law 4 ret room_1 (EXL b L xs b0) QFL 1237 (lfA [some (.ref b), some (.ref (ad' 0 0)), some (.ref (ad' 16 0)), some (.int (nI (6 * t)))]) [] (dmW S' 0) ad' (cw dA ad' S' S' 0) (c + 3) (s + 14)) : E b0 D dA (yLw nm) cL_law 4 ret room_1 (EXL b L xs b0) QFL 1115 (lfA [some (.ref b), some (.ref (ad 0 0)), some (.ref (ad 16 0)), some (.int (nI (6 * t)))]) [] (dmW S 0) ad (cw dA ad S S 0) c s := by
  refine e_aload dL_law_1115 rfl ?_
  refine e_aload dL_law_1116 rfl ?_
  refine e_iload dL_law_1117 rfl ?_
  refine e_push dL_law_1118 ?_
  refine e_iadd dL_law_1119 ?_
  refine e_sld (6 * t + 1) dL_law_1120 (show nI (6 * t) + 1 = nI (6 * t + 1) from nI_add (6 * t) 1) (by omega) (by omega) ?_
  refine e_aload dL_law_1121 rfl ?_
  refine e_iload dL_law_1122 rfl ?_
  refine e_push dL_law_1123 ?_
  refine e_iadd dL_law_1124 ?_
  refine e_sld (6 * t + 2) dL_law_1125 (show nI (6 * t) + 2 = nI (6 * t + 2) from nI_add (6 * t) 2) (by omega) (by omega) ?_
  refine e_callV2 dL_law_1126 ca_L_115 (show dmW S 0 0 0 from rfl) cw_0 (rm_law (by decide) (by decide) (by omega) (by omega)) (c_X11_told I _ _ ?_) (by exact Nat.le_of_ble_eq_true rfl)
  refine e_aload dL_law_1129 rfl ?_
  refine e_aload dL_law_1130 rfl ?_
  refine e_iload dL_law_1131 rfl ?_
  refine e_push dL_law_1132 ?_
  refine e_iadd dL_law_1133 ?_
  refine e_sld (6 * t + 1) dL_law_1134 (show nI (6 * t) + 1 = nI (6 * t + 1) from nI_add (6 * t) 1) (by omega) (by omega) ?_
  refine e_aload dL_law_1135 rfl ?_
  refine e_iload dL_law_1136 rfl ?_
  refine e_push dL_law_1137 ?_
  refine e_iadd dL_law_1138 ?_
  refine e_sld (6 * t + 2) dL_law_1139 (show nI (6 * t) + 2 = nI (6 * t + 2) from nI_add (6 * t) 2) (by omega) (by omega) ?_
  refine e_cM ?_
  refine e_callV2 dL_law_1140 ca_L_118 (dmW_M _ _).1 ctM_o (rm_law (by decide) (by decide) (by simp only [RmA]; omega) (by simp only [RmA]; omega)) (c_X12_told (dmW_M _ _) I _ _ ?_) (by exact Nat.le_of_ble_eq_true rfl)
  refine e_cM2 ?_
  refine e_icmp_eq dL_law_1143 (fun _ => ?_) (fun h => absurd rfl h)
  exact e_wide (by simp only [RmA]; omega) (by simp only [RmA]; omega) (hk _ _ (I.mono (by omega) (by omega)))
set_option maxHeartbeats 4000000 in
set_option maxRecDepth 100000 in
theorem lc_24 {b0 : Nat} {D : va_G} {dA : Nat → ClassId} {nm : String} {b L : Nat} {xs : Nat → Int32} {t c s : Nat} {ad : Nat → Nat → Nat} {S : St} (I : Inv S t) (ht : t < 512) (hL : L ≤ 3072) (h6 : 6 * t + 6 ≤ L) (hc : c + 3 ≤ 600000) (hs : s + 14 ≤ 7302250) (hk : ∀ (S' : St) (ad' : Nat → Nat → Nat), Inv S' (t + 1) → E b0 D dA (yLw nm) cL_law 4 ret room_1 (EXL b L xs b0) QFL 1237 (lfA [some (.ref b), some (.ref (ad' 0 0)), some (.ref (ad' 16 0)), some (.int (nI (6 * t)))]) [] (dmW S' 0) ad' (cw dA ad' S' S' 0) (c + 3) (s + 14)) : E b0 D dA (yLw nm) cL_law 4 ret room_1 (EXL b L xs b0) QFL 1148 (lfA [some (.ref b), some (.ref (ad 0 0)), some (.ref (ad 16 0)), some (.int (nI (6 * t)))]) [] (dmW S 0) ad (cw dA ad S S 0) c s := by
  refine e_aload dL_law_1148 rfl ?_
  refine e_aload dL_law_1149 rfl ?_
  refine e_iload dL_law_1150 rfl ?_
  refine e_push dL_law_1151 ?_
  refine e_iadd dL_law_1152 ?_
  refine e_sld (6 * t + 1) dL_law_1153 (show nI (6 * t) + 1 = nI (6 * t + 1) from nI_add (6 * t) 1) (by omega) (by omega) ?_
  refine e_aload dL_law_1154 rfl ?_
  refine e_iload dL_law_1155 rfl ?_
  refine e_push dL_law_1156 ?_
  refine e_iadd dL_law_1157 ?_
  refine e_sld (6 * t + 2) dL_law_1158 (show nI (6 * t) + 2 = nI (6 * t + 2) from nI_add (6 * t) 2) (by omega) (by omega) ?_
  refine e_aload dL_law_1159 rfl ?_
  refine e_iload dL_law_1160 rfl ?_
  refine e_push dL_law_1161 ?_
  refine e_iadd dL_law_1162 ?_
  refine e_sld (6 * t + 3) dL_law_1163 (show nI (6 * t) + 3 = nI (6 * t + 3) from nI_add (6 * t) 3) (by omega) (by omega) ?_
  refine e_callV3 dL_law_1164 ca_L_119 (show dmW S 0 0 0 from rfl) cw_0 (rm_law (by decide) (by decide) (by omega) (by omega)) (c_X11_take I _ _ _ ?_) (by exact Nat.le_of_ble_eq_true rfl)
  refine e_aload dL_law_1167 rfl ?_
  refine e_aload dL_law_1168 rfl ?_
  refine e_iload dL_law_1169 rfl ?_
  refine e_push dL_law_1170 ?_
  refine e_iadd dL_law_1171 ?_
  refine e_sld (6 * t + 1) dL_law_1172 (show nI (6 * t) + 1 = nI (6 * t + 1) from nI_add (6 * t) 1) (by omega) (by omega) ?_
  refine e_aload dL_law_1173 rfl ?_
  refine e_iload dL_law_1174 rfl ?_
  refine e_push dL_law_1175 ?_
  refine e_iadd dL_law_1176 ?_
  refine e_sld (6 * t + 2) dL_law_1177 (show nI (6 * t) + 2 = nI (6 * t + 2) from nI_add (6 * t) 2) (by omega) (by omega) ?_
  refine e_aload dL_law_1178 rfl ?_
  refine e_iload dL_law_1179 rfl ?_
  refine e_push dL_law_1180 ?_
  refine e_iadd dL_law_1181 ?_
  refine e_sld (6 * t + 3) dL_law_1182 (show nI (6 * t) + 3 = nI (6 * t + 3) from nI_add (6 * t) 3) (by omega) (by omega) ?_
  refine e_cM ?_
  refine e_callV3 dL_law_1183 ca_L_122 (dmW_M _ _).1 ctM_o (rm_law (by decide) (by decide) (by simp only [RmA]; omega) (by simp only [RmA]; omega)) (c_X12_take (dmW_M _ _) I _ _ _ ?_) (by exact Nat.le_of_ble_eq_true rfl)
  refine e_cM2 ?_
  refine e_icmp_eq dL_law_1186 (fun _ => ?_) (fun h => absurd rfl h)
  exact e_wide (by simp only [RmA]; omega) (by simp only [RmA]; omega) (hk _ _ (I.take.mono (by omega) (by omega)))
set_option maxHeartbeats 4000000 in
set_option maxRecDepth 100000 in
theorem lc_25 {b0 : Nat} {D : va_G} {dA : Nat → ClassId} {nm : String} {b L : Nat} {xs : Nat → Int32} {t c s : Nat} {ad : Nat → Nat → Nat} {S : St} (I : Inv S t) (ht : t < 512) (hL : L ≤ 3072) (h6 : 6 * t + 6 ≤ L) (hc : c + 3 ≤ 600000) (hs : s + 14 ≤ 7302250) (hk : ∀ (S' : St) (ad' : Nat → Nat → Nat), Inv S' (t + 1) → E b0 D dA (yLw nm) cL_law 4 ret room_1 (EXL b L xs b0) QFL 1237 (lfA [some (.ref b), some (.ref (ad' 0 0)), some (.ref (ad' 16 0)), some (.int (nI (6 * t)))]) [] (dmW S' 0) ad' (cw dA ad' S' S' 0) (c + 3) (s + 14)) : E b0 D dA (yLw nm) cL_law 4 ret room_1 (EXL b L xs b0) QFL 1191 (lfA [some (.ref b), some (.ref (ad 0 0)), some (.ref (ad 16 0)), some (.int (nI (6 * t)))]) [] (dmW S 0) ad (cw dA ad S S 0) c s := by
  refine e_aload dL_law_1191 rfl ?_
  refine e_aload dL_law_1192 rfl ?_
  refine e_iload dL_law_1193 rfl ?_
  refine e_push dL_law_1194 ?_
  refine e_iadd dL_law_1195 ?_
  refine e_sld (6 * t + 1) dL_law_1196 (show nI (6 * t) + 1 = nI (6 * t + 1) from nI_add (6 * t) 1) (by omega) (by omega) ?_
  refine e_callV1 dL_law_1197 ca_L_123 (show dmW S 0 0 0 from rfl) cw_0 (rm_law (by decide) (by decide) (by omega) (by omega)) (c_X11_started _ ?_) (by exact Nat.le_of_ble_eq_true rfl)
  refine e_aload dL_law_1200 rfl ?_
  refine e_aload dL_law_1201 rfl ?_
  refine e_iload dL_law_1202 rfl ?_
  refine e_push dL_law_1203 ?_
  refine e_iadd dL_law_1204 ?_
  refine e_sld (6 * t + 1) dL_law_1205 (show nI (6 * t) + 1 = nI (6 * t + 1) from nI_add (6 * t) 1) (by omega) (by omega) ?_
  refine e_cM ?_
  refine e_callV1 dL_law_1206 ca_L_126 (dmW_M _ _).1 ctM_o (rm_law (by decide) (by decide) (by simp only [RmA]; omega) (by simp only [RmA]; omega)) (c_X12_started (dmW_M _ _) _ ?_) (by exact Nat.le_of_ble_eq_true rfl)
  refine e_cM2 ?_
  refine e_icmp_eq dL_law_1209 (fun _ => ?_) (fun h => absurd rfl h)
  exact e_wide (by simp only [RmA]; omega) (by simp only [RmA]; omega) (hk _ _ (I.mono (by omega) (by omega)))
set_option maxHeartbeats 4000000 in
set_option maxRecDepth 100000 in
theorem lc_26 {b0 : Nat} {D : va_G} {dA : Nat → ClassId} {nm : String} {b L : Nat} {xs : Nat → Int32} {t c s : Nat} {ad : Nat → Nat → Nat} {S : St} (I : Inv S t) (ht : t < 512) (hL : L ≤ 3072) (h6 : 6 * t + 6 ≤ L) (hc : c + 3 ≤ 600000) (hs : s + 14 ≤ 7302250) (hk : ∀ (S' : St) (ad' : Nat → Nat → Nat), Inv S' (t + 1) → E b0 D dA (yLw nm) cL_law 4 ret room_1 (EXL b L xs b0) QFL 1237 (lfA [some (.ref b), some (.ref (ad' 0 0)), some (.ref (ad' 16 0)), some (.int (nI (6 * t)))]) [] (dmW S' 0) ad' (cw dA ad' S' S' 0) (c + 3) (s + 14)) : E b0 D dA (yLw nm) cL_law 4 ret room_1 (EXL b L xs b0) QFL 1214 (lfA [some (.ref b), some (.ref (ad 0 0)), some (.ref (ad 16 0)), some (.int (nI (6 * t)))]) [] (dmW S 0) ad (cw dA ad S S 0) c s := by
  refine e_aload dL_law_1214 rfl ?_
  refine e_aload dL_law_1215 rfl ?_
  refine e_iload dL_law_1216 rfl ?_
  refine e_push dL_law_1217 ?_
  refine e_iadd dL_law_1218 ?_
  refine e_sld (6 * t + 1) dL_law_1219 (show nI (6 * t) + 1 = nI (6 * t + 1) from nI_add (6 * t) 1) (by omega) (by omega) ?_
  refine e_callV1 dL_law_1220 ca_L_127 (show dmW S 0 0 0 from rfl) cw_0 (rm_law (by decide) (by decide) (by omega) (by omega)) (c_X11_count _ ?_) (by exact Nat.le_of_ble_eq_true rfl)
  refine e_aload dL_law_1223 rfl ?_
  refine e_aload dL_law_1224 rfl ?_
  refine e_iload dL_law_1225 rfl ?_
  refine e_push dL_law_1226 ?_
  refine e_iadd dL_law_1227 ?_
  refine e_sld (6 * t + 1) dL_law_1228 (show nI (6 * t) + 1 = nI (6 * t + 1) from nI_add (6 * t) 1) (by omega) (by omega) ?_
  refine e_cM ?_
  refine e_callV1 dL_law_1229 ca_L_130 (dmW_M _ _).1 ctM_o (rm_law (by decide) (by decide) (by simp only [RmA]; omega) (by simp only [RmA]; omega)) (c_X12_count (dmW_M _ _) _ ?_) (by exact Nat.le_of_ble_eq_true rfl)
  refine e_cM2 ?_
  refine e_icmp_eq dL_law_1232 (fun _ => ?_) (fun h => absurd rfl h)
  exact e_wide (by simp only [RmA]; omega) (by simp only [RmA]; omega) (hk _ _ (I.mono (by omega) (by omega)))
