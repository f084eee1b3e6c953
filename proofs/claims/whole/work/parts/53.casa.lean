/-! THE LAW: its calls, 0 to 17 -/
set_option maxRecDepth 20000 in
theorem lw_c0 {κ : gC} {nm : String} {Ls : Int} {xs : Nat → Int32} {X : XT} {ℓ : Int → Int} {s : YT} {n : Int} {M : gM} {i : Int} {c0 s0 : Nat} (C : gF κ (yLw nm) cL_law 4 room_1) (S : gScr κ Ls xs) (hi : 0 ≤ i ∧ i + 6 ≤ Ls ∧ Ls ≤ 3072) (hr : c0 + 13 ≤ 600000 ∧ s0 + 87 ≤ 7302250) (hI : LI X ℓ s n M) (K : ∀ X' ℓ' s' n' M', LI X' ℓ' s' n' M' → G κ M' n' [some (vr (-3)), some (vr 0), some (vr 152), some (vi i)] 1174 [] (c0 + 13) (s0 + 87)) : G κ M n [some (vr (-3)), some (vr 0), some (vr 152), some (vi i)] 188 [] c0 s0 := by
  have hX := hI.1
  have hO := hI.2.2.1
  refine s_n1_aload C dL_law_188 ?_
  refine s_n0_aload C dL_law_189 ?_
  refine s_n3_iload C dL_law_190 ?_
  refine g_iconst C dL_law_191 ?_
  refine g_iadd C dL_law_192 ?_
  refine g_sld C S dL_law_193 (by omega) ?_
  refine s_n0_aload C dL_law_194 ?_
  refine s_n3_iload C dL_law_195 ?_
  refine g_iconst C dL_law_196 ?_
  refine g_iadd C dL_law_197 ?_
  refine g_sld C S dL_law_198 (by omega) ?_
  refine s_n0_aload C dL_law_199 ?_
  refine s_n3_iload C dL_law_200 ?_
  refine g_iconst C dL_law_201 ?_
  refine g_iadd C dL_law_202 ?_
  refine g_sld C S dL_law_203 (by omega) ?_
  refine g_invV C ((ct_X11_row hX hO (scR xs (i + 1)) (scR xs (i + 2)) (scR xs (i + 3))).mono (fun _ _ _ h => h.R (xRow_ok hO _ _ _))) hX.o cv_L_13_11 (rml (by decide) (by decide) (by show c0 + 0 ≤ 600000; omega) (by show s0 + 0 ≤ 7302250; omega)) (Nat.le_of_ble_eq_true rfl) rfl dL_law_204 rfl (q_x (fun ℓ1 X1 M1 n1 hX1 he1 hs1 => ?_))
  have hY1 := hI.2.1.of hX1.rf
  refine s_n2_aload C dL_law_207 ?_
  refine s_n0_aload C dL_law_208 ?_
  refine s_n3_iload C dL_law_209 ?_
  refine g_iconst C dL_law_210 ?_
  refine g_iadd C dL_law_211 ?_
  refine g_sld C S dL_law_212 (by omega) ?_
  refine s_n0_aload C dL_law_213 ?_
  refine s_n3_iload C dL_law_214 ?_
  refine g_iconst C dL_law_215 ?_
  refine g_iadd C dL_law_216 ?_
  refine g_sld C S dL_law_217 (by omega) ?_
  refine s_n0_aload C dL_law_218 ?_
  refine s_n3_iload C dL_law_219 ?_
  refine g_iconst C dL_law_220 ?_
  refine g_iadd C dL_law_221 ?_
  refine g_sld C S dL_law_222 (by omega) ?_
  refine g_invV C ((ct_X12_row hI.2.2.2 hO (scR xs (i + 1)) (scR xs (i + 2)) (scR xs (i + 3)) (M := M1) (n := n1)).conv (YO_self hY1) rfl) ((hY1 152 (by decide) (by decide)).symm.trans (YO_o ..)) cv_L_17_12 (rml (by decide) (by decide) (by show c0 + 0 + 0 ≤ 600000; omega) (by show s0 + 0 + 0 ≤ 7302250; omega)) (Nat.le_of_ble_eq_true rfl) rfl dL_law_223 rfl (q_y (fun s2 hr2 => ?_))
  refine g_icmp_same 1174 C dL_law_226 (by decide) ?_
  exact G.widen (by show c0 + 0 + 0 ≤ c0 + 13; omega) (by show s0 + 0 + 0 ≤ s0 + 87; omega) (K _ _ _ _ _ (LI.step hX1 he1 hs1 (xRow_ok hO _ _ _) hr2))
set_option maxRecDepth 20000 in
theorem lw_c1 {κ : gC} {nm : String} {Ls : Int} {xs : Nat → Int32} {X : XT} {ℓ : Int → Int} {s : YT} {n : Int} {M : gM} {i : Int} {c0 s0 : Nat} (C : gF κ (yLw nm) cL_law 4 room_1) (S : gScr κ Ls xs) (hi : 0 ≤ i ∧ i + 6 ≤ Ls ∧ Ls ≤ 3072) (hr : c0 + 13 ≤ 600000 ∧ s0 + 87 ≤ 7302250) (hI : LI X ℓ s n M) (K : ∀ X' ℓ' s' n' M', LI X' ℓ' s' n' M' → G κ M' n' [some (vr (-3)), some (vr 0), some (vr 152), some (vi i)] 1174 [] (c0 + 13) (s0 + 87)) : G κ M n [some (vr (-3)), some (vr 0), some (vr 152), some (vi i)] 231 [] c0 s0 := by
  have hX := hI.1
  have hO := hI.2.2.1
  refine s_n1_aload C dL_law_231 ?_
  refine s_n0_aload C dL_law_232 ?_
  refine s_n3_iload C dL_law_233 ?_
  refine g_iconst C dL_law_234 ?_
  refine g_iadd C dL_law_235 ?_
  refine g_sld C S dL_law_236 (by omega) ?_
  refine s_n0_aload C dL_law_237 ?_
  refine s_n3_iload C dL_law_238 ?_
  refine g_iconst C dL_law_239 ?_
  refine g_iadd C dL_law_240 ?_
  refine g_sld C S dL_law_241 (by omega) ?_
  refine s_n0_aload C dL_law_242 ?_
  refine s_n3_iload C dL_law_243 ?_
  refine g_iconst C dL_law_244 ?_
  refine g_iadd C dL_law_245 ?_
  refine g_sld C S dL_law_246 (by omega) ?_
  refine g_invV C ((ct_X11_set hX hO (scR xs (i + 1)) (scR xs (i + 2)) (scR xs (i + 3))).mono (fun _ _ _ h => h.R (xSet_ok hO _ _ (scR xs (i + 3))))) hX.o cv_L_18_11 (rml (by decide) (by decide) (by show c0 + 0 ≤ 600000; omega) (by show s0 + 0 ≤ 7302250; omega)) (Nat.le_of_ble_eq_true rfl) rfl dL_law_247 rfl (q_x (fun ℓ1 X1 M1 n1 hX1 he1 hs1 => ?_))
  have hY1 := hI.2.1.of hX1.rf
  refine s_n2_aload C dL_law_250 ?_
  refine s_n0_aload C dL_law_251 ?_
  refine s_n3_iload C dL_law_252 ?_
  refine g_iconst C dL_law_253 ?_
  refine g_iadd C dL_law_254 ?_
  refine g_sld C S dL_law_255 (by omega) ?_
  refine s_n0_aload C dL_law_256 ?_
  refine s_n3_iload C dL_law_257 ?_
  refine g_iconst C dL_law_258 ?_
  refine g_iadd C dL_law_259 ?_
  refine g_sld C S dL_law_260 (by omega) ?_
  refine s_n0_aload C dL_law_261 ?_
  refine s_n3_iload C dL_law_262 ?_
  refine g_iconst C dL_law_263 ?_
  refine g_iadd C dL_law_264 ?_
  refine g_sld C S dL_law_265 (by omega) ?_
  refine g_invV C ((ct_X12_set hI.2.2.2 hO (scR xs (i + 1)) (scR xs (i + 2)) (scR xs (i + 3)) (M := M1) (n := n1)).conv (YO_self hY1) rfl) ((hY1 152 (by decide) (by decide)).symm.trans (YO_o ..)) cv_L_21_12 (rml (by decide) (by decide) (by show c0 + 0 + 0 ≤ 600000; omega) (by show s0 + 0 + 0 ≤ 7302250; omega)) (Nat.le_of_ble_eq_true rfl) rfl dL_law_266 rfl (q_y (fun s2 hr2 => ?_))
  refine g_icmp_same 1174 C dL_law_269 (by decide) ?_
  exact G.widen (by show c0 + 0 + 0 ≤ c0 + 13; omega) (by show s0 + 0 + 0 ≤ s0 + 87; omega) (K _ _ _ _ _ (LI.step hX1 he1 hs1 (xSet_ok hO _ _ (scR xs (i + 3))) hr2))
set_option maxRecDepth 20000 in
theorem lw_c2 {κ : gC} {nm : String} {Ls : Int} {xs : Nat → Int32} {X : XT} {ℓ : Int → Int} {s : YT} {n : Int} {M : gM} {i : Int} {c0 s0 : Nat} (C : gF κ (yLw nm) cL_law 4 room_1) (S : gScr κ Ls xs) (hi : 0 ≤ i ∧ i + 6 ≤ Ls ∧ Ls ≤ 3072) (hr : c0 + 13 ≤ 600000 ∧ s0 + 87 ≤ 7302250) (hI : LI X ℓ s n M) (K : ∀ X' ℓ' s' n' M', LI X' ℓ' s' n' M' → G κ M' n' [some (vr (-3)), some (vr 0), some (vr 152), some (vi i)] 1174 [] (c0 + 13) (s0 + 87)) : G κ M n [some (vr (-3)), some (vr 0), some (vr 152), some (vi i)] 274 [] c0 s0 := by
  have hX := hI.1
  have hO := hI.2.2.1
  refine s_n1_aload C dL_law_274 ?_
  refine s_n0_aload C dL_law_275 ?_
  refine s_n3_iload C dL_law_276 ?_
  refine g_iconst C dL_law_277 ?_
  refine g_iadd C dL_law_278 ?_
  refine g_sld C S dL_law_279 (by omega) ?_
  refine s_n0_aload C dL_law_280 ?_
  refine s_n3_iload C dL_law_281 ?_
  refine g_iconst C dL_law_282 ?_
  refine g_iadd C dL_law_283 ?_
  refine g_sld C S dL_law_284 (by omega) ?_
  refine s_n0_aload C dL_law_285 ?_
  refine s_n3_iload C dL_law_286 ?_
  refine g_iconst C dL_law_287 ?_
  refine g_iadd C dL_law_288 ?_
  refine g_sld C S dL_law_289 (by omega) ?_
  refine s_n0_aload C dL_law_290 ?_
  refine s_n3_iload C dL_law_291 ?_
  refine g_iconst C dL_law_292 ?_
  refine g_iadd C dL_law_293 ?_
  refine g_sld C S dL_law_294 (by omega) ?_
  refine s_n0_aload C dL_law_295 ?_
  refine s_n3_iload C dL_law_296 ?_
  refine g_iconst C dL_law_297 ?_
  refine g_iadd C dL_law_298 ?_
  refine g_sld C S dL_law_299 (by omega) ?_
  refine g_invV C ((ct_X11_copy hX hO (scR xs (i + 1)) (scR xs (i + 2)) (scR xs (i + 3)) (scR xs (i + 4)) (scR xs (i + 5))).mono (fun _ _ _ h => h.R (xCopy_ok hO _ _ _ _ _))) hX.o cv_L_22_11 (rml (by decide) (by decide) (by show c0 + 0 ≤ 600000; omega) (by show s0 + 0 ≤ 7302250; omega)) (Nat.le_of_ble_eq_true rfl) rfl dL_law_300 rfl (q_x (fun ℓ1 X1 M1 n1 hX1 he1 hs1 => ?_))
  have hY1 := hI.2.1.of hX1.rf
  refine s_n2_aload C dL_law_303 ?_
  refine s_n0_aload C dL_law_304 ?_
  refine s_n3_iload C dL_law_305 ?_
  refine g_iconst C dL_law_306 ?_
  refine g_iadd C dL_law_307 ?_
  refine g_sld C S dL_law_308 (by omega) ?_
  refine s_n0_aload C dL_law_309 ?_
  refine s_n3_iload C dL_law_310 ?_
  refine g_iconst C dL_law_311 ?_
  refine g_iadd C dL_law_312 ?_
  refine g_sld C S dL_law_313 (by omega) ?_
  refine s_n0_aload C dL_law_314 ?_
  refine s_n3_iload C dL_law_315 ?_
  refine g_iconst C dL_law_316 ?_
  refine g_iadd C dL_law_317 ?_
  refine g_sld C S dL_law_318 (by omega) ?_
  refine s_n0_aload C dL_law_319 ?_
  refine s_n3_iload C dL_law_320 ?_
  refine g_iconst C dL_law_321 ?_
  refine g_iadd C dL_law_322 ?_
  refine g_sld C S dL_law_323 (by omega) ?_
  refine s_n0_aload C dL_law_324 ?_
  refine s_n3_iload C dL_law_325 ?_
  refine g_iconst C dL_law_326 ?_
  refine g_iadd C dL_law_327 ?_
  refine g_sld C S dL_law_328 (by omega) ?_
  refine g_invV C ((ct_X12_copy hI.2.2.2 hO (scR xs (i + 1)) (scR xs (i + 2)) (scR xs (i + 3)) (scR xs (i + 4)) (scR xs (i + 5)) (M := M1) (n := n1)).conv (YO_self hY1) rfl) ((hY1 152 (by decide) (by decide)).symm.trans (YO_o ..)) cv_L_26_12 (rml (by decide) (by decide) (by show c0 + 0 + 0 ≤ 600000; omega) (by show s0 + 0 + 0 ≤ 7302250; omega)) (Nat.le_of_ble_eq_true rfl) rfl dL_law_329 rfl (q_y (fun s2 hr2 => ?_))
  refine g_icmp_same 1174 C dL_law_332 (by decide) ?_
  exact G.widen (by show c0 + 0 + 0 ≤ c0 + 13; omega) (by show s0 + 0 + 0 ≤ s0 + 87; omega) (K _ _ _ _ _ (LI.step hX1 he1 hs1 (xCopy_ok hO _ _ _ _ _) hr2))
set_option maxRecDepth 20000 in
theorem lw_c3 {κ : gC} {nm : String} {Ls : Int} {xs : Nat → Int32} {X : XT} {ℓ : Int → Int} {s : YT} {n : Int} {M : gM} {i : Int} {c0 s0 : Nat} (C : gF κ (yLw nm) cL_law 4 room_1) (S : gScr κ Ls xs) (hi : 0 ≤ i ∧ i + 6 ≤ Ls ∧ Ls ≤ 3072) (hr : c0 + 13 ≤ 600000 ∧ s0 + 87 ≤ 7302250) (hI : LI X ℓ s n M) (K : ∀ X' ℓ' s' n' M', LI X' ℓ' s' n' M' → G κ M' n' [some (vr (-3)), some (vr 0), some (vr 152), some (vi i)] 1174 [] (c0 + 13) (s0 + 87)) : G κ M n [some (vr (-3)), some (vr 0), some (vr 152), some (vi i)] 337 [] c0 s0 := by
  have hX := hI.1
  have hO := hI.2.2.1
  refine s_n1_aload C dL_law_337 ?_
  refine s_n0_aload C dL_law_338 ?_
  refine s_n3_iload C dL_law_339 ?_
  refine g_iconst C dL_law_340 ?_
  refine g_iadd C dL_law_341 ?_
  refine g_sld C S dL_law_342 (by omega) ?_
  refine g_invV C ((ct_X11_drop hX hO (scR xs (i + 1))).mono (fun _ _ _ h => h.R (xDrop_ok hO _))) hX.o cv_L_27_11 (rml (by decide) (by decide) (by show c0 + 0 ≤ 600000; omega) (by show s0 + 0 ≤ 7302250; omega)) (Nat.le_of_ble_eq_true rfl) rfl dL_law_343 rfl (q_x (fun ℓ1 X1 M1 n1 hX1 he1 hs1 => ?_))
  have hY1 := hI.2.1.of hX1.rf
  refine s_n2_aload C dL_law_346 ?_
  refine s_n0_aload C dL_law_347 ?_
  refine s_n3_iload C dL_law_348 ?_
  refine g_iconst C dL_law_349 ?_
  refine g_iadd C dL_law_350 ?_
  refine g_sld C S dL_law_351 (by omega) ?_
  refine g_invV C ((ct_X12_drop hI.2.2.2 hO (scR xs (i + 1)) (M := M1) (n := n1)).conv (YO_self hY1) rfl) ((hY1 152 (by decide) (by decide)).symm.trans (YO_o ..)) cv_L_31_12 (rml (by decide) (by decide) (by show c0 + 0 + 0 ≤ 600000; omega) (by show s0 + 0 + 0 ≤ 7302250; omega)) (Nat.le_of_ble_eq_true rfl) rfl dL_law_352 rfl (q_y (fun s2 hr2 => ?_))
  refine g_icmp_same 1174 C dL_law_355 (by decide) ?_
  exact G.widen (by show c0 + 0 + 0 ≤ c0 + 13; omega) (by show s0 + 0 + 0 ≤ s0 + 87; omega) (K _ _ _ _ _ (LI.step hX1 he1 hs1 (xDrop_ok hO _) hr2))
set_option maxRecDepth 20000 in
theorem lw_c4 {κ : gC} {nm : String} {Ls : Int} {xs : Nat → Int32} {X : XT} {ℓ : Int → Int} {s : YT} {n : Int} {M : gM} {i : Int} {c0 s0 : Nat} (C : gF κ (yLw nm) cL_law 4 room_1) (S : gScr κ Ls xs) (hi : 0 ≤ i ∧ i + 6 ≤ Ls ∧ Ls ≤ 3072) (hr : c0 + 13 ≤ 600000 ∧ s0 + 87 ≤ 7302250) (hI : LI X ℓ s n M) (K : ∀ X' ℓ' s' n' M', LI X' ℓ' s' n' M' → G κ M' n' [some (vr (-3)), some (vr 0), some (vr 152), some (vi i)] 1174 [] (c0 + 13) (s0 + 87)) : G κ M n [some (vr (-3)), some (vr 0), some (vr 152), some (vi i)] 360 [] c0 s0 := by
  have hX := hI.1
  have hO := hI.2.2.1
  refine s_n1_aload C dL_law_360 ?_
  refine s_n0_aload C dL_law_361 ?_
  refine s_n3_iload C dL_law_362 ?_
  refine g_iconst C dL_law_363 ?_
  refine g_iadd C dL_law_364 ?_
  refine g_sld C S dL_law_365 (by omega) ?_
  refine g_invV C ((ct_X11_feed hX hO (scR xs (i + 1))).mono (fun _ _ _ h => h.R (xFeed_ok hO _))) hX.o cv_L_32_11 (rml (by decide) (by decide) (by show c0 + 0 ≤ 600000; omega) (by show s0 + 0 ≤ 7302250; omega)) (Nat.le_of_ble_eq_true rfl) rfl dL_law_366 rfl (q_x (fun ℓ1 X1 M1 n1 hX1 he1 hs1 => ?_))
  have hY1 := hI.2.1.of hX1.rf
  refine s_n2_aload C dL_law_369 ?_
  refine s_n0_aload C dL_law_370 ?_
  refine s_n3_iload C dL_law_371 ?_
  refine g_iconst C dL_law_372 ?_
  refine g_iadd C dL_law_373 ?_
  refine g_sld C S dL_law_374 (by omega) ?_
  refine g_invV C ((ct_X12_feed hI.2.2.2 hO (scR xs (i + 1)) (M := M1) (n := n1)).conv (YO_self hY1) rfl) ((hY1 152 (by decide) (by decide)).symm.trans (YO_o ..)) cv_L_35_12 (rml (by decide) (by decide) (by show c0 + 0 + 0 ≤ 600000; omega) (by show s0 + 0 + 0 ≤ 7302250; omega)) (Nat.le_of_ble_eq_true rfl) rfl dL_law_375 rfl (q_y (fun s2 hr2 => ?_))
  refine g_icmp_same 1174 C dL_law_378 (by decide) ?_
  exact G.widen (by show c0 + 0 + 0 ≤ c0 + 13; omega) (by show s0 + 0 + 0 ≤ s0 + 87; omega) (K _ _ _ _ _ (LI.step hX1 he1 hs1 (xFeed_ok hO _) hr2))
set_option maxRecDepth 20000 in
theorem lw_c5 {κ : gC} {nm : String} {Ls : Int} {xs : Nat → Int32} {X : XT} {ℓ : Int → Int} {s : YT} {n : Int} {M : gM} {i : Int} {c0 s0 : Nat} (C : gF κ (yLw nm) cL_law 4 room_1) (S : gScr κ Ls xs) (hi : 0 ≤ i ∧ i + 6 ≤ Ls ∧ Ls ≤ 3072) (hr : c0 + 13 ≤ 600000 ∧ s0 + 87 ≤ 7302250) (hI : LI X ℓ s n M) (K : ∀ X' ℓ' s' n' M', LI X' ℓ' s' n' M' → G κ M' n' [some (vr (-3)), some (vr 0), some (vr 152), some (vi i)] 1174 [] (c0 + 13) (s0 + 87)) : G κ M n [some (vr (-3)), some (vr 0), some (vr 152), some (vi i)] 383 [] c0 s0 := by
  have hX := hI.1
  have hO := hI.2.2.1
  refine s_n1_aload C dL_law_383 ?_
  refine g_invV C (ct_X11_table hX hO) hX.o cv_L_36_11 (rml (by decide) (by decide) (by show c0 + 13 ≤ 600000; omega) (by show s0 + 87 ≤ 7302250; omega)) (Nat.le_of_ble_eq_true rfl) rfl dL_law_384 rfl (q_x (fun ℓ1 X1 M1 n1 hX1 he1 hs1 => ?_))
  have hY1 := hI.2.1.of hX1.rf
  refine s_n2_aload C dL_law_387 ?_
  refine g_invV C ((ct_X12_table hI.2.2.2 hO (M := M1) (n := n1)).conv (YO_self hY1) rfl) ((hY1 152 (by decide) (by decide)).symm.trans (YO_o ..)) cv_L_40_12 (rml (by decide) (by decide) (by show c0 + 13 + 0 ≤ 600000; omega) (by show s0 + 87 + 0 ≤ 7302250; omega)) (Nat.le_of_ble_eq_true rfl) rfl dL_law_388 rfl (q_y (fun s2 hr2 => ?_))
  refine g_icmp_same 1174 C dL_law_391 (by decide) ?_
  exact G.widen (by show c0 + 13 + 0 ≤ c0 + 13; omega) (by show s0 + 87 + 0 ≤ s0 + 87; omega) (K _ _ _ _ _ (LI.step hX1 he1 hs1 (xTable_ok hO) hr2))
set_option maxRecDepth 20000 in
theorem lw_c6 {κ : gC} {nm : String} {Ls : Int} {xs : Nat → Int32} {X : XT} {ℓ : Int → Int} {s : YT} {n : Int} {M : gM} {i : Int} {c0 s0 : Nat} (C : gF κ (yLw nm) cL_law 4 room_1) (S : gScr κ Ls xs) (hi : 0 ≤ i ∧ i + 6 ≤ Ls ∧ Ls ≤ 3072) (hr : c0 + 13 ≤ 600000 ∧ s0 + 87 ≤ 7302250) (hI : LI X ℓ s n M) (K : ∀ X' ℓ' s' n' M', LI X' ℓ' s' n' M' → G κ M' n' [some (vr (-3)), some (vr 0), some (vr 152), some (vi i)] 1174 [] (c0 + 13) (s0 + 87)) : G κ M n [some (vr (-3)), some (vr 0), some (vr 152), some (vi i)] 396 [] c0 s0 := by
  have hX := hI.1
  have hO := hI.2.2.1
  refine s_n1_aload C dL_law_396 ?_
  refine g_invV C ((ct_X11_fault hX hO).mono (fun _ _ _ h => h.R hO)) hX.o cv_L_41_11 (rml (by decide) (by decide) (by show c0 + 0 ≤ 600000; omega) (by show s0 + 0 ≤ 7302250; omega)) (Nat.le_of_ble_eq_true rfl) rfl dL_law_397 rfl (q_x (fun ℓ1 X1 M1 n1 hX1 he1 hs1 => ?_))
  have hY1 := hI.2.1.of hX1.rf
  refine s_n2_aload C dL_law_400 ?_
  refine g_invV C ((ct_X12_fault hI.2.2.2 hO (M := M1) (n := n1)).conv (YO_self hY1) rfl) ((hY1 152 (by decide) (by decide)).symm.trans (YO_o ..)) cv_L_44_12 (rml (by decide) (by decide) (by show c0 + 0 + 0 ≤ 600000; omega) (by show s0 + 0 + 0 ≤ 7302250; omega)) (Nat.le_of_ble_eq_true rfl) rfl dL_law_401 rfl (q_y (fun s2 hr2 => ?_))
  refine g_icmp_same 1174 C dL_law_404 (by decide) ?_
  exact G.widen (by show c0 + 0 + 0 ≤ c0 + 13; omega) (by show s0 + 0 + 0 ≤ s0 + 87; omega) (K _ _ _ _ _ (LI.step hX1 he1 hs1 hO hr2))
set_option maxRecDepth 20000 in
theorem lw_c7 {κ : gC} {nm : String} {Ls : Int} {xs : Nat → Int32} {X : XT} {ℓ : Int → Int} {s : YT} {n : Int} {M : gM} {i : Int} {c0 s0 : Nat} (C : gF κ (yLw nm) cL_law 4 room_1) (S : gScr κ Ls xs) (hi : 0 ≤ i ∧ i + 6 ≤ Ls ∧ Ls ≤ 3072) (hr : c0 + 13 ≤ 600000 ∧ s0 + 87 ≤ 7302250) (hI : LI X ℓ s n M) (K : ∀ X' ℓ' s' n' M', LI X' ℓ' s' n' M' → G κ M' n' [some (vr (-3)), some (vr 0), some (vr 152), some (vi i)] 1174 [] (c0 + 13) (s0 + 87)) : G κ M n [some (vr (-3)), some (vr 0), some (vr 152), some (vi i)] 409 [] c0 s0 := by
  have hX := hI.1
  have hO := hI.2.2.1
  refine s_n1_aload C dL_law_409 ?_
  refine g_invV C ((ct_X11_undo hX hO).mono (fun _ _ _ h => h.R (xUndo_ok hO))) hX.o cv_L_45_11 (rml (by decide) (by decide) (by show c0 + 0 ≤ 600000; omega) (by show s0 + 0 ≤ 7302250; omega)) (Nat.le_of_ble_eq_true rfl) rfl dL_law_410 rfl (q_x (fun ℓ1 X1 M1 n1 hX1 he1 hs1 => ?_))
  have hY1 := hI.2.1.of hX1.rf
  refine s_n2_aload C dL_law_413 ?_
  refine g_invV C ((ct_X12_undo hI.2.2.2 hO (M := M1) (n := n1)).conv (YO_self hY1) rfl) ((hY1 152 (by decide) (by decide)).symm.trans (YO_o ..)) cv_L_48_12 (rml (by decide) (by decide) (by show c0 + 0 + 0 ≤ 600000; omega) (by show s0 + 0 + 0 ≤ 7302250; omega)) (Nat.le_of_ble_eq_true rfl) rfl dL_law_414 rfl (q_y (fun s2 hr2 => ?_))
  refine g_icmp_same 1174 C dL_law_417 (by decide) ?_
  exact G.widen (by show c0 + 0 + 0 ≤ c0 + 13; omega) (by show s0 + 0 + 0 ≤ s0 + 87; omega) (K _ _ _ _ _ (LI.step hX1 he1 hs1 (xUndo_ok hO) hr2))
set_option maxRecDepth 20000 in
theorem lw_c8 {κ : gC} {nm : String} {Ls : Int} {xs : Nat → Int32} {X : XT} {ℓ : Int → Int} {s : YT} {n : Int} {M : gM} {i : Int} {c0 s0 : Nat} (C : gF κ (yLw nm) cL_law 4 room_1) (S : gScr κ Ls xs) (hi : 0 ≤ i ∧ i + 6 ≤ Ls ∧ Ls ≤ 3072) (hr : c0 + 13 ≤ 600000 ∧ s0 + 87 ≤ 7302250) (hI : LI X ℓ s n M) (K : ∀ X' ℓ' s' n' M', LI X' ℓ' s' n' M' → G κ M' n' [some (vr (-3)), some (vr 0), some (vr 152), some (vi i)] 1174 [] (c0 + 13) (s0 + 87)) : G κ M n [some (vr (-3)), some (vr 0), some (vr 152), some (vi i)] 422 [] c0 s0 := by
  have hX := hI.1
  have hO := hI.2.2.1
  refine s_n1_aload C dL_law_422 ?_
  refine s_n0_aload C dL_law_423 ?_
  refine s_n3_iload C dL_law_424 ?_
  refine g_iconst C dL_law_425 ?_
  refine g_iadd C dL_law_426 ?_
  refine g_sld C S dL_law_427 (by omega) ?_
  refine s_n0_aload C dL_law_428 ?_
  refine s_n3_iload C dL_law_429 ?_
  refine g_iconst C dL_law_430 ?_
  refine g_iadd C dL_law_431 ?_
  refine g_sld C S dL_law_432 (by omega) ?_
  refine g_invV C ((ct_X11_charge hX hO (scR xs (i + 1)) (scR xs (i + 2))).mono (fun _ _ _ h => h.R (xCharge_ok hO _ _))) hX.o cv_L_49_11 (rml (by decide) (by decide) (by show c0 + 0 ≤ 600000; omega) (by show s0 + 0 ≤ 7302250; omega)) (Nat.le_of_ble_eq_true rfl) rfl dL_law_433 rfl (q_x (fun ℓ1 X1 M1 n1 hX1 he1 hs1 => ?_))
  have hY1 := hI.2.1.of hX1.rf
  refine s_n2_aload C dL_law_436 ?_
  refine s_n0_aload C dL_law_437 ?_
  refine s_n3_iload C dL_law_438 ?_
  refine g_iconst C dL_law_439 ?_
  refine g_iadd C dL_law_440 ?_
  refine g_sld C S dL_law_441 (by omega) ?_
  refine s_n0_aload C dL_law_442 ?_
  refine s_n3_iload C dL_law_443 ?_
  refine g_iconst C dL_law_444 ?_
  refine g_iadd C dL_law_445 ?_
  refine g_sld C S dL_law_446 (by omega) ?_
  refine g_invV C ((ct_X12_charge hI.2.2.2 hO (scR xs (i + 1)) (scR xs (i + 2)) (M := M1) (n := n1)).conv (YO_self hY1) rfl) ((hY1 152 (by decide) (by decide)).symm.trans (YO_o ..)) cv_L_53_12 (rml (by decide) (by decide) (by show c0 + 0 + 0 ≤ 600000; omega) (by show s0 + 0 + 0 ≤ 7302250; omega)) (Nat.le_of_ble_eq_true rfl) rfl dL_law_447 rfl (q_y (fun s2 hr2 => ?_))
  refine g_icmp_same 1174 C dL_law_450 (by decide) ?_
  exact G.widen (by show c0 + 0 + 0 ≤ c0 + 13; omega) (by show s0 + 0 + 0 ≤ s0 + 87; omega) (K _ _ _ _ _ (LI.step hX1 he1 hs1 (xCharge_ok hO _ _) hr2))
set_option maxRecDepth 20000 in
theorem lw_c9 {κ : gC} {nm : String} {Ls : Int} {xs : Nat → Int32} {X : XT} {ℓ : Int → Int} {s : YT} {n : Int} {M : gM} {i : Int} {c0 s0 : Nat} (C : gF κ (yLw nm) cL_law 4 room_1) (S : gScr κ Ls xs) (hi : 0 ≤ i ∧ i + 6 ≤ Ls ∧ Ls ≤ 3072) (hr : c0 + 13 ≤ 600000 ∧ s0 + 87 ≤ 7302250) (hI : LI X ℓ s n M) (K : ∀ X' ℓ' s' n' M', LI X' ℓ' s' n' M' → G κ M' n' [some (vr (-3)), some (vr 0), some (vr 152), some (vi i)] 1174 [] (c0 + 13) (s0 + 87)) : G κ M n [some (vr (-3)), some (vr 0), some (vr 152), some (vi i)] 455 [] c0 s0 := by
  have hX := hI.1
  have hO := hI.2.2.1
  refine s_n1_aload C dL_law_455 ?_
  refine s_n0_aload C dL_law_456 ?_
  refine s_n3_iload C dL_law_457 ?_
  refine g_iconst C dL_law_458 ?_
  refine g_iadd C dL_law_459 ?_
  refine g_sld C S dL_law_460 (by omega) ?_
  refine g_invV C ((ct_X11_make hX hO (scR xs (i + 1))).mono (fun _ _ _ h => h.R (xMake_ok hO _))) hX.o cv_L_54_11 (rml (by decide) (by decide) (by show c0 + 0 ≤ 600000; omega) (by show s0 + 0 ≤ 7302250; omega)) (Nat.le_of_ble_eq_true rfl) rfl dL_law_461 rfl (q_x (fun ℓ1 X1 M1 n1 hX1 he1 hs1 => ?_))
  have hY1 := hI.2.1.of hX1.rf
  refine s_n2_aload C dL_law_464 ?_
  refine s_n0_aload C dL_law_465 ?_
  refine s_n3_iload C dL_law_466 ?_
  refine g_iconst C dL_law_467 ?_
  refine g_iadd C dL_law_468 ?_
  refine g_sld C S dL_law_469 (by omega) ?_
  refine g_invV C ((ct_X12_make hI.2.2.2 hO (scR xs (i + 1)) (M := M1) (n := n1)).conv (YO_self hY1) rfl) ((hY1 152 (by decide) (by decide)).symm.trans (YO_o ..)) cv_L_57_12 (rml (by decide) (by decide) (by show c0 + 0 + 0 ≤ 600000; omega) (by show s0 + 0 + 0 ≤ 7302250; omega)) (Nat.le_of_ble_eq_true rfl) rfl dL_law_470 rfl (q_y (fun s2 hr2 => ?_))
  refine g_icmp_same 1174 C dL_law_473 (by decide) ?_
  exact G.widen (by show c0 + 0 + 0 ≤ c0 + 13; omega) (by show s0 + 0 + 0 ≤ s0 + 87; omega) (K _ _ _ _ _ (LI.step hX1 he1 hs1 (xMake_ok hO _) hr2))
set_option maxRecDepth 20000 in
theorem lw_c10 {κ : gC} {nm : String} {Ls : Int} {xs : Nat → Int32} {X : XT} {ℓ : Int → Int} {s : YT} {n : Int} {M : gM} {i : Int} {c0 s0 : Nat} (C : gF κ (yLw nm) cL_law 4 room_1) (S : gScr κ Ls xs) (hi : 0 ≤ i ∧ i + 6 ≤ Ls ∧ Ls ≤ 3072) (hr : c0 + 13 ≤ 600000 ∧ s0 + 87 ≤ 7302250) (hI : LI X ℓ s n M) (K : ∀ X' ℓ' s' n' M', LI X' ℓ' s' n' M' → G κ M' n' [some (vr (-3)), some (vr 0), some (vr 152), some (vi i)] 1174 [] (c0 + 13) (s0 + 87)) : G κ M n [some (vr (-3)), some (vr 0), some (vr 152), some (vi i)] 478 [] c0 s0 := by
  have hX := hI.1
  have hO := hI.2.2.1
  refine s_n1_aload C dL_law_478 ?_
  refine s_n0_aload C dL_law_479 ?_
  refine s_n3_iload C dL_law_480 ?_
  refine g_iconst C dL_law_481 ?_
  refine g_iadd C dL_law_482 ?_
  refine g_sld C S dL_law_483 (by omega) ?_
  refine g_invV C ((ct_X11_stand hX hO (scR xs (i + 1))).mono (fun _ _ _ h => h.R (xStand_ok hO _))) hX.o cv_L_58_11 (rml (by decide) (by decide) (by show c0 + 0 ≤ 600000; omega) (by show s0 + 0 ≤ 7302250; omega)) (Nat.le_of_ble_eq_true rfl) rfl dL_law_484 rfl (q_x (fun ℓ1 X1 M1 n1 hX1 he1 hs1 => ?_))
  have hY1 := hI.2.1.of hX1.rf
  refine s_n2_aload C dL_law_487 ?_
  refine s_n0_aload C dL_law_488 ?_
  refine s_n3_iload C dL_law_489 ?_
  refine g_iconst C dL_law_490 ?_
  refine g_iadd C dL_law_491 ?_
  refine g_sld C S dL_law_492 (by omega) ?_
  refine g_invV C ((ct_X12_stand hI.2.2.2 hO (scR xs (i + 1)) (M := M1) (n := n1)).conv (YO_self hY1) rfl) ((hY1 152 (by decide) (by decide)).symm.trans (YO_o ..)) cv_L_61_12 (rml (by decide) (by decide) (by show c0 + 0 + 0 ≤ 600000; omega) (by show s0 + 0 + 0 ≤ 7302250; omega)) (Nat.le_of_ble_eq_true rfl) rfl dL_law_493 rfl (q_y (fun s2 hr2 => ?_))
  refine g_icmp_same 1174 C dL_law_496 (by decide) ?_
  exact G.widen (by show c0 + 0 + 0 ≤ c0 + 13; omega) (by show s0 + 0 + 0 ≤ s0 + 87; omega) (K _ _ _ _ _ (LI.step hX1 he1 hs1 (xStand_ok hO _) hr2))
set_option maxRecDepth 20000 in
theorem lw_c11 {κ : gC} {nm : String} {Ls : Int} {xs : Nat → Int32} {X : XT} {ℓ : Int → Int} {s : YT} {n : Int} {M : gM} {i : Int} {c0 s0 : Nat} (C : gF κ (yLw nm) cL_law 4 room_1) (S : gScr κ Ls xs) (hi : 0 ≤ i ∧ i + 6 ≤ Ls ∧ Ls ≤ 3072) (hr : c0 + 13 ≤ 600000 ∧ s0 + 87 ≤ 7302250) (hI : LI X ℓ s n M) (K : ∀ X' ℓ' s' n' M', LI X' ℓ' s' n' M' → G κ M' n' [some (vr (-3)), some (vr 0), some (vr 152), some (vi i)] 1174 [] (c0 + 13) (s0 + 87)) : G κ M n [some (vr (-3)), some (vr 0), some (vr 152), some (vi i)] 501 [] c0 s0 := by
  have hX := hI.1
  have hO := hI.2.2.1
  refine s_n1_aload C dL_law_501 ?_
  refine g_invV C ((ct_X11_rest hX hO).mono (fun _ _ _ h => h.R (xRest_ok hO))) hX.o cv_L_62_11 (rml (by decide) (by decide) (by show c0 + 0 ≤ 600000; omega) (by show s0 + 0 ≤ 7302250; omega)) (Nat.le_of_ble_eq_true rfl) rfl dL_law_502 rfl (q_x (fun ℓ1 X1 M1 n1 hX1 he1 hs1 => ?_))
  have hY1 := hI.2.1.of hX1.rf
  refine s_n2_aload C dL_law_505 ?_
  refine g_invV C ((ct_X12_rest hI.2.2.2 hO (M := M1) (n := n1)).conv (YO_self hY1) rfl) ((hY1 152 (by decide) (by decide)).symm.trans (YO_o ..)) cv_L_65_12 (rml (by decide) (by decide) (by show c0 + 0 + 0 ≤ 600000; omega) (by show s0 + 0 + 0 ≤ 7302250; omega)) (Nat.le_of_ble_eq_true rfl) rfl dL_law_506 rfl (q_y (fun s2 hr2 => ?_))
  refine g_icmp_same 1174 C dL_law_509 (by decide) ?_
  exact G.widen (by show c0 + 0 + 0 ≤ c0 + 13; omega) (by show s0 + 0 + 0 ≤ s0 + 87; omega) (K _ _ _ _ _ (LI.step hX1 he1 hs1 (xRest_ok hO) hr2))
set_option maxRecDepth 20000 in
theorem lw_c12 {κ : gC} {nm : String} {Ls : Int} {xs : Nat → Int32} {X : XT} {ℓ : Int → Int} {s : YT} {n : Int} {M : gM} {i : Int} {c0 s0 : Nat} (C : gF κ (yLw nm) cL_law 4 room_1) (S : gScr κ Ls xs) (hi : 0 ≤ i ∧ i + 6 ≤ Ls ∧ Ls ≤ 3072) (hr : c0 + 13 ≤ 600000 ∧ s0 + 87 ≤ 7302250) (hI : LI X ℓ s n M) (K : ∀ X' ℓ' s' n' M', LI X' ℓ' s' n' M' → G κ M' n' [some (vr (-3)), some (vr 0), some (vr 152), some (vi i)] 1174 [] (c0 + 13) (s0 + 87)) : G κ M n [some (vr (-3)), some (vr 0), some (vr 152), some (vi i)] 514 [] c0 s0 := by
  have hX := hI.1
  have hO := hI.2.2.1
  refine s_n1_aload C dL_law_514 ?_
  refine s_n0_aload C dL_law_515 ?_
  refine s_n3_iload C dL_law_516 ?_
  refine g_iconst C dL_law_517 ?_
  refine g_iadd C dL_law_518 ?_
  refine g_sld C S dL_law_519 (by omega) ?_
  refine s_n0_aload C dL_law_520 ?_
  refine s_n3_iload C dL_law_521 ?_
  refine g_iconst C dL_law_522 ?_
  refine g_iadd C dL_law_523 ?_
  refine g_sld C S dL_law_524 (by omega) ?_
  refine g_invV C ((ct_X11_cell hX hO (scR xs (i + 1)) (scR xs (i + 2))).mono (fun _ _ _ h => h.R (xCell_ok hO _ _))) hX.o cv_L_66_11 (rml (by decide) (by decide) (by show c0 + 0 ≤ 600000; omega) (by show s0 + 0 ≤ 7302250; omega)) (Nat.le_of_ble_eq_true rfl) rfl dL_law_525 rfl (q_x (fun ℓ1 X1 M1 n1 hX1 he1 hs1 => ?_))
  have hY1 := hI.2.1.of hX1.rf
  refine s_n2_aload C dL_law_528 ?_
  refine s_n0_aload C dL_law_529 ?_
  refine s_n3_iload C dL_law_530 ?_
  refine g_iconst C dL_law_531 ?_
  refine g_iadd C dL_law_532 ?_
  refine g_sld C S dL_law_533 (by omega) ?_
  refine s_n0_aload C dL_law_534 ?_
  refine s_n3_iload C dL_law_535 ?_
  refine g_iconst C dL_law_536 ?_
  refine g_iadd C dL_law_537 ?_
  refine g_sld C S dL_law_538 (by omega) ?_
  refine g_invV C ((ct_X12_cell hI.2.2.2 hO (scR xs (i + 1)) (scR xs (i + 2)) (M := M1) (n := n1)).conv (YO_self hY1) rfl) ((hY1 152 (by decide) (by decide)).symm.trans (YO_o ..)) cv_L_69_12 (rml (by decide) (by decide) (by show c0 + 0 + 0 ≤ 600000; omega) (by show s0 + 0 + 0 ≤ 7302250; omega)) (Nat.le_of_ble_eq_true rfl) rfl dL_law_539 rfl (q_y (fun s2 hr2 => ?_))
  refine g_icmp_same 1174 C dL_law_542 (by decide) ?_
  exact G.widen (by show c0 + 0 + 0 ≤ c0 + 13; omega) (by show s0 + 0 + 0 ≤ s0 + 87; omega) (K _ _ _ _ _ (LI.step hX1 he1 hs1 (xCell_ok hO _ _) hr2))
set_option maxRecDepth 20000 in
theorem lw_c13 {κ : gC} {nm : String} {Ls : Int} {xs : Nat → Int32} {X : XT} {ℓ : Int → Int} {s : YT} {n : Int} {M : gM} {i : Int} {c0 s0 : Nat} (C : gF κ (yLw nm) cL_law 4 room_1) (S : gScr κ Ls xs) (hi : 0 ≤ i ∧ i + 6 ≤ Ls ∧ Ls ≤ 3072) (hr : c0 + 13 ≤ 600000 ∧ s0 + 87 ≤ 7302250) (hI : LI X ℓ s n M) (K : ∀ X' ℓ' s' n' M', LI X' ℓ' s' n' M' → G κ M' n' [some (vr (-3)), some (vr 0), some (vr 152), some (vi i)] 1174 [] (c0 + 13) (s0 + 87)) : G κ M n [some (vr (-3)), some (vr 0), some (vr 152), some (vi i)] 547 [] c0 s0 := by
  have hX := hI.1
  have hO := hI.2.2.1
  refine s_n1_aload C dL_law_547 ?_
  refine s_n0_aload C dL_law_548 ?_
  refine s_n3_iload C dL_law_549 ?_
  refine g_iconst C dL_law_550 ?_
  refine g_iadd C dL_law_551 ?_
  refine g_sld C S dL_law_552 (by omega) ?_
  refine s_n0_aload C dL_law_553 ?_
  refine s_n3_iload C dL_law_554 ?_
  refine g_iconst C dL_law_555 ?_
  refine g_iadd C dL_law_556 ?_
  refine g_sld C S dL_law_557 (by omega) ?_
  refine g_invV C ((ct_X11_path hX hO (scR xs (i + 1)) (scR xs (i + 2))).mono (fun _ _ _ h => h.R (xPath_ok hO _ _))) hX.o cv_L_70_11 (rml (by decide) (by decide) (by show c0 + 0 ≤ 600000; omega) (by show s0 + 0 ≤ 7302250; omega)) (Nat.le_of_ble_eq_true rfl) rfl dL_law_558 rfl (q_x (fun ℓ1 X1 M1 n1 hX1 he1 hs1 => ?_))
  have hY1 := hI.2.1.of hX1.rf
  refine s_n2_aload C dL_law_561 ?_
  refine s_n0_aload C dL_law_562 ?_
  refine s_n3_iload C dL_law_563 ?_
  refine g_iconst C dL_law_564 ?_
  refine g_iadd C dL_law_565 ?_
  refine g_sld C S dL_law_566 (by omega) ?_
  refine s_n0_aload C dL_law_567 ?_
  refine s_n3_iload C dL_law_568 ?_
  refine g_iconst C dL_law_569 ?_
  refine g_iadd C dL_law_570 ?_
  refine g_sld C S dL_law_571 (by omega) ?_
  refine g_invV C ((ct_X12_path hI.2.2.2 hO (scR xs (i + 1)) (scR xs (i + 2)) (M := M1) (n := n1)).conv (YO_self hY1) rfl) ((hY1 152 (by decide) (by decide)).symm.trans (YO_o ..)) cv_L_73_12 (rml (by decide) (by decide) (by show c0 + 0 + 0 ≤ 600000; omega) (by show s0 + 0 + 0 ≤ 7302250; omega)) (Nat.le_of_ble_eq_true rfl) rfl dL_law_572 rfl (q_y (fun s2 hr2 => ?_))
  refine g_icmp_same 1174 C dL_law_575 (by decide) ?_
  exact G.widen (by show c0 + 0 + 0 ≤ c0 + 13; omega) (by show s0 + 0 + 0 ≤ s0 + 87; omega) (K _ _ _ _ _ (LI.step hX1 he1 hs1 (xPath_ok hO _ _) hr2))
set_option maxRecDepth 20000 in
theorem lw_c14 {κ : gC} {nm : String} {Ls : Int} {xs : Nat → Int32} {X : XT} {ℓ : Int → Int} {s : YT} {n : Int} {M : gM} {i : Int} {c0 s0 : Nat} (C : gF κ (yLw nm) cL_law 4 room_1) (S : gScr κ Ls xs) (hi : 0 ≤ i ∧ i + 6 ≤ Ls ∧ Ls ≤ 3072) (hr : c0 + 13 ≤ 600000 ∧ s0 + 87 ≤ 7302250) (hI : LI X ℓ s n M) (K : ∀ X' ℓ' s' n' M', LI X' ℓ' s' n' M' → G κ M' n' [some (vr (-3)), some (vr 0), some (vr 152), some (vi i)] 1174 [] (c0 + 13) (s0 + 87)) : G κ M n [some (vr (-3)), some (vr 0), some (vr 152), some (vi i)] 580 [] c0 s0 := by
  have hX := hI.1
  have hO := hI.2.2.1
  refine s_n1_aload C dL_law_580 ?_
  refine s_n0_aload C dL_law_581 ?_
  refine s_n3_iload C dL_law_582 ?_
  refine g_iconst C dL_law_583 ?_
  refine g_iadd C dL_law_584 ?_
  refine g_sld C S dL_law_585 (by omega) ?_
  refine g_invV C ((ct_X11_pad hX hO (scR xs (i + 1))).mono (fun _ _ _ h => h.R (xPad_ok hO _))) hX.o cv_L_74_11 (rml (by decide) (by decide) (by show c0 + 0 ≤ 600000; omega) (by show s0 + 0 ≤ 7302250; omega)) (Nat.le_of_ble_eq_true rfl) rfl dL_law_586 rfl (q_x (fun ℓ1 X1 M1 n1 hX1 he1 hs1 => ?_))
  have hY1 := hI.2.1.of hX1.rf
  refine s_n2_aload C dL_law_589 ?_
  refine s_n0_aload C dL_law_590 ?_
  refine s_n3_iload C dL_law_591 ?_
  refine g_iconst C dL_law_592 ?_
  refine g_iadd C dL_law_593 ?_
  refine g_sld C S dL_law_594 (by omega) ?_
  refine g_invV C ((ct_X12_pad hI.2.2.2 hO (scR xs (i + 1)) (M := M1) (n := n1)).conv (YO_self hY1) rfl) ((hY1 152 (by decide) (by decide)).symm.trans (YO_o ..)) cv_L_77_12 (rml (by decide) (by decide) (by show c0 + 0 + 0 ≤ 600000; omega) (by show s0 + 0 + 0 ≤ 7302250; omega)) (Nat.le_of_ble_eq_true rfl) rfl dL_law_595 rfl (q_y (fun s2 hr2 => ?_))
  refine g_icmp_same 1174 C dL_law_598 (by decide) ?_
  exact G.widen (by show c0 + 0 + 0 ≤ c0 + 13; omega) (by show s0 + 0 + 0 ≤ s0 + 87; omega) (K _ _ _ _ _ (LI.step hX1 he1 hs1 (xPad_ok hO _) hr2))
set_option maxRecDepth 20000 in
theorem lw_c15 {κ : gC} {nm : String} {Ls : Int} {xs : Nat → Int32} {X : XT} {ℓ : Int → Int} {s : YT} {n : Int} {M : gM} {i : Int} {c0 s0 : Nat} (C : gF κ (yLw nm) cL_law 4 room_1) (S : gScr κ Ls xs) (hi : 0 ≤ i ∧ i + 6 ≤ Ls ∧ Ls ≤ 3072) (hr : c0 + 13 ≤ 600000 ∧ s0 + 87 ≤ 7302250) (hI : LI X ℓ s n M) (K : ∀ X' ℓ' s' n' M', LI X' ℓ' s' n' M' → G κ M' n' [some (vr (-3)), some (vr 0), some (vr 152), some (vi i)] 1174 [] (c0 + 13) (s0 + 87)) : G κ M n [some (vr (-3)), some (vr 0), some (vr 152), some (vi i)] 603 [] c0 s0 := by
  have hX := hI.1
  have hO := hI.2.2.1
  refine s_n1_aload C dL_law_603 ?_
  refine s_n0_aload C dL_law_604 ?_
  refine s_n3_iload C dL_law_605 ?_
  refine g_iconst C dL_law_606 ?_
  refine g_iadd C dL_law_607 ?_
  refine g_sld C S dL_law_608 (by omega) ?_
  refine s_n0_aload C dL_law_609 ?_
  refine s_n3_iload C dL_law_610 ?_
  refine g_iconst C dL_law_611 ?_
  refine g_iadd C dL_law_612 ?_
  refine g_sld C S dL_law_613 (by omega) ?_
  refine s_n0_aload C dL_law_614 ?_
  refine s_n3_iload C dL_law_615 ?_
  refine g_iconst C dL_law_616 ?_
  refine g_iadd C dL_law_617 ?_
  refine g_sld C S dL_law_618 (by omega) ?_
  refine g_invV C ((ct_X11_ahead hX hO (scR xs (i + 1)) (scR xs (i + 2)) (scR xs (i + 3))).mono (fun _ _ _ h => h.R (xAhead_ok hO _ _ _))) hX.o cv_L_78_11 (rml (by decide) (by decide) (by show c0 + 0 ≤ 600000; omega) (by show s0 + 0 ≤ 7302250; omega)) (Nat.le_of_ble_eq_true rfl) rfl dL_law_619 rfl (q_x (fun ℓ1 X1 M1 n1 hX1 he1 hs1 => ?_))
  have hY1 := hI.2.1.of hX1.rf
  refine s_n2_aload C dL_law_622 ?_
  refine s_n0_aload C dL_law_623 ?_
  refine s_n3_iload C dL_law_624 ?_
  refine g_iconst C dL_law_625 ?_
  refine g_iadd C dL_law_626 ?_
  refine g_sld C S dL_law_627 (by omega) ?_
  refine s_n0_aload C dL_law_628 ?_
  refine s_n3_iload C dL_law_629 ?_
  refine g_iconst C dL_law_630 ?_
  refine g_iadd C dL_law_631 ?_
  refine g_sld C S dL_law_632 (by omega) ?_
  refine s_n0_aload C dL_law_633 ?_
  refine s_n3_iload C dL_law_634 ?_
  refine g_iconst C dL_law_635 ?_
  refine g_iadd C dL_law_636 ?_
  refine g_sld C S dL_law_637 (by omega) ?_
  refine g_invV C ((ct_X12_ahead hI.2.2.2 hO (scR xs (i + 1)) (scR xs (i + 2)) (scR xs (i + 3)) (M := M1) (n := n1)).conv (YO_self hY1) rfl) ((hY1 152 (by decide) (by decide)).symm.trans (YO_o ..)) cv_L_81_12 (rml (by decide) (by decide) (by show c0 + 0 + 0 ≤ 600000; omega) (by show s0 + 0 + 0 ≤ 7302250; omega)) (Nat.le_of_ble_eq_true rfl) rfl dL_law_638 rfl (q_y (fun s2 hr2 => ?_))
  refine g_icmp_same 1174 C dL_law_641 (by decide) ?_
  exact G.widen (by show c0 + 0 + 0 ≤ c0 + 13; omega) (by show s0 + 0 + 0 ≤ s0 + 87; omega) (K _ _ _ _ _ (LI.step hX1 he1 hs1 (xAhead_ok hO _ _ _) hr2))
set_option maxRecDepth 20000 in
theorem lw_c16 {κ : gC} {nm : String} {Ls : Int} {xs : Nat → Int32} {X : XT} {ℓ : Int → Int} {s : YT} {n : Int} {M : gM} {i : Int} {c0 s0 : Nat} (C : gF κ (yLw nm) cL_law 4 room_1) (S : gScr κ Ls xs) (hi : 0 ≤ i ∧ i + 6 ≤ Ls ∧ Ls ≤ 3072) (hr : c0 + 13 ≤ 600000 ∧ s0 + 87 ≤ 7302250) (hI : LI X ℓ s n M) (K : ∀ X' ℓ' s' n' M', LI X' ℓ' s' n' M' → G κ M' n' [some (vr (-3)), some (vr 0), some (vr 152), some (vi i)] 1174 [] (c0 + 13) (s0 + 87)) : G κ M n [some (vr (-3)), some (vr 0), some (vr 152), some (vi i)] 646 [] c0 s0 := by
  have hX := hI.1
  have hO := hI.2.2.1
  refine s_n1_aload C dL_law_646 ?_
  refine s_n0_aload C dL_law_647 ?_
  refine s_n3_iload C dL_law_648 ?_
  refine g_iconst C dL_law_649 ?_
  refine g_iadd C dL_law_650 ?_
  refine g_sld C S dL_law_651 (by omega) ?_
  refine g_invV C ((ct_X11_uneven hX hO (scR xs (i + 1))).mono (fun _ _ _ h => h.R (xUneven_ok hO _))) hX.o cv_L_82_11 (rml (by decide) (by decide) (by show c0 + 0 ≤ 600000; omega) (by show s0 + 0 ≤ 7302250; omega)) (Nat.le_of_ble_eq_true rfl) rfl dL_law_652 rfl (q_x (fun ℓ1 X1 M1 n1 hX1 he1 hs1 => ?_))
  have hY1 := hI.2.1.of hX1.rf
  refine s_n2_aload C dL_law_655 ?_
  refine s_n0_aload C dL_law_656 ?_
  refine s_n3_iload C dL_law_657 ?_
  refine g_iconst C dL_law_658 ?_
  refine g_iadd C dL_law_659 ?_
  refine g_sld C S dL_law_660 (by omega) ?_
  refine g_invV C ((ct_X12_uneven hI.2.2.2 hO (scR xs (i + 1)) (M := M1) (n := n1)).conv (YO_self hY1) rfl) ((hY1 152 (by decide) (by decide)).symm.trans (YO_o ..)) cv_L_85_12 (rml (by decide) (by decide) (by show c0 + 0 + 0 ≤ 600000; omega) (by show s0 + 0 + 0 ≤ 7302250; omega)) (Nat.le_of_ble_eq_true rfl) rfl dL_law_661 rfl (q_y (fun s2 hr2 => ?_))
  refine g_icmp_same 1174 C dL_law_664 (by decide) ?_
  exact G.widen (by show c0 + 0 + 0 ≤ c0 + 13; omega) (by show s0 + 0 + 0 ≤ s0 + 87; omega) (K _ _ _ _ _ (LI.step hX1 he1 hs1 (xUneven_ok hO _) hr2))
set_option maxRecDepth 20000 in
theorem lw_c17 {κ : gC} {nm : String} {Ls : Int} {xs : Nat → Int32} {X : XT} {ℓ : Int → Int} {s : YT} {n : Int} {M : gM} {i : Int} {c0 s0 : Nat} (C : gF κ (yLw nm) cL_law 4 room_1) (S : gScr κ Ls xs) (hi : 0 ≤ i ∧ i + 6 ≤ Ls ∧ Ls ≤ 3072) (hr : c0 + 13 ≤ 600000 ∧ s0 + 87 ≤ 7302250) (hI : LI X ℓ s n M) (K : ∀ X' ℓ' s' n' M', LI X' ℓ' s' n' M' → G κ M' n' [some (vr (-3)), some (vr 0), some (vr 152), some (vi i)] 1174 [] (c0 + 13) (s0 + 87)) : G κ M n [some (vr (-3)), some (vr 0), some (vr 152), some (vi i)] 669 [] c0 s0 := by
  have hX := hI.1
  have hO := hI.2.2.1
  refine s_n1_aload C dL_law_669 ?_
  refine s_n0_aload C dL_law_670 ?_
  refine s_n3_iload C dL_law_671 ?_
  refine g_iconst C dL_law_672 ?_
  refine g_iadd C dL_law_673 ?_
  refine g_sld C S dL_law_674 (by omega) ?_
  refine g_invV C ((ct_X11_order hX hO (scR xs (i + 1))).mono (fun _ _ _ h => h.R)) hX.o cv_L_86_11 (rml (by decide) (by decide) (by show c0 + 0 ≤ 600000; omega) (by show s0 + 0 ≤ 7302250; omega)) (Nat.le_of_ble_eq_true rfl) rfl dL_law_675 rfl (q_x (fun ℓ1 X1 M1 n1 hX1 he1 hs1 => ?_))
  have hY1 := hI.2.1.of hX1.rf
  refine s_n2_aload C dL_law_678 ?_
  refine s_n0_aload C dL_law_679 ?_
  refine s_n3_iload C dL_law_680 ?_
  refine g_iconst C dL_law_681 ?_
  refine g_iadd C dL_law_682 ?_
  refine g_sld C S dL_law_683 (by omega) ?_
  refine g_invV C ((ct_X12_order hI.2.2.2 hO (scR xs (i + 1)) (M := M1) (n := n1)).conv (YO_self hY1) rfl) ((hY1 152 (by decide) (by decide)).symm.trans (YO_o ..)) cv_L_89_12 (rml (by decide) (by decide) (by show c0 + 0 + 0 ≤ 600000; omega) (by show s0 + 0 + 0 ≤ 7302250; omega)) (Nat.le_of_ble_eq_true rfl) rfl dL_law_684 rfl (q_y (fun s2 hr2 => ?_))
  refine g_icmp_same 1174 C dL_law_687 (by decide) ?_
  exact G.widen (by show c0 + 0 + 0 ≤ c0 + 13; omega) (by show s0 + 0 + 0 ≤ s0 + 87; omega) (K _ _ _ _ _ (LI.step hX1 he1 hs1 (xOrder_ok hO _) hr2))
