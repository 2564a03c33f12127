abbrev GL (Γ : gT) (D : va_G) (cy : Nat → ClassId) (k n : Nat) (ws : va_W) (pc : Nat) (lv : List (Nat × Value)) (st : List Value) : Prop := G Γ room_1 code RL wsL_law 4 D clx (tyx cy) 600000 7302250 (fun v _ => v = some (.int 1)) k n ws pc lv st
set_option maxHeartbeats 4000000 in
set_option maxRecDepth 100000 in
/-- case 0: days -/
theorem lc_0 {Γ : gT} {D : va_G} {cy : Nat → ClassId} {a a2 : Nat → Nat} {b : Nat} {xs : Nat → Int32} (hX : va_X b 6 xs (gSt Γ) (gHp Γ)) (hbl : b < (gHp Γ).size) (hbA : ¬ gAp Γ b) (hend : ∀ (ws : va_W) (k n : Nat), k ≤ 2000 → n ≤ 30000 → GL Γ D cy k n ws 1408 [(0, .ref b), (1, .ref (a 200)), (2, .ref (a2 0)), (3, .int 0)] []) : GL Γ D cy 1000 20000 (CW cy a T0 [] ++ MW cy a2 S0) 192 [(0, .ref b), (1, .ref (a 200)), (2, .ref (a2 0)), (3, .int 0)] [] := by
  refine g_aload_n (i := 1) dL_law_192 rfl rfl ?_
  refine g_aload_n (i := 0) dL_law_193 rfl rfl ?_
  refine g_iload_n (i := 3) dL_law_194 rfl rfl ?_
  refine g_iconst (1) rfl dL_law_195 ?_
  refine g_iadd dL_law_196 ?_
  refine g_sld hX hbl hbA dL_law_197 (by unfold vp_in; decide) ?_
  refine g_callVX 1 gL_law_X8_days rfl rfl rfl ⟨Nat.le_of_ble_eq_true rfl, Nat.le_of_ble_eq_true rfl⟩ ⟨Nat.le_of_ble_eq_true rfl, Nat.le_of_ble_eq_true rfl⟩ (by exact Nat.le_of_ble_eq_true rfl) (by decide +kernel) rfl (cO_main _ _ _ _) rfl dL_law_198 (K_days _ D cy a _ _ _) rfl (fun vu_1 wu_1 hu_1 => ?_)
  obtain ⟨rfl, rfl⟩ := hu_1
  refine g_aload_n (i := 2) dL_law_201 rfl rfl ?_
  refine g_aload_n (i := 0) dL_law_202 rfl rfl ?_
  refine g_iload_n (i := 3) dL_law_203 rfl rfl ?_
  refine g_iconst (1) rfl dL_law_204 ?_
  refine g_iadd dL_law_205 ?_
  refine g_sld hX hbl hbA dL_law_206 (by unfold vp_in; decide) ?_
  refine g_callVX 1 gL_law_X9_days rfl rfl rfl ⟨Nat.le_of_ble_eq_true rfl, Nat.le_of_ble_eq_true rfl⟩ ⟨Nat.le_of_ble_eq_true rfl, Nat.le_of_ble_eq_true rfl⟩ (by exact Nat.le_of_ble_eq_true rfl) (by decide +kernel) rfl rfl rfl dL_law_207 (M_days _ D cy a2 _ _) rfl (fun vu_2 wu_2 hu_2 => ?_)
  obtain ⟨rfl, rfl⟩ := hu_2
  refine g_lcmp_eq 1408 dL_law_210 dL_law_211 (by decide) (fun c_3 => ?_) (fun c_3 => ?_)
  · skip
    exact hend _ _ _ (by decide) (by decide)
  · skip
    first | exact absurd (e_days _) c_3 | contradiction
set_option maxHeartbeats 4000000 in
set_option maxRecDepth 100000 in
/-- case 1: gain -/
theorem lc_1 {Γ : gT} {D : va_G} {cy : Nat → ClassId} {a a2 : Nat → Nat} {b : Nat} {xs : Nat → Int32} (hX : va_X b 6 xs (gSt Γ) (gHp Γ)) (hbl : b < (gHp Γ).size) (hbA : ¬ gAp Γ b) (hend : ∀ (ws : va_W) (k n : Nat), k ≤ 2000 → n ≤ 30000 → GL Γ D cy k n ws 1408 [(0, .ref b), (1, .ref (a 200)), (2, .ref (a2 0)), (3, .int 0)] []) : GL Γ D cy 1000 20000 (CW cy a T0 [] ++ MW cy a2 S0) 216 [(0, .ref b), (1, .ref (a 200)), (2, .ref (a2 0)), (3, .int 0)] [] := by
  refine g_aload_n (i := 1) dL_law_216 rfl rfl ?_
  refine g_aload_n (i := 0) dL_law_217 rfl rfl ?_
  refine g_iload_n (i := 3) dL_law_218 rfl rfl ?_
  refine g_iconst (1) rfl dL_law_219 ?_
  refine g_iadd dL_law_220 ?_
  refine g_sld hX hbl hbA dL_law_221 (by unfold vp_in; decide) ?_
  refine g_callVX 1 gL_law_X8_gain rfl rfl rfl ⟨Nat.le_of_ble_eq_true rfl, Nat.le_of_ble_eq_true rfl⟩ ⟨Nat.le_of_ble_eq_true rfl, Nat.le_of_ble_eq_true rfl⟩ (by exact Nat.le_of_ble_eq_true rfl) (by decide +kernel) rfl (cO_main _ _ _ _) rfl dL_law_222 (K_gain _ D cy a _ _ _) rfl (fun vu_1 wu_1 hu_1 => ?_)
  obtain ⟨rfl, rfl⟩ := hu_1
  refine g_aload_n (i := 2) dL_law_225 rfl rfl ?_
  refine g_aload_n (i := 0) dL_law_226 rfl rfl ?_
  refine g_iload_n (i := 3) dL_law_227 rfl rfl ?_
  refine g_iconst (1) rfl dL_law_228 ?_
  refine g_iadd dL_law_229 ?_
  refine g_sld hX hbl hbA dL_law_230 (by unfold vp_in; decide) ?_
  refine g_callVX 1 gL_law_X9_gain rfl rfl rfl ⟨Nat.le_of_ble_eq_true rfl, Nat.le_of_ble_eq_true rfl⟩ ⟨Nat.le_of_ble_eq_true rfl, Nat.le_of_ble_eq_true rfl⟩ (by exact Nat.le_of_ble_eq_true rfl) (by decide +kernel) rfl rfl rfl dL_law_231 (M_gain _ D cy a2 _ _) rfl (fun vu_2 wu_2 hu_2 => ?_)
  obtain ⟨rfl, rfl⟩ := hu_2
  refine g_lcmp_eq 1408 dL_law_234 dL_law_235 (by decide) (fun c_3 => ?_) (fun c_3 => ?_)
  · skip
    exact hend _ _ _ (by decide) (by decide)
  · skip
    first | exact absurd (e_gain _) c_3 | contradiction
set_option maxHeartbeats 4000000 in
set_option maxRecDepth 100000 in
/-- case 2: road -/
theorem lc_2 {Γ : gT} {D : va_G} {cy : Nat → ClassId} {a a2 : Nat → Nat} {b : Nat} {xs : Nat → Int32} (hX : va_X b 6 xs (gSt Γ) (gHp Γ)) (hbl : b < (gHp Γ).size) (hbA : ¬ gAp Γ b) (hend : ∀ (ws : va_W) (k n : Nat), k ≤ 2000 → n ≤ 30000 → GL Γ D cy k n ws 1408 [(0, .ref b), (1, .ref (a 200)), (2, .ref (a2 0)), (3, .int 0)] []) : GL Γ D cy 1000 20000 (CW cy a T0 [] ++ MW cy a2 S0) 240 [(0, .ref b), (1, .ref (a 200)), (2, .ref (a2 0)), (3, .int 0)] [] := by
  refine g_aload_n (i := 1) dL_law_240 rfl rfl ?_
  refine g_aload_n (i := 0) dL_law_241 rfl rfl ?_
  refine g_iload_n (i := 3) dL_law_242 rfl rfl ?_
  refine g_iconst (1) rfl dL_law_243 ?_
  refine g_iadd dL_law_244 ?_
  refine g_sld hX hbl hbA dL_law_245 (by unfold vp_in; decide) ?_
  refine g_aload_n (i := 0) dL_law_246 rfl rfl ?_
  refine g_iload_n (i := 3) dL_law_247 rfl rfl ?_
  refine g_iconst (2) rfl dL_law_248 ?_
  refine g_iadd dL_law_249 ?_
  refine g_sld hX hbl hbA dL_law_250 (by unfold vp_in; decide) ?_
  refine g_callVX 2 gL_law_X8_road rfl rfl rfl ⟨Nat.le_of_ble_eq_true rfl, Nat.le_of_ble_eq_true rfl⟩ ⟨Nat.le_of_ble_eq_true rfl, Nat.le_of_ble_eq_true rfl⟩ (by exact Nat.le_of_ble_eq_true rfl) (by decide +kernel) rfl (cO_main _ _ _ _) rfl dL_law_251 (K_road _ D cy a _ _ _ _) rfl (fun vu_1 wu_1 hu_1 => ?_)
  obtain ⟨rfl, rfl⟩ := hu_1
  refine g_aload_n (i := 2) dL_law_254 rfl rfl ?_
  refine g_aload_n (i := 0) dL_law_255 rfl rfl ?_
  refine g_iload_n (i := 3) dL_law_256 rfl rfl ?_
  refine g_iconst (1) rfl dL_law_257 ?_
  refine g_iadd dL_law_258 ?_
  refine g_sld hX hbl hbA dL_law_259 (by unfold vp_in; decide) ?_
  refine g_aload_n (i := 0) dL_law_260 rfl rfl ?_
  refine g_iload_n (i := 3) dL_law_261 rfl rfl ?_
  refine g_iconst (2) rfl dL_law_262 ?_
  refine g_iadd dL_law_263 ?_
  refine g_sld hX hbl hbA dL_law_264 (by unfold vp_in; decide) ?_
  refine g_callVX 2 gL_law_X9_road rfl rfl rfl ⟨Nat.le_of_ble_eq_true rfl, Nat.le_of_ble_eq_true rfl⟩ ⟨Nat.le_of_ble_eq_true rfl, Nat.le_of_ble_eq_true rfl⟩ (by exact Nat.le_of_ble_eq_true rfl) (by decide +kernel) rfl rfl rfl dL_law_265 (M_road _ D cy a2 _ _ _) rfl (fun vu_2 wu_2 hu_2 => ?_)
  obtain ⟨rfl, rfl⟩ := hu_2
  refine g_lcmp_eq 1408 dL_law_268 dL_law_269 (by decide) (fun c_3 => ?_) (fun c_3 => ?_)
  · skip
    exact hend _ _ _ (by decide) (by decide)
  · skip
    first | exact absurd (e_road _ _) c_3 | contradiction
set_option maxHeartbeats 4000000 in
set_option maxRecDepth 100000 in
/-- case 3: seat -/
theorem lc_3 {Γ : gT} {D : va_G} {cy : Nat → ClassId} {a a2 : Nat → Nat} {b : Nat} {xs : Nat → Int32} (hX : va_X b 6 xs (gSt Γ) (gHp Γ)) (hbl : b < (gHp Γ).size) (hbA : ¬ gAp Γ b) (hend : ∀ (ws : va_W) (k n : Nat), k ≤ 2000 → n ≤ 30000 → GL Γ D cy k n ws 1408 [(0, .ref b), (1, .ref (a 200)), (2, .ref (a2 0)), (3, .int 0)] []) : GL Γ D cy 1000 20000 (CW cy a T0 [] ++ MW cy a2 S0) 274 [(0, .ref b), (1, .ref (a 200)), (2, .ref (a2 0)), (3, .int 0)] [] := by
  refine g_aload_n (i := 1) dL_law_274 rfl rfl ?_
  refine g_aload_n (i := 0) dL_law_275 rfl rfl ?_
  refine g_iload_n (i := 3) dL_law_276 rfl rfl ?_
  refine g_iconst (1) rfl dL_law_277 ?_
  refine g_iadd dL_law_278 ?_
  refine g_sld hX hbl hbA dL_law_279 (by unfold vp_in; decide) ?_
  refine g_aload_n (i := 0) dL_law_280 rfl rfl ?_
  refine g_iload_n (i := 3) dL_law_281 rfl rfl ?_
  refine g_iconst (2) rfl dL_law_282 ?_
  refine g_iadd dL_law_283 ?_
  refine g_sld hX hbl hbA dL_law_284 (by unfold vp_in; decide) ?_
  refine g_callVX 2 gL_law_X8_seat rfl rfl rfl ⟨Nat.le_of_ble_eq_true rfl, Nat.le_of_ble_eq_true rfl⟩ ⟨Nat.le_of_ble_eq_true rfl, Nat.le_of_ble_eq_true rfl⟩ (by exact Nat.le_of_ble_eq_true rfl) (by decide +kernel) rfl (cO_main _ _ _ _) rfl dL_law_285 (K_seat _ D cy a _ _ _ _) rfl (fun vu_1 wu_1 hu_1 => ?_)
  obtain ⟨rfl, rfl⟩ := hu_1
  refine g_aload_n (i := 2) dL_law_288 rfl rfl ?_
  refine g_aload_n (i := 0) dL_law_289 rfl rfl ?_
  refine g_iload_n (i := 3) dL_law_290 rfl rfl ?_
  refine g_iconst (1) rfl dL_law_291 ?_
  refine g_iadd dL_law_292 ?_
  refine g_sld hX hbl hbA dL_law_293 (by unfold vp_in; decide) ?_
  refine g_aload_n (i := 0) dL_law_294 rfl rfl ?_
  refine g_iload_n (i := 3) dL_law_295 rfl rfl ?_
  refine g_iconst (2) rfl dL_law_296 ?_
  refine g_iadd dL_law_297 ?_
  refine g_sld hX hbl hbA dL_law_298 (by unfold vp_in; decide) ?_
  refine g_callVX 2 gL_law_X9_seat rfl rfl rfl ⟨Nat.le_of_ble_eq_true rfl, Nat.le_of_ble_eq_true rfl⟩ ⟨Nat.le_of_ble_eq_true rfl, Nat.le_of_ble_eq_true rfl⟩ (by exact Nat.le_of_ble_eq_true rfl) (by decide +kernel) rfl rfl rfl dL_law_299 (M_seat _ D cy a2 _ _ _) rfl (fun vu_2 wu_2 hu_2 => ?_)
  obtain ⟨rfl, rfl⟩ := hu_2
  refine g_lcmp_eq 1408 dL_law_302 dL_law_303 (by decide) (fun c_3 => ?_) (fun c_3 => ?_)
  · skip
    exact hend _ _ _ (by decide) (by decide)
  · skip
    first | exact absurd (e_seat _ _) c_3 | contradiction
set_option maxHeartbeats 4000000 in
set_option maxRecDepth 100000 in
/-- case 4: draw -/
theorem lc_4 {Γ : gT} {D : va_G} {cy : Nat → ClassId} {a a2 : Nat → Nat} {b : Nat} {xs : Nat → Int32} (hX : va_X b 6 xs (gSt Γ) (gHp Γ)) (hbl : b < (gHp Γ).size) (hbA : ¬ gAp Γ b) (hend : ∀ (ws : va_W) (k n : Nat), k ≤ 2000 → n ≤ 30000 → GL Γ D cy k n ws 1408 [(0, .ref b), (1, .ref (a 200)), (2, .ref (a2 0)), (3, .int 0)] []) : GL Γ D cy 1000 20000 (CW cy a T0 [] ++ MW cy a2 S0) 308 [(0, .ref b), (1, .ref (a 200)), (2, .ref (a2 0)), (3, .int 0)] [] := by
  refine g_aload_n (i := 1) dL_law_308 rfl rfl ?_
  refine g_aload_n (i := 0) dL_law_309 rfl rfl ?_
  refine g_iload_n (i := 3) dL_law_310 rfl rfl ?_
  refine g_iconst (1) rfl dL_law_311 ?_
  refine g_iadd dL_law_312 ?_
  refine g_sld hX hbl hbA dL_law_313 (by unfold vp_in; decide) ?_
  refine g_aload_n (i := 0) dL_law_314 rfl rfl ?_
  refine g_iload_n (i := 3) dL_law_315 rfl rfl ?_
  refine g_iconst (2) rfl dL_law_316 ?_
  refine g_iadd dL_law_317 ?_
  refine g_sld hX hbl hbA dL_law_318 (by unfold vp_in; decide) ?_
  refine g_aload_n (i := 0) dL_law_319 rfl rfl ?_
  refine g_iload_n (i := 3) dL_law_320 rfl rfl ?_
  refine g_iconst (3) rfl dL_law_321 ?_
  refine g_iadd dL_law_322 ?_
  refine g_sld hX hbl hbA dL_law_323 (by unfold vp_in; decide) ?_
  refine g_aload_n (i := 0) dL_law_324 rfl rfl ?_
  refine g_iload_n (i := 3) dL_law_325 rfl rfl ?_
  refine g_iconst (4) rfl dL_law_326 ?_
  refine g_iadd dL_law_327 ?_
  refine g_sld hX hbl hbA dL_law_328 (by unfold vp_in; decide) ?_
  refine g_aload_n (i := 0) dL_law_329 rfl rfl ?_
  refine g_iload_n (i := 3) dL_law_330 rfl rfl ?_
  refine g_iconst (5) rfl dL_law_331 ?_
  refine g_iadd dL_law_332 ?_
  refine g_sld hX hbl hbA dL_law_333 (by unfold vp_in; decide) ?_
  refine g_callVX 5 gL_law_X8_draw rfl rfl rfl ⟨Nat.le_of_ble_eq_true rfl, Nat.le_of_ble_eq_true rfl⟩ ⟨Nat.le_of_ble_eq_true rfl, Nat.le_of_ble_eq_true rfl⟩ (by exact Nat.le_of_ble_eq_true rfl) (by decide +kernel) rfl (cO_main _ _ _ _) rfl dL_law_334 (K_draw _ D cy a _ _ ciB0 _ _ _ _ _) rfl (fun vu_1 wu_1 hu_1 => ?_)
  rcases hu_1 with ⟨hc9, rfl, rfl⟩ | ⟨hc9, hp9, rfl, rfl⟩ | ⟨hc9, hp9, hf9, rfl, rfl⟩ | ⟨hc9, hp9, hf9, q9, e9, g9, rfl, rfl⟩
  · skip
    refine g_aload_n (i := 2) dL_law_337 rfl rfl ?_
    refine g_aload_n (i := 0) dL_law_338 rfl rfl ?_
    refine g_iload_n (i := 3) dL_law_339 rfl rfl ?_
    refine g_iconst (1) rfl dL_law_340 ?_
    refine g_iadd dL_law_341 ?_
    refine g_sld hX hbl hbA dL_law_342 (by unfold vp_in; decide) ?_
    refine g_aload_n (i := 0) dL_law_343 rfl rfl ?_
    refine g_iload_n (i := 3) dL_law_344 rfl rfl ?_
    refine g_iconst (2) rfl dL_law_345 ?_
    refine g_iadd dL_law_346 ?_
    refine g_sld hX hbl hbA dL_law_347 (by unfold vp_in; decide) ?_
    refine g_aload_n (i := 0) dL_law_348 rfl rfl ?_
    refine g_iload_n (i := 3) dL_law_349 rfl rfl ?_
    refine g_iconst (3) rfl dL_law_350 ?_
    refine g_iadd dL_law_351 ?_
    refine g_sld hX hbl hbA dL_law_352 (by unfold vp_in; decide) ?_
    refine g_aload_n (i := 0) dL_law_353 rfl rfl ?_
    refine g_iload_n (i := 3) dL_law_354 rfl rfl ?_
    refine g_iconst (4) rfl dL_law_355 ?_
    refine g_iadd dL_law_356 ?_
    refine g_sld hX hbl hbA dL_law_357 (by unfold vp_in; decide) ?_
    refine g_aload_n (i := 0) dL_law_358 rfl rfl ?_
    refine g_iload_n (i := 3) dL_law_359 rfl rfl ?_
    refine g_iconst (5) rfl dL_law_360 ?_
    refine g_iadd dL_law_361 ?_
    refine g_sld hX hbl hbA dL_law_362 (by unfold vp_in; decide) ?_
    refine g_callVX 5 gL_law_X9_draw rfl rfl rfl ⟨Nat.le_of_ble_eq_true rfl, Nat.le_of_ble_eq_true rfl⟩ ⟨Nat.le_of_ble_eq_true rfl, Nat.le_of_ble_eq_true rfl⟩ (by exact Nat.le_of_ble_eq_true rfl) (by decide +kernel) rfl rfl rfl dL_law_363 (M_draw _ D cy a2 _ minv0 _ _ _ _ _) rfl (fun vu_2 wu_2 hu_2 => ?_)
    obtain ⟨rfl, rfl⟩ := hu_2
    refine g_lcmp_eq 1408 dL_law_366 dL_law_367 (by decide) (fun c_3 => ?_) (fun c_3 => ?_)
    · skip
      exact hend _ _ _ (by decide) (by decide)
    · skip
      first | exact absurd (e_drawN hc9) c_3 | contradiction
  · skip
    refine g_aload_n (i := 2) dL_law_337 rfl rfl ?_
    refine g_aload_n (i := 0) dL_law_338 rfl rfl ?_
    refine g_iload_n (i := 3) dL_law_339 rfl rfl ?_
    refine g_iconst (1) rfl dL_law_340 ?_
    refine g_iadd dL_law_341 ?_
    refine g_sld hX hbl hbA dL_law_342 (by unfold vp_in; decide) ?_
    refine g_aload_n (i := 0) dL_law_343 rfl rfl ?_
    refine g_iload_n (i := 3) dL_law_344 rfl rfl ?_
    refine g_iconst (2) rfl dL_law_345 ?_
    refine g_iadd dL_law_346 ?_
    refine g_sld hX hbl hbA dL_law_347 (by unfold vp_in; decide) ?_
    refine g_aload_n (i := 0) dL_law_348 rfl rfl ?_
    refine g_iload_n (i := 3) dL_law_349 rfl rfl ?_
    refine g_iconst (3) rfl dL_law_350 ?_
    refine g_iadd dL_law_351 ?_
    refine g_sld hX hbl hbA dL_law_352 (by unfold vp_in; decide) ?_
    refine g_aload_n (i := 0) dL_law_353 rfl rfl ?_
    refine g_iload_n (i := 3) dL_law_354 rfl rfl ?_
    refine g_iconst (4) rfl dL_law_355 ?_
    refine g_iadd dL_law_356 ?_
    refine g_sld hX hbl hbA dL_law_357 (by unfold vp_in; decide) ?_
    refine g_aload_n (i := 0) dL_law_358 rfl rfl ?_
    refine g_iload_n (i := 3) dL_law_359 rfl rfl ?_
    refine g_iconst (5) rfl dL_law_360 ?_
    refine g_iadd dL_law_361 ?_
    refine g_sld hX hbl hbA dL_law_362 (by unfold vp_in; decide) ?_
    refine g_callVX 5 gL_law_X9_draw rfl rfl rfl ⟨Nat.le_of_ble_eq_true rfl, Nat.le_of_ble_eq_true rfl⟩ ⟨Nat.le_of_ble_eq_true rfl, Nat.le_of_ble_eq_true rfl⟩ (by exact Nat.le_of_ble_eq_true rfl) (by decide +kernel) rfl rfl rfl dL_law_363 (M_draw _ D cy a2 _ minv0 _ _ _ _ _) rfl (fun vu_4 wu_4 hu_4 => ?_)
    obtain ⟨rfl, rfl⟩ := hu_4
    refine g_lcmp_eq 1408 dL_law_366 dL_law_367 (by decide) (fun c_5 => ?_) (fun c_5 => ?_)
    · skip
      exact hend _ _ _ (by decide) (by decide)
    · skip
      first | exact absurd (e_drawK hc9 hp9) c_5 | contradiction
  · skip
    exact absurd (show T0.1 16 < 40 by decide) hf9
  · skip
    refine g_aload_n (i := 2) dL_law_337 rfl rfl ?_
    refine g_aload_n (i := 0) dL_law_338 rfl rfl ?_
    refine g_iload_n (i := 3) dL_law_339 rfl rfl ?_
    refine g_iconst (1) rfl dL_law_340 ?_
    refine g_iadd dL_law_341 ?_
    refine g_sld hX hbl hbA dL_law_342 (by unfold vp_in; decide) ?_
    refine g_aload_n (i := 0) dL_law_343 rfl rfl ?_
    refine g_iload_n (i := 3) dL_law_344 rfl rfl ?_
    refine g_iconst (2) rfl dL_law_345 ?_
    refine g_iadd dL_law_346 ?_
    refine g_sld hX hbl hbA dL_law_347 (by unfold vp_in; decide) ?_
    refine g_aload_n (i := 0) dL_law_348 rfl rfl ?_
    refine g_iload_n (i := 3) dL_law_349 rfl rfl ?_
    refine g_iconst (3) rfl dL_law_350 ?_
    refine g_iadd dL_law_351 ?_
    refine g_sld hX hbl hbA dL_law_352 (by unfold vp_in; decide) ?_
    refine g_aload_n (i := 0) dL_law_353 rfl rfl ?_
    refine g_iload_n (i := 3) dL_law_354 rfl rfl ?_
    refine g_iconst (4) rfl dL_law_355 ?_
    refine g_iadd dL_law_356 ?_
    refine g_sld hX hbl hbA dL_law_357 (by unfold vp_in; decide) ?_
    refine g_aload_n (i := 0) dL_law_358 rfl rfl ?_
    refine g_iload_n (i := 3) dL_law_359 rfl rfl ?_
    refine g_iconst (5) rfl dL_law_360 ?_
    refine g_iadd dL_law_361 ?_
    refine g_sld hX hbl hbA dL_law_362 (by unfold vp_in; decide) ?_
    refine g_callVX 5 gL_law_X9_draw rfl rfl rfl ⟨Nat.le_of_ble_eq_true rfl, Nat.le_of_ble_eq_true rfl⟩ ⟨Nat.le_of_ble_eq_true rfl, Nat.le_of_ble_eq_true rfl⟩ (by exact Nat.le_of_ble_eq_true rfl) (by decide +kernel) rfl rfl rfl dL_law_363 (M_draw _ D cy a2 _ minv0 _ _ _ _ _) rfl (fun vu_6 wu_6 hu_6 => ?_)
    obtain ⟨rfl, rfl⟩ := hu_6
    refine g_lcmp_eq 1408 dL_law_366 dL_law_367 (by decide) (fun c_7 => ?_) (fun c_7 => ?_)
    · skip
      exact hend _ _ _ (by decide) (by decide)
    · skip
      first | exact absurd (e_drawY hc9 hp9) c_7 | contradiction
set_option maxHeartbeats 4000000 in
set_option maxRecDepth 100000 in
/-- case 5: pass -/
theorem lc_5 {Γ : gT} {D : va_G} {cy : Nat → ClassId} {a a2 : Nat → Nat} {b : Nat} {xs : Nat → Int32} (hX : va_X b 6 xs (gSt Γ) (gHp Γ)) (hbl : b < (gHp Γ).size) (hbA : ¬ gAp Γ b) (hend : ∀ (ws : va_W) (k n : Nat), k ≤ 2000 → n ≤ 30000 → GL Γ D cy k n ws 1408 [(0, .ref b), (1, .ref (a 200)), (2, .ref (a2 0)), (3, .int 0)] []) : GL Γ D cy 1000 20000 (CW cy a T0 [] ++ MW cy a2 S0) 372 [(0, .ref b), (1, .ref (a 200)), (2, .ref (a2 0)), (3, .int 0)] [] := by
  refine g_aload_n (i := 1) dL_law_372 rfl rfl ?_
  refine g_aload_n (i := 0) dL_law_373 rfl rfl ?_
  refine g_iload_n (i := 3) dL_law_374 rfl rfl ?_
  refine g_iconst (1) rfl dL_law_375 ?_
  refine g_iadd dL_law_376 ?_
  refine g_sld hX hbl hbA dL_law_377 (by unfold vp_in; decide) ?_
  refine g_aload_n (i := 0) dL_law_378 rfl rfl ?_
  refine g_iload_n (i := 3) dL_law_379 rfl rfl ?_
  refine g_iconst (2) rfl dL_law_380 ?_
  refine g_iadd dL_law_381 ?_
  refine g_sld hX hbl hbA dL_law_382 (by unfold vp_in; decide) ?_
  refine g_callVX 2 gL_law_X8_pass rfl rfl rfl ⟨Nat.le_of_ble_eq_true rfl, Nat.le_of_ble_eq_true rfl⟩ ⟨Nat.le_of_ble_eq_true rfl, Nat.le_of_ble_eq_true rfl⟩ (by exact Nat.le_of_ble_eq_true rfl) (by decide +kernel) rfl (cO_main _ _ _ _) rfl dL_law_383 (K_pass _ D cy a _ _ ciB0 _ _) rfl (fun vu_1 wu_1 hu_1 => ?_)
  obtain ⟨rfl, rfl⟩ := hu_1
  refine g_aload_n (i := 2) dL_law_386 rfl rfl ?_
  refine g_aload_n (i := 0) dL_law_387 rfl rfl ?_
  refine g_iload_n (i := 3) dL_law_388 rfl rfl ?_
  refine g_iconst (1) rfl dL_law_389 ?_
  refine g_iadd dL_law_390 ?_
  refine g_sld hX hbl hbA dL_law_391 (by unfold vp_in; decide) ?_
  refine g_aload_n (i := 0) dL_law_392 rfl rfl ?_
  refine g_iload_n (i := 3) dL_law_393 rfl rfl ?_
  refine g_iconst (2) rfl dL_law_394 ?_
  refine g_iadd dL_law_395 ?_
  refine g_sld hX hbl hbA dL_law_396 (by unfold vp_in; decide) ?_
  refine g_callVX 2 gL_law_X9_pass rfl rfl rfl ⟨Nat.le_of_ble_eq_true rfl, Nat.le_of_ble_eq_true rfl⟩ ⟨Nat.le_of_ble_eq_true rfl, Nat.le_of_ble_eq_true rfl⟩ (by exact Nat.le_of_ble_eq_true rfl) (by decide +kernel) rfl rfl rfl dL_law_397 (M_pass _ D cy a2 _ minv0 _ _) rfl (fun vu_2 wu_2 hu_2 => ?_)
  obtain ⟨rfl, rfl⟩ := hu_2
  refine g_lcmp_eq 1408 dL_law_400 dL_law_401 (by decide) (fun c_3 => ?_) (fun c_3 => ?_)
  · skip
    exact hend _ _ _ (by decide) (by decide)
  · skip
    first | exact absurd (e_pass _ _) c_3 | contradiction
set_option maxHeartbeats 4000000 in
set_option maxRecDepth 100000 in
/-- case 6: take -/
theorem lc_6 {Γ : gT} {D : va_G} {cy : Nat → ClassId} {a a2 : Nat → Nat} {b : Nat} {xs : Nat → Int32} (hX : va_X b 6 xs (gSt Γ) (gHp Γ)) (hbl : b < (gHp Γ).size) (hbA : ¬ gAp Γ b) (hend : ∀ (ws : va_W) (k n : Nat), k ≤ 2000 → n ≤ 30000 → GL Γ D cy k n ws 1408 [(0, .ref b), (1, .ref (a 200)), (2, .ref (a2 0)), (3, .int 0)] []) : GL Γ D cy 1000 20000 (CW cy a T0 [] ++ MW cy a2 S0) 406 [(0, .ref b), (1, .ref (a 200)), (2, .ref (a2 0)), (3, .int 0)] [] := by
  refine g_aload_n (i := 1) dL_law_406 rfl rfl ?_
  refine g_aload_n (i := 0) dL_law_407 rfl rfl ?_
  refine g_iload_n (i := 3) dL_law_408 rfl rfl ?_
  refine g_iconst (1) rfl dL_law_409 ?_
  refine g_iadd dL_law_410 ?_
  refine g_sld hX hbl hbA dL_law_411 (by unfold vp_in; decide) ?_
  refine g_aload_n (i := 0) dL_law_412 rfl rfl ?_
  refine g_iload_n (i := 3) dL_law_413 rfl rfl ?_
  refine g_iconst (2) rfl dL_law_414 ?_
  refine g_iadd dL_law_415 ?_
  refine g_sld hX hbl hbA dL_law_416 (by unfold vp_in; decide) ?_
  refine g_if_eq 424 dL_law_417 (by decide) (fun c_1 => ?_) (fun c_1 => ?_)
  · skip
    refine g_iconst (0) rfl dL_law_424 ?_
    refine g_callVX 2 gL_law_X8_take rfl rfl rfl ⟨Nat.le_of_ble_eq_true rfl, Nat.le_of_ble_eq_true rfl⟩ ⟨Nat.le_of_ble_eq_true rfl, Nat.le_of_ble_eq_true rfl⟩ (by exact Nat.le_of_ble_eq_true rfl) (by decide +kernel) rfl (cO_main _ _ _ _) rfl dL_law_425 (K_take _ D cy a _ _ ciB0 _ _) rfl (fun vu_2 wu_2 hu_2 => ?_)
    obtain ⟨rfl, rfl⟩ := hu_2
    refine g_aload_n (i := 2) dL_law_428 rfl rfl ?_
    refine g_aload_n (i := 0) dL_law_429 rfl rfl ?_
    refine g_iload_n (i := 3) dL_law_430 rfl rfl ?_
    refine g_iconst (1) rfl dL_law_431 ?_
    refine g_iadd dL_law_432 ?_
    refine g_sld hX hbl hbA dL_law_433 (by unfold vp_in; decide) ?_
    refine g_aload_n (i := 0) dL_law_434 rfl rfl ?_
    refine g_iload_n (i := 3) dL_law_435 rfl rfl ?_
    refine g_iconst (2) rfl dL_law_436 ?_
    refine g_iadd dL_law_437 ?_
    refine g_sld hX hbl hbA dL_law_438 (by unfold vp_in; decide) ?_
    refine g_if_eq 446 dL_law_439 (by decide) (fun c_3 => ?_) (fun c_3 => ?_)
    · skip
      refine g_iconst (0) rfl dL_law_446 ?_
      refine g_callVX 2 gL_law_X9_take rfl rfl rfl ⟨Nat.le_of_ble_eq_true rfl, Nat.le_of_ble_eq_true rfl⟩ ⟨Nat.le_of_ble_eq_true rfl, Nat.le_of_ble_eq_true rfl⟩ (by exact Nat.le_of_ble_eq_true rfl) (by decide +kernel) rfl rfl rfl dL_law_447 (M_take _ D cy a2 _ minv0 _ _) rfl (fun vu_4 wu_4 hu_4 => ?_)
      obtain ⟨rfl, rfl⟩ := hu_4
      refine g_lcmp_eq 1408 dL_law_450 dL_law_451 (by decide) (fun c_5 => ?_) (fun c_5 => ?_)
      · skip
        exact hend _ _ _ (by decide) (by decide)
      · skip
        first | exact absurd (e_take _ _) c_5 | contradiction
    · skip
      refine g_iconst (1) rfl dL_law_442 ?_
      refine g_goto 447 dL_law_443 (by decide) ?_
      refine g_callVX 2 gL_law_X9_take rfl rfl rfl ⟨Nat.le_of_ble_eq_true rfl, Nat.le_of_ble_eq_true rfl⟩ ⟨Nat.le_of_ble_eq_true rfl, Nat.le_of_ble_eq_true rfl⟩ (by exact Nat.le_of_ble_eq_true rfl) (by decide +kernel) rfl rfl rfl dL_law_447 (M_take _ D cy a2 _ minv0 _ _) rfl (fun vu_6 wu_6 hu_6 => ?_)
      obtain ⟨rfl, rfl⟩ := hu_6
      refine g_lcmp_eq 1408 dL_law_450 dL_law_451 (by decide) (fun c_7 => ?_) (fun c_7 => ?_)
      · skip
        exact hend _ _ _ (by decide) (by decide)
      · skip
        first | exact absurd (e_take _ _) c_7 | contradiction
  · skip
    refine g_iconst (1) rfl dL_law_420 ?_
    refine g_goto 425 dL_law_421 (by decide) ?_
    refine g_callVX 2 gL_law_X8_take rfl rfl rfl ⟨Nat.le_of_ble_eq_true rfl, Nat.le_of_ble_eq_true rfl⟩ ⟨Nat.le_of_ble_eq_true rfl, Nat.le_of_ble_eq_true rfl⟩ (by exact Nat.le_of_ble_eq_true rfl) (by decide +kernel) rfl (cO_main _ _ _ _) rfl dL_law_425 (K_take _ D cy a _ _ ciB0 _ _) rfl (fun vu_8 wu_8 hu_8 => ?_)
    obtain ⟨rfl, rfl⟩ := hu_8
    refine g_aload_n (i := 2) dL_law_428 rfl rfl ?_
    refine g_aload_n (i := 0) dL_law_429 rfl rfl ?_
    refine g_iload_n (i := 3) dL_law_430 rfl rfl ?_
    refine g_iconst (1) rfl dL_law_431 ?_
    refine g_iadd dL_law_432 ?_
    refine g_sld hX hbl hbA dL_law_433 (by unfold vp_in; decide) ?_
    refine g_aload_n (i := 0) dL_law_434 rfl rfl ?_
    refine g_iload_n (i := 3) dL_law_435 rfl rfl ?_
    refine g_iconst (2) rfl dL_law_436 ?_
    refine g_iadd dL_law_437 ?_
    refine g_sld hX hbl hbA dL_law_438 (by unfold vp_in; decide) ?_
    refine g_if_eq 446 dL_law_439 (by decide) (fun c_9 => ?_) (fun c_9 => ?_)
    · skip
      refine g_iconst (0) rfl dL_law_446 ?_
      refine g_callVX 2 gL_law_X9_take rfl rfl rfl ⟨Nat.le_of_ble_eq_true rfl, Nat.le_of_ble_eq_true rfl⟩ ⟨Nat.le_of_ble_eq_true rfl, Nat.le_of_ble_eq_true rfl⟩ (by exact Nat.le_of_ble_eq_true rfl) (by decide +kernel) rfl rfl rfl dL_law_447 (M_take _ D cy a2 _ minv0 _ _) rfl (fun vu_10 wu_10 hu_10 => ?_)
      obtain ⟨rfl, rfl⟩ := hu_10
      refine g_lcmp_eq 1408 dL_law_450 dL_law_451 (by decide) (fun c_11 => ?_) (fun c_11 => ?_)
      · skip
        exact hend _ _ _ (by decide) (by decide)
      · skip
        first | exact absurd (e_take _ _) c_11 | contradiction
    · skip
      refine g_iconst (1) rfl dL_law_442 ?_
      refine g_goto 447 dL_law_443 (by decide) ?_
      refine g_callVX 2 gL_law_X9_take rfl rfl rfl ⟨Nat.le_of_ble_eq_true rfl, Nat.le_of_ble_eq_true rfl⟩ ⟨Nat.le_of_ble_eq_true rfl, Nat.le_of_ble_eq_true rfl⟩ (by exact Nat.le_of_ble_eq_true rfl) (by decide +kernel) rfl rfl rfl dL_law_447 (M_take _ D cy a2 _ minv0 _ _) rfl (fun vu_12 wu_12 hu_12 => ?_)
      obtain ⟨rfl, rfl⟩ := hu_12
      refine g_lcmp_eq 1408 dL_law_450 dL_law_451 (by decide) (fun c_13 => ?_) (fun c_13 => ?_)
      · skip
        exact hend _ _ _ (by decide) (by decide)
      · skip
        first | exact absurd (e_take _ _) c_13 | contradiction
set_option maxHeartbeats 4000000 in
set_option maxRecDepth 100000 in
/-- case 7: pay -/
theorem lc_7 {Γ : gT} {D : va_G} {cy : Nat → ClassId} {a a2 : Nat → Nat} {b : Nat} {xs : Nat → Int32} (hX : va_X b 6 xs (gSt Γ) (gHp Γ)) (hbl : b < (gHp Γ).size) (hbA : ¬ gAp Γ b) (hend : ∀ (ws : va_W) (k n : Nat), k ≤ 2000 → n ≤ 30000 → GL Γ D cy k n ws 1408 [(0, .ref b), (1, .ref (a 200)), (2, .ref (a2 0)), (3, .int 0)] []) : GL Γ D cy 1000 20000 (CW cy a T0 [] ++ MW cy a2 S0) 456 [(0, .ref b), (1, .ref (a 200)), (2, .ref (a2 0)), (3, .int 0)] [] := by
  refine g_aload_n (i := 1) dL_law_456 rfl rfl ?_
  refine g_aload_n (i := 0) dL_law_457 rfl rfl ?_
  refine g_iload_n (i := 3) dL_law_458 rfl rfl ?_
  refine g_iconst (1) rfl dL_law_459 ?_
  refine g_iadd dL_law_460 ?_
  refine g_sld hX hbl hbA dL_law_461 (by unfold vp_in; decide) ?_
  refine g_callVX 1 gL_law_X8_pay rfl rfl rfl ⟨Nat.le_of_ble_eq_true rfl, Nat.le_of_ble_eq_true rfl⟩ ⟨Nat.le_of_ble_eq_true rfl, Nat.le_of_ble_eq_true rfl⟩ (by exact Nat.le_of_ble_eq_true rfl) (by decide +kernel) rfl (cO_main _ _ _ _) rfl dL_law_462 (K_pay _ D cy a _ _ ciB0 _) rfl (fun vu_1 wu_1 hu_1 => ?_)
  obtain ⟨rfl, rfl⟩ := hu_1
  refine g_aload_n (i := 2) dL_law_465 rfl rfl ?_
  refine g_aload_n (i := 0) dL_law_466 rfl rfl ?_
  refine g_iload_n (i := 3) dL_law_467 rfl rfl ?_
  refine g_iconst (1) rfl dL_law_468 ?_
  refine g_iadd dL_law_469 ?_
  refine g_sld hX hbl hbA dL_law_470 (by unfold vp_in; decide) ?_
  refine g_callVX 1 gL_law_X9_pay rfl rfl rfl ⟨Nat.le_of_ble_eq_true rfl, Nat.le_of_ble_eq_true rfl⟩ ⟨Nat.le_of_ble_eq_true rfl, Nat.le_of_ble_eq_true rfl⟩ (by exact Nat.le_of_ble_eq_true rfl) (by decide +kernel) rfl rfl rfl dL_law_471 (M_pay _ D cy a2 _ minv0 _) rfl (fun vu_2 wu_2 hu_2 => ?_)
  obtain ⟨rfl, rfl⟩ := hu_2
  refine g_lcmp_eq 1408 dL_law_474 dL_law_475 (by decide) (fun c_3 => ?_) (fun c_3 => ?_)
  · skip
    exact hend _ _ _ (by decide) (by decide)
  · skip
    first | exact absurd (e_pay _) c_3 | contradiction
set_option maxHeartbeats 4000000 in
set_option maxRecDepth 100000 in
/-- case 8: protest -/
theorem lc_8 {Γ : gT} {D : va_G} {cy : Nat → ClassId} {a a2 : Nat → Nat} {b : Nat} {xs : Nat → Int32} (hX : va_X b 6 xs (gSt Γ) (gHp Γ)) (hbl : b < (gHp Γ).size) (hbA : ¬ gAp Γ b) (hend : ∀ (ws : va_W) (k n : Nat), k ≤ 2000 → n ≤ 30000 → GL Γ D cy k n ws 1408 [(0, .ref b), (1, .ref (a 200)), (2, .ref (a2 0)), (3, .int 0)] []) : GL Γ D cy 1000 20000 (CW cy a T0 [] ++ MW cy a2 S0) 480 [(0, .ref b), (1, .ref (a 200)), (2, .ref (a2 0)), (3, .int 0)] [] := by
  refine g_aload_n (i := 1) dL_law_480 rfl rfl ?_
  refine g_aload_n (i := 0) dL_law_481 rfl rfl ?_
  refine g_iload_n (i := 3) dL_law_482 rfl rfl ?_
  refine g_iconst (1) rfl dL_law_483 ?_
  refine g_iadd dL_law_484 ?_
  refine g_sld hX hbl hbA dL_law_485 (by unfold vp_in; decide) ?_
  refine g_callVX 1 gL_law_X8_protest rfl rfl rfl ⟨Nat.le_of_ble_eq_true rfl, Nat.le_of_ble_eq_true rfl⟩ ⟨Nat.le_of_ble_eq_true rfl, Nat.le_of_ble_eq_true rfl⟩ (by exact Nat.le_of_ble_eq_true rfl) (by decide +kernel) rfl (cO_main _ _ _ _) rfl dL_law_486 (K_protest _ D cy a _ _ ciB0 _) rfl (fun vu_1 wu_1 hu_1 => ?_)
  obtain ⟨rfl, rfl⟩ := hu_1
  refine g_aload_n (i := 2) dL_law_489 rfl rfl ?_
  refine g_aload_n (i := 0) dL_law_490 rfl rfl ?_
  refine g_iload_n (i := 3) dL_law_491 rfl rfl ?_
  refine g_iconst (1) rfl dL_law_492 ?_
  refine g_iadd dL_law_493 ?_
  refine g_sld hX hbl hbA dL_law_494 (by unfold vp_in; decide) ?_
  refine g_callVX 1 gL_law_X9_protest rfl rfl rfl ⟨Nat.le_of_ble_eq_true rfl, Nat.le_of_ble_eq_true rfl⟩ ⟨Nat.le_of_ble_eq_true rfl, Nat.le_of_ble_eq_true rfl⟩ (by exact Nat.le_of_ble_eq_true rfl) (by decide +kernel) rfl rfl rfl dL_law_495 (M_protest _ D cy a2 _ minv0 _) rfl (fun vu_2 wu_2 hu_2 => ?_)
  obtain ⟨rfl, rfl⟩ := hu_2
  refine g_lcmp_eq 1408 dL_law_498 dL_law_499 (by decide) (fun c_3 => ?_) (fun c_3 => ?_)
  · skip
    exact hend _ _ _ (by decide) (by decide)
  · skip
    first | exact absurd (e_protest _) c_3 | contradiction
set_option maxHeartbeats 4000000 in
set_option maxRecDepth 100000 in
/-- case 9: recourse -/
theorem lc_9 {Γ : gT} {D : va_G} {cy : Nat → ClassId} {a a2 : Nat → Nat} {b : Nat} {xs : Nat → Int32} (hX : va_X b 6 xs (gSt Γ) (gHp Γ)) (hbl : b < (gHp Γ).size) (hbA : ¬ gAp Γ b) (hend : ∀ (ws : va_W) (k n : Nat), k ≤ 2000 → n ≤ 30000 → GL Γ D cy k n ws 1408 [(0, .ref b), (1, .ref (a 200)), (2, .ref (a2 0)), (3, .int 0)] []) : GL Γ D cy 1000 20000 (CW cy a T0 [] ++ MW cy a2 S0) 504 [(0, .ref b), (1, .ref (a 200)), (2, .ref (a2 0)), (3, .int 0)] [] := by
  refine g_aload_n (i := 1) dL_law_504 rfl rfl ?_
  refine g_aload_n (i := 0) dL_law_505 rfl rfl ?_
  refine g_iload_n (i := 3) dL_law_506 rfl rfl ?_
  refine g_iconst (1) rfl dL_law_507 ?_
  refine g_iadd dL_law_508 ?_
  refine g_sld hX hbl hbA dL_law_509 (by unfold vp_in; decide) ?_
  refine g_aload_n (i := 0) dL_law_510 rfl rfl ?_
  refine g_iload_n (i := 3) dL_law_511 rfl rfl ?_
  refine g_iconst (2) rfl dL_law_512 ?_
  refine g_iadd dL_law_513 ?_
  refine g_sld hX hbl hbA dL_law_514 (by unfold vp_in; decide) ?_
  refine g_callVX 2 gL_law_X8_recourse rfl rfl rfl ⟨Nat.le_of_ble_eq_true rfl, Nat.le_of_ble_eq_true rfl⟩ ⟨Nat.le_of_ble_eq_true rfl, Nat.le_of_ble_eq_true rfl⟩ (by exact Nat.le_of_ble_eq_true rfl) (by decide +kernel) rfl (cO_main _ _ _ _) rfl dL_law_515 (K_recourse _ D cy a _ _ ciB0 ciC0 ciS0 _ _) rfl (fun vu_1 wu_1 hu_1 => ?_)
  obtain ⟨rfl, rfl⟩ := hu_1
  refine g_aload_n (i := 2) dL_law_518 rfl rfl ?_
  refine g_aload_n (i := 0) dL_law_519 rfl rfl ?_
  refine g_iload_n (i := 3) dL_law_520 rfl rfl ?_
  refine g_iconst (1) rfl dL_law_521 ?_
  refine g_iadd dL_law_522 ?_
  refine g_sld hX hbl hbA dL_law_523 (by unfold vp_in; decide) ?_
  refine g_aload_n (i := 0) dL_law_524 rfl rfl ?_
  refine g_iload_n (i := 3) dL_law_525 rfl rfl ?_
  refine g_iconst (2) rfl dL_law_526 ?_
  refine g_iadd dL_law_527 ?_
  refine g_sld hX hbl hbA dL_law_528 (by unfold vp_in; decide) ?_
  refine g_callVX 2 gL_law_X9_recourse rfl rfl rfl ⟨Nat.le_of_ble_eq_true rfl, Nat.le_of_ble_eq_true rfl⟩ ⟨Nat.le_of_ble_eq_true rfl, Nat.le_of_ble_eq_true rfl⟩ (by exact Nat.le_of_ble_eq_true rfl) (by decide +kernel) rfl rfl rfl dL_law_529 (M_recourse _ D cy a2 _ minv0 _ _) rfl (fun vu_2 wu_2 hu_2 => ?_)
  obtain ⟨rfl, rfl⟩ := hu_2
  refine g_lcmp_eq 1408 dL_law_532 dL_law_533 (by decide) (fun c_3 => ?_) (fun c_3 => ?_)
  · skip
    exact hend _ _ _ (by decide) (by decide)
  · skip
    first | exact absurd (e_recourse _ _) c_3 | contradiction
set_option maxHeartbeats 4000000 in
set_option maxRecDepth 100000 in
/-- case 10: about -/
theorem lc_10 {Γ : gT} {D : va_G} {cy : Nat → ClassId} {a a2 : Nat → Nat} {b : Nat} {xs : Nat → Int32} (hX : va_X b 6 xs (gSt Γ) (gHp Γ)) (hbl : b < (gHp Γ).size) (hbA : ¬ gAp Γ b) (hend : ∀ (ws : va_W) (k n : Nat), k ≤ 2000 → n ≤ 30000 → GL Γ D cy k n ws 1408 [(0, .ref b), (1, .ref (a 200)), (2, .ref (a2 0)), (3, .int 0)] []) : GL Γ D cy 1000 20000 (CW cy a T0 [] ++ MW cy a2 S0) 538 [(0, .ref b), (1, .ref (a 200)), (2, .ref (a2 0)), (3, .int 0)] [] := by
  refine g_aload_n (i := 1) dL_law_538 rfl rfl ?_
  refine g_aload_n (i := 0) dL_law_539 rfl rfl ?_
  refine g_iload_n (i := 3) dL_law_540 rfl rfl ?_
  refine g_iconst (1) rfl dL_law_541 ?_
  refine g_iadd dL_law_542 ?_
  refine g_sld hX hbl hbA dL_law_543 (by unfold vp_in; decide) ?_
  refine g_aload_n (i := 0) dL_law_544 rfl rfl ?_
  refine g_iload_n (i := 3) dL_law_545 rfl rfl ?_
  refine g_iconst (2) rfl dL_law_546 ?_
  refine g_iadd dL_law_547 ?_
  refine g_sld hX hbl hbA dL_law_548 (by unfold vp_in; decide) ?_
  refine g_callVX 2 gL_law_X8_about rfl rfl rfl ⟨Nat.le_of_ble_eq_true rfl, Nat.le_of_ble_eq_true rfl⟩ ⟨Nat.le_of_ble_eq_true rfl, Nat.le_of_ble_eq_true rfl⟩ (by exact Nat.le_of_ble_eq_true rfl) (by decide +kernel) rfl (cO_main _ _ _ _) rfl dL_law_549 (K_about _ D cy a _ _ ciB0 _ _) rfl (fun vu_1 wu_1 hu_1 => ?_)
  obtain ⟨rfl, rfl⟩ := hu_1
  refine g_aload_n (i := 2) dL_law_552 rfl rfl ?_
  refine g_aload_n (i := 0) dL_law_553 rfl rfl ?_
  refine g_iload_n (i := 3) dL_law_554 rfl rfl ?_
  refine g_iconst (1) rfl dL_law_555 ?_
  refine g_iadd dL_law_556 ?_
  refine g_sld hX hbl hbA dL_law_557 (by unfold vp_in; decide) ?_
  refine g_aload_n (i := 0) dL_law_558 rfl rfl ?_
  refine g_iload_n (i := 3) dL_law_559 rfl rfl ?_
  refine g_iconst (2) rfl dL_law_560 ?_
  refine g_iadd dL_law_561 ?_
  refine g_sld hX hbl hbA dL_law_562 (by unfold vp_in; decide) ?_
  refine g_callVX 2 gL_law_X9_about rfl rfl rfl ⟨Nat.le_of_ble_eq_true rfl, Nat.le_of_ble_eq_true rfl⟩ ⟨Nat.le_of_ble_eq_true rfl, Nat.le_of_ble_eq_true rfl⟩ (by exact Nat.le_of_ble_eq_true rfl) (by decide +kernel) rfl rfl rfl dL_law_563 (M_about _ D cy a2 _ minv0 _ _) rfl (fun vu_2 wu_2 hu_2 => ?_)
  obtain ⟨rfl, rfl⟩ := hu_2
  refine g_lcmp_eq 1408 dL_law_566 dL_law_567 (by decide) (fun c_3 => ?_) (fun c_3 => ?_)
  · skip
    exact hend _ _ _ (by decide) (by decide)
  · skip
    first | exact absurd (e_about _ _) c_3 | contradiction
set_option maxHeartbeats 4000000 in
set_option maxRecDepth 100000 in
/-- case 11: as -/
theorem lc_11 {Γ : gT} {D : va_G} {cy : Nat → ClassId} {a a2 : Nat → Nat} {b : Nat} {xs : Nat → Int32} (hX : va_X b 6 xs (gSt Γ) (gHp Γ)) (hbl : b < (gHp Γ).size) (hbA : ¬ gAp Γ b) (hend : ∀ (ws : va_W) (k n : Nat), k ≤ 2000 → n ≤ 30000 → GL Γ D cy k n ws 1408 [(0, .ref b), (1, .ref (a 200)), (2, .ref (a2 0)), (3, .int 0)] []) : GL Γ D cy 1000 20000 (CW cy a T0 [] ++ MW cy a2 S0) 572 [(0, .ref b), (1, .ref (a 200)), (2, .ref (a2 0)), (3, .int 0)] [] := by
  refine g_aload_n (i := 1) dL_law_572 rfl rfl ?_
  refine g_aload_n (i := 0) dL_law_573 rfl rfl ?_
  refine g_iload_n (i := 3) dL_law_574 rfl rfl ?_
  refine g_iconst (1) rfl dL_law_575 ?_
  refine g_iadd dL_law_576 ?_
  refine g_sld hX hbl hbA dL_law_577 (by unfold vp_in; decide) ?_
  refine g_aload_n (i := 0) dL_law_578 rfl rfl ?_
  refine g_iload_n (i := 3) dL_law_579 rfl rfl ?_
  refine g_iconst (2) rfl dL_law_580 ?_
  refine g_iadd dL_law_581 ?_
  refine g_sld hX hbl hbA dL_law_582 (by unfold vp_in; decide) ?_
  refine g_callVX 2 gL_law_X8_as rfl rfl rfl ⟨Nat.le_of_ble_eq_true rfl, Nat.le_of_ble_eq_true rfl⟩ ⟨Nat.le_of_ble_eq_true rfl, Nat.le_of_ble_eq_true rfl⟩ (by exact Nat.le_of_ble_eq_true rfl) (by decide +kernel) rfl (cO_main _ _ _ _) rfl dL_law_583 (K_as _ D cy a _ _ ciB0 _ _) rfl (fun vu_1 wu_1 hu_1 => ?_)
  obtain ⟨rfl, rfl⟩ := hu_1
  refine g_aload_n (i := 2) dL_law_586 rfl rfl ?_
  refine g_aload_n (i := 0) dL_law_587 rfl rfl ?_
  refine g_iload_n (i := 3) dL_law_588 rfl rfl ?_
  refine g_iconst (1) rfl dL_law_589 ?_
  refine g_iadd dL_law_590 ?_
  refine g_sld hX hbl hbA dL_law_591 (by unfold vp_in; decide) ?_
  refine g_aload_n (i := 0) dL_law_592 rfl rfl ?_
  refine g_iload_n (i := 3) dL_law_593 rfl rfl ?_
  refine g_iconst (2) rfl dL_law_594 ?_
  refine g_iadd dL_law_595 ?_
  refine g_sld hX hbl hbA dL_law_596 (by unfold vp_in; decide) ?_
  refine g_callVX 2 gL_law_X9_as rfl rfl rfl ⟨Nat.le_of_ble_eq_true rfl, Nat.le_of_ble_eq_true rfl⟩ ⟨Nat.le_of_ble_eq_true rfl, Nat.le_of_ble_eq_true rfl⟩ (by exact Nat.le_of_ble_eq_true rfl) (by decide +kernel) rfl rfl rfl dL_law_597 (M_as _ D cy a2 _ minv0 _ _) rfl (fun vu_2 wu_2 hu_2 => ?_)
  obtain ⟨rfl, rfl⟩ := hu_2
  refine g_lcmp_eq 1408 dL_law_600 dL_law_601 (by decide) (fun c_3 => ?_) (fun c_3 => ?_)
  · skip
    exact hend _ _ _ (by decide) (by decide)
  · skip
    first | exact absurd (e_as _ _) c_3 | contradiction
set_option maxHeartbeats 4000000 in
set_option maxRecDepth 100000 in
/-- case 12: knows -/
theorem lc_12 {Γ : gT} {D : va_G} {cy : Nat → ClassId} {a a2 : Nat → Nat} {b : Nat} {xs : Nat → Int32} (hX : va_X b 6 xs (gSt Γ) (gHp Γ)) (hbl : b < (gHp Γ).size) (hbA : ¬ gAp Γ b) (hend : ∀ (ws : va_W) (k n : Nat), k ≤ 2000 → n ≤ 30000 → GL Γ D cy k n ws 1408 [(0, .ref b), (1, .ref (a 200)), (2, .ref (a2 0)), (3, .int 0)] []) : GL Γ D cy 1000 20000 (CW cy a T0 [] ++ MW cy a2 S0) 606 [(0, .ref b), (1, .ref (a 200)), (2, .ref (a2 0)), (3, .int 0)] [] := by
  refine g_aload_n (i := 1) dL_law_606 rfl rfl ?_
  refine g_aload_n (i := 0) dL_law_607 rfl rfl ?_
  refine g_iload_n (i := 3) dL_law_608 rfl rfl ?_
  refine g_iconst (1) rfl dL_law_609 ?_
  refine g_iadd dL_law_610 ?_
  refine g_sld hX hbl hbA dL_law_611 (by unfold vp_in; decide) ?_
  refine g_aload_n (i := 0) dL_law_612 rfl rfl ?_
  refine g_iload_n (i := 3) dL_law_613 rfl rfl ?_
  refine g_iconst (2) rfl dL_law_614 ?_
  refine g_iadd dL_law_615 ?_
  refine g_sld hX hbl hbA dL_law_616 (by unfold vp_in; decide) ?_
  refine g_aload_n (i := 0) dL_law_617 rfl rfl ?_
  refine g_iload_n (i := 3) dL_law_618 rfl rfl ?_
  refine g_iconst (3) rfl dL_law_619 ?_
  refine g_iadd dL_law_620 ?_
  refine g_sld hX hbl hbA dL_law_621 (by unfold vp_in; decide) ?_
  refine g_callVX 3 gL_law_X8_knows rfl rfl rfl ⟨Nat.le_of_ble_eq_true rfl, Nat.le_of_ble_eq_true rfl⟩ ⟨Nat.le_of_ble_eq_true rfl, Nat.le_of_ble_eq_true rfl⟩ (by exact Nat.le_of_ble_eq_true rfl) (by decide +kernel) rfl (cO_main _ _ _ _) rfl dL_law_622 (K_knows _ D cy a _ _ ciB0 ciS0 _ _ _) rfl (fun vu_1 wu_1 hu_1 => ?_)
  obtain ⟨rfl, rfl⟩ := hu_1
  refine g_aload_n (i := 2) dL_law_625 rfl rfl ?_
  refine g_aload_n (i := 0) dL_law_626 rfl rfl ?_
  refine g_iload_n (i := 3) dL_law_627 rfl rfl ?_
  refine g_iconst (1) rfl dL_law_628 ?_
  refine g_iadd dL_law_629 ?_
  refine g_sld hX hbl hbA dL_law_630 (by unfold vp_in; decide) ?_
  refine g_aload_n (i := 0) dL_law_631 rfl rfl ?_
  refine g_iload_n (i := 3) dL_law_632 rfl rfl ?_
  refine g_iconst (2) rfl dL_law_633 ?_
  refine g_iadd dL_law_634 ?_
  refine g_sld hX hbl hbA dL_law_635 (by unfold vp_in; decide) ?_
  refine g_aload_n (i := 0) dL_law_636 rfl rfl ?_
  refine g_iload_n (i := 3) dL_law_637 rfl rfl ?_
  refine g_iconst (3) rfl dL_law_638 ?_
  refine g_iadd dL_law_639 ?_
  refine g_sld hX hbl hbA dL_law_640 (by unfold vp_in; decide) ?_
  refine g_callVX 3 gL_law_X9_knows rfl rfl rfl ⟨Nat.le_of_ble_eq_true rfl, Nat.le_of_ble_eq_true rfl⟩ ⟨Nat.le_of_ble_eq_true rfl, Nat.le_of_ble_eq_true rfl⟩ (by exact Nat.le_of_ble_eq_true rfl) (by decide +kernel) rfl rfl rfl dL_law_641 (M_knows _ D cy a2 _ minv0 _ _ _) rfl (fun vu_2 wu_2 hu_2 => ?_)
  obtain ⟨rfl, rfl⟩ := hu_2
  refine g_lcmp_eq 1408 dL_law_644 dL_law_645 (by decide) (fun c_3 => ?_) (fun c_3 => ?_)
  · skip
    exact hend _ _ _ (by decide) (by decide)
  · skip
    first | exact absurd (e_knows _ _ _) c_3 | contradiction
set_option maxHeartbeats 4000000 in
set_option maxRecDepth 100000 in
/-- case 13: feed -/
theorem lc_13 {Γ : gT} {D : va_G} {cy : Nat → ClassId} {a a2 : Nat → Nat} {b : Nat} {xs : Nat → Int32} (hX : va_X b 6 xs (gSt Γ) (gHp Γ)) (hbl : b < (gHp Γ).size) (hbA : ¬ gAp Γ b) (hend : ∀ (ws : va_W) (k n : Nat), k ≤ 2000 → n ≤ 30000 → GL Γ D cy k n ws 1408 [(0, .ref b), (1, .ref (a 200)), (2, .ref (a2 0)), (3, .int 0)] []) : GL Γ D cy 1000 20000 (CW cy a T0 [] ++ MW cy a2 S0) 650 [(0, .ref b), (1, .ref (a 200)), (2, .ref (a2 0)), (3, .int 0)] [] := by
  refine g_aload_n (i := 1) dL_law_650 rfl rfl ?_
  refine g_aload_n (i := 0) dL_law_651 rfl rfl ?_
  refine g_iload_n (i := 3) dL_law_652 rfl rfl ?_
  refine g_iconst (1) rfl dL_law_653 ?_
  refine g_iadd dL_law_654 ?_
  refine g_sld hX hbl hbA dL_law_655 (by unfold vp_in; decide) ?_
  refine g_i2l dL_law_656 ?_
  refine g_bipush (32) rfl dL_law_657 ?_
  refine g_lshl dL_law_659 ?_
  refine g_aload_n (i := 0) dL_law_660 rfl rfl ?_
  refine g_iload_n (i := 3) dL_law_661 rfl rfl ?_
  refine g_iconst (2) rfl dL_law_662 ?_
  refine g_iadd dL_law_663 ?_
  refine g_sld hX hbl hbA dL_law_664 (by unfold vp_in; decide) ?_
  refine g_i2l dL_law_665 ?_
  refine g_ldc2 (4294967295) (List.mem_of_getElem? (i := 6) rfl) dL_law_666 ?_
  refine g_land dL_law_669 ?_
  refine g_lor dL_law_670 ?_
  refine g_aload_n (i := 0) dL_law_671 rfl rfl ?_
  refine g_iload_n (i := 3) dL_law_672 rfl rfl ?_
  refine g_iconst (3) rfl dL_law_673 ?_
  refine g_iadd dL_law_674 ?_
  refine g_sld hX hbl hbA dL_law_675 (by unfold vp_in; decide) ?_
  refine g_callVX 2 gL_law_X8_feed rfl rfl rfl ⟨Nat.le_of_ble_eq_true rfl, Nat.le_of_ble_eq_true rfl⟩ ⟨Nat.le_of_ble_eq_true rfl, Nat.le_of_ble_eq_true rfl⟩ (by exact Nat.le_of_ble_eq_true rfl) (by decide +kernel) rfl (cO_main _ _ _ _) rfl dL_law_676 (K_feed _ D cy a _ _ ciL0 _ _) rfl (fun vu_1 wu_1 hu_1 => ?_)
  obtain ⟨rfl, rfl⟩ := hu_1
  refine g_aload_n (i := 2) dL_law_679 rfl rfl ?_
  refine g_aload_n (i := 0) dL_law_680 rfl rfl ?_
  refine g_iload_n (i := 3) dL_law_681 rfl rfl ?_
  refine g_iconst (1) rfl dL_law_682 ?_
  refine g_iadd dL_law_683 ?_
  refine g_sld hX hbl hbA dL_law_684 (by unfold vp_in; decide) ?_
  refine g_i2l dL_law_685 ?_
  refine g_bipush (32) rfl dL_law_686 ?_
  refine g_lshl dL_law_688 ?_
  refine g_aload_n (i := 0) dL_law_689 rfl rfl ?_
  refine g_iload_n (i := 3) dL_law_690 rfl rfl ?_
  refine g_iconst (2) rfl dL_law_691 ?_
  refine g_iadd dL_law_692 ?_
  refine g_sld hX hbl hbA dL_law_693 (by unfold vp_in; decide) ?_
  refine g_i2l dL_law_694 ?_
  refine g_ldc2 (4294967295) (List.mem_of_getElem? (i := 6) rfl) dL_law_695 ?_
  refine g_land dL_law_698 ?_
  refine g_lor dL_law_699 ?_
  refine g_aload_n (i := 0) dL_law_700 rfl rfl ?_
  refine g_iload_n (i := 3) dL_law_701 rfl rfl ?_
  refine g_iconst (3) rfl dL_law_702 ?_
  refine g_iadd dL_law_703 ?_
  refine g_sld hX hbl hbA dL_law_704 (by unfold vp_in; decide) ?_
  refine g_callVX 2 gL_law_X9_feed rfl rfl rfl ⟨Nat.le_of_ble_eq_true rfl, Nat.le_of_ble_eq_true rfl⟩ ⟨Nat.le_of_ble_eq_true rfl, Nat.le_of_ble_eq_true rfl⟩ (by exact Nat.le_of_ble_eq_true rfl) (by decide +kernel) rfl rfl rfl dL_law_705 (M_feed _ D cy a2 _ minv0 _ _) rfl (fun vu_2 wu_2 hu_2 => ?_)
  obtain ⟨rfl, rfl⟩ := hu_2
  refine g_lcmp_eq 1408 dL_law_708 dL_law_709 (by decide) (fun c_3 => ?_) (fun c_3 => ?_)
  · skip
    exact hend _ _ _ (by decide) (by decide)
  · skip
    first | exact absurd (e_feed _ _) c_3 | contradiction
set_option maxHeartbeats 4000000 in
set_option maxRecDepth 100000 in
/-- case 14: read -/
theorem lc_14 {Γ : gT} {D : va_G} {cy : Nat → ClassId} {a a2 : Nat → Nat} {b : Nat} {xs : Nat → Int32} (hX : va_X b 6 xs (gSt Γ) (gHp Γ)) (hbl : b < (gHp Γ).size) (hbA : ¬ gAp Γ b) (hend : ∀ (ws : va_W) (k n : Nat), k ≤ 2000 → n ≤ 30000 → GL Γ D cy k n ws 1408 [(0, .ref b), (1, .ref (a 200)), (2, .ref (a2 0)), (3, .int 0)] []) : GL Γ D cy 1000 20000 (CW cy a T0 [] ++ MW cy a2 S0) 714 [(0, .ref b), (1, .ref (a 200)), (2, .ref (a2 0)), (3, .int 0)] [] := by
  refine g_aload_n (i := 1) dL_law_714 rfl rfl ?_
  refine g_callVX 0 gL_law_X8_read rfl rfl rfl ⟨Nat.le_of_ble_eq_true rfl, Nat.le_of_ble_eq_true rfl⟩ ⟨Nat.le_of_ble_eq_true rfl, Nat.le_of_ble_eq_true rfl⟩ (by exact Nat.le_of_ble_eq_true rfl) (by decide +kernel) rfl (cO_main _ _ _ _) rfl dL_law_715 (K_read0 _ D cy a _ _ rfl) rfl (fun vu_1 wu_1 hu_1 => ?_)
  obtain ⟨rfl, rfl⟩ := hu_1
  refine g_aload_n (i := 2) dL_law_718 rfl rfl ?_
  refine g_callVX 0 gL_law_X9_read rfl rfl rfl ⟨Nat.le_of_ble_eq_true rfl, Nat.le_of_ble_eq_true rfl⟩ ⟨Nat.le_of_ble_eq_true rfl, Nat.le_of_ble_eq_true rfl⟩ (by exact Nat.le_of_ble_eq_true rfl) (by decide +kernel) rfl rfl rfl dL_law_719 (M_read0 _ D cy a2 _ minv0 rfl) rfl (fun vu_2 wu_2 hu_2 => ?_)
  obtain ⟨S9, rfl, rfl⟩ := hu_2
  refine g_lcmp_eq 1408 dL_law_722 dL_law_723 (by decide) (fun c_3 => ?_) (fun c_3 => ?_)
  · skip
    exact hend _ _ _ (by decide) (by decide)
  · skip
    first | exact absurd rfl c_3 | contradiction
set_option maxHeartbeats 4000000 in
set_option maxRecDepth 100000 in
/-- case 15: fault -/
theorem lc_15 {Γ : gT} {D : va_G} {cy : Nat → ClassId} {a a2 : Nat → Nat} {b : Nat} {xs : Nat → Int32} (hX : va_X b 6 xs (gSt Γ) (gHp Γ)) (hbl : b < (gHp Γ).size) (hbA : ¬ gAp Γ b) (hend : ∀ (ws : va_W) (k n : Nat), k ≤ 2000 → n ≤ 30000 → GL Γ D cy k n ws 1408 [(0, .ref b), (1, .ref (a 200)), (2, .ref (a2 0)), (3, .int 0)] []) : GL Γ D cy 1000 20000 (CW cy a T0 [] ++ MW cy a2 S0) 728 [(0, .ref b), (1, .ref (a 200)), (2, .ref (a2 0)), (3, .int 0)] [] := by
  refine g_aload_n (i := 1) dL_law_728 rfl rfl ?_
  refine g_callVX 0 gL_law_X8_fault rfl rfl rfl ⟨Nat.le_of_ble_eq_true rfl, Nat.le_of_ble_eq_true rfl⟩ ⟨Nat.le_of_ble_eq_true rfl, Nat.le_of_ble_eq_true rfl⟩ (by exact Nat.le_of_ble_eq_true rfl) (by decide +kernel) rfl (cO_main _ _ _ _) rfl dL_law_729 (K_fault _ D cy a _ _ ) rfl (fun vu_1 wu_1 hu_1 => ?_)
  obtain ⟨rfl, rfl⟩ := hu_1
  refine g_aload_n (i := 2) dL_law_732 rfl rfl ?_
  refine g_callVX 0 gL_law_X9_fault rfl rfl rfl ⟨Nat.le_of_ble_eq_true rfl, Nat.le_of_ble_eq_true rfl⟩ ⟨Nat.le_of_ble_eq_true rfl, Nat.le_of_ble_eq_true rfl⟩ (by exact Nat.le_of_ble_eq_true rfl) (by decide +kernel) rfl rfl rfl dL_law_733 (M_fault _ D cy a2 _ ) rfl (fun vu_2 wu_2 hu_2 => ?_)
  obtain ⟨rfl, rfl⟩ := hu_2
  refine g_lcmp_eq 1408 dL_law_736 dL_law_737 (by decide) (fun c_3 => ?_) (fun c_3 => ?_)
  · skip
    exact hend _ _ _ (by decide) (by decide)
  · skip
    first | exact absurd rfl c_3 | contradiction
set_option maxHeartbeats 4000000 in
set_option maxRecDepth 100000 in
/-- case 16: binds -/
theorem lc_16 {Γ : gT} {D : va_G} {cy : Nat → ClassId} {a a2 : Nat → Nat} {b : Nat} {xs : Nat → Int32} (hX : va_X b 6 xs (gSt Γ) (gHp Γ)) (hbl : b < (gHp Γ).size) (hbA : ¬ gAp Γ b) (hend : ∀ (ws : va_W) (k n : Nat), k ≤ 2000 → n ≤ 30000 → GL Γ D cy k n ws 1408 [(0, .ref b), (1, .ref (a 200)), (2, .ref (a2 0)), (3, .int 0)] []) : GL Γ D cy 1000 20000 (CW cy a T0 [] ++ MW cy a2 S0) 742 [(0, .ref b), (1, .ref (a 200)), (2, .ref (a2 0)), (3, .int 0)] [] := by
  refine g_aload_n (i := 1) dL_law_742 rfl rfl ?_
  refine g_aload_n (i := 0) dL_law_743 rfl rfl ?_
  refine g_iload_n (i := 3) dL_law_744 rfl rfl ?_
  refine g_iconst (1) rfl dL_law_745 ?_
  refine g_iadd dL_law_746 ?_
  refine g_sld hX hbl hbA dL_law_747 (by unfold vp_in; decide) ?_
  refine g_aload_n (i := 0) dL_law_748 rfl rfl ?_
  refine g_iload_n (i := 3) dL_law_749 rfl rfl ?_
  refine g_iconst (2) rfl dL_law_750 ?_
  refine g_iadd dL_law_751 ?_
  refine g_sld hX hbl hbA dL_law_752 (by unfold vp_in; decide) ?_
  refine g_aload_n (i := 0) dL_law_753 rfl rfl ?_
  refine g_iload_n (i := 3) dL_law_754 rfl rfl ?_
  refine g_iconst (3) rfl dL_law_755 ?_
  refine g_iadd dL_law_756 ?_
  refine g_sld hX hbl hbA dL_law_757 (by unfold vp_in; decide) ?_
  refine g_aload_n (i := 0) dL_law_758 rfl rfl ?_
  refine g_iload_n (i := 3) dL_law_759 rfl rfl ?_
  refine g_iconst (4) rfl dL_law_760 ?_
  refine g_iadd dL_law_761 ?_
  refine g_sld hX hbl hbA dL_law_762 (by unfold vp_in; decide) ?_
  refine g_aload_n (i := 0) dL_law_763 rfl rfl ?_
  refine g_iload_n (i := 3) dL_law_764 rfl rfl ?_
  refine g_iconst (5) rfl dL_law_765 ?_
  refine g_iadd dL_law_766 ?_
  refine g_sld hX hbl hbA dL_law_767 (by unfold vp_in; decide) ?_
  refine g_callVX 5 gL_law_X8_binds rfl rfl rfl ⟨Nat.le_of_ble_eq_true rfl, Nat.le_of_ble_eq_true rfl⟩ ⟨Nat.le_of_ble_eq_true rfl, Nat.le_of_ble_eq_true rfl⟩ (by exact Nat.le_of_ble_eq_true rfl) (by decide +kernel) rfl (cO_main _ _ _ _) rfl dL_law_768 (K_binds _ D cy a _ _ ciC0 _ _ _ _ _) rfl (fun vu_1 wu_1 hu_1 => ?_)
  obtain ⟨rfl, rfl⟩ := hu_1
  refine g_aload_n (i := 2) dL_law_771 rfl rfl ?_
  refine g_aload_n (i := 0) dL_law_772 rfl rfl ?_
  refine g_iload_n (i := 3) dL_law_773 rfl rfl ?_
  refine g_iconst (1) rfl dL_law_774 ?_
  refine g_iadd dL_law_775 ?_
  refine g_sld hX hbl hbA dL_law_776 (by unfold vp_in; decide) ?_
  refine g_aload_n (i := 0) dL_law_777 rfl rfl ?_
  refine g_iload_n (i := 3) dL_law_778 rfl rfl ?_
  refine g_iconst (2) rfl dL_law_779 ?_
  refine g_iadd dL_law_780 ?_
  refine g_sld hX hbl hbA dL_law_781 (by unfold vp_in; decide) ?_
  refine g_aload_n (i := 0) dL_law_782 rfl rfl ?_
  refine g_iload_n (i := 3) dL_law_783 rfl rfl ?_
  refine g_iconst (3) rfl dL_law_784 ?_
  refine g_iadd dL_law_785 ?_
  refine g_sld hX hbl hbA dL_law_786 (by unfold vp_in; decide) ?_
  refine g_aload_n (i := 0) dL_law_787 rfl rfl ?_
  refine g_iload_n (i := 3) dL_law_788 rfl rfl ?_
  refine g_iconst (4) rfl dL_law_789 ?_
  refine g_iadd dL_law_790 ?_
  refine g_sld hX hbl hbA dL_law_791 (by unfold vp_in; decide) ?_
  refine g_aload_n (i := 0) dL_law_792 rfl rfl ?_
  refine g_iload_n (i := 3) dL_law_793 rfl rfl ?_
  refine g_iconst (5) rfl dL_law_794 ?_
  refine g_iadd dL_law_795 ?_
  refine g_sld hX hbl hbA dL_law_796 (by unfold vp_in; decide) ?_
  refine g_callVX 5 gL_law_X9_binds rfl rfl rfl ⟨Nat.le_of_ble_eq_true rfl, Nat.le_of_ble_eq_true rfl⟩ ⟨Nat.le_of_ble_eq_true rfl, Nat.le_of_ble_eq_true rfl⟩ (by exact Nat.le_of_ble_eq_true rfl) (by decide +kernel) rfl rfl rfl dL_law_797 (M_binds _ D cy a2 _ minv0 _ _ _ _ _) rfl (fun vu_2 wu_2 hu_2 => ?_)
  obtain ⟨rfl, rfl⟩ := hu_2
  refine g_lcmp_eq 1408 dL_law_800 dL_law_801 (by decide) (fun c_3 => ?_) (fun c_3 => ?_)
  · skip
    exact hend _ _ _ (by decide) (by decide)
  · skip
    first | exact absurd (e_binds _ _ _ _ _) c_3 | contradiction
set_option maxHeartbeats 4000000 in
set_option maxRecDepth 100000 in
/-- case 17: owe -/
theorem lc_17 {Γ : gT} {D : va_G} {cy : Nat → ClassId} {a a2 : Nat → Nat} {b : Nat} {xs : Nat → Int32} (hX : va_X b 6 xs (gSt Γ) (gHp Γ)) (hbl : b < (gHp Γ).size) (hbA : ¬ gAp Γ b) (hend : ∀ (ws : va_W) (k n : Nat), k ≤ 2000 → n ≤ 30000 → GL Γ D cy k n ws 1408 [(0, .ref b), (1, .ref (a 200)), (2, .ref (a2 0)), (3, .int 0)] []) : GL Γ D cy 1000 20000 (CW cy a T0 [] ++ MW cy a2 S0) 806 [(0, .ref b), (1, .ref (a 200)), (2, .ref (a2 0)), (3, .int 0)] [] := by
  refine g_aload_n (i := 1) dL_law_806 rfl rfl ?_
  refine g_aload_n (i := 0) dL_law_807 rfl rfl ?_
  refine g_iload_n (i := 3) dL_law_808 rfl rfl ?_
  refine g_iconst (1) rfl dL_law_809 ?_
  refine g_iadd dL_law_810 ?_
  refine g_sld hX hbl hbA dL_law_811 (by unfold vp_in; decide) ?_
  refine g_aload_n (i := 0) dL_law_812 rfl rfl ?_
  refine g_iload_n (i := 3) dL_law_813 rfl rfl ?_
  refine g_iconst (2) rfl dL_law_814 ?_
  refine g_iadd dL_law_815 ?_
  refine g_sld hX hbl hbA dL_law_816 (by unfold vp_in; decide) ?_
  refine g_aload_n (i := 0) dL_law_817 rfl rfl ?_
  refine g_iload_n (i := 3) dL_law_818 rfl rfl ?_
  refine g_iconst (3) rfl dL_law_819 ?_
  refine g_iadd dL_law_820 ?_
  refine g_sld hX hbl hbA dL_law_821 (by unfold vp_in; decide) ?_
  refine g_callVX 3 gL_law_X8_owe rfl rfl rfl ⟨Nat.le_of_ble_eq_true rfl, Nat.le_of_ble_eq_true rfl⟩ ⟨Nat.le_of_ble_eq_true rfl, Nat.le_of_ble_eq_true rfl⟩ (by exact Nat.le_of_ble_eq_true rfl) (by decide +kernel) rfl (cO_main _ _ _ _) rfl dL_law_822 (K_owe _ D cy a _ _ _ _ _) rfl (fun vu_1 wu_1 hu_1 => ?_)
  obtain ⟨rfl, rfl⟩ := hu_1
  refine g_aload_n (i := 2) dL_law_825 rfl rfl ?_
  refine g_aload_n (i := 0) dL_law_826 rfl rfl ?_
  refine g_iload_n (i := 3) dL_law_827 rfl rfl ?_
  refine g_iconst (1) rfl dL_law_828 ?_
  refine g_iadd dL_law_829 ?_
  refine g_sld hX hbl hbA dL_law_830 (by unfold vp_in; decide) ?_
  refine g_aload_n (i := 0) dL_law_831 rfl rfl ?_
  refine g_iload_n (i := 3) dL_law_832 rfl rfl ?_
  refine g_iconst (2) rfl dL_law_833 ?_
  refine g_iadd dL_law_834 ?_
  refine g_sld hX hbl hbA dL_law_835 (by unfold vp_in; decide) ?_
  refine g_aload_n (i := 0) dL_law_836 rfl rfl ?_
  refine g_iload_n (i := 3) dL_law_837 rfl rfl ?_
  refine g_iconst (3) rfl dL_law_838 ?_
  refine g_iadd dL_law_839 ?_
  refine g_sld hX hbl hbA dL_law_840 (by unfold vp_in; decide) ?_
  refine g_callVX 3 gL_law_X9_owe rfl rfl rfl ⟨Nat.le_of_ble_eq_true rfl, Nat.le_of_ble_eq_true rfl⟩ ⟨Nat.le_of_ble_eq_true rfl, Nat.le_of_ble_eq_true rfl⟩ (by exact Nat.le_of_ble_eq_true rfl) (by decide +kernel) rfl rfl rfl dL_law_841 (M_owe _ D cy a2 _ _ _ _) rfl (fun vu_2 wu_2 hu_2 => ?_)
  obtain ⟨rfl, rfl⟩ := hu_2
  refine g_lcmp_eq 1408 dL_law_844 dL_law_845 (by decide) (fun c_3 => ?_) (fun c_3 => ?_)
  · skip
    exact hend _ _ _ (by decide) (by decide)
  · skip
    first | exact absurd (e_owe _ _ _) c_3 | contradiction
set_option maxHeartbeats 4000000 in
set_option maxRecDepth 100000 in
/-- case 18: owes -/
theorem lc_18 {Γ : gT} {D : va_G} {cy : Nat → ClassId} {a a2 : Nat → Nat} {b : Nat} {xs : Nat → Int32} (hX : va_X b 6 xs (gSt Γ) (gHp Γ)) (hbl : b < (gHp Γ).size) (hbA : ¬ gAp Γ b) (hend : ∀ (ws : va_W) (k n : Nat), k ≤ 2000 → n ≤ 30000 → GL Γ D cy k n ws 1408 [(0, .ref b), (1, .ref (a 200)), (2, .ref (a2 0)), (3, .int 0)] []) : GL Γ D cy 1000 20000 (CW cy a T0 [] ++ MW cy a2 S0) 850 [(0, .ref b), (1, .ref (a 200)), (2, .ref (a2 0)), (3, .int 0)] [] := by
  refine g_aload_n (i := 1) dL_law_850 rfl rfl ?_
  refine g_aload_n (i := 0) dL_law_851 rfl rfl ?_
  refine g_iload_n (i := 3) dL_law_852 rfl rfl ?_
  refine g_iconst (1) rfl dL_law_853 ?_
  refine g_iadd dL_law_854 ?_
  refine g_sld hX hbl hbA dL_law_855 (by unfold vp_in; decide) ?_
  refine g_aload_n (i := 0) dL_law_856 rfl rfl ?_
  refine g_iload_n (i := 3) dL_law_857 rfl rfl ?_
  refine g_iconst (2) rfl dL_law_858 ?_
  refine g_iadd dL_law_859 ?_
  refine g_sld hX hbl hbA dL_law_860 (by unfold vp_in; decide) ?_
  refine g_callVX 2 gL_law_X8_owes rfl rfl rfl ⟨Nat.le_of_ble_eq_true rfl, Nat.le_of_ble_eq_true rfl⟩ ⟨Nat.le_of_ble_eq_true rfl, Nat.le_of_ble_eq_true rfl⟩ (by exact Nat.le_of_ble_eq_true rfl) (by decide +kernel) rfl (cO_main _ _ _ _) rfl dL_law_861 (K_owes _ D cy a _ _ _ _) rfl (fun vu_1 wu_1 hu_1 => ?_)
  obtain ⟨rfl, rfl⟩ := hu_1
  refine g_aload_n (i := 2) dL_law_864 rfl rfl ?_
  refine g_aload_n (i := 0) dL_law_865 rfl rfl ?_
  refine g_iload_n (i := 3) dL_law_866 rfl rfl ?_
  refine g_iconst (1) rfl dL_law_867 ?_
  refine g_iadd dL_law_868 ?_
  refine g_sld hX hbl hbA dL_law_869 (by unfold vp_in; decide) ?_
  refine g_aload_n (i := 0) dL_law_870 rfl rfl ?_
  refine g_iload_n (i := 3) dL_law_871 rfl rfl ?_
  refine g_iconst (2) rfl dL_law_872 ?_
  refine g_iadd dL_law_873 ?_
  refine g_sld hX hbl hbA dL_law_874 (by unfold vp_in; decide) ?_
  refine g_callVX 2 gL_law_X9_owes rfl rfl rfl ⟨Nat.le_of_ble_eq_true rfl, Nat.le_of_ble_eq_true rfl⟩ ⟨Nat.le_of_ble_eq_true rfl, Nat.le_of_ble_eq_true rfl⟩ (by exact Nat.le_of_ble_eq_true rfl) (by decide +kernel) rfl rfl rfl dL_law_875 (M_owes _ D cy a2 _ _ _) rfl (fun vu_2 wu_2 hu_2 => ?_)
  obtain ⟨rfl, rfl⟩ := hu_2
  refine g_lcmp_eq 1408 dL_law_878 dL_law_879 (by decide) (fun c_3 => ?_) (fun c_3 => ?_)
  · skip
    exact hend _ _ _ (by decide) (by decide)
  · skip
    first | exact absurd (e_owes _ _) c_3 | contradiction
set_option maxHeartbeats 4000000 in
set_option maxRecDepth 100000 in
/-- case 19: net -/
theorem lc_19 {Γ : gT} {D : va_G} {cy : Nat → ClassId} {a a2 : Nat → Nat} {b : Nat} {xs : Nat → Int32} (hX : va_X b 6 xs (gSt Γ) (gHp Γ)) (hbl : b < (gHp Γ).size) (hbA : ¬ gAp Γ b) (hend : ∀ (ws : va_W) (k n : Nat), k ≤ 2000 → n ≤ 30000 → GL Γ D cy k n ws 1408 [(0, .ref b), (1, .ref (a 200)), (2, .ref (a2 0)), (3, .int 0)] []) : GL Γ D cy 1000 20000 (CW cy a T0 [] ++ MW cy a2 S0) 884 [(0, .ref b), (1, .ref (a 200)), (2, .ref (a2 0)), (3, .int 0)] [] := by
  refine g_aload_n (i := 1) dL_law_884 rfl rfl ?_
  refine g_aload_n (i := 0) dL_law_885 rfl rfl ?_
  refine g_iload_n (i := 3) dL_law_886 rfl rfl ?_
  refine g_iconst (1) rfl dL_law_887 ?_
  refine g_iadd dL_law_888 ?_
  refine g_sld hX hbl hbA dL_law_889 (by unfold vp_in; decide) ?_
  refine g_callVX 1 gL_law_X8_net rfl rfl rfl ⟨Nat.le_of_ble_eq_true rfl, Nat.le_of_ble_eq_true rfl⟩ ⟨Nat.le_of_ble_eq_true rfl, Nat.le_of_ble_eq_true rfl⟩ (by exact Nat.le_of_ble_eq_true rfl) (by decide +kernel) rfl (cO_main _ _ _ _) rfl dL_law_890 (K_net _ D cy a _ _ _) rfl (fun vu_1 wu_1 hu_1 => ?_)
  obtain ⟨rfl, rfl⟩ := hu_1
  refine g_aload_n (i := 2) dL_law_893 rfl rfl ?_
  refine g_aload_n (i := 0) dL_law_894 rfl rfl ?_
  refine g_iload_n (i := 3) dL_law_895 rfl rfl ?_
  refine g_iconst (1) rfl dL_law_896 ?_
  refine g_iadd dL_law_897 ?_
  refine g_sld hX hbl hbA dL_law_898 (by unfold vp_in; decide) ?_
  refine g_callVX 1 gL_law_X9_net rfl rfl rfl ⟨Nat.le_of_ble_eq_true rfl, Nat.le_of_ble_eq_true rfl⟩ ⟨Nat.le_of_ble_eq_true rfl, Nat.le_of_ble_eq_true rfl⟩ (by exact Nat.le_of_ble_eq_true rfl) (by decide +kernel) rfl rfl rfl dL_law_899 (M_net _ D cy a2 _ _) rfl (fun vu_2 wu_2 hu_2 => ?_)
  obtain ⟨rfl, rfl⟩ := hu_2
  refine g_lcmp_eq 1408 dL_law_902 dL_law_903 (by decide) (fun c_3 => ?_) (fun c_3 => ?_)
  · skip
    exact hend _ _ _ (by decide) (by decide)
  · skip
    first | exact absurd (e_net _) c_3 | contradiction
set_option maxHeartbeats 4000000 in
set_option maxRecDepth 100000 in
/-- case 20: plan -/
theorem lcg_20 {T S U : MS} (hPl : plRun S U) (he : ∀ g, (cf_plan T g).1 = (mf_plan U g).1) {Γ : gT} {D : va_G} {cy : Nat → ClassId} {a a2 : Nat → Nat} {b : Nat} {xs : Nat → Int32} (hX : va_X b 6 xs (gSt Γ) (gHp Γ)) (hbl : b < (gHp Γ).size) (hbA : ¬ gAp Γ b) (hend : ∀ (ws : va_W) (k n : Nat), k ≤ 2000 → n ≤ 30000 → GL Γ D cy k n ws 1408 [(0, .ref b), (1, .ref (a 200)), (2, .ref (a2 0)), (3, .int 0)] []) : GL Γ D cy 1000 20000 (CW cy a T [] ++ MW cy a2 S) 908 [(0, .ref b), (1, .ref (a 200)), (2, .ref (a2 0)), (3, .int 0)] [] := by
  refine g_aload_n (i := 1) dL_law_908 rfl rfl ?_
  refine g_aload_n (i := 0) dL_law_909 rfl rfl ?_
  refine g_iload_n (i := 3) dL_law_910 rfl rfl ?_
  refine g_iconst (1) rfl dL_law_911 ?_
  refine g_iadd dL_law_912 ?_
  refine g_sld hX hbl hbA dL_law_913 (by unfold vp_in; decide) ?_
  refine g_if_eq 921 dL_law_914 (by decide) (fun c_1 => ?_) (fun c_1 => ?_)
  · skip
    refine g_iconst (0) rfl dL_law_921 ?_
    refine g_callVX 1 gL_law_X8_plan rfl rfl rfl ⟨Nat.le_of_ble_eq_true rfl, Nat.le_of_ble_eq_true rfl⟩ ⟨Nat.le_of_ble_eq_true rfl, Nat.le_of_ble_eq_true rfl⟩ (by exact Nat.le_of_ble_eq_true rfl) (by decide +kernel) rfl (cO_main _ _ _ _) rfl dL_law_922 (K_plan _ D cy a _ _ _) rfl (fun vu_2 wu_2 hu_2 => ?_)
    obtain ⟨rfl, rfl⟩ := hu_2
    refine g_aload_n (i := 2) dL_law_925 rfl rfl ?_
    refine g_aload_n (i := 0) dL_law_926 rfl rfl ?_
    refine g_iload_n (i := 3) dL_law_927 rfl rfl ?_
    refine g_iconst (1) rfl dL_law_928 ?_
    refine g_iadd dL_law_929 ?_
    refine g_sld hX hbl hbA dL_law_930 (by unfold vp_in; decide) ?_
    refine g_if_eq 938 dL_law_931 (by decide) (fun c_3 => ?_) (fun c_3 => ?_)
    · skip
      refine g_iconst (0) rfl dL_law_938 ?_
      refine g_callVX 1 gL_law_X9_plan rfl rfl rfl ⟨Nat.le_of_ble_eq_true rfl, Nat.le_of_ble_eq_true rfl⟩ ⟨Nat.le_of_ble_eq_true rfl, Nat.le_of_ble_eq_true rfl⟩ (by exact Nat.le_of_ble_eq_true rfl) (by decide +kernel) rfl rfl rfl dL_law_939 (M_plan _ D cy a2 _ _ hPl _) rfl (fun vu_4 wu_4 hu_4 => ?_)
      obtain ⟨rfl, rfl⟩ := hu_4
      refine g_lcmp_eq 1408 dL_law_942 dL_law_943 (by decide) (fun c_5 => ?_) (fun c_5 => ?_)
      · skip
        exact hend _ _ _ (by decide) (by decide)
      · skip
        first | exact absurd (he _) c_5 | contradiction
    · skip
      refine g_iconst (1) rfl dL_law_934 ?_
      refine g_goto 939 dL_law_935 (by decide) ?_
      refine g_callVX 1 gL_law_X9_plan rfl rfl rfl ⟨Nat.le_of_ble_eq_true rfl, Nat.le_of_ble_eq_true rfl⟩ ⟨Nat.le_of_ble_eq_true rfl, Nat.le_of_ble_eq_true rfl⟩ (by exact Nat.le_of_ble_eq_true rfl) (by decide +kernel) rfl rfl rfl dL_law_939 (M_plan _ D cy a2 _ _ hPl _) rfl (fun vu_6 wu_6 hu_6 => ?_)
      obtain ⟨rfl, rfl⟩ := hu_6
      refine g_lcmp_eq 1408 dL_law_942 dL_law_943 (by decide) (fun c_7 => ?_) (fun c_7 => ?_)
      · skip
        exact hend _ _ _ (by decide) (by decide)
      · skip
        first | exact absurd (he _) c_7 | contradiction
  · skip
    refine g_iconst (1) rfl dL_law_917 ?_
    refine g_goto 922 dL_law_918 (by decide) ?_
    refine g_callVX 1 gL_law_X8_plan rfl rfl rfl ⟨Nat.le_of_ble_eq_true rfl, Nat.le_of_ble_eq_true rfl⟩ ⟨Nat.le_of_ble_eq_true rfl, Nat.le_of_ble_eq_true rfl⟩ (by exact Nat.le_of_ble_eq_true rfl) (by decide +kernel) rfl (cO_main _ _ _ _) rfl dL_law_922 (K_plan _ D cy a _ _ _) rfl (fun vu_8 wu_8 hu_8 => ?_)
    obtain ⟨rfl, rfl⟩ := hu_8
    refine g_aload_n (i := 2) dL_law_925 rfl rfl ?_
    refine g_aload_n (i := 0) dL_law_926 rfl rfl ?_
    refine g_iload_n (i := 3) dL_law_927 rfl rfl ?_
    refine g_iconst (1) rfl dL_law_928 ?_
    refine g_iadd dL_law_929 ?_
    refine g_sld hX hbl hbA dL_law_930 (by unfold vp_in; decide) ?_
    refine g_if_eq 938 dL_law_931 (by decide) (fun c_9 => ?_) (fun c_9 => ?_)
    · skip
      refine g_iconst (0) rfl dL_law_938 ?_
      refine g_callVX 1 gL_law_X9_plan rfl rfl rfl ⟨Nat.le_of_ble_eq_true rfl, Nat.le_of_ble_eq_true rfl⟩ ⟨Nat.le_of_ble_eq_true rfl, Nat.le_of_ble_eq_true rfl⟩ (by exact Nat.le_of_ble_eq_true rfl) (by decide +kernel) rfl rfl rfl dL_law_939 (M_plan _ D cy a2 _ _ hPl _) rfl (fun vu_10 wu_10 hu_10 => ?_)
      obtain ⟨rfl, rfl⟩ := hu_10
      refine g_lcmp_eq 1408 dL_law_942 dL_law_943 (by decide) (fun c_11 => ?_) (fun c_11 => ?_)
      · skip
        exact hend _ _ _ (by decide) (by decide)
      · skip
        first | exact absurd (he _) c_11 | contradiction
    · skip
      refine g_iconst (1) rfl dL_law_934 ?_
      refine g_goto 939 dL_law_935 (by decide) ?_
      refine g_callVX 1 gL_law_X9_plan rfl rfl rfl ⟨Nat.le_of_ble_eq_true rfl, Nat.le_of_ble_eq_true rfl⟩ ⟨Nat.le_of_ble_eq_true rfl, Nat.le_of_ble_eq_true rfl⟩ (by exact Nat.le_of_ble_eq_true rfl) (by decide +kernel) rfl rfl rfl dL_law_939 (M_plan _ D cy a2 _ _ hPl _) rfl (fun vu_12 wu_12 hu_12 => ?_)
      obtain ⟨rfl, rfl⟩ := hu_12
      refine g_lcmp_eq 1408 dL_law_942 dL_law_943 (by decide) (fun c_13 => ?_) (fun c_13 => ?_)
      · skip
        exact hend _ _ _ (by decide) (by decide)
      · skip
        first | exact absurd (he _) c_13 | contradiction
theorem lc_20 {Γ : gT} {D : va_G} {cy : Nat → ClassId} {a a2 : Nat → Nat} {b : Nat} {xs : Nat → Int32} (hX : va_X b 6 xs (gSt Γ) (gHp Γ)) (hbl : b < (gHp Γ).size) (hbA : ¬ gAp Γ b) (hend : ∀ (ws : va_W) (k n : Nat), k ≤ 2000 → n ≤ 30000 → GL Γ D cy k n ws 1408 [(0, .ref b), (1, .ref (a 200)), (2, .ref (a2 0)), (3, .int 0)] []) : GL Γ D cy 1000 20000 (CW cy a T0 [] ++ MW cy a2 S0) 908 [(0, .ref b), (1, .ref (a 200)), (2, .ref (a2 0)), (3, .int 0)] [] := lcg_20 (T := T0) (S := S0) (pl0 z15) e_plan hX hbl hbA hend
set_option maxHeartbeats 4000000 in
set_option maxRecDepth 100000 in
/-- case 21: payment -/
theorem lcg_21 {T S U : MS} (hp : pwok T) (hPl : plRun S U) (hOk : plOk U 0) (he : ∀ i w, (cf_payment T i w).1 = (mf_payment S U i w).1) {Γ : gT} {D : va_G} {cy : Nat → ClassId} {a a2 : Nat → Nat} {b : Nat} {xs : Nat → Int32} (hX : va_X b 6 xs (gSt Γ) (gHp Γ)) (hbl : b < (gHp Γ).size) (hbA : ¬ gAp Γ b) (hend : ∀ (ws : va_W) (k n : Nat), k ≤ 2000 → n ≤ 30000 → GL Γ D cy k n ws 1408 [(0, .ref b), (1, .ref (a 200)), (2, .ref (a2 0)), (3, .int 0)] []) : GL Γ D cy 1000 20000 (CW cy a T [] ++ MW cy a2 S) 948 [(0, .ref b), (1, .ref (a 200)), (2, .ref (a2 0)), (3, .int 0)] [] := by
  refine g_aload_n (i := 1) dL_law_948 rfl rfl ?_
  refine g_aload_n (i := 0) dL_law_949 rfl rfl ?_
  refine g_iload_n (i := 3) dL_law_950 rfl rfl ?_
  refine g_iconst (1) rfl dL_law_951 ?_
  refine g_iadd dL_law_952 ?_
  refine g_sld hX hbl hbA dL_law_953 (by unfold vp_in; decide) ?_
  refine g_aload_n (i := 0) dL_law_954 rfl rfl ?_
  refine g_iload_n (i := 3) dL_law_955 rfl rfl ?_
  refine g_iconst (2) rfl dL_law_956 ?_
  refine g_iadd dL_law_957 ?_
  refine g_sld hX hbl hbA dL_law_958 (by unfold vp_in; decide) ?_
  refine g_callVX 2 gL_law_X8_payment rfl rfl rfl ⟨Nat.le_of_ble_eq_true rfl, Nat.le_of_ble_eq_true rfl⟩ ⟨Nat.le_of_ble_eq_true rfl, Nat.le_of_ble_eq_true rfl⟩ (by exact Nat.le_of_ble_eq_true rfl) (by decide +kernel) rfl (cO_main _ _ _ _) rfl dL_law_959 (K_payment _ D cy a _ _ hp _ _) rfl (fun vu_1 wu_1 hu_1 => ?_)
  obtain ⟨rfl, rfl⟩ := hu_1
  refine g_aload_n (i := 2) dL_law_962 rfl rfl ?_
  refine g_aload_n (i := 0) dL_law_963 rfl rfl ?_
  refine g_iload_n (i := 3) dL_law_964 rfl rfl ?_
  refine g_iconst (1) rfl dL_law_965 ?_
  refine g_iadd dL_law_966 ?_
  refine g_sld hX hbl hbA dL_law_967 (by unfold vp_in; decide) ?_
  refine g_aload_n (i := 0) dL_law_968 rfl rfl ?_
  refine g_iload_n (i := 3) dL_law_969 rfl rfl ?_
  refine g_iconst (2) rfl dL_law_970 ?_
  refine g_iadd dL_law_971 ?_
  refine g_sld hX hbl hbA dL_law_972 (by unfold vp_in; decide) ?_
  refine g_callVX 2 gL_law_X9_payment rfl rfl rfl ⟨Nat.le_of_ble_eq_true rfl, Nat.le_of_ble_eq_true rfl⟩ ⟨Nat.le_of_ble_eq_true rfl, Nat.le_of_ble_eq_true rfl⟩ (by exact Nat.le_of_ble_eq_true rfl) (by decide +kernel) rfl rfl rfl dL_law_973 (M_payment _ D cy a2 _ _ hPl 0 hOk _ _) rfl (fun vu_2 wu_2 hu_2 => ?_)
  obtain ⟨rfl, rfl⟩ := hu_2
  refine g_lcmp_eq 1408 dL_law_976 dL_law_977 (by decide) (fun c_3 => ?_) (fun c_3 => ?_)
  · skip
    exact hend _ _ _ (by decide) (by decide)
  · skip
    first | exact absurd (he _ _) c_3 | contradiction
theorem lc_21 {Γ : gT} {D : va_G} {cy : Nat → ClassId} {a a2 : Nat → Nat} {b : Nat} {xs : Nat → Int32} (hX : va_X b 6 xs (gSt Γ) (gHp Γ)) (hbl : b < (gHp Γ).size) (hbA : ¬ gAp Γ b) (hend : ∀ (ws : va_W) (k n : Nat), k ≤ 2000 → n ≤ 30000 → GL Γ D cy k n ws 1408 [(0, .ref b), (1, .ref (a 200)), (2, .ref (a2 0)), (3, .int 0)] []) : GL Γ D cy 1000 20000 (CW cy a T0 [] ++ MW cy a2 S0) 948 [(0, .ref b), (1, .ref (a 200)), (2, .ref (a2 0)), (3, .int 0)] [] := lcg_21 (T := T0) (S := S0) ciP0.1 (pl0 z15) (plo0 _) e_payment hX hbl hbA hend
set_option maxHeartbeats 4000000 in
set_option maxRecDepth 100000 in
/-- case 22: clear -/
theorem lcg_22 {T S U : MS} (hp : ciP T) (hPl : plRun S U) (hOk : plOk U 0) (he : (cf_clear T).1 = (mf_clear U 0).1) {Γ : gT} {D : va_G} {cy : Nat → ClassId} {a a2 : Nat → Nat} {b : Nat} {xs : Nat → Int32} (hX : va_X b 6 xs (gSt Γ) (gHp Γ)) (hbl : b < (gHp Γ).size) (hbA : ¬ gAp Γ b) (hend : ∀ (ws : va_W) (k n : Nat), k ≤ 2000 → n ≤ 30000 → GL Γ D cy k n ws 1408 [(0, .ref b), (1, .ref (a 200)), (2, .ref (a2 0)), (3, .int 0)] []) : GL Γ D cy 1000 20000 (CW cy a T [] ++ MW cy a2 S) 982 [(0, .ref b), (1, .ref (a 200)), (2, .ref (a2 0)), (3, .int 0)] [] := by
  refine g_aload_n (i := 1) dL_law_982 rfl rfl ?_
  refine g_callVX 0 gL_law_X8_clear rfl rfl rfl ⟨Nat.le_of_ble_eq_true rfl, Nat.le_of_ble_eq_true rfl⟩ ⟨Nat.le_of_ble_eq_true rfl, Nat.le_of_ble_eq_true rfl⟩ (by exact Nat.le_of_ble_eq_true rfl) (by decide +kernel) rfl (cO_main _ _ _ _) rfl dL_law_983 (K_clear _ D cy a _ _ hp) rfl (fun vu_1 wu_1 hu_1 => ?_)
  obtain ⟨rfl, rfl⟩ := hu_1
  refine g_aload_n (i := 2) dL_law_986 rfl rfl ?_
  refine g_callVX 0 gL_law_X9_clear rfl rfl rfl ⟨Nat.le_of_ble_eq_true rfl, Nat.le_of_ble_eq_true rfl⟩ ⟨Nat.le_of_ble_eq_true rfl, Nat.le_of_ble_eq_true rfl⟩ (by exact Nat.le_of_ble_eq_true rfl) (by decide +kernel) rfl rfl rfl dL_law_987 (M_clear _ D cy a2 _ _ hPl 0 hOk) rfl (fun vu_2 wu_2 hu_2 => ?_)
  obtain ⟨rfl, rfl⟩ := hu_2
  refine g_lcmp_eq 1408 dL_law_990 dL_law_991 (by decide) (fun c_3 => ?_) (fun c_3 => ?_)
  · skip
    exact hend _ _ _ (by decide) (by decide)
  · skip
    first | exact absurd he c_3 | contradiction
theorem lc_22 {Γ : gT} {D : va_G} {cy : Nat → ClassId} {a a2 : Nat → Nat} {b : Nat} {xs : Nat → Int32} (hX : va_X b 6 xs (gSt Γ) (gHp Γ)) (hbl : b < (gHp Γ).size) (hbA : ¬ gAp Γ b) (hend : ∀ (ws : va_W) (k n : Nat), k ≤ 2000 → n ≤ 30000 → GL Γ D cy k n ws 1408 [(0, .ref b), (1, .ref (a 200)), (2, .ref (a2 0)), (3, .int 0)] []) : GL Γ D cy 1000 20000 (CW cy a T0 [] ++ MW cy a2 S0) 982 [(0, .ref b), (1, .ref (a 200)), (2, .ref (a2 0)), (3, .int 0)] [] := lcg_22 (T := T0) (S := S0) ciP0 (pl0 z15) (plo0 _) e_clear hX hbl hbA hend
set_option maxHeartbeats 4000000 in
set_option maxRecDepth 100000 in
/-- case 23: coin -/
theorem lc_23 {Γ : gT} {D : va_G} {cy : Nat → ClassId} {a a2 : Nat → Nat} {b : Nat} {xs : Nat → Int32} (hX : va_X b 6 xs (gSt Γ) (gHp Γ)) (hbl : b < (gHp Γ).size) (hbA : ¬ gAp Γ b) (hend : ∀ (ws : va_W) (k n : Nat), k ≤ 2000 → n ≤ 30000 → GL Γ D cy k n ws 1408 [(0, .ref b), (1, .ref (a 200)), (2, .ref (a2 0)), (3, .int 0)] []) : GL Γ D cy 1000 20000 (CW cy a T0 [] ++ MW cy a2 S0) 996 [(0, .ref b), (1, .ref (a 200)), (2, .ref (a2 0)), (3, .int 0)] [] := by
  refine g_aload_n (i := 1) dL_law_996 rfl rfl ?_
  refine g_aload_n (i := 0) dL_law_997 rfl rfl ?_
  refine g_iload_n (i := 3) dL_law_998 rfl rfl ?_
  refine g_iconst (1) rfl dL_law_999 ?_
  refine g_iadd dL_law_1000 ?_
  refine g_sld hX hbl hbA dL_law_1001 (by unfold vp_in; decide) ?_
  refine g_aload_n (i := 0) dL_law_1002 rfl rfl ?_
  refine g_iload_n (i := 3) dL_law_1003 rfl rfl ?_
  refine g_iconst (2) rfl dL_law_1004 ?_
  refine g_iadd dL_law_1005 ?_
  refine g_sld hX hbl hbA dL_law_1006 (by unfold vp_in; decide) ?_
  refine g_aload_n (i := 0) dL_law_1007 rfl rfl ?_
  refine g_iload_n (i := 3) dL_law_1008 rfl rfl ?_
  refine g_iconst (3) rfl dL_law_1009 ?_
  refine g_iadd dL_law_1010 ?_
  refine g_sld hX hbl hbA dL_law_1011 (by unfold vp_in; decide) ?_
  refine g_callVX 3 gL_law_X8_coin rfl rfl rfl ⟨Nat.le_of_ble_eq_true rfl, Nat.le_of_ble_eq_true rfl⟩ ⟨Nat.le_of_ble_eq_true rfl, Nat.le_of_ble_eq_true rfl⟩ (by exact Nat.le_of_ble_eq_true rfl) (by decide +kernel) rfl (cO_main _ _ _ _) rfl dL_law_1012 (K_coin _ D cy a _ _ _ _ _) rfl (fun vu_1 wu_1 hu_1 => ?_)
  obtain ⟨rfl, rfl⟩ := hu_1
  refine g_aload_n (i := 2) dL_law_1015 rfl rfl ?_
  refine g_aload_n (i := 0) dL_law_1016 rfl rfl ?_
  refine g_iload_n (i := 3) dL_law_1017 rfl rfl ?_
  refine g_iconst (1) rfl dL_law_1018 ?_
  refine g_iadd dL_law_1019 ?_
  refine g_sld hX hbl hbA dL_law_1020 (by unfold vp_in; decide) ?_
  refine g_aload_n (i := 0) dL_law_1021 rfl rfl ?_
  refine g_iload_n (i := 3) dL_law_1022 rfl rfl ?_
  refine g_iconst (2) rfl dL_law_1023 ?_
  refine g_iadd dL_law_1024 ?_
  refine g_sld hX hbl hbA dL_law_1025 (by unfold vp_in; decide) ?_
  refine g_aload_n (i := 0) dL_law_1026 rfl rfl ?_
  refine g_iload_n (i := 3) dL_law_1027 rfl rfl ?_
  refine g_iconst (3) rfl dL_law_1028 ?_
  refine g_iadd dL_law_1029 ?_
  refine g_sld hX hbl hbA dL_law_1030 (by unfold vp_in; decide) ?_
  refine g_callVX 3 gL_law_X9_coin rfl rfl rfl ⟨Nat.le_of_ble_eq_true rfl, Nat.le_of_ble_eq_true rfl⟩ ⟨Nat.le_of_ble_eq_true rfl, Nat.le_of_ble_eq_true rfl⟩ (by exact Nat.le_of_ble_eq_true rfl) (by decide +kernel) rfl rfl rfl dL_law_1031 (M_coin _ D cy a2 _ _ _ _) rfl (fun vu_2 wu_2 hu_2 => ?_)
  obtain ⟨rfl, rfl⟩ := hu_2
  refine g_lcmp_eq 1408 dL_law_1034 dL_law_1035 (by decide) (fun c_3 => ?_) (fun c_3 => ?_)
  · skip
    exact hend _ _ _ (by decide) (by decide)
  · skip
    first | exact absurd (e_coin _ _ _) c_3 | contradiction
set_option maxHeartbeats 4000000 in
set_option maxRecDepth 100000 in
/-- case 24: purse -/
theorem lc_24 {Γ : gT} {D : va_G} {cy : Nat → ClassId} {a a2 : Nat → Nat} {b : Nat} {xs : Nat → Int32} (hX : va_X b 6 xs (gSt Γ) (gHp Γ)) (hbl : b < (gHp Γ).size) (hbA : ¬ gAp Γ b) (hend : ∀ (ws : va_W) (k n : Nat), k ≤ 2000 → n ≤ 30000 → GL Γ D cy k n ws 1408 [(0, .ref b), (1, .ref (a 200)), (2, .ref (a2 0)), (3, .int 0)] []) : GL Γ D cy 1000 20000 (CW cy a T0 [] ++ MW cy a2 S0) 1040 [(0, .ref b), (1, .ref (a 200)), (2, .ref (a2 0)), (3, .int 0)] [] := by
  refine g_aload_n (i := 1) dL_law_1040 rfl rfl ?_
  refine g_aload_n (i := 0) dL_law_1041 rfl rfl ?_
  refine g_iload_n (i := 3) dL_law_1042 rfl rfl ?_
  refine g_iconst (1) rfl dL_law_1043 ?_
  refine g_iadd dL_law_1044 ?_
  refine g_sld hX hbl hbA dL_law_1045 (by unfold vp_in; decide) ?_
  refine g_aload_n (i := 0) dL_law_1046 rfl rfl ?_
  refine g_iload_n (i := 3) dL_law_1047 rfl rfl ?_
  refine g_iconst (2) rfl dL_law_1048 ?_
  refine g_iadd dL_law_1049 ?_
  refine g_sld hX hbl hbA dL_law_1050 (by unfold vp_in; decide) ?_
  refine g_aload_n (i := 0) dL_law_1051 rfl rfl ?_
  refine g_iload_n (i := 3) dL_law_1052 rfl rfl ?_
  refine g_iconst (3) rfl dL_law_1053 ?_
  refine g_iadd dL_law_1054 ?_
  refine g_sld hX hbl hbA dL_law_1055 (by unfold vp_in; decide) ?_
  refine g_callVX 3 gL_law_X8_purse rfl rfl rfl ⟨Nat.le_of_ble_eq_true rfl, Nat.le_of_ble_eq_true rfl⟩ ⟨Nat.le_of_ble_eq_true rfl, Nat.le_of_ble_eq_true rfl⟩ (by exact Nat.le_of_ble_eq_true rfl) (by decide +kernel) rfl (cO_main _ _ _ _) rfl dL_law_1056 (K_purse _ D cy a _ _ _ _ _) rfl (fun vu_1 wu_1 hu_1 => ?_)
  obtain ⟨rfl, rfl⟩ := hu_1
  refine g_aload_n (i := 2) dL_law_1059 rfl rfl ?_
  refine g_aload_n (i := 0) dL_law_1060 rfl rfl ?_
  refine g_iload_n (i := 3) dL_law_1061 rfl rfl ?_
  refine g_iconst (1) rfl dL_law_1062 ?_
  refine g_iadd dL_law_1063 ?_
  refine g_sld hX hbl hbA dL_law_1064 (by unfold vp_in; decide) ?_
  refine g_aload_n (i := 0) dL_law_1065 rfl rfl ?_
  refine g_iload_n (i := 3) dL_law_1066 rfl rfl ?_
  refine g_iconst (2) rfl dL_law_1067 ?_
  refine g_iadd dL_law_1068 ?_
  refine g_sld hX hbl hbA dL_law_1069 (by unfold vp_in; decide) ?_
  refine g_aload_n (i := 0) dL_law_1070 rfl rfl ?_
  refine g_iload_n (i := 3) dL_law_1071 rfl rfl ?_
  refine g_iconst (3) rfl dL_law_1072 ?_
  refine g_iadd dL_law_1073 ?_
  refine g_sld hX hbl hbA dL_law_1074 (by unfold vp_in; decide) ?_
  refine g_callVX 3 gL_law_X9_purse rfl rfl rfl ⟨Nat.le_of_ble_eq_true rfl, Nat.le_of_ble_eq_true rfl⟩ ⟨Nat.le_of_ble_eq_true rfl, Nat.le_of_ble_eq_true rfl⟩ (by exact Nat.le_of_ble_eq_true rfl) (by decide +kernel) rfl rfl rfl dL_law_1075 (M_purse _ D cy a2 _ _ _ _) rfl (fun vu_2 wu_2 hu_2 => ?_)
  obtain ⟨rfl, rfl⟩ := hu_2
  refine g_lcmp_eq 1408 dL_law_1078 dL_law_1079 (by decide) (fun c_3 => ?_) (fun c_3 => ?_)
  · skip
    exact hend _ _ _ (by decide) (by decide)
  · skip
    first | exact absurd (e_purse _ _ _) c_3 | contradiction
set_option maxHeartbeats 4000000 in
set_option maxRecDepth 100000 in
/-- case 25: has -/
theorem lc_25 {Γ : gT} {D : va_G} {cy : Nat → ClassId} {a a2 : Nat → Nat} {b : Nat} {xs : Nat → Int32} (hX : va_X b 6 xs (gSt Γ) (gHp Γ)) (hbl : b < (gHp Γ).size) (hbA : ¬ gAp Γ b) (hend : ∀ (ws : va_W) (k n : Nat), k ≤ 2000 → n ≤ 30000 → GL Γ D cy k n ws 1408 [(0, .ref b), (1, .ref (a 200)), (2, .ref (a2 0)), (3, .int 0)] []) : GL Γ D cy 1000 20000 (CW cy a T0 [] ++ MW cy a2 S0) 1084 [(0, .ref b), (1, .ref (a 200)), (2, .ref (a2 0)), (3, .int 0)] [] := by
  refine g_aload_n (i := 1) dL_law_1084 rfl rfl ?_
  refine g_aload_n (i := 0) dL_law_1085 rfl rfl ?_
  refine g_iload_n (i := 3) dL_law_1086 rfl rfl ?_
  refine g_iconst (1) rfl dL_law_1087 ?_
  refine g_iadd dL_law_1088 ?_
  refine g_sld hX hbl hbA dL_law_1089 (by unfold vp_in; decide) ?_
  refine g_aload_n (i := 0) dL_law_1090 rfl rfl ?_
  refine g_iload_n (i := 3) dL_law_1091 rfl rfl ?_
  refine g_iconst (2) rfl dL_law_1092 ?_
  refine g_iadd dL_law_1093 ?_
  refine g_sld hX hbl hbA dL_law_1094 (by unfold vp_in; decide) ?_
  refine g_callVX 2 gL_law_X8_has rfl rfl rfl ⟨Nat.le_of_ble_eq_true rfl, Nat.le_of_ble_eq_true rfl⟩ ⟨Nat.le_of_ble_eq_true rfl, Nat.le_of_ble_eq_true rfl⟩ (by exact Nat.le_of_ble_eq_true rfl) (by decide +kernel) rfl (cO_main _ _ _ _) rfl dL_law_1095 (K_has _ D cy a _ _ _ _) rfl (fun vu_1 wu_1 hu_1 => ?_)
  obtain ⟨rfl, rfl⟩ := hu_1
  refine g_aload_n (i := 2) dL_law_1098 rfl rfl ?_
  refine g_aload_n (i := 0) dL_law_1099 rfl rfl ?_
  refine g_iload_n (i := 3) dL_law_1100 rfl rfl ?_
  refine g_iconst (1) rfl dL_law_1101 ?_
  refine g_iadd dL_law_1102 ?_
  refine g_sld hX hbl hbA dL_law_1103 (by unfold vp_in; decide) ?_
  refine g_aload_n (i := 0) dL_law_1104 rfl rfl ?_
  refine g_iload_n (i := 3) dL_law_1105 rfl rfl ?_
  refine g_iconst (2) rfl dL_law_1106 ?_
  refine g_iadd dL_law_1107 ?_
  refine g_sld hX hbl hbA dL_law_1108 (by unfold vp_in; decide) ?_
  refine g_callVX 2 gL_law_X9_has rfl rfl rfl ⟨Nat.le_of_ble_eq_true rfl, Nat.le_of_ble_eq_true rfl⟩ ⟨Nat.le_of_ble_eq_true rfl, Nat.le_of_ble_eq_true rfl⟩ (by exact Nat.le_of_ble_eq_true rfl) (by decide +kernel) rfl rfl rfl dL_law_1109 (M_has _ D cy a2 _ _ _) rfl (fun vu_2 wu_2 hu_2 => ?_)
  obtain ⟨rfl, rfl⟩ := hu_2
  refine g_lcmp_eq 1408 dL_law_1112 dL_law_1113 (by decide) (fun c_3 => ?_) (fun c_3 => ?_)
  · skip
    exact hend _ _ _ (by decide) (by decide)
  · skip
    first | exact absurd (e_has _ _) c_3 | contradiction
set_option maxHeartbeats 4000000 in
set_option maxRecDepth 100000 in
/-- case 26: settle -/
theorem lc_26 {Γ : gT} {D : va_G} {cy : Nat → ClassId} {a a2 : Nat → Nat} {b : Nat} {xs : Nat → Int32} (hX : va_X b 6 xs (gSt Γ) (gHp Γ)) (hbl : b < (gHp Γ).size) (hbA : ¬ gAp Γ b) (hend : ∀ (ws : va_W) (k n : Nat), k ≤ 2000 → n ≤ 30000 → GL Γ D cy k n ws 1408 [(0, .ref b), (1, .ref (a 200)), (2, .ref (a2 0)), (3, .int 0)] []) : GL Γ D cy 1000 20000 (CW cy a T0 [] ++ MW cy a2 S0) 1118 [(0, .ref b), (1, .ref (a 200)), (2, .ref (a2 0)), (3, .int 0)] [] := by
  refine g_aload_n (i := 1) dL_law_1118 rfl rfl ?_
  refine g_aload_n (i := 0) dL_law_1119 rfl rfl ?_
  refine g_iload_n (i := 3) dL_law_1120 rfl rfl ?_
  refine g_iconst (1) rfl dL_law_1121 ?_
  refine g_iadd dL_law_1122 ?_
  refine g_sld hX hbl hbA dL_law_1123 (by unfold vp_in; decide) ?_
  refine g_aload_n (i := 0) dL_law_1124 rfl rfl ?_
  refine g_iload_n (i := 3) dL_law_1125 rfl rfl ?_
  refine g_iconst (2) rfl dL_law_1126 ?_
  refine g_iadd dL_law_1127 ?_
  refine g_sld hX hbl hbA dL_law_1128 (by unfold vp_in; decide) ?_
  refine g_callVX 2 gL_law_X8_settle rfl rfl rfl ⟨Nat.le_of_ble_eq_true rfl, Nat.le_of_ble_eq_true rfl⟩ ⟨Nat.le_of_ble_eq_true rfl, Nat.le_of_ble_eq_true rfl⟩ (by exact Nat.le_of_ble_eq_true rfl) (by decide +kernel) rfl (cO_main _ _ _ _) rfl dL_law_1129 (K_settle _ D cy a _ _ _ _) rfl (fun vu_1 wu_1 hu_1 => ?_)
  obtain ⟨rfl, rfl⟩ := hu_1
  refine g_aload_n (i := 2) dL_law_1132 rfl rfl ?_
  refine g_aload_n (i := 0) dL_law_1133 rfl rfl ?_
  refine g_iload_n (i := 3) dL_law_1134 rfl rfl ?_
  refine g_iconst (1) rfl dL_law_1135 ?_
  refine g_iadd dL_law_1136 ?_
  refine g_sld hX hbl hbA dL_law_1137 (by unfold vp_in; decide) ?_
  refine g_aload_n (i := 0) dL_law_1138 rfl rfl ?_
  refine g_iload_n (i := 3) dL_law_1139 rfl rfl ?_
  refine g_iconst (2) rfl dL_law_1140 ?_
  refine g_iadd dL_law_1141 ?_
  refine g_sld hX hbl hbA dL_law_1142 (by unfold vp_in; decide) ?_
  refine g_callVX 2 gL_law_X9_settle rfl rfl rfl ⟨Nat.le_of_ble_eq_true rfl, Nat.le_of_ble_eq_true rfl⟩ ⟨Nat.le_of_ble_eq_true rfl, Nat.le_of_ble_eq_true rfl⟩ (by exact Nat.le_of_ble_eq_true rfl) (by decide +kernel) rfl rfl rfl dL_law_1143 (M_settle _ D cy a2 _ _ _) rfl (fun vu_2 wu_2 hu_2 => ?_)
  obtain ⟨rfl, rfl⟩ := hu_2
  refine g_lcmp_eq 1408 dL_law_1146 dL_law_1147 (by decide) (fun c_3 => ?_) (fun c_3 => ?_)
  · skip
    exact hend _ _ _ (by decide) (by decide)
  · skip
    first | exact absurd (e_settle _ _) c_3 | contradiction
set_option maxHeartbeats 4000000 in
set_option maxRecDepth 100000 in
/-- case 27: vote -/
theorem lc_27 {Γ : gT} {D : va_G} {cy : Nat → ClassId} {a a2 : Nat → Nat} {b : Nat} {xs : Nat → Int32} (hX : va_X b 6 xs (gSt Γ) (gHp Γ)) (hbl : b < (gHp Γ).size) (hbA : ¬ gAp Γ b) (hend : ∀ (ws : va_W) (k n : Nat), k ≤ 2000 → n ≤ 30000 → GL Γ D cy k n ws 1408 [(0, .ref b), (1, .ref (a 200)), (2, .ref (a2 0)), (3, .int 0)] []) : GL Γ D cy 1000 20000 (CW cy a T0 [] ++ MW cy a2 S0) 1152 [(0, .ref b), (1, .ref (a 200)), (2, .ref (a2 0)), (3, .int 0)] [] := by
  refine g_aload_n (i := 1) dL_law_1152 rfl rfl ?_
  refine g_aload_n (i := 0) dL_law_1153 rfl rfl ?_
  refine g_iload_n (i := 3) dL_law_1154 rfl rfl ?_
  refine g_iconst (1) rfl dL_law_1155 ?_
  refine g_iadd dL_law_1156 ?_
  refine g_sld hX hbl hbA dL_law_1157 (by unfold vp_in; decide) ?_
  refine g_aload_n (i := 0) dL_law_1158 rfl rfl ?_
  refine g_iload_n (i := 3) dL_law_1159 rfl rfl ?_
  refine g_iconst (2) rfl dL_law_1160 ?_
  refine g_iadd dL_law_1161 ?_
  refine g_sld hX hbl hbA dL_law_1162 (by unfold vp_in; decide) ?_
  refine g_aload_n (i := 0) dL_law_1163 rfl rfl ?_
  refine g_iload_n (i := 3) dL_law_1164 rfl rfl ?_
  refine g_iconst (3) rfl dL_law_1165 ?_
  refine g_iadd dL_law_1166 ?_
  refine g_sld hX hbl hbA dL_law_1167 (by unfold vp_in; decide) ?_
  refine g_callVX 3 gL_law_X8_vote rfl rfl rfl ⟨Nat.le_of_ble_eq_true rfl, Nat.le_of_ble_eq_true rfl⟩ ⟨Nat.le_of_ble_eq_true rfl, Nat.le_of_ble_eq_true rfl⟩ (by exact Nat.le_of_ble_eq_true rfl) (by decide +kernel) rfl (cO_main _ _ _ _) rfl dL_law_1168 (K_vote _ D cy a _ _ _ _ _) rfl (fun vu_1 wu_1 hu_1 => ?_)
  obtain ⟨rfl, rfl⟩ := hu_1
  refine g_aload_n (i := 2) dL_law_1171 rfl rfl ?_
  refine g_aload_n (i := 0) dL_law_1172 rfl rfl ?_
  refine g_iload_n (i := 3) dL_law_1173 rfl rfl ?_
  refine g_iconst (1) rfl dL_law_1174 ?_
  refine g_iadd dL_law_1175 ?_
  refine g_sld hX hbl hbA dL_law_1176 (by unfold vp_in; decide) ?_
  refine g_aload_n (i := 0) dL_law_1177 rfl rfl ?_
  refine g_iload_n (i := 3) dL_law_1178 rfl rfl ?_
  refine g_iconst (2) rfl dL_law_1179 ?_
  refine g_iadd dL_law_1180 ?_
  refine g_sld hX hbl hbA dL_law_1181 (by unfold vp_in; decide) ?_
  refine g_aload_n (i := 0) dL_law_1182 rfl rfl ?_
  refine g_iload_n (i := 3) dL_law_1183 rfl rfl ?_
  refine g_iconst (3) rfl dL_law_1184 ?_
  refine g_iadd dL_law_1185 ?_
  refine g_sld hX hbl hbA dL_law_1186 (by unfold vp_in; decide) ?_
  refine g_callVX 3 gL_law_X9_vote rfl rfl rfl ⟨Nat.le_of_ble_eq_true rfl, Nat.le_of_ble_eq_true rfl⟩ ⟨Nat.le_of_ble_eq_true rfl, Nat.le_of_ble_eq_true rfl⟩ (by exact Nat.le_of_ble_eq_true rfl) (by decide +kernel) rfl rfl rfl dL_law_1187 (M_vote _ D cy a2 _ _ _ _) rfl (fun vu_2 wu_2 hu_2 => ?_)
  obtain ⟨rfl, rfl⟩ := hu_2
  refine g_lcmp_eq 1408 dL_law_1190 dL_law_1191 (by decide) (fun c_3 => ?_) (fun c_3 => ?_)
  · skip
    exact hend _ _ _ (by decide) (by decide)
  · skip
    first | exact absurd (e_vote _ _ _) c_3 | contradiction
set_option maxHeartbeats 4000000 in
set_option maxRecDepth 100000 in
/-- case 28: rate -/
theorem lc_28 {Γ : gT} {D : va_G} {cy : Nat → ClassId} {a a2 : Nat → Nat} {b : Nat} {xs : Nat → Int32} (hX : va_X b 6 xs (gSt Γ) (gHp Γ)) (hbl : b < (gHp Γ).size) (hbA : ¬ gAp Γ b) (hend : ∀ (ws : va_W) (k n : Nat), k ≤ 2000 → n ≤ 30000 → GL Γ D cy k n ws 1408 [(0, .ref b), (1, .ref (a 200)), (2, .ref (a2 0)), (3, .int 0)] []) : GL Γ D cy 1000 20000 (CW cy a T0 [] ++ MW cy a2 S0) 1196 [(0, .ref b), (1, .ref (a 200)), (2, .ref (a2 0)), (3, .int 0)] [] := by
  refine g_aload_n (i := 1) dL_law_1196 rfl rfl ?_
  refine g_aload_n (i := 0) dL_law_1197 rfl rfl ?_
  refine g_iload_n (i := 3) dL_law_1198 rfl rfl ?_
  refine g_iconst (1) rfl dL_law_1199 ?_
  refine g_iadd dL_law_1200 ?_
  refine g_sld hX hbl hbA dL_law_1201 (by unfold vp_in; decide) ?_
  refine g_callVX 1 gL_law_X8_rate rfl rfl rfl ⟨Nat.le_of_ble_eq_true rfl, Nat.le_of_ble_eq_true rfl⟩ ⟨Nat.le_of_ble_eq_true rfl, Nat.le_of_ble_eq_true rfl⟩ (by exact Nat.le_of_ble_eq_true rfl) (by decide +kernel) rfl (cO_main _ _ _ _) rfl dL_law_1202 (K_rate _ D cy a _ _ _) rfl (fun vu_1 wu_1 hu_1 => ?_)
  obtain ⟨rfl, rfl⟩ := hu_1
  refine g_aload_n (i := 2) dL_law_1205 rfl rfl ?_
  refine g_aload_n (i := 0) dL_law_1206 rfl rfl ?_
  refine g_iload_n (i := 3) dL_law_1207 rfl rfl ?_
  refine g_iconst (1) rfl dL_law_1208 ?_
  refine g_iadd dL_law_1209 ?_
  refine g_sld hX hbl hbA dL_law_1210 (by unfold vp_in; decide) ?_
  refine g_callVX 1 gL_law_X9_rate rfl rfl rfl ⟨Nat.le_of_ble_eq_true rfl, Nat.le_of_ble_eq_true rfl⟩ ⟨Nat.le_of_ble_eq_true rfl, Nat.le_of_ble_eq_true rfl⟩ (by exact Nat.le_of_ble_eq_true rfl) (by decide +kernel) rfl rfl rfl dL_law_1211 (M_rate _ D cy a2 _ _) rfl (fun vu_2 wu_2 hu_2 => ?_)
  obtain ⟨rfl, rfl⟩ := hu_2
  refine g_lcmp_eq 1408 dL_law_1214 dL_law_1215 (by decide) (fun c_3 => ?_) (fun c_3 => ?_)
  · skip
    exact hend _ _ _ (by decide) (by decide)
  · skip
    first | exact absurd (e_rate _) c_3 | contradiction
set_option maxHeartbeats 4000000 in
set_option maxRecDepth 100000 in
/-- case 29: offer -/
theorem lc_29 {Γ : gT} {D : va_G} {cy : Nat → ClassId} {a a2 : Nat → Nat} {b : Nat} {xs : Nat → Int32} (hX : va_X b 6 xs (gSt Γ) (gHp Γ)) (hbl : b < (gHp Γ).size) (hbA : ¬ gAp Γ b) (hend : ∀ (ws : va_W) (k n : Nat), k ≤ 2000 → n ≤ 30000 → GL Γ D cy k n ws 1408 [(0, .ref b), (1, .ref (a 200)), (2, .ref (a2 0)), (3, .int 0)] []) : GL Γ D cy 1000 20000 (CW cy a T0 [] ++ MW cy a2 S0) 1220 [(0, .ref b), (1, .ref (a 200)), (2, .ref (a2 0)), (3, .int 0)] [] := by
  refine g_aload_n (i := 1) dL_law_1220 rfl rfl ?_
  refine g_aload_n (i := 0) dL_law_1221 rfl rfl ?_
  refine g_iload_n (i := 3) dL_law_1222 rfl rfl ?_
  refine g_iconst (1) rfl dL_law_1223 ?_
  refine g_iadd dL_law_1224 ?_
  refine g_sld hX hbl hbA dL_law_1225 (by unfold vp_in; decide) ?_
  refine g_aload_n (i := 0) dL_law_1226 rfl rfl ?_
  refine g_iload_n (i := 3) dL_law_1227 rfl rfl ?_
  refine g_iconst (2) rfl dL_law_1228 ?_
  refine g_iadd dL_law_1229 ?_
  refine g_sld hX hbl hbA dL_law_1230 (by unfold vp_in; decide) ?_
  refine g_aload_n (i := 0) dL_law_1231 rfl rfl ?_
  refine g_iload_n (i := 3) dL_law_1232 rfl rfl ?_
  refine g_iconst (3) rfl dL_law_1233 ?_
  refine g_iadd dL_law_1234 ?_
  refine g_sld hX hbl hbA dL_law_1235 (by unfold vp_in; decide) ?_
  refine g_callVX 3 gL_law_X8_offer rfl rfl rfl ⟨Nat.le_of_ble_eq_true rfl, Nat.le_of_ble_eq_true rfl⟩ ⟨Nat.le_of_ble_eq_true rfl, Nat.le_of_ble_eq_true rfl⟩ (by exact Nat.le_of_ble_eq_true rfl) (by decide +kernel) rfl (cO_main _ _ _ _) rfl dL_law_1236 (K_offer _ D cy a _ _ _ _ _) rfl (fun vu_1 wu_1 hu_1 => ?_)
  obtain ⟨rfl, rfl⟩ := hu_1
  refine g_aload_n (i := 2) dL_law_1239 rfl rfl ?_
  refine g_aload_n (i := 0) dL_law_1240 rfl rfl ?_
  refine g_iload_n (i := 3) dL_law_1241 rfl rfl ?_
  refine g_iconst (1) rfl dL_law_1242 ?_
  refine g_iadd dL_law_1243 ?_
  refine g_sld hX hbl hbA dL_law_1244 (by unfold vp_in; decide) ?_
  refine g_aload_n (i := 0) dL_law_1245 rfl rfl ?_
  refine g_iload_n (i := 3) dL_law_1246 rfl rfl ?_
  refine g_iconst (2) rfl dL_law_1247 ?_
  refine g_iadd dL_law_1248 ?_
  refine g_sld hX hbl hbA dL_law_1249 (by unfold vp_in; decide) ?_
  refine g_aload_n (i := 0) dL_law_1250 rfl rfl ?_
  refine g_iload_n (i := 3) dL_law_1251 rfl rfl ?_
  refine g_iconst (3) rfl dL_law_1252 ?_
  refine g_iadd dL_law_1253 ?_
  refine g_sld hX hbl hbA dL_law_1254 (by unfold vp_in; decide) ?_
  refine g_callVX 3 gL_law_X9_offer rfl rfl rfl ⟨Nat.le_of_ble_eq_true rfl, Nat.le_of_ble_eq_true rfl⟩ ⟨Nat.le_of_ble_eq_true rfl, Nat.le_of_ble_eq_true rfl⟩ (by exact Nat.le_of_ble_eq_true rfl) (by decide +kernel) rfl rfl rfl dL_law_1255 (M_offer _ D cy a2 _ _ _ _) rfl (fun vu_2 wu_2 hu_2 => ?_)
  obtain ⟨rfl, rfl⟩ := hu_2
  refine g_lcmp_eq 1408 dL_law_1258 dL_law_1259 (by decide) (fun c_3 => ?_) (fun c_3 => ?_)
  · skip
    exact hend _ _ _ (by decide) (by decide)
  · skip
    first | exact absurd (e_offer _ _ _) c_3 | contradiction
set_option maxHeartbeats 4000000 in
set_option maxRecDepth 100000 in
/-- case 30: turn -/
theorem lc_30 {Γ : gT} {D : va_G} {cy : Nat → ClassId} {a a2 : Nat → Nat} {b : Nat} {xs : Nat → Int32} (hX : va_X b 6 xs (gSt Γ) (gHp Γ)) (hbl : b < (gHp Γ).size) (hbA : ¬ gAp Γ b) (hend : ∀ (ws : va_W) (k n : Nat), k ≤ 2000 → n ≤ 30000 → GL Γ D cy k n ws 1408 [(0, .ref b), (1, .ref (a 200)), (2, .ref (a2 0)), (3, .int 0)] []) : GL Γ D cy 1000 20000 (CW cy a T0 [] ++ MW cy a2 S0) 1264 [(0, .ref b), (1, .ref (a 200)), (2, .ref (a2 0)), (3, .int 0)] [] := by
  refine g_aload_n (i := 1) dL_law_1264 rfl rfl ?_
  refine g_callVX 0 gL_law_X8_turn rfl rfl rfl ⟨Nat.le_of_ble_eq_true rfl, Nat.le_of_ble_eq_true rfl⟩ ⟨Nat.le_of_ble_eq_true rfl, Nat.le_of_ble_eq_true rfl⟩ (by exact Nat.le_of_ble_eq_true rfl) (by decide +kernel) rfl (cO_main _ _ _ _) rfl dL_law_1265 (K_turn _ D cy a _ _ ) rfl (fun vu_1 wu_1 hu_1 => ?_)
  obtain ⟨rfl, rfl⟩ := hu_1
  refine g_aload_n (i := 2) dL_law_1268 rfl rfl ?_
  refine g_callVX 0 gL_law_X9_turn rfl rfl rfl ⟨Nat.le_of_ble_eq_true rfl, Nat.le_of_ble_eq_true rfl⟩ ⟨Nat.le_of_ble_eq_true rfl, Nat.le_of_ble_eq_true rfl⟩ (by exact Nat.le_of_ble_eq_true rfl) (by decide +kernel) rfl rfl rfl dL_law_1269 (M_turn _ D cy a2 _ ) rfl (fun vu_2 wu_2 hu_2 => ?_)
  obtain ⟨rfl, rfl⟩ := hu_2
  refine g_lcmp_eq 1408 dL_law_1272 dL_law_1273 (by decide) (fun c_3 => ?_) (fun c_3 => ?_)
  · skip
    exact hend _ _ _ (by decide) (by decide)
  · skip
    first | exact absurd e_turn c_3 | contradiction
set_option maxHeartbeats 4000000 in
set_option maxRecDepth 100000 in
/-- case 31: part -/
theorem lc_31 {Γ : gT} {D : va_G} {cy : Nat → ClassId} {a a2 : Nat → Nat} {b : Nat} {xs : Nat → Int32} (hX : va_X b 6 xs (gSt Γ) (gHp Γ)) (hbl : b < (gHp Γ).size) (hbA : ¬ gAp Γ b) (hend : ∀ (ws : va_W) (k n : Nat), k ≤ 2000 → n ≤ 30000 → GL Γ D cy k n ws 1408 [(0, .ref b), (1, .ref (a 200)), (2, .ref (a2 0)), (3, .int 0)] []) : GL Γ D cy 1000 20000 (CW cy a T0 [] ++ MW cy a2 S0) 1278 [(0, .ref b), (1, .ref (a 200)), (2, .ref (a2 0)), (3, .int 0)] [] := by
  refine g_aload_n (i := 1) dL_law_1278 rfl rfl ?_
  refine g_aload_n (i := 0) dL_law_1279 rfl rfl ?_
  refine g_iload_n (i := 3) dL_law_1280 rfl rfl ?_
  refine g_iconst (1) rfl dL_law_1281 ?_
  refine g_iadd dL_law_1282 ?_
  refine g_sld hX hbl hbA dL_law_1283 (by unfold vp_in; decide) ?_
  refine g_aload_n (i := 0) dL_law_1284 rfl rfl ?_
  refine g_iload_n (i := 3) dL_law_1285 rfl rfl ?_
  refine g_iconst (2) rfl dL_law_1286 ?_
  refine g_iadd dL_law_1287 ?_
  refine g_sld hX hbl hbA dL_law_1288 (by unfold vp_in; decide) ?_
  refine g_aload_n (i := 0) dL_law_1289 rfl rfl ?_
  refine g_iload_n (i := 3) dL_law_1290 rfl rfl ?_
  refine g_iconst (3) rfl dL_law_1291 ?_
  refine g_iadd dL_law_1292 ?_
  refine g_sld hX hbl hbA dL_law_1293 (by unfold vp_in; decide) ?_
  refine g_callVX 3 gL_law_X8_part rfl rfl rfl ⟨Nat.le_of_ble_eq_true rfl, Nat.le_of_ble_eq_true rfl⟩ ⟨Nat.le_of_ble_eq_true rfl, Nat.le_of_ble_eq_true rfl⟩ (by exact Nat.le_of_ble_eq_true rfl) (by decide +kernel) rfl (cO_main _ _ _ _) rfl dL_law_1294 (K_part _ D cy a _ _ ciB0 _ _ _) rfl (fun vu_1 wu_1 hu_1 => ?_)
  rcases hu_1 with ⟨hc9, rfl, rfl⟩ | ⟨hc9, s1, s2, rfl, rfl, hs1, hs2⟩
  · skip
    refine g_aload_n (i := 2) dL_law_1297 rfl rfl ?_
    refine g_aload_n (i := 0) dL_law_1298 rfl rfl ?_
    refine g_iload_n (i := 3) dL_law_1299 rfl rfl ?_
    refine g_iconst (1) rfl dL_law_1300 ?_
    refine g_iadd dL_law_1301 ?_
    refine g_sld hX hbl hbA dL_law_1302 (by unfold vp_in; decide) ?_
    refine g_aload_n (i := 0) dL_law_1303 rfl rfl ?_
    refine g_iload_n (i := 3) dL_law_1304 rfl rfl ?_
    refine g_iconst (2) rfl dL_law_1305 ?_
    refine g_iadd dL_law_1306 ?_
    refine g_sld hX hbl hbA dL_law_1307 (by unfold vp_in; decide) ?_
    refine g_aload_n (i := 0) dL_law_1308 rfl rfl ?_
    refine g_iload_n (i := 3) dL_law_1309 rfl rfl ?_
    refine g_iconst (3) rfl dL_law_1310 ?_
    refine g_iadd dL_law_1311 ?_
    refine g_sld hX hbl hbA dL_law_1312 (by unfold vp_in; decide) ?_
    refine g_callVX 3 gL_law_X9_part rfl rfl rfl ⟨Nat.le_of_ble_eq_true rfl, Nat.le_of_ble_eq_true rfl⟩ ⟨Nat.le_of_ble_eq_true rfl, Nat.le_of_ble_eq_true rfl⟩ (by exact Nat.le_of_ble_eq_true rfl) (by decide +kernel) rfl rfl rfl dL_law_1313 (M_part _ D cy a2 _ minv0 _ _ _ (prt1n _ _)) rfl (fun vu_2 wu_2 hu_2 => ?_)
    obtain ⟨rfl, rfl⟩ := hu_2
    refine g_lcmp_eq 1408 dL_law_1316 dL_law_1317 (by decide) (fun c_3 => ?_) (fun c_3 => ?_)
    · skip
      exact hend _ _ _ (by decide) (by decide)
    · skip
      first | exact absurd (e_partN hc9) c_3 | contradiction
  · skip
    refine g_aload_n (i := 2) dL_law_1297 rfl rfl ?_
    refine g_aload_n (i := 0) dL_law_1298 rfl rfl ?_
    refine g_iload_n (i := 3) dL_law_1299 rfl rfl ?_
    refine g_iconst (1) rfl dL_law_1300 ?_
    refine g_iadd dL_law_1301 ?_
    refine g_sld hX hbl hbA dL_law_1302 (by unfold vp_in; decide) ?_
    refine g_aload_n (i := 0) dL_law_1303 rfl rfl ?_
    refine g_iload_n (i := 3) dL_law_1304 rfl rfl ?_
    refine g_iconst (2) rfl dL_law_1305 ?_
    refine g_iadd dL_law_1306 ?_
    refine g_sld hX hbl hbA dL_law_1307 (by unfold vp_in; decide) ?_
    refine g_aload_n (i := 0) dL_law_1308 rfl rfl ?_
    refine g_iload_n (i := 3) dL_law_1309 rfl rfl ?_
    refine g_iconst (3) rfl dL_law_1310 ?_
    refine g_iadd dL_law_1311 ?_
    refine g_sld hX hbl hbA dL_law_1312 (by unfold vp_in; decide) ?_
    refine g_callVX 3 gL_law_X9_part rfl rfl rfl ⟨Nat.le_of_ble_eq_true rfl, Nat.le_of_ble_eq_true rfl⟩ ⟨Nat.le_of_ble_eq_true rfl, Nat.le_of_ble_eq_true rfl⟩ (by exact Nat.le_of_ble_eq_true rfl) (by decide +kernel) rfl rfl rfl dL_law_1313 (M_part _ D cy a2 _ minv0 _ _ _ (prt1n _ _)) rfl (fun vu_4 wu_4 hu_4 => ?_)
    obtain ⟨rfl, rfl⟩ := hu_4
    refine g_lcmp_eq 1408 dL_law_1316 dL_law_1317 (by decide) (fun c_5 => ?_) (fun c_5 => ?_)
    · skip
      exact hend _ _ _ (by decide) (by decide)
    · skip
      first | exact absurd (e_part hc9 hs1 hs2) c_5 | contradiction
set_option maxHeartbeats 4000000 in
set_option maxRecDepth 100000 in
/-- case 32: tell -/
theorem lc_32 {Γ : gT} {D : va_G} {cy : Nat → ClassId} {a a2 : Nat → Nat} {b : Nat} {xs : Nat → Int32} (hX : va_X b 6 xs (gSt Γ) (gHp Γ)) (hbl : b < (gHp Γ).size) (hbA : ¬ gAp Γ b) (hend : ∀ (ws : va_W) (k n : Nat), k ≤ 2000 → n ≤ 30000 → GL Γ D cy k n ws 1408 [(0, .ref b), (1, .ref (a 200)), (2, .ref (a2 0)), (3, .int 0)] []) : GL Γ D cy 1000 20000 (CW cy a T0 [] ++ MW cy a2 S0) 1322 [(0, .ref b), (1, .ref (a 200)), (2, .ref (a2 0)), (3, .int 0)] [] := by
  refine g_aload_n (i := 1) dL_law_1322 rfl rfl ?_
  refine g_aload_n (i := 0) dL_law_1323 rfl rfl ?_
  refine g_iload_n (i := 3) dL_law_1324 rfl rfl ?_
  refine g_iconst (1) rfl dL_law_1325 ?_
  refine g_iadd dL_law_1326 ?_
  refine g_sld hX hbl hbA dL_law_1327 (by unfold vp_in; decide) ?_
  refine g_callVX 1 gL_law_X8_tell rfl rfl rfl ⟨Nat.le_of_ble_eq_true rfl, Nat.le_of_ble_eq_true rfl⟩ ⟨Nat.le_of_ble_eq_true rfl, Nat.le_of_ble_eq_true rfl⟩ (by exact Nat.le_of_ble_eq_true rfl) (by decide +kernel) rfl (cO_main _ _ _ _) rfl dL_law_1328 (K_tell _ D cy a _ _ ciT0 _) rfl (fun vu_1 wu_1 hu_1 => ?_)
  obtain ⟨rfl, rfl⟩ := hu_1
  refine g_aload_n (i := 2) dL_law_1331 rfl rfl ?_
  refine g_aload_n (i := 0) dL_law_1332 rfl rfl ?_
  refine g_iload_n (i := 3) dL_law_1333 rfl rfl ?_
  refine g_iconst (1) rfl dL_law_1334 ?_
  refine g_iadd dL_law_1335 ?_
  refine g_sld hX hbl hbA dL_law_1336 (by unfold vp_in; decide) ?_
  refine g_callVX 1 gL_law_X9_tell rfl rfl rfl ⟨Nat.le_of_ble_eq_true rfl, Nat.le_of_ble_eq_true rfl⟩ ⟨Nat.le_of_ble_eq_true rfl, Nat.le_of_ble_eq_true rfl⟩ (by exact Nat.le_of_ble_eq_true rfl) (by decide +kernel) rfl rfl rfl dL_law_1337 (M_tell _ D cy a2 _ minv0 _) rfl (fun vu_2 wu_2 hu_2 => ?_)
  obtain ⟨rfl, rfl⟩ := hu_2
  refine g_lcmp_eq 1408 dL_law_1340 dL_law_1341 (by decide) (fun c_3 => ?_) (fun c_3 => ?_)
  · skip
    exact hend _ _ _ (by decide) (by decide)
  · skip
    first | exact absurd (e_tell _) c_3 | contradiction
set_option maxHeartbeats 4000000 in
set_option maxRecDepth 100000 in
/-- case 33: check -/
theorem lcg_33 {T S U : MS} (hp : pwok T) (hT : ciT T) (hI : minv S) (hPl : plRun (sI S 20 0) U) (hOk : plOk U 0) (he : (cf_check T).1 = (mf_check S U 0).1) {Γ : gT} {D : va_G} {cy : Nat → ClassId} {a a2 : Nat → Nat} {b : Nat} {xs : Nat → Int32} (hX : va_X b 6 xs (gSt Γ) (gHp Γ)) (hbl : b < (gHp Γ).size) (hbA : ¬ gAp Γ b) (hend : ∀ (ws : va_W) (k n : Nat), k ≤ 2000 → n ≤ 30000 → GL Γ D cy k n ws 1408 [(0, .ref b), (1, .ref (a 200)), (2, .ref (a2 0)), (3, .int 0)] []) : GL Γ D cy 1000 20000 (CW cy a T [] ++ MW cy a2 S) 1346 [(0, .ref b), (1, .ref (a 200)), (2, .ref (a2 0)), (3, .int 0)] [] := by
  refine g_aload_n (i := 1) dL_law_1346 rfl rfl ?_
  refine g_callVX 0 gL_law_X8_check rfl rfl rfl ⟨Nat.le_of_ble_eq_true rfl, Nat.le_of_ble_eq_true rfl⟩ ⟨Nat.le_of_ble_eq_true rfl, Nat.le_of_ble_eq_true rfl⟩ (by exact Nat.le_of_ble_eq_true rfl) (by decide +kernel) rfl (cO_main _ _ _ _) rfl dL_law_1347 (K_check _ D cy a _ _ hp hT) rfl (fun vu_1 wu_1 hu_1 => ?_)
  obtain ⟨rfl, rfl⟩ := hu_1
  refine g_aload_n (i := 2) dL_law_1350 rfl rfl ?_
  refine g_callVX 0 gL_law_X9_check rfl rfl rfl ⟨Nat.le_of_ble_eq_true rfl, Nat.le_of_ble_eq_true rfl⟩ ⟨Nat.le_of_ble_eq_true rfl, Nat.le_of_ble_eq_true rfl⟩ (by exact Nat.le_of_ble_eq_true rfl) (by decide +kernel) rfl rfl rfl dL_law_1351 (M_check _ D cy a2 _ hI _ hPl 0 hOk) rfl (fun vu_2 wu_2 hu_2 => ?_)
  obtain ⟨rfl, rfl⟩ := hu_2
  refine g_lcmp_eq 1408 dL_law_1354 dL_law_1355 (by decide) (fun c_3 => ?_) (fun c_3 => ?_)
  · skip
    exact hend _ _ _ (by decide) (by decide)
  · skip
    first | exact absurd he c_3 | contradiction
theorem lc_33 {Γ : gT} {D : va_G} {cy : Nat → ClassId} {a a2 : Nat → Nat} {b : Nat} {xs : Nat → Int32} (hX : va_X b 6 xs (gSt Γ) (gHp Γ)) (hbl : b < (gHp Γ).size) (hbA : ¬ gAp Γ b) (hend : ∀ (ws : va_W) (k n : Nat), k ≤ 2000 → n ≤ 30000 → GL Γ D cy k n ws 1408 [(0, .ref b), (1, .ref (a 200)), (2, .ref (a2 0)), (3, .int 0)] []) : GL Γ D cy 1000 20000 (CW cy a T0 [] ++ MW cy a2 S0) 1346 [(0, .ref b), (1, .ref (a 200)), (2, .ref (a2 0)), (3, .int 0)] [] := lcg_33 (T := T0) (S := S0) ciP0.1 ciT0 minv0 (pl0 z15') (plo0 _) e_check hX hbl hbA hend
set_option maxHeartbeats 4000000 in
set_option maxRecDepth 100000 in
/-- case 34: count -/
theorem lc_34 {Γ : gT} {D : va_G} {cy : Nat → ClassId} {a a2 : Nat → Nat} {b : Nat} {xs : Nat → Int32} (hX : va_X b 6 xs (gSt Γ) (gHp Γ)) (hbl : b < (gHp Γ).size) (hbA : ¬ gAp Γ b) (hend : ∀ (ws : va_W) (k n : Nat), k ≤ 2000 → n ≤ 30000 → GL Γ D cy k n ws 1408 [(0, .ref b), (1, .ref (a 200)), (2, .ref (a2 0)), (3, .int 0)] []) : GL Γ D cy 1000 20000 (CW cy a T0 [] ++ MW cy a2 S0) 1360 [(0, .ref b), (1, .ref (a 200)), (2, .ref (a2 0)), (3, .int 0)] [] := by
  refine g_aload_n (i := 1) dL_law_1360 rfl rfl ?_
  refine g_aload_n (i := 0) dL_law_1361 rfl rfl ?_
  refine g_iload_n (i := 3) dL_law_1362 rfl rfl ?_
  refine g_iconst (1) rfl dL_law_1363 ?_
  refine g_iadd dL_law_1364 ?_
  refine g_sld hX hbl hbA dL_law_1365 (by unfold vp_in; decide) ?_
  refine g_callVX 1 gL_law_X8_count rfl rfl rfl ⟨Nat.le_of_ble_eq_true rfl, Nat.le_of_ble_eq_true rfl⟩ ⟨Nat.le_of_ble_eq_true rfl, Nat.le_of_ble_eq_true rfl⟩ (by exact Nat.le_of_ble_eq_true rfl) (by decide +kernel) rfl (cO_main _ _ _ _) rfl dL_law_1366 (K_count _ D cy a _ _ _) rfl (fun vu_1 wu_1 hu_1 => ?_)
  obtain ⟨rfl, rfl⟩ := hu_1
  refine g_aload_n (i := 2) dL_law_1369 rfl rfl ?_
  refine g_aload_n (i := 0) dL_law_1370 rfl rfl ?_
  refine g_iload_n (i := 3) dL_law_1371 rfl rfl ?_
  refine g_iconst (1) rfl dL_law_1372 ?_
  refine g_iadd dL_law_1373 ?_
  refine g_sld hX hbl hbA dL_law_1374 (by unfold vp_in; decide) ?_
  refine g_callVX 1 gL_law_X9_count rfl rfl rfl ⟨Nat.le_of_ble_eq_true rfl, Nat.le_of_ble_eq_true rfl⟩ ⟨Nat.le_of_ble_eq_true rfl, Nat.le_of_ble_eq_true rfl⟩ (by exact Nat.le_of_ble_eq_true rfl) (by decide +kernel) rfl rfl rfl dL_law_1375 (M_count _ D cy a2 _ _) rfl (fun vu_2 wu_2 hu_2 => ?_)
  obtain ⟨rfl, rfl⟩ := hu_2
  refine g_lcmp_eq 1408 dL_law_1378 dL_law_1379 (by decide) (fun c_3 => ?_) (fun c_3 => ?_)
  · skip
    exact hend _ _ _ (by decide) (by decide)
  · skip
    first | exact absurd (e_count _) c_3 | contradiction
set_option maxHeartbeats 4000000 in
set_option maxRecDepth 100000 in
/-- case 35: found -/
theorem lc_35 {Γ : gT} {D : va_G} {cy : Nat → ClassId} {a a2 : Nat → Nat} {b : Nat} {xs : Nat → Int32} (hX : va_X b 6 xs (gSt Γ) (gHp Γ)) (hbl : b < (gHp Γ).size) (hbA : ¬ gAp Γ b) (hend : ∀ (ws : va_W) (k n : Nat), k ≤ 2000 → n ≤ 30000 → GL Γ D cy k n ws 1408 [(0, .ref b), (1, .ref (a 200)), (2, .ref (a2 0)), (3, .int 0)] []) : GL Γ D cy 1000 20000 (CW cy a T0 [] ++ MW cy a2 S0) 1384 [(0, .ref b), (1, .ref (a 200)), (2, .ref (a2 0)), (3, .int 0)] [] := by
  refine g_aload_n (i := 1) dL_law_1384 rfl rfl ?_
  refine g_aload_n (i := 0) dL_law_1385 rfl rfl ?_
  refine g_iload_n (i := 3) dL_law_1386 rfl rfl ?_
  refine g_iconst (1) rfl dL_law_1387 ?_
  refine g_iadd dL_law_1388 ?_
  refine g_sld hX hbl hbA dL_law_1389 (by unfold vp_in; decide) ?_
  refine g_callVX 1 gL_law_X8_found rfl rfl rfl ⟨Nat.le_of_ble_eq_true rfl, Nat.le_of_ble_eq_true rfl⟩ ⟨Nat.le_of_ble_eq_true rfl, Nat.le_of_ble_eq_true rfl⟩ (by exact Nat.le_of_ble_eq_true rfl) (by decide +kernel) rfl (cO_main _ _ _ _) rfl dL_law_1390 (K_found _ D cy a _ _ _) rfl (fun vu_1 wu_1 hu_1 => ?_)
  obtain ⟨rfl, rfl⟩ := hu_1
  refine g_aload_n (i := 2) dL_law_1393 rfl rfl ?_
  refine g_aload_n (i := 0) dL_law_1394 rfl rfl ?_
  refine g_iload_n (i := 3) dL_law_1395 rfl rfl ?_
  refine g_iconst (1) rfl dL_law_1396 ?_
  refine g_iadd dL_law_1397 ?_
  refine g_sld hX hbl hbA dL_law_1398 (by unfold vp_in; decide) ?_
  refine g_callVX 1 gL_law_X9_found rfl rfl rfl ⟨Nat.le_of_ble_eq_true rfl, Nat.le_of_ble_eq_true rfl⟩ ⟨Nat.le_of_ble_eq_true rfl, Nat.le_of_ble_eq_true rfl⟩ (by exact Nat.le_of_ble_eq_true rfl) (by decide +kernel) rfl rfl rfl dL_law_1399 (M_found _ D cy a2 _ _) rfl (fun vu_2 wu_2 hu_2 => ?_)
  obtain ⟨rfl, rfl⟩ := hu_2
  refine g_lcmp_eq 1408 dL_law_1402 dL_law_1403 (by decide) (fun c_3 => ?_) (fun c_3 => ?_)
  · skip
    exact hend _ _ _ (by decide) (by decide)
  · skip
    first | exact absurd (e_found _) c_3 | contradiction
