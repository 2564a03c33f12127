abbrev GL (Γ : gT) (D : va_G) (cy : Nat → ClassId) (k n : Nat) (ws : va_W) (pc : Nat) (lv : List (Nat × Value)) (st : List Value) : Prop := G Γ room_1 code RL wsL_law 4 D clx (tyx cy) 600000 7302250 (fun v _ => v = some (.int 1)) k n ws pc lv st
theorem ix6_0 {i L : Nat} (h : 6 * i + 6 ≤ L) (hL : L ≤ 3072) : vp_in (nI (6 * i)) L := vp_in_nI (by omega) (by omega)
theorem ix6_1 {i L : Nat} (h : 6 * i + 6 ≤ L) (hL : L ≤ 3072) : vp_in (nI (6 * i) + 1) L := by
  rw [show (1 : Int32) = nI 1 from by decide, nI_add]
  exact vp_in_nI (by omega) (by omega)
theorem ix6_2 {i L : Nat} (h : 6 * i + 6 ≤ L) (hL : L ≤ 3072) : vp_in (nI (6 * i) + 2) L := by
  rw [show (2 : Int32) = nI 2 from by decide, nI_add]
  exact vp_in_nI (by omega) (by omega)
theorem ix6_3 {i L : Nat} (h : 6 * i + 6 ≤ L) (hL : L ≤ 3072) : vp_in (nI (6 * i) + 3) L := by
  rw [show (3 : Int32) = nI 3 from by decide, nI_add]
  exact vp_in_nI (by omega) (by omega)
theorem ix6_4 {i L : Nat} (h : 6 * i + 6 ≤ L) (hL : L ≤ 3072) : vp_in (nI (6 * i) + 4) L := by
  rw [show (4 : Int32) = nI 4 from by decide, nI_add]
  exact vp_in_nI (by omega) (by omega)
theorem ix6_5 {i L : Nat} (h : 6 * i + 6 ≤ L) (hL : L ≤ 3072) : vp_in (nI (6 * i) + 5) L := by
  rw [show (5 : Int32) = nI 5 from by decide, nI_add]
  exact vp_in_nI (by omega) (by omega)
set_option maxHeartbeats 4000000 in
set_option maxRecDepth 100000 in
/-- case 0: days -/
theorem lc_0 {Γ : gT} {D : va_G} {cy : Nat → ClassId} {a a2 adK adV : Nat → Nat} {b L i kk nn : Nat} {xs : Nat → Int32} {T S : MS} {B : List BL} (hX : va_X b L xs (gSt Γ) (gHp Γ)) (hbl : b < (gHp Γ).size) (hbA : ¬ gAp Γ b) (hE9 : sAt (sE adK adV) Γ) (hi6 : 6 * i + 6 ≤ L) (hL : L ≤ 3072) (hP : PI (Rel i) i T B S) (hkk : kk ≤ 1000 + 3 * i) (hnn : nn ≤ 20000 + 19 * i) (hend : ∀ (a9 : Nat → Nat) (T9 : MS) (B9 : List BL) (S9 : MS) (k9 n9 : Nat), a9 200 = a 200 → PI (Rel (i + 1)) (i + 1) T9 B9 S9 → k9 ≤ 1000 + 3 * (i + 1) → n9 ≤ 20000 + 19 * (i + 1) → GL Γ D cy k9 n9 (CW cy a9 T9 B9 ++ MW cy a2 S9) 1373 [(0, .ref b), (1, .ref (a 200)), (2, .ref (a2 0)), (3, .int (nI (6 * i)))] []) : GL Γ D cy kk nn (CW cy a T B ++ MW cy a2 S) 192 [(0, .ref b), (1, .ref (a 200)), (2, .ref (a2 0)), (3, .int (nI (6 * i)))] [] := by
  have hi9 : i < 600 := by omega
  refine g_aload_n (i := 1) dL_law_192 rfl rfl ?_
  refine g_aload_n (i := 0) dL_law_193 rfl rfl ?_
  refine g_iload_n (i := 3) dL_law_194 rfl rfl ?_
  refine g_iconst (1) rfl dL_law_195 ?_
  refine g_iadd dL_law_196 ?_
  refine g_sld hX hbl hbA dL_law_197 (ix6_1 hi6 hL) ?_
  refine g_callVX 1 gL_law_X8_days rfl rfl rfl ⟨Nat.le_of_ble_eq_true rfl, Nat.le_of_ble_eq_true rfl⟩ ⟨by show kk + 0 ≤ 600000; omega, by show nn + 0 ≤ 7302250; omega⟩ (by exact Nat.le_of_ble_eq_true rfl) (by decide +kernel) rfl (cO_main _ _ _ _) rfl dL_law_198 (K_days _ D cy a T B _) rfl (fun vu_1 wu_1 hu_1 => ?_)
  obtain ⟨rfl, rfl⟩ := hu_1
  refine g_pop2_2 rfl dL_law_201 ?_
  refine g_aload_n (i := 2) dL_law_202 rfl rfl ?_
  refine g_aload_n (i := 0) dL_law_203 rfl rfl ?_
  refine g_iload_n (i := 3) dL_law_204 rfl rfl ?_
  refine g_iconst (1) rfl dL_law_205 ?_
  refine g_iadd dL_law_206 ?_
  refine g_sld hX hbl hbA dL_law_207 (ix6_1 hi6 hL) ?_
  refine g_callVX 1 gL_law_X9_days rfl rfl rfl ⟨Nat.le_of_ble_eq_true rfl, Nat.le_of_ble_eq_true rfl⟩ ⟨by show kk + 0 + 0 ≤ 600000; omega, by show nn + 0 + 0 ≤ 7302250; omega⟩ (by exact Nat.le_of_ble_eq_true rfl) (by decide +kernel) rfl rfl rfl dL_law_208 (M_days _ D cy a2 S _) rfl (fun vu_2 wu_2 hu_2 => ?_)
  obtain ⟨rfl, rfl⟩ := hu_2
  refine g_pop2_2 rfl dL_law_211 ?_
  refine g_goto 1373 dL_law_212 (by decide) ?_
  exact hend a _ _ _ (kk + 0 + 0) (nn + 0 + 0) rfl (pi_days hi9 _  hP) (by omega) (by omega)
set_option maxHeartbeats 4000000 in
set_option maxRecDepth 100000 in
/-- case 1: gain -/
theorem lc_1 {Γ : gT} {D : va_G} {cy : Nat → ClassId} {a a2 adK adV : Nat → Nat} {b L i kk nn : Nat} {xs : Nat → Int32} {T S : MS} {B : List BL} (hX : va_X b L xs (gSt Γ) (gHp Γ)) (hbl : b < (gHp Γ).size) (hbA : ¬ gAp Γ b) (hE9 : sAt (sE adK adV) Γ) (hi6 : 6 * i + 6 ≤ L) (hL : L ≤ 3072) (hP : PI (Rel i) i T B S) (hkk : kk ≤ 1000 + 3 * i) (hnn : nn ≤ 20000 + 19 * i) (hend : ∀ (a9 : Nat → Nat) (T9 : MS) (B9 : List BL) (S9 : MS) (k9 n9 : Nat), a9 200 = a 200 → PI (Rel (i + 1)) (i + 1) T9 B9 S9 → k9 ≤ 1000 + 3 * (i + 1) → n9 ≤ 20000 + 19 * (i + 1) → GL Γ D cy k9 n9 (CW cy a9 T9 B9 ++ MW cy a2 S9) 1373 [(0, .ref b), (1, .ref (a 200)), (2, .ref (a2 0)), (3, .int (nI (6 * i)))] []) : GL Γ D cy kk nn (CW cy a T B ++ MW cy a2 S) 215 [(0, .ref b), (1, .ref (a 200)), (2, .ref (a2 0)), (3, .int (nI (6 * i)))] [] := by
  have hi9 : i < 600 := by omega
  refine g_aload_n (i := 1) dL_law_215 rfl rfl ?_
  refine g_aload_n (i := 0) dL_law_216 rfl rfl ?_
  refine g_iload_n (i := 3) dL_law_217 rfl rfl ?_
  refine g_iconst (1) rfl dL_law_218 ?_
  refine g_iadd dL_law_219 ?_
  refine g_sld hX hbl hbA dL_law_220 (ix6_1 hi6 hL) ?_
  refine g_callVX 1 gL_law_X8_gain rfl rfl rfl ⟨Nat.le_of_ble_eq_true rfl, Nat.le_of_ble_eq_true rfl⟩ ⟨by show kk + 0 ≤ 600000; omega, by show nn + 0 ≤ 7302250; omega⟩ (by exact Nat.le_of_ble_eq_true rfl) (by decide +kernel) rfl (cO_main _ _ _ _) rfl dL_law_221 (K_gain _ D cy a T B _) rfl (fun vu_1 wu_1 hu_1 => ?_)
  obtain ⟨rfl, rfl⟩ := hu_1
  refine g_pop2_2 rfl dL_law_224 ?_
  refine g_aload_n (i := 2) dL_law_225 rfl rfl ?_
  refine g_aload_n (i := 0) dL_law_226 rfl rfl ?_
  refine g_iload_n (i := 3) dL_law_227 rfl rfl ?_
  refine g_iconst (1) rfl dL_law_228 ?_
  refine g_iadd dL_law_229 ?_
  refine g_sld hX hbl hbA dL_law_230 (ix6_1 hi6 hL) ?_
  refine g_callVX 1 gL_law_X9_gain rfl rfl rfl ⟨Nat.le_of_ble_eq_true rfl, Nat.le_of_ble_eq_true rfl⟩ ⟨by show kk + 0 + 0 ≤ 600000; omega, by show nn + 0 + 0 ≤ 7302250; omega⟩ (by exact Nat.le_of_ble_eq_true rfl) (by decide +kernel) rfl rfl rfl dL_law_231 (M_gain _ D cy a2 S _) rfl (fun vu_2 wu_2 hu_2 => ?_)
  obtain ⟨rfl, rfl⟩ := hu_2
  refine g_pop2_2 rfl dL_law_234 ?_
  refine g_goto 1373 dL_law_235 (by decide) ?_
  exact hend a _ _ _ (kk + 0 + 0) (nn + 0 + 0) rfl (pi_gain hi9 _  hP) (by omega) (by omega)
set_option maxHeartbeats 4000000 in
set_option maxRecDepth 100000 in
/-- case 2: road -/
theorem lc_2 {Γ : gT} {D : va_G} {cy : Nat → ClassId} {a a2 adK adV : Nat → Nat} {b L i kk nn : Nat} {xs : Nat → Int32} {T S : MS} {B : List BL} (hX : va_X b L xs (gSt Γ) (gHp Γ)) (hbl : b < (gHp Γ).size) (hbA : ¬ gAp Γ b) (hE9 : sAt (sE adK adV) Γ) (hi6 : 6 * i + 6 ≤ L) (hL : L ≤ 3072) (hP : PI (Rel i) i T B S) (hkk : kk ≤ 1000 + 3 * i) (hnn : nn ≤ 20000 + 19 * i) (hend : ∀ (a9 : Nat → Nat) (T9 : MS) (B9 : List BL) (S9 : MS) (k9 n9 : Nat), a9 200 = a 200 → PI (Rel (i + 1)) (i + 1) T9 B9 S9 → k9 ≤ 1000 + 3 * (i + 1) → n9 ≤ 20000 + 19 * (i + 1) → GL Γ D cy k9 n9 (CW cy a9 T9 B9 ++ MW cy a2 S9) 1373 [(0, .ref b), (1, .ref (a 200)), (2, .ref (a2 0)), (3, .int (nI (6 * i)))] []) : GL Γ D cy kk nn (CW cy a T B ++ MW cy a2 S) 238 [(0, .ref b), (1, .ref (a 200)), (2, .ref (a2 0)), (3, .int (nI (6 * i)))] [] := by
  have hi9 : i < 600 := by omega
  refine g_aload_n (i := 1) dL_law_238 rfl rfl ?_
  refine g_aload_n (i := 0) dL_law_239 rfl rfl ?_
  refine g_iload_n (i := 3) dL_law_240 rfl rfl ?_
  refine g_iconst (1) rfl dL_law_241 ?_
  refine g_iadd dL_law_242 ?_
  refine g_sld hX hbl hbA dL_law_243 (ix6_1 hi6 hL) ?_
  refine g_aload_n (i := 0) dL_law_244 rfl rfl ?_
  refine g_iload_n (i := 3) dL_law_245 rfl rfl ?_
  refine g_iconst (2) rfl dL_law_246 ?_
  refine g_iadd dL_law_247 ?_
  refine g_sld hX hbl hbA dL_law_248 (ix6_2 hi6 hL) ?_
  refine g_callVX 2 gL_law_X8_road rfl rfl rfl ⟨Nat.le_of_ble_eq_true rfl, Nat.le_of_ble_eq_true rfl⟩ ⟨by show kk + 0 ≤ 600000; omega, by show nn + 0 ≤ 7302250; omega⟩ (by exact Nat.le_of_ble_eq_true rfl) (by decide +kernel) rfl (cO_main _ _ _ _) rfl dL_law_249 (K_road _ D cy a T B _ _) rfl (fun vu_1 wu_1 hu_1 => ?_)
  obtain ⟨rfl, rfl⟩ := hu_1
  refine g_pop2_2 rfl dL_law_252 ?_
  refine g_aload_n (i := 2) dL_law_253 rfl rfl ?_
  refine g_aload_n (i := 0) dL_law_254 rfl rfl ?_
  refine g_iload_n (i := 3) dL_law_255 rfl rfl ?_
  refine g_iconst (1) rfl dL_law_256 ?_
  refine g_iadd dL_law_257 ?_
  refine g_sld hX hbl hbA dL_law_258 (ix6_1 hi6 hL) ?_
  refine g_aload_n (i := 0) dL_law_259 rfl rfl ?_
  refine g_iload_n (i := 3) dL_law_260 rfl rfl ?_
  refine g_iconst (2) rfl dL_law_261 ?_
  refine g_iadd dL_law_262 ?_
  refine g_sld hX hbl hbA dL_law_263 (ix6_2 hi6 hL) ?_
  refine g_callVX 2 gL_law_X9_road rfl rfl rfl ⟨Nat.le_of_ble_eq_true rfl, Nat.le_of_ble_eq_true rfl⟩ ⟨by show kk + 0 + 0 ≤ 600000; omega, by show nn + 0 + 0 ≤ 7302250; omega⟩ (by exact Nat.le_of_ble_eq_true rfl) (by decide +kernel) rfl rfl rfl dL_law_264 (M_road _ D cy a2 S _ _) rfl (fun vu_2 wu_2 hu_2 => ?_)
  obtain ⟨rfl, rfl⟩ := hu_2
  refine g_pop2_2 rfl dL_law_267 ?_
  refine g_goto 1373 dL_law_268 (by decide) ?_
  exact hend a _ _ _ (kk + 0 + 0) (nn + 0 + 0) rfl (pi_road hi9 _ _  hP) (by omega) (by omega)
set_option maxHeartbeats 4000000 in
set_option maxRecDepth 100000 in
/-- case 3: seat -/
theorem lc_3 {Γ : gT} {D : va_G} {cy : Nat → ClassId} {a a2 adK adV : Nat → Nat} {b L i kk nn : Nat} {xs : Nat → Int32} {T S : MS} {B : List BL} (hX : va_X b L xs (gSt Γ) (gHp Γ)) (hbl : b < (gHp Γ).size) (hbA : ¬ gAp Γ b) (hE9 : sAt (sE adK adV) Γ) (hi6 : 6 * i + 6 ≤ L) (hL : L ≤ 3072) (hP : PI (Rel i) i T B S) (hkk : kk ≤ 1000 + 3 * i) (hnn : nn ≤ 20000 + 19 * i) (hend : ∀ (a9 : Nat → Nat) (T9 : MS) (B9 : List BL) (S9 : MS) (k9 n9 : Nat), a9 200 = a 200 → PI (Rel (i + 1)) (i + 1) T9 B9 S9 → k9 ≤ 1000 + 3 * (i + 1) → n9 ≤ 20000 + 19 * (i + 1) → GL Γ D cy k9 n9 (CW cy a9 T9 B9 ++ MW cy a2 S9) 1373 [(0, .ref b), (1, .ref (a 200)), (2, .ref (a2 0)), (3, .int (nI (6 * i)))] []) : GL Γ D cy kk nn (CW cy a T B ++ MW cy a2 S) 271 [(0, .ref b), (1, .ref (a 200)), (2, .ref (a2 0)), (3, .int (nI (6 * i)))] [] := by
  have hi9 : i < 600 := by omega
  refine g_aload_n (i := 1) dL_law_271 rfl rfl ?_
  refine g_aload_n (i := 0) dL_law_272 rfl rfl ?_
  refine g_iload_n (i := 3) dL_law_273 rfl rfl ?_
  refine g_iconst (1) rfl dL_law_274 ?_
  refine g_iadd dL_law_275 ?_
  refine g_sld hX hbl hbA dL_law_276 (ix6_1 hi6 hL) ?_
  refine g_aload_n (i := 0) dL_law_277 rfl rfl ?_
  refine g_iload_n (i := 3) dL_law_278 rfl rfl ?_
  refine g_iconst (2) rfl dL_law_279 ?_
  refine g_iadd dL_law_280 ?_
  refine g_sld hX hbl hbA dL_law_281 (ix6_2 hi6 hL) ?_
  refine g_callVX 2 gL_law_X8_seat rfl rfl rfl ⟨Nat.le_of_ble_eq_true rfl, Nat.le_of_ble_eq_true rfl⟩ ⟨by show kk + 0 ≤ 600000; omega, by show nn + 0 ≤ 7302250; omega⟩ (by exact Nat.le_of_ble_eq_true rfl) (by decide +kernel) rfl (cO_main _ _ _ _) rfl dL_law_282 (K_seat _ D cy a T B _ _) rfl (fun vu_1 wu_1 hu_1 => ?_)
  obtain ⟨rfl, rfl⟩ := hu_1
  refine g_pop2_2 rfl dL_law_285 ?_
  refine g_aload_n (i := 2) dL_law_286 rfl rfl ?_
  refine g_aload_n (i := 0) dL_law_287 rfl rfl ?_
  refine g_iload_n (i := 3) dL_law_288 rfl rfl ?_
  refine g_iconst (1) rfl dL_law_289 ?_
  refine g_iadd dL_law_290 ?_
  refine g_sld hX hbl hbA dL_law_291 (ix6_1 hi6 hL) ?_
  refine g_aload_n (i := 0) dL_law_292 rfl rfl ?_
  refine g_iload_n (i := 3) dL_law_293 rfl rfl ?_
  refine g_iconst (2) rfl dL_law_294 ?_
  refine g_iadd dL_law_295 ?_
  refine g_sld hX hbl hbA dL_law_296 (ix6_2 hi6 hL) ?_
  refine g_callVX 2 gL_law_X9_seat rfl rfl rfl ⟨Nat.le_of_ble_eq_true rfl, Nat.le_of_ble_eq_true rfl⟩ ⟨by show kk + 0 + 0 ≤ 600000; omega, by show nn + 0 + 0 ≤ 7302250; omega⟩ (by exact Nat.le_of_ble_eq_true rfl) (by decide +kernel) rfl rfl rfl dL_law_297 (M_seat _ D cy a2 S _ _) rfl (fun vu_2 wu_2 hu_2 => ?_)
  obtain ⟨rfl, rfl⟩ := hu_2
  refine g_pop2_2 rfl dL_law_300 ?_
  refine g_goto 1373 dL_law_301 (by decide) ?_
  exact hend a _ _ _ (kk + 0 + 0) (nn + 0 + 0) rfl (pi_seat hi9 _ _  hP) (by omega) (by omega)
set_option maxHeartbeats 4000000 in
set_option maxRecDepth 100000 in
/-- case 4: draw -/
theorem lc_4 {Γ : gT} {D : va_G} {cy : Nat → ClassId} {a a2 adK adV : Nat → Nat} {b L i kk nn : Nat} {xs : Nat → Int32} {T S : MS} {B : List BL} (hX : va_X b L xs (gSt Γ) (gHp Γ)) (hbl : b < (gHp Γ).size) (hbA : ¬ gAp Γ b) (hE9 : sAt (sE adK adV) Γ) (hi6 : 6 * i + 6 ≤ L) (hL : L ≤ 3072) (hP : PI (Rel i) i T B S) (hkk : kk ≤ 1000 + 3 * i) (hnn : nn ≤ 20000 + 19 * i) (hend : ∀ (a9 : Nat → Nat) (T9 : MS) (B9 : List BL) (S9 : MS) (k9 n9 : Nat), a9 200 = a 200 → PI (Rel (i + 1)) (i + 1) T9 B9 S9 → k9 ≤ 1000 + 3 * (i + 1) → n9 ≤ 20000 + 19 * (i + 1) → GL Γ D cy k9 n9 (CW cy a9 T9 B9 ++ MW cy a2 S9) 1373 [(0, .ref b), (1, .ref (a 200)), (2, .ref (a2 0)), (3, .int (nI (6 * i)))] []) : GL Γ D cy kk nn (CW cy a T B ++ MW cy a2 S) 304 [(0, .ref b), (1, .ref (a 200)), (2, .ref (a2 0)), (3, .int (nI (6 * i)))] [] := by
  have hi9 : i < 600 := by omega
  refine g_aload_n (i := 1) dL_law_304 rfl rfl ?_
  refine g_aload_n (i := 0) dL_law_305 rfl rfl ?_
  refine g_iload_n (i := 3) dL_law_306 rfl rfl ?_
  refine g_iconst (1) rfl dL_law_307 ?_
  refine g_iadd dL_law_308 ?_
  refine g_sld hX hbl hbA dL_law_309 (ix6_1 hi6 hL) ?_
  refine g_aload_n (i := 0) dL_law_310 rfl rfl ?_
  refine g_iload_n (i := 3) dL_law_311 rfl rfl ?_
  refine g_iconst (2) rfl dL_law_312 ?_
  refine g_iadd dL_law_313 ?_
  refine g_sld hX hbl hbA dL_law_314 (ix6_2 hi6 hL) ?_
  refine g_aload_n (i := 0) dL_law_315 rfl rfl ?_
  refine g_iload_n (i := 3) dL_law_316 rfl rfl ?_
  refine g_iconst (3) rfl dL_law_317 ?_
  refine g_iadd dL_law_318 ?_
  refine g_sld hX hbl hbA dL_law_319 (ix6_3 hi6 hL) ?_
  refine g_aload_n (i := 0) dL_law_320 rfl rfl ?_
  refine g_iload_n (i := 3) dL_law_321 rfl rfl ?_
  refine g_iconst (4) rfl dL_law_322 ?_
  refine g_iadd dL_law_323 ?_
  refine g_sld hX hbl hbA dL_law_324 (ix6_4 hi6 hL) ?_
  refine g_aload_n (i := 0) dL_law_325 rfl rfl ?_
  refine g_iload_n (i := 3) dL_law_326 rfl rfl ?_
  refine g_iconst (5) rfl dL_law_327 ?_
  refine g_iadd dL_law_328 ?_
  refine g_sld hX hbl hbA dL_law_329 (ix6_5 hi6 hL) ?_
  refine g_callVX 5 gL_law_X8_draw rfl rfl rfl ⟨Nat.le_of_ble_eq_true rfl, Nat.le_of_ble_eq_true rfl⟩ ⟨by show kk + 3 ≤ 600000; omega, by show nn + 19 ≤ 7302250; omega⟩ (by exact Nat.le_of_ble_eq_true rfl) (by decide +kernel) rfl (cO_main _ _ _ _) rfl dL_law_330 (K_draw _ D cy a T B hP.1.1 _ _ _ _ _) rfl (fun vu_1 wu_1 hu_1 => ?_)
  rcases hu_1 with ⟨hc9, rfl, rfl⟩ | ⟨hc9, hp9, rfl, rfl⟩ | ⟨hc9, hp9, hf9, rfl, rfl⟩ | ⟨hc9, hp9, hf9, q9, e9, g9, rfl, rfl⟩
  · skip
    refine g_pop2_2 rfl dL_law_333 ?_
    refine g_aload_n (i := 2) dL_law_334 rfl rfl ?_
    refine g_aload_n (i := 0) dL_law_335 rfl rfl ?_
    refine g_iload_n (i := 3) dL_law_336 rfl rfl ?_
    refine g_iconst (1) rfl dL_law_337 ?_
    refine g_iadd dL_law_338 ?_
    refine g_sld hX hbl hbA dL_law_339 (ix6_1 hi6 hL) ?_
    refine g_aload_n (i := 0) dL_law_340 rfl rfl ?_
    refine g_iload_n (i := 3) dL_law_341 rfl rfl ?_
    refine g_iconst (2) rfl dL_law_342 ?_
    refine g_iadd dL_law_343 ?_
    refine g_sld hX hbl hbA dL_law_344 (ix6_2 hi6 hL) ?_
    refine g_aload_n (i := 0) dL_law_345 rfl rfl ?_
    refine g_iload_n (i := 3) dL_law_346 rfl rfl ?_
    refine g_iconst (3) rfl dL_law_347 ?_
    refine g_iadd dL_law_348 ?_
    refine g_sld hX hbl hbA dL_law_349 (ix6_3 hi6 hL) ?_
    refine g_aload_n (i := 0) dL_law_350 rfl rfl ?_
    refine g_iload_n (i := 3) dL_law_351 rfl rfl ?_
    refine g_iconst (4) rfl dL_law_352 ?_
    refine g_iadd dL_law_353 ?_
    refine g_sld hX hbl hbA dL_law_354 (ix6_4 hi6 hL) ?_
    refine g_aload_n (i := 0) dL_law_355 rfl rfl ?_
    refine g_iload_n (i := 3) dL_law_356 rfl rfl ?_
    refine g_iconst (5) rfl dL_law_357 ?_
    refine g_iadd dL_law_358 ?_
    refine g_sld hX hbl hbA dL_law_359 (ix6_5 hi6 hL) ?_
    refine g_callVX 5 gL_law_X9_draw rfl rfl rfl ⟨Nat.le_of_ble_eq_true rfl, Nat.le_of_ble_eq_true rfl⟩ ⟨by show kk + 3 + 0 ≤ 600000; omega, by show nn + 19 + 0 ≤ 7302250; omega⟩ (by exact Nat.le_of_ble_eq_true rfl) (by decide +kernel) rfl rfl rfl dL_law_360 (M_draw _ D cy a2 S hP.2.1.1 _ _ _ _ _) rfl (fun vu_2 wu_2 hu_2 => ?_)
    obtain ⟨rfl, rfl⟩ := hu_2
    refine g_pop2_2 rfl dL_law_363 ?_
    refine g_goto 1373 dL_law_364 (by decide) ?_
    exact hend a _ _ _ (kk + 3 + 0) (nn + 19 + 0) rfl (pi_drawN hi9 _ _ _ _ _ hc9 hP) (by omega) (by omega)
  · skip
    refine g_pop2_2 rfl dL_law_333 ?_
    refine g_aload_n (i := 2) dL_law_334 rfl rfl ?_
    refine g_aload_n (i := 0) dL_law_335 rfl rfl ?_
    refine g_iload_n (i := 3) dL_law_336 rfl rfl ?_
    refine g_iconst (1) rfl dL_law_337 ?_
    refine g_iadd dL_law_338 ?_
    refine g_sld hX hbl hbA dL_law_339 (ix6_1 hi6 hL) ?_
    refine g_aload_n (i := 0) dL_law_340 rfl rfl ?_
    refine g_iload_n (i := 3) dL_law_341 rfl rfl ?_
    refine g_iconst (2) rfl dL_law_342 ?_
    refine g_iadd dL_law_343 ?_
    refine g_sld hX hbl hbA dL_law_344 (ix6_2 hi6 hL) ?_
    refine g_aload_n (i := 0) dL_law_345 rfl rfl ?_
    refine g_iload_n (i := 3) dL_law_346 rfl rfl ?_
    refine g_iconst (3) rfl dL_law_347 ?_
    refine g_iadd dL_law_348 ?_
    refine g_sld hX hbl hbA dL_law_349 (ix6_3 hi6 hL) ?_
    refine g_aload_n (i := 0) dL_law_350 rfl rfl ?_
    refine g_iload_n (i := 3) dL_law_351 rfl rfl ?_
    refine g_iconst (4) rfl dL_law_352 ?_
    refine g_iadd dL_law_353 ?_
    refine g_sld hX hbl hbA dL_law_354 (ix6_4 hi6 hL) ?_
    refine g_aload_n (i := 0) dL_law_355 rfl rfl ?_
    refine g_iload_n (i := 3) dL_law_356 rfl rfl ?_
    refine g_iconst (5) rfl dL_law_357 ?_
    refine g_iadd dL_law_358 ?_
    refine g_sld hX hbl hbA dL_law_359 (ix6_5 hi6 hL) ?_
    refine g_callVX 5 gL_law_X9_draw rfl rfl rfl ⟨Nat.le_of_ble_eq_true rfl, Nat.le_of_ble_eq_true rfl⟩ ⟨by show kk + 3 + 0 ≤ 600000; omega, by show nn + 19 + 0 ≤ 7302250; omega⟩ (by exact Nat.le_of_ble_eq_true rfl) (by decide +kernel) rfl rfl rfl dL_law_360 (M_draw _ D cy a2 S hP.2.1.1 _ _ _ _ _) rfl (fun vu_3 wu_3 hu_3 => ?_)
    obtain ⟨rfl, rfl⟩ := hu_3
    refine g_pop2_2 rfl dL_law_363 ?_
    refine g_goto 1373 dL_law_364 (by decide) ?_
    exact hend a _ _ _ (kk + 3 + 0) (nn + 19 + 0) rfl (pi_drawK hi9 _ _ _ _ _ hc9 hp9 hP) (by omega) (by omega)
  · skip
    refine g_pop2_2 rfl dL_law_333 ?_
    refine g_aload_n (i := 2) dL_law_334 rfl rfl ?_
    refine g_aload_n (i := 0) dL_law_335 rfl rfl ?_
    refine g_iload_n (i := 3) dL_law_336 rfl rfl ?_
    refine g_iconst (1) rfl dL_law_337 ?_
    refine g_iadd dL_law_338 ?_
    refine g_sld hX hbl hbA dL_law_339 (ix6_1 hi6 hL) ?_
    refine g_aload_n (i := 0) dL_law_340 rfl rfl ?_
    refine g_iload_n (i := 3) dL_law_341 rfl rfl ?_
    refine g_iconst (2) rfl dL_law_342 ?_
    refine g_iadd dL_law_343 ?_
    refine g_sld hX hbl hbA dL_law_344 (ix6_2 hi6 hL) ?_
    refine g_aload_n (i := 0) dL_law_345 rfl rfl ?_
    refine g_iload_n (i := 3) dL_law_346 rfl rfl ?_
    refine g_iconst (3) rfl dL_law_347 ?_
    refine g_iadd dL_law_348 ?_
    refine g_sld hX hbl hbA dL_law_349 (ix6_3 hi6 hL) ?_
    refine g_aload_n (i := 0) dL_law_350 rfl rfl ?_
    refine g_iload_n (i := 3) dL_law_351 rfl rfl ?_
    refine g_iconst (4) rfl dL_law_352 ?_
    refine g_iadd dL_law_353 ?_
    refine g_sld hX hbl hbA dL_law_354 (ix6_4 hi6 hL) ?_
    refine g_aload_n (i := 0) dL_law_355 rfl rfl ?_
    refine g_iload_n (i := 3) dL_law_356 rfl rfl ?_
    refine g_iconst (5) rfl dL_law_357 ?_
    refine g_iadd dL_law_358 ?_
    refine g_sld hX hbl hbA dL_law_359 (ix6_5 hi6 hL) ?_
    refine g_callVX 5 gL_law_X9_draw rfl rfl rfl ⟨Nat.le_of_ble_eq_true rfl, Nat.le_of_ble_eq_true rfl⟩ ⟨by show kk + 3 + 0 ≤ 600000; omega, by show nn + 19 + 0 ≤ 7302250; omega⟩ (by exact Nat.le_of_ble_eq_true rfl) (by decide +kernel) rfl rfl rfl dL_law_360 (M_draw _ D cy a2 S hP.2.1.1 _ _ _ _ _) rfl (fun vu_4 wu_4 hu_4 => ?_)
    obtain ⟨rfl, rfl⟩ := hu_4
    refine g_pop2_2 rfl dL_law_363 ?_
    refine g_goto 1373 dL_law_364 (by decide) ?_
    exact hend a _ _ _ (kk + 3 + 0) (nn + 19 + 0) rfl (pi_drawF hi9 _ _ _ _ _ hc9 hp9 hf9 hP) (by omega) (by omega)
  · skip
    refine g_pop2_2 rfl dL_law_333 ?_
    refine g_aload_n (i := 2) dL_law_334 rfl rfl ?_
    refine g_aload_n (i := 0) dL_law_335 rfl rfl ?_
    refine g_iload_n (i := 3) dL_law_336 rfl rfl ?_
    refine g_iconst (1) rfl dL_law_337 ?_
    refine g_iadd dL_law_338 ?_
    refine g_sld hX hbl hbA dL_law_339 (ix6_1 hi6 hL) ?_
    refine g_aload_n (i := 0) dL_law_340 rfl rfl ?_
    refine g_iload_n (i := 3) dL_law_341 rfl rfl ?_
    refine g_iconst (2) rfl dL_law_342 ?_
    refine g_iadd dL_law_343 ?_
    refine g_sld hX hbl hbA dL_law_344 (ix6_2 hi6 hL) ?_
    refine g_aload_n (i := 0) dL_law_345 rfl rfl ?_
    refine g_iload_n (i := 3) dL_law_346 rfl rfl ?_
    refine g_iconst (3) rfl dL_law_347 ?_
    refine g_iadd dL_law_348 ?_
    refine g_sld hX hbl hbA dL_law_349 (ix6_3 hi6 hL) ?_
    refine g_aload_n (i := 0) dL_law_350 rfl rfl ?_
    refine g_iload_n (i := 3) dL_law_351 rfl rfl ?_
    refine g_iconst (4) rfl dL_law_352 ?_
    refine g_iadd dL_law_353 ?_
    refine g_sld hX hbl hbA dL_law_354 (ix6_4 hi6 hL) ?_
    refine g_aload_n (i := 0) dL_law_355 rfl rfl ?_
    refine g_iload_n (i := 3) dL_law_356 rfl rfl ?_
    refine g_iconst (5) rfl dL_law_357 ?_
    refine g_iadd dL_law_358 ?_
    refine g_sld hX hbl hbA dL_law_359 (ix6_5 hi6 hL) ?_
    refine g_callVX 5 gL_law_X9_draw rfl rfl rfl ⟨Nat.le_of_ble_eq_true rfl, Nat.le_of_ble_eq_true rfl⟩ ⟨by show kk + 3 + 0 ≤ 600000; omega, by show nn + 19 + 0 ≤ 7302250; omega⟩ (by exact Nat.le_of_ble_eq_true rfl) (by decide +kernel) rfl rfl rfl dL_law_360 (M_draw _ D cy a2 S hP.2.1.1 _ _ _ _ _) rfl (fun vu_5 wu_5 hu_5 => ?_)
    obtain ⟨rfl, rfl⟩ := hu_5
    refine g_pop2_2 rfl dL_law_363 ?_
    refine g_goto 1373 dL_law_364 (by decide) ?_
    exact hend a _ _ _ (kk + 3 + 0) (nn + 19 + 0) rfl (pi_drawY hi9 _ _ _ _ _ _ _ _ hc9 hp9 hf9 hP) (by omega) (by omega)
set_option maxHeartbeats 4000000 in
set_option maxRecDepth 100000 in
/-- case 5: pass -/
theorem lc_5 {Γ : gT} {D : va_G} {cy : Nat → ClassId} {a a2 adK adV : Nat → Nat} {b L i kk nn : Nat} {xs : Nat → Int32} {T S : MS} {B : List BL} (hX : va_X b L xs (gSt Γ) (gHp Γ)) (hbl : b < (gHp Γ).size) (hbA : ¬ gAp Γ b) (hE9 : sAt (sE adK adV) Γ) (hi6 : 6 * i + 6 ≤ L) (hL : L ≤ 3072) (hP : PI (Rel i) i T B S) (hkk : kk ≤ 1000 + 3 * i) (hnn : nn ≤ 20000 + 19 * i) (hend : ∀ (a9 : Nat → Nat) (T9 : MS) (B9 : List BL) (S9 : MS) (k9 n9 : Nat), a9 200 = a 200 → PI (Rel (i + 1)) (i + 1) T9 B9 S9 → k9 ≤ 1000 + 3 * (i + 1) → n9 ≤ 20000 + 19 * (i + 1) → GL Γ D cy k9 n9 (CW cy a9 T9 B9 ++ MW cy a2 S9) 1373 [(0, .ref b), (1, .ref (a 200)), (2, .ref (a2 0)), (3, .int (nI (6 * i)))] []) : GL Γ D cy kk nn (CW cy a T B ++ MW cy a2 S) 367 [(0, .ref b), (1, .ref (a 200)), (2, .ref (a2 0)), (3, .int (nI (6 * i)))] [] := by
  have hi9 : i < 600 := by omega
  refine g_aload_n (i := 1) dL_law_367 rfl rfl ?_
  refine g_aload_n (i := 0) dL_law_368 rfl rfl ?_
  refine g_iload_n (i := 3) dL_law_369 rfl rfl ?_
  refine g_iconst (1) rfl dL_law_370 ?_
  refine g_iadd dL_law_371 ?_
  refine g_sld hX hbl hbA dL_law_372 (ix6_1 hi6 hL) ?_
  refine g_aload_n (i := 0) dL_law_373 rfl rfl ?_
  refine g_iload_n (i := 3) dL_law_374 rfl rfl ?_
  refine g_iconst (2) rfl dL_law_375 ?_
  refine g_iadd dL_law_376 ?_
  refine g_sld hX hbl hbA dL_law_377 (ix6_2 hi6 hL) ?_
  refine g_callVX 2 gL_law_X8_pass rfl rfl rfl ⟨Nat.le_of_ble_eq_true rfl, Nat.le_of_ble_eq_true rfl⟩ ⟨by show kk + 0 ≤ 600000; omega, by show nn + 0 ≤ 7302250; omega⟩ (by exact Nat.le_of_ble_eq_true rfl) (by decide +kernel) rfl (cO_main _ _ _ _) rfl dL_law_378 (K_pass _ D cy a T B hP.1.1 _ _) rfl (fun vu_1 wu_1 hu_1 => ?_)
  obtain ⟨rfl, rfl⟩ := hu_1
  refine g_pop2_2 rfl dL_law_381 ?_
  refine g_aload_n (i := 2) dL_law_382 rfl rfl ?_
  refine g_aload_n (i := 0) dL_law_383 rfl rfl ?_
  refine g_iload_n (i := 3) dL_law_384 rfl rfl ?_
  refine g_iconst (1) rfl dL_law_385 ?_
  refine g_iadd dL_law_386 ?_
  refine g_sld hX hbl hbA dL_law_387 (ix6_1 hi6 hL) ?_
  refine g_aload_n (i := 0) dL_law_388 rfl rfl ?_
  refine g_iload_n (i := 3) dL_law_389 rfl rfl ?_
  refine g_iconst (2) rfl dL_law_390 ?_
  refine g_iadd dL_law_391 ?_
  refine g_sld hX hbl hbA dL_law_392 (ix6_2 hi6 hL) ?_
  refine g_callVX 2 gL_law_X9_pass rfl rfl rfl ⟨Nat.le_of_ble_eq_true rfl, Nat.le_of_ble_eq_true rfl⟩ ⟨by show kk + 0 + 0 ≤ 600000; omega, by show nn + 0 + 0 ≤ 7302250; omega⟩ (by exact Nat.le_of_ble_eq_true rfl) (by decide +kernel) rfl rfl rfl dL_law_393 (M_pass _ D cy a2 S hP.2.1.1 _ _) rfl (fun vu_2 wu_2 hu_2 => ?_)
  obtain ⟨rfl, rfl⟩ := hu_2
  refine g_pop2_2 rfl dL_law_396 ?_
  refine g_goto 1373 dL_law_397 (by decide) ?_
  exact hend a _ _ _ (kk + 0 + 0) (nn + 0 + 0) rfl (pi_pass hi9 _ _  hP) (by omega) (by omega)
set_option maxHeartbeats 4000000 in
set_option maxRecDepth 100000 in
/-- case 6: take -/
theorem lc_6 {Γ : gT} {D : va_G} {cy : Nat → ClassId} {a a2 adK adV : Nat → Nat} {b L i kk nn : Nat} {xs : Nat → Int32} {T S : MS} {B : List BL} (hX : va_X b L xs (gSt Γ) (gHp Γ)) (hbl : b < (gHp Γ).size) (hbA : ¬ gAp Γ b) (hE9 : sAt (sE adK adV) Γ) (hi6 : 6 * i + 6 ≤ L) (hL : L ≤ 3072) (hP : PI (Rel i) i T B S) (hkk : kk ≤ 1000 + 3 * i) (hnn : nn ≤ 20000 + 19 * i) (hend : ∀ (a9 : Nat → Nat) (T9 : MS) (B9 : List BL) (S9 : MS) (k9 n9 : Nat), a9 200 = a 200 → PI (Rel (i + 1)) (i + 1) T9 B9 S9 → k9 ≤ 1000 + 3 * (i + 1) → n9 ≤ 20000 + 19 * (i + 1) → GL Γ D cy k9 n9 (CW cy a9 T9 B9 ++ MW cy a2 S9) 1373 [(0, .ref b), (1, .ref (a 200)), (2, .ref (a2 0)), (3, .int (nI (6 * i)))] []) : GL Γ D cy kk nn (CW cy a T B ++ MW cy a2 S) 400 [(0, .ref b), (1, .ref (a 200)), (2, .ref (a2 0)), (3, .int (nI (6 * i)))] [] := by
  have hi9 : i < 600 := by omega
  refine g_aload_n (i := 1) dL_law_400 rfl rfl ?_
  refine g_aload_n (i := 0) dL_law_401 rfl rfl ?_
  refine g_iload_n (i := 3) dL_law_402 rfl rfl ?_
  refine g_iconst (1) rfl dL_law_403 ?_
  refine g_iadd dL_law_404 ?_
  refine g_sld hX hbl hbA dL_law_405 (ix6_1 hi6 hL) ?_
  refine g_aload_n (i := 0) dL_law_406 rfl rfl ?_
  refine g_iload_n (i := 3) dL_law_407 rfl rfl ?_
  refine g_iconst (2) rfl dL_law_408 ?_
  refine g_iadd dL_law_409 ?_
  refine g_sld hX hbl hbA dL_law_410 (ix6_2 hi6 hL) ?_
  refine g_if_eq 418 dL_law_411 (by decide) (fun c_1 => ?_) (fun c_1 => ?_)
  · skip
    refine g_iconst (0) rfl dL_law_418 ?_
    refine g_callVX 2 gL_law_X8_take rfl rfl rfl ⟨Nat.le_of_ble_eq_true rfl, Nat.le_of_ble_eq_true rfl⟩ ⟨by show kk + 0 ≤ 600000; omega, by show nn + 0 ≤ 7302250; omega⟩ (by exact Nat.le_of_ble_eq_true rfl) (by decide +kernel) rfl (cO_main _ _ _ _) rfl dL_law_419 (K_take _ D cy a T B hP.1.1 _ _) rfl (fun vu_2 wu_2 hu_2 => ?_)
    obtain ⟨rfl, rfl⟩ := hu_2
    refine g_pop2_2 rfl dL_law_422 ?_
    refine g_aload_n (i := 2) dL_law_423 rfl rfl ?_
    refine g_aload_n (i := 0) dL_law_424 rfl rfl ?_
    refine g_iload_n (i := 3) dL_law_425 rfl rfl ?_
    refine g_iconst (1) rfl dL_law_426 ?_
    refine g_iadd dL_law_427 ?_
    refine g_sld hX hbl hbA dL_law_428 (ix6_1 hi6 hL) ?_
    refine g_aload_n (i := 0) dL_law_429 rfl rfl ?_
    refine g_iload_n (i := 3) dL_law_430 rfl rfl ?_
    refine g_iconst (2) rfl dL_law_431 ?_
    refine g_iadd dL_law_432 ?_
    refine g_sld hX hbl hbA dL_law_433 (ix6_2 hi6 hL) ?_
    refine g_if_eq 441 dL_law_434 (by decide) (fun c_3 => ?_) (fun c_3 => ?_)
    · skip
      refine g_iconst (0) rfl dL_law_441 ?_
      refine g_callVX 2 gL_law_X9_take rfl rfl rfl ⟨Nat.le_of_ble_eq_true rfl, Nat.le_of_ble_eq_true rfl⟩ ⟨by show kk + 0 + 0 ≤ 600000; omega, by show nn + 0 + 0 ≤ 7302250; omega⟩ (by exact Nat.le_of_ble_eq_true rfl) (by decide +kernel) rfl rfl rfl dL_law_442 (M_take _ D cy a2 S hP.2.1.1 _ _) rfl (fun vu_4 wu_4 hu_4 => ?_)
      obtain ⟨rfl, rfl⟩ := hu_4
      refine g_pop2_2 rfl dL_law_445 ?_
      refine g_goto 1373 dL_law_446 (by decide) ?_
      exact hend a _ _ _ (kk + 0 + 0) (nn + 0 + 0) rfl (pi_take hi9 _ _  hP) (by omega) (by omega)
    · skip
      exact absurd c_1 c_3
  · skip
    refine g_iconst (1) rfl dL_law_414 ?_
    refine g_goto 419 dL_law_415 (by decide) ?_
    refine g_callVX 2 gL_law_X8_take rfl rfl rfl ⟨Nat.le_of_ble_eq_true rfl, Nat.le_of_ble_eq_true rfl⟩ ⟨by show kk + 0 ≤ 600000; omega, by show nn + 0 ≤ 7302250; omega⟩ (by exact Nat.le_of_ble_eq_true rfl) (by decide +kernel) rfl (cO_main _ _ _ _) rfl dL_law_419 (K_take _ D cy a T B hP.1.1 _ _) rfl (fun vu_5 wu_5 hu_5 => ?_)
    obtain ⟨rfl, rfl⟩ := hu_5
    refine g_pop2_2 rfl dL_law_422 ?_
    refine g_aload_n (i := 2) dL_law_423 rfl rfl ?_
    refine g_aload_n (i := 0) dL_law_424 rfl rfl ?_
    refine g_iload_n (i := 3) dL_law_425 rfl rfl ?_
    refine g_iconst (1) rfl dL_law_426 ?_
    refine g_iadd dL_law_427 ?_
    refine g_sld hX hbl hbA dL_law_428 (ix6_1 hi6 hL) ?_
    refine g_aload_n (i := 0) dL_law_429 rfl rfl ?_
    refine g_iload_n (i := 3) dL_law_430 rfl rfl ?_
    refine g_iconst (2) rfl dL_law_431 ?_
    refine g_iadd dL_law_432 ?_
    refine g_sld hX hbl hbA dL_law_433 (ix6_2 hi6 hL) ?_
    refine g_if_eq 441 dL_law_434 (by decide) (fun c_6 => ?_) (fun c_6 => ?_)
    · skip
      exact absurd c_6 c_1
    · skip
      refine g_iconst (1) rfl dL_law_437 ?_
      refine g_goto 442 dL_law_438 (by decide) ?_
      refine g_callVX 2 gL_law_X9_take rfl rfl rfl ⟨Nat.le_of_ble_eq_true rfl, Nat.le_of_ble_eq_true rfl⟩ ⟨by show kk + 0 + 0 ≤ 600000; omega, by show nn + 0 + 0 ≤ 7302250; omega⟩ (by exact Nat.le_of_ble_eq_true rfl) (by decide +kernel) rfl rfl rfl dL_law_442 (M_take _ D cy a2 S hP.2.1.1 _ _) rfl (fun vu_7 wu_7 hu_7 => ?_)
      obtain ⟨rfl, rfl⟩ := hu_7
      refine g_pop2_2 rfl dL_law_445 ?_
      refine g_goto 1373 dL_law_446 (by decide) ?_
      exact hend a _ _ _ (kk + 0 + 0) (nn + 0 + 0) rfl (pi_take hi9 _ _  hP) (by omega) (by omega)
set_option maxHeartbeats 4000000 in
set_option maxRecDepth 100000 in
/-- case 7: pay -/
theorem lc_7 {Γ : gT} {D : va_G} {cy : Nat → ClassId} {a a2 adK adV : Nat → Nat} {b L i kk nn : Nat} {xs : Nat → Int32} {T S : MS} {B : List BL} (hX : va_X b L xs (gSt Γ) (gHp Γ)) (hbl : b < (gHp Γ).size) (hbA : ¬ gAp Γ b) (hE9 : sAt (sE adK adV) Γ) (hi6 : 6 * i + 6 ≤ L) (hL : L ≤ 3072) (hP : PI (Rel i) i T B S) (hkk : kk ≤ 1000 + 3 * i) (hnn : nn ≤ 20000 + 19 * i) (hend : ∀ (a9 : Nat → Nat) (T9 : MS) (B9 : List BL) (S9 : MS) (k9 n9 : Nat), a9 200 = a 200 → PI (Rel (i + 1)) (i + 1) T9 B9 S9 → k9 ≤ 1000 + 3 * (i + 1) → n9 ≤ 20000 + 19 * (i + 1) → GL Γ D cy k9 n9 (CW cy a9 T9 B9 ++ MW cy a2 S9) 1373 [(0, .ref b), (1, .ref (a 200)), (2, .ref (a2 0)), (3, .int (nI (6 * i)))] []) : GL Γ D cy kk nn (CW cy a T B ++ MW cy a2 S) 449 [(0, .ref b), (1, .ref (a 200)), (2, .ref (a2 0)), (3, .int (nI (6 * i)))] [] := by
  have hi9 : i < 600 := by omega
  refine g_aload_n (i := 1) dL_law_449 rfl rfl ?_
  refine g_aload_n (i := 0) dL_law_450 rfl rfl ?_
  refine g_iload_n (i := 3) dL_law_451 rfl rfl ?_
  refine g_iconst (1) rfl dL_law_452 ?_
  refine g_iadd dL_law_453 ?_
  refine g_sld hX hbl hbA dL_law_454 (ix6_1 hi6 hL) ?_
  refine g_callVX 1 gL_law_X8_pay rfl rfl rfl ⟨Nat.le_of_ble_eq_true rfl, Nat.le_of_ble_eq_true rfl⟩ ⟨by show kk + 0 ≤ 600000; omega, by show nn + 0 ≤ 7302250; omega⟩ (by exact Nat.le_of_ble_eq_true rfl) (by decide +kernel) rfl (cO_main _ _ _ _) rfl dL_law_455 (K_pay _ D cy a T B hP.1.1 _) rfl (fun vu_1 wu_1 hu_1 => ?_)
  obtain ⟨rfl, rfl⟩ := hu_1
  refine g_pop2_2 rfl dL_law_458 ?_
  refine g_aload_n (i := 2) dL_law_459 rfl rfl ?_
  refine g_aload_n (i := 0) dL_law_460 rfl rfl ?_
  refine g_iload_n (i := 3) dL_law_461 rfl rfl ?_
  refine g_iconst (1) rfl dL_law_462 ?_
  refine g_iadd dL_law_463 ?_
  refine g_sld hX hbl hbA dL_law_464 (ix6_1 hi6 hL) ?_
  refine g_callVX 1 gL_law_X9_pay rfl rfl rfl ⟨Nat.le_of_ble_eq_true rfl, Nat.le_of_ble_eq_true rfl⟩ ⟨by show kk + 0 + 0 ≤ 600000; omega, by show nn + 0 + 0 ≤ 7302250; omega⟩ (by exact Nat.le_of_ble_eq_true rfl) (by decide +kernel) rfl rfl rfl dL_law_465 (M_pay _ D cy a2 S hP.2.1.1 _) rfl (fun vu_2 wu_2 hu_2 => ?_)
  obtain ⟨rfl, rfl⟩ := hu_2
  refine g_pop2_2 rfl dL_law_468 ?_
  refine g_goto 1373 dL_law_469 (by decide) ?_
  exact hend a _ _ _ (kk + 0 + 0) (nn + 0 + 0) rfl (pi_pay hi9 _  hP) (by omega) (by omega)
set_option maxHeartbeats 4000000 in
set_option maxRecDepth 100000 in
/-- case 8: protest -/
theorem lc_8 {Γ : gT} {D : va_G} {cy : Nat → ClassId} {a a2 adK adV : Nat → Nat} {b L i kk nn : Nat} {xs : Nat → Int32} {T S : MS} {B : List BL} (hX : va_X b L xs (gSt Γ) (gHp Γ)) (hbl : b < (gHp Γ).size) (hbA : ¬ gAp Γ b) (hE9 : sAt (sE adK adV) Γ) (hi6 : 6 * i + 6 ≤ L) (hL : L ≤ 3072) (hP : PI (Rel i) i T B S) (hkk : kk ≤ 1000 + 3 * i) (hnn : nn ≤ 20000 + 19 * i) (hend : ∀ (a9 : Nat → Nat) (T9 : MS) (B9 : List BL) (S9 : MS) (k9 n9 : Nat), a9 200 = a 200 → PI (Rel (i + 1)) (i + 1) T9 B9 S9 → k9 ≤ 1000 + 3 * (i + 1) → n9 ≤ 20000 + 19 * (i + 1) → GL Γ D cy k9 n9 (CW cy a9 T9 B9 ++ MW cy a2 S9) 1373 [(0, .ref b), (1, .ref (a 200)), (2, .ref (a2 0)), (3, .int (nI (6 * i)))] []) : GL Γ D cy kk nn (CW cy a T B ++ MW cy a2 S) 472 [(0, .ref b), (1, .ref (a 200)), (2, .ref (a2 0)), (3, .int (nI (6 * i)))] [] := by
  have hi9 : i < 600 := by omega
  refine g_aload_n (i := 1) dL_law_472 rfl rfl ?_
  refine g_aload_n (i := 0) dL_law_473 rfl rfl ?_
  refine g_iload_n (i := 3) dL_law_474 rfl rfl ?_
  refine g_iconst (1) rfl dL_law_475 ?_
  refine g_iadd dL_law_476 ?_
  refine g_sld hX hbl hbA dL_law_477 (ix6_1 hi6 hL) ?_
  refine g_callVX 1 gL_law_X8_protest rfl rfl rfl ⟨Nat.le_of_ble_eq_true rfl, Nat.le_of_ble_eq_true rfl⟩ ⟨by show kk + 0 ≤ 600000; omega, by show nn + 0 ≤ 7302250; omega⟩ (by exact Nat.le_of_ble_eq_true rfl) (by decide +kernel) rfl (cO_main _ _ _ _) rfl dL_law_478 (K_protest _ D cy a T B hP.1.1 _) rfl (fun vu_1 wu_1 hu_1 => ?_)
  obtain ⟨rfl, rfl⟩ := hu_1
  refine g_pop2_2 rfl dL_law_481 ?_
  refine g_aload_n (i := 2) dL_law_482 rfl rfl ?_
  refine g_aload_n (i := 0) dL_law_483 rfl rfl ?_
  refine g_iload_n (i := 3) dL_law_484 rfl rfl ?_
  refine g_iconst (1) rfl dL_law_485 ?_
  refine g_iadd dL_law_486 ?_
  refine g_sld hX hbl hbA dL_law_487 (ix6_1 hi6 hL) ?_
  refine g_callVX 1 gL_law_X9_protest rfl rfl rfl ⟨Nat.le_of_ble_eq_true rfl, Nat.le_of_ble_eq_true rfl⟩ ⟨by show kk + 0 + 0 ≤ 600000; omega, by show nn + 0 + 0 ≤ 7302250; omega⟩ (by exact Nat.le_of_ble_eq_true rfl) (by decide +kernel) rfl rfl rfl dL_law_488 (M_protest _ D cy a2 S hP.2.1.1 _) rfl (fun vu_2 wu_2 hu_2 => ?_)
  obtain ⟨rfl, rfl⟩ := hu_2
  refine g_pop2_2 rfl dL_law_491 ?_
  refine g_goto 1373 dL_law_492 (by decide) ?_
  exact hend a _ _ _ (kk + 0 + 0) (nn + 0 + 0) rfl (pi_protest hi9 _  hP) (by omega) (by omega)
set_option maxHeartbeats 4000000 in
set_option maxRecDepth 100000 in
/-- case 9: recourse -/
theorem lc_9 {Γ : gT} {D : va_G} {cy : Nat → ClassId} {a a2 adK adV : Nat → Nat} {b L i kk nn : Nat} {xs : Nat → Int32} {T S : MS} {B : List BL} (hX : va_X b L xs (gSt Γ) (gHp Γ)) (hbl : b < (gHp Γ).size) (hbA : ¬ gAp Γ b) (hE9 : sAt (sE adK adV) Γ) (hi6 : 6 * i + 6 ≤ L) (hL : L ≤ 3072) (hP : PI (Rel i) i T B S) (hkk : kk ≤ 1000 + 3 * i) (hnn : nn ≤ 20000 + 19 * i) (hend : ∀ (a9 : Nat → Nat) (T9 : MS) (B9 : List BL) (S9 : MS) (k9 n9 : Nat), a9 200 = a 200 → PI (Rel (i + 1)) (i + 1) T9 B9 S9 → k9 ≤ 1000 + 3 * (i + 1) → n9 ≤ 20000 + 19 * (i + 1) → GL Γ D cy k9 n9 (CW cy a9 T9 B9 ++ MW cy a2 S9) 1373 [(0, .ref b), (1, .ref (a 200)), (2, .ref (a2 0)), (3, .int (nI (6 * i)))] []) : GL Γ D cy kk nn (CW cy a T B ++ MW cy a2 S) 495 [(0, .ref b), (1, .ref (a 200)), (2, .ref (a2 0)), (3, .int (nI (6 * i)))] [] := by
  have hi9 : i < 600 := by omega
  refine g_aload_n (i := 1) dL_law_495 rfl rfl ?_
  refine g_aload_n (i := 0) dL_law_496 rfl rfl ?_
  refine g_iload_n (i := 3) dL_law_497 rfl rfl ?_
  refine g_iconst (1) rfl dL_law_498 ?_
  refine g_iadd dL_law_499 ?_
  refine g_sld hX hbl hbA dL_law_500 (ix6_1 hi6 hL) ?_
  refine g_aload_n (i := 0) dL_law_501 rfl rfl ?_
  refine g_iload_n (i := 3) dL_law_502 rfl rfl ?_
  refine g_iconst (2) rfl dL_law_503 ?_
  refine g_iadd dL_law_504 ?_
  refine g_sld hX hbl hbA dL_law_505 (ix6_2 hi6 hL) ?_
  refine g_callVX 2 gL_law_X8_recourse rfl rfl rfl ⟨Nat.le_of_ble_eq_true rfl, Nat.le_of_ble_eq_true rfl⟩ ⟨by show kk + 0 ≤ 600000; omega, by show nn + 0 ≤ 7302250; omega⟩ (by exact Nat.le_of_ble_eq_true rfl) (by decide +kernel) rfl (cO_main _ _ _ _) rfl dL_law_506 (K_recourse _ D cy a T B hP.1.1 hP.1.2.2.2.2.1 hP.1.2.1 _ _) rfl (fun vu_1 wu_1 hu_1 => ?_)
  obtain ⟨rfl, rfl⟩ := hu_1
  refine g_pop2_2 rfl dL_law_509 ?_
  refine g_aload_n (i := 2) dL_law_510 rfl rfl ?_
  refine g_aload_n (i := 0) dL_law_511 rfl rfl ?_
  refine g_iload_n (i := 3) dL_law_512 rfl rfl ?_
  refine g_iconst (1) rfl dL_law_513 ?_
  refine g_iadd dL_law_514 ?_
  refine g_sld hX hbl hbA dL_law_515 (ix6_1 hi6 hL) ?_
  refine g_aload_n (i := 0) dL_law_516 rfl rfl ?_
  refine g_iload_n (i := 3) dL_law_517 rfl rfl ?_
  refine g_iconst (2) rfl dL_law_518 ?_
  refine g_iadd dL_law_519 ?_
  refine g_sld hX hbl hbA dL_law_520 (ix6_2 hi6 hL) ?_
  refine g_callVX 2 gL_law_X9_recourse rfl rfl rfl ⟨Nat.le_of_ble_eq_true rfl, Nat.le_of_ble_eq_true rfl⟩ ⟨by show kk + 0 + 0 ≤ 600000; omega, by show nn + 0 + 0 ≤ 7302250; omega⟩ (by exact Nat.le_of_ble_eq_true rfl) (by decide +kernel) rfl rfl rfl dL_law_521 (M_recourse _ D cy a2 S hP.2.1.1 _ _) rfl (fun vu_2 wu_2 hu_2 => ?_)
  obtain ⟨rfl, rfl⟩ := hu_2
  refine g_pop2_2 rfl dL_law_524 ?_
  refine g_goto 1373 dL_law_525 (by decide) ?_
  exact hend a _ _ _ (kk + 0 + 0) (nn + 0 + 0) rfl (pi_recourse hi9 _ _  hP) (by omega) (by omega)
set_option maxHeartbeats 4000000 in
set_option maxRecDepth 100000 in
/-- case 10: about -/
theorem lc_10 {Γ : gT} {D : va_G} {cy : Nat → ClassId} {a a2 adK adV : Nat → Nat} {b L i kk nn : Nat} {xs : Nat → Int32} {T S : MS} {B : List BL} (hX : va_X b L xs (gSt Γ) (gHp Γ)) (hbl : b < (gHp Γ).size) (hbA : ¬ gAp Γ b) (hE9 : sAt (sE adK adV) Γ) (hi6 : 6 * i + 6 ≤ L) (hL : L ≤ 3072) (hP : PI (Rel i) i T B S) (hkk : kk ≤ 1000 + 3 * i) (hnn : nn ≤ 20000 + 19 * i) (hend : ∀ (a9 : Nat → Nat) (T9 : MS) (B9 : List BL) (S9 : MS) (k9 n9 : Nat), a9 200 = a 200 → PI (Rel (i + 1)) (i + 1) T9 B9 S9 → k9 ≤ 1000 + 3 * (i + 1) → n9 ≤ 20000 + 19 * (i + 1) → GL Γ D cy k9 n9 (CW cy a9 T9 B9 ++ MW cy a2 S9) 1373 [(0, .ref b), (1, .ref (a 200)), (2, .ref (a2 0)), (3, .int (nI (6 * i)))] []) : GL Γ D cy kk nn (CW cy a T B ++ MW cy a2 S) 528 [(0, .ref b), (1, .ref (a 200)), (2, .ref (a2 0)), (3, .int (nI (6 * i)))] [] := by
  have hi9 : i < 600 := by omega
  refine g_aload_n (i := 1) dL_law_528 rfl rfl ?_
  refine g_aload_n (i := 0) dL_law_529 rfl rfl ?_
  refine g_iload_n (i := 3) dL_law_530 rfl rfl ?_
  refine g_iconst (1) rfl dL_law_531 ?_
  refine g_iadd dL_law_532 ?_
  refine g_sld hX hbl hbA dL_law_533 (ix6_1 hi6 hL) ?_
  refine g_aload_n (i := 0) dL_law_534 rfl rfl ?_
  refine g_iload_n (i := 3) dL_law_535 rfl rfl ?_
  refine g_iconst (2) rfl dL_law_536 ?_
  refine g_iadd dL_law_537 ?_
  refine g_sld hX hbl hbA dL_law_538 (ix6_2 hi6 hL) ?_
  refine g_callVX 2 gL_law_X8_about rfl rfl rfl ⟨Nat.le_of_ble_eq_true rfl, Nat.le_of_ble_eq_true rfl⟩ ⟨by show kk + 0 ≤ 600000; omega, by show nn + 0 ≤ 7302250; omega⟩ (by exact Nat.le_of_ble_eq_true rfl) (by decide +kernel) rfl (cO_main _ _ _ _) rfl dL_law_539 (K_about _ D cy a T B hP.1.1 _ _) rfl (fun vu_1 wu_1 hu_1 => ?_)
  obtain ⟨rfl, rfl⟩ := hu_1
  refine g_pop2_2 rfl dL_law_542 ?_
  refine g_aload_n (i := 2) dL_law_543 rfl rfl ?_
  refine g_aload_n (i := 0) dL_law_544 rfl rfl ?_
  refine g_iload_n (i := 3) dL_law_545 rfl rfl ?_
  refine g_iconst (1) rfl dL_law_546 ?_
  refine g_iadd dL_law_547 ?_
  refine g_sld hX hbl hbA dL_law_548 (ix6_1 hi6 hL) ?_
  refine g_aload_n (i := 0) dL_law_549 rfl rfl ?_
  refine g_iload_n (i := 3) dL_law_550 rfl rfl ?_
  refine g_iconst (2) rfl dL_law_551 ?_
  refine g_iadd dL_law_552 ?_
  refine g_sld hX hbl hbA dL_law_553 (ix6_2 hi6 hL) ?_
  refine g_callVX 2 gL_law_X9_about rfl rfl rfl ⟨Nat.le_of_ble_eq_true rfl, Nat.le_of_ble_eq_true rfl⟩ ⟨by show kk + 0 + 0 ≤ 600000; omega, by show nn + 0 + 0 ≤ 7302250; omega⟩ (by exact Nat.le_of_ble_eq_true rfl) (by decide +kernel) rfl rfl rfl dL_law_554 (M_about _ D cy a2 S hP.2.1.1 _ _) rfl (fun vu_2 wu_2 hu_2 => ?_)
  obtain ⟨rfl, rfl⟩ := hu_2
  refine g_pop2_2 rfl dL_law_557 ?_
  refine g_goto 1373 dL_law_558 (by decide) ?_
  exact hend a _ _ _ (kk + 0 + 0) (nn + 0 + 0) rfl (pi_about hi9 _ _  hP) (by omega) (by omega)
set_option maxHeartbeats 4000000 in
set_option maxRecDepth 100000 in
/-- case 11: as -/
theorem lc_11 {Γ : gT} {D : va_G} {cy : Nat → ClassId} {a a2 adK adV : Nat → Nat} {b L i kk nn : Nat} {xs : Nat → Int32} {T S : MS} {B : List BL} (hX : va_X b L xs (gSt Γ) (gHp Γ)) (hbl : b < (gHp Γ).size) (hbA : ¬ gAp Γ b) (hE9 : sAt (sE adK adV) Γ) (hi6 : 6 * i + 6 ≤ L) (hL : L ≤ 3072) (hP : PI (Rel i) i T B S) (hkk : kk ≤ 1000 + 3 * i) (hnn : nn ≤ 20000 + 19 * i) (hend : ∀ (a9 : Nat → Nat) (T9 : MS) (B9 : List BL) (S9 : MS) (k9 n9 : Nat), a9 200 = a 200 → PI (Rel (i + 1)) (i + 1) T9 B9 S9 → k9 ≤ 1000 + 3 * (i + 1) → n9 ≤ 20000 + 19 * (i + 1) → GL Γ D cy k9 n9 (CW cy a9 T9 B9 ++ MW cy a2 S9) 1373 [(0, .ref b), (1, .ref (a 200)), (2, .ref (a2 0)), (3, .int (nI (6 * i)))] []) : GL Γ D cy kk nn (CW cy a T B ++ MW cy a2 S) 561 [(0, .ref b), (1, .ref (a 200)), (2, .ref (a2 0)), (3, .int (nI (6 * i)))] [] := by
  have hi9 : i < 600 := by omega
  refine g_aload_n (i := 1) dL_law_561 rfl rfl ?_
  refine g_aload_n (i := 0) dL_law_562 rfl rfl ?_
  refine g_iload_n (i := 3) dL_law_563 rfl rfl ?_
  refine g_iconst (1) rfl dL_law_564 ?_
  refine g_iadd dL_law_565 ?_
  refine g_sld hX hbl hbA dL_law_566 (ix6_1 hi6 hL) ?_
  refine g_aload_n (i := 0) dL_law_567 rfl rfl ?_
  refine g_iload_n (i := 3) dL_law_568 rfl rfl ?_
  refine g_iconst (2) rfl dL_law_569 ?_
  refine g_iadd dL_law_570 ?_
  refine g_sld hX hbl hbA dL_law_571 (ix6_2 hi6 hL) ?_
  refine g_callVX 2 gL_law_X8_as rfl rfl rfl ⟨Nat.le_of_ble_eq_true rfl, Nat.le_of_ble_eq_true rfl⟩ ⟨by show kk + 0 ≤ 600000; omega, by show nn + 0 ≤ 7302250; omega⟩ (by exact Nat.le_of_ble_eq_true rfl) (by decide +kernel) rfl (cO_main _ _ _ _) rfl dL_law_572 (K_as _ D cy a T B hP.1.1 _ _) rfl (fun vu_1 wu_1 hu_1 => ?_)
  obtain ⟨rfl, rfl⟩ := hu_1
  refine g_pop2_2 rfl dL_law_575 ?_
  refine g_aload_n (i := 2) dL_law_576 rfl rfl ?_
  refine g_aload_n (i := 0) dL_law_577 rfl rfl ?_
  refine g_iload_n (i := 3) dL_law_578 rfl rfl ?_
  refine g_iconst (1) rfl dL_law_579 ?_
  refine g_iadd dL_law_580 ?_
  refine g_sld hX hbl hbA dL_law_581 (ix6_1 hi6 hL) ?_
  refine g_aload_n (i := 0) dL_law_582 rfl rfl ?_
  refine g_iload_n (i := 3) dL_law_583 rfl rfl ?_
  refine g_iconst (2) rfl dL_law_584 ?_
  refine g_iadd dL_law_585 ?_
  refine g_sld hX hbl hbA dL_law_586 (ix6_2 hi6 hL) ?_
  refine g_callVX 2 gL_law_X9_as rfl rfl rfl ⟨Nat.le_of_ble_eq_true rfl, Nat.le_of_ble_eq_true rfl⟩ ⟨by show kk + 0 + 0 ≤ 600000; omega, by show nn + 0 + 0 ≤ 7302250; omega⟩ (by exact Nat.le_of_ble_eq_true rfl) (by decide +kernel) rfl rfl rfl dL_law_587 (M_as _ D cy a2 S hP.2.1.1 _ _) rfl (fun vu_2 wu_2 hu_2 => ?_)
  obtain ⟨rfl, rfl⟩ := hu_2
  refine g_pop2_2 rfl dL_law_590 ?_
  refine g_goto 1373 dL_law_591 (by decide) ?_
  exact hend a _ _ _ (kk + 0 + 0) (nn + 0 + 0) rfl (pi_as hi9 _ _  hP) (by omega) (by omega)
set_option maxHeartbeats 4000000 in
set_option maxRecDepth 100000 in
/-- case 12: knows -/
theorem lc_12 {Γ : gT} {D : va_G} {cy : Nat → ClassId} {a a2 adK adV : Nat → Nat} {b L i kk nn : Nat} {xs : Nat → Int32} {T S : MS} {B : List BL} (hX : va_X b L xs (gSt Γ) (gHp Γ)) (hbl : b < (gHp Γ).size) (hbA : ¬ gAp Γ b) (hE9 : sAt (sE adK adV) Γ) (hi6 : 6 * i + 6 ≤ L) (hL : L ≤ 3072) (hP : PI (Rel i) i T B S) (hkk : kk ≤ 1000 + 3 * i) (hnn : nn ≤ 20000 + 19 * i) (hend : ∀ (a9 : Nat → Nat) (T9 : MS) (B9 : List BL) (S9 : MS) (k9 n9 : Nat), a9 200 = a 200 → PI (Rel (i + 1)) (i + 1) T9 B9 S9 → k9 ≤ 1000 + 3 * (i + 1) → n9 ≤ 20000 + 19 * (i + 1) → GL Γ D cy k9 n9 (CW cy a9 T9 B9 ++ MW cy a2 S9) 1373 [(0, .ref b), (1, .ref (a 200)), (2, .ref (a2 0)), (3, .int (nI (6 * i)))] []) : GL Γ D cy kk nn (CW cy a T B ++ MW cy a2 S) 594 [(0, .ref b), (1, .ref (a 200)), (2, .ref (a2 0)), (3, .int (nI (6 * i)))] [] := by
  have hi9 : i < 600 := by omega
  refine g_aload_n (i := 1) dL_law_594 rfl rfl ?_
  refine g_aload_n (i := 0) dL_law_595 rfl rfl ?_
  refine g_iload_n (i := 3) dL_law_596 rfl rfl ?_
  refine g_iconst (1) rfl dL_law_597 ?_
  refine g_iadd dL_law_598 ?_
  refine g_sld hX hbl hbA dL_law_599 (ix6_1 hi6 hL) ?_
  refine g_aload_n (i := 0) dL_law_600 rfl rfl ?_
  refine g_iload_n (i := 3) dL_law_601 rfl rfl ?_
  refine g_iconst (2) rfl dL_law_602 ?_
  refine g_iadd dL_law_603 ?_
  refine g_sld hX hbl hbA dL_law_604 (ix6_2 hi6 hL) ?_
  refine g_aload_n (i := 0) dL_law_605 rfl rfl ?_
  refine g_iload_n (i := 3) dL_law_606 rfl rfl ?_
  refine g_iconst (3) rfl dL_law_607 ?_
  refine g_iadd dL_law_608 ?_
  refine g_sld hX hbl hbA dL_law_609 (ix6_3 hi6 hL) ?_
  refine g_callVX 3 gL_law_X8_knows rfl rfl rfl ⟨Nat.le_of_ble_eq_true rfl, Nat.le_of_ble_eq_true rfl⟩ ⟨by show kk + 0 ≤ 600000; omega, by show nn + 0 ≤ 7302250; omega⟩ (by exact Nat.le_of_ble_eq_true rfl) (by decide +kernel) rfl (cO_main _ _ _ _) rfl dL_law_610 (K_knows _ D cy a T B hP.1.1 hP.1.2.1 _ _ _) rfl (fun vu_1 wu_1 hu_1 => ?_)
  obtain ⟨rfl, rfl⟩ := hu_1
  refine g_pop2_2 rfl dL_law_613 ?_
  refine g_aload_n (i := 2) dL_law_614 rfl rfl ?_
  refine g_aload_n (i := 0) dL_law_615 rfl rfl ?_
  refine g_iload_n (i := 3) dL_law_616 rfl rfl ?_
  refine g_iconst (1) rfl dL_law_617 ?_
  refine g_iadd dL_law_618 ?_
  refine g_sld hX hbl hbA dL_law_619 (ix6_1 hi6 hL) ?_
  refine g_aload_n (i := 0) dL_law_620 rfl rfl ?_
  refine g_iload_n (i := 3) dL_law_621 rfl rfl ?_
  refine g_iconst (2) rfl dL_law_622 ?_
  refine g_iadd dL_law_623 ?_
  refine g_sld hX hbl hbA dL_law_624 (ix6_2 hi6 hL) ?_
  refine g_aload_n (i := 0) dL_law_625 rfl rfl ?_
  refine g_iload_n (i := 3) dL_law_626 rfl rfl ?_
  refine g_iconst (3) rfl dL_law_627 ?_
  refine g_iadd dL_law_628 ?_
  refine g_sld hX hbl hbA dL_law_629 (ix6_3 hi6 hL) ?_
  refine g_callVX 3 gL_law_X9_knows rfl rfl rfl ⟨Nat.le_of_ble_eq_true rfl, Nat.le_of_ble_eq_true rfl⟩ ⟨by show kk + 0 + 0 ≤ 600000; omega, by show nn + 0 + 0 ≤ 7302250; omega⟩ (by exact Nat.le_of_ble_eq_true rfl) (by decide +kernel) rfl rfl rfl dL_law_630 (M_knows _ D cy a2 S hP.2.1.1 _ _ _) rfl (fun vu_2 wu_2 hu_2 => ?_)
  obtain ⟨rfl, rfl⟩ := hu_2
  refine g_pop2_2 rfl dL_law_633 ?_
  refine g_goto 1373 dL_law_634 (by decide) ?_
  exact hend a _ _ _ (kk + 0 + 0) (nn + 0 + 0) rfl (pi_knows hi9 _ _ _  hP) (by omega) (by omega)
set_option maxHeartbeats 4000000 in
set_option maxRecDepth 100000 in
/-- case 13: feed -/
theorem lc_13 {Γ : gT} {D : va_G} {cy : Nat → ClassId} {a a2 adK adV : Nat → Nat} {b L i kk nn : Nat} {xs : Nat → Int32} {T S : MS} {B : List BL} (hX : va_X b L xs (gSt Γ) (gHp Γ)) (hbl : b < (gHp Γ).size) (hbA : ¬ gAp Γ b) (hE9 : sAt (sE adK adV) Γ) (hi6 : 6 * i + 6 ≤ L) (hL : L ≤ 3072) (hP : PI (Rel i) i T B S) (hkk : kk ≤ 1000 + 3 * i) (hnn : nn ≤ 20000 + 19 * i) (hend : ∀ (a9 : Nat → Nat) (T9 : MS) (B9 : List BL) (S9 : MS) (k9 n9 : Nat), a9 200 = a 200 → PI (Rel (i + 1)) (i + 1) T9 B9 S9 → k9 ≤ 1000 + 3 * (i + 1) → n9 ≤ 20000 + 19 * (i + 1) → GL Γ D cy k9 n9 (CW cy a9 T9 B9 ++ MW cy a2 S9) 1373 [(0, .ref b), (1, .ref (a 200)), (2, .ref (a2 0)), (3, .int (nI (6 * i)))] []) : GL Γ D cy kk nn (CW cy a T B ++ MW cy a2 S) 637 [(0, .ref b), (1, .ref (a 200)), (2, .ref (a2 0)), (3, .int (nI (6 * i)))] [] := by
  have hi9 : i < 600 := by omega
  refine g_aload_n (i := 1) dL_law_637 rfl rfl ?_
  refine g_aload_n (i := 0) dL_law_638 rfl rfl ?_
  refine g_iload_n (i := 3) dL_law_639 rfl rfl ?_
  refine g_iconst (1) rfl dL_law_640 ?_
  refine g_iadd dL_law_641 ?_
  refine g_sld hX hbl hbA dL_law_642 (ix6_1 hi6 hL) ?_
  refine g_i2l dL_law_643 ?_
  refine g_bipush (32) rfl dL_law_644 ?_
  refine g_lshl dL_law_646 ?_
  refine g_aload_n (i := 0) dL_law_647 rfl rfl ?_
  refine g_iload_n (i := 3) dL_law_648 rfl rfl ?_
  refine g_iconst (2) rfl dL_law_649 ?_
  refine g_iadd dL_law_650 ?_
  refine g_sld hX hbl hbA dL_law_651 (ix6_2 hi6 hL) ?_
  refine g_i2l dL_law_652 ?_
  refine g_ldc2 (4294967295) (List.mem_of_getElem? (i := 6) rfl) dL_law_653 ?_
  refine g_land dL_law_656 ?_
  refine g_lor dL_law_657 ?_
  refine g_aload_n (i := 0) dL_law_658 rfl rfl ?_
  refine g_iload_n (i := 3) dL_law_659 rfl rfl ?_
  refine g_iconst (3) rfl dL_law_660 ?_
  refine g_iadd dL_law_661 ?_
  refine g_sld hX hbl hbA dL_law_662 (ix6_3 hi6 hL) ?_
  refine g_callVX 2 gL_law_X8_feed rfl rfl rfl ⟨Nat.le_of_ble_eq_true rfl, Nat.le_of_ble_eq_true rfl⟩ ⟨by show kk + 0 ≤ 600000; omega, by show nn + 0 ≤ 7302250; omega⟩ (by exact Nat.le_of_ble_eq_true rfl) (by decide +kernel) rfl (cO_main _ _ _ _) rfl dL_law_663 (K_feed _ D cy a T B hP.1.2.2.2.1 _ _) rfl (fun vu_1 wu_1 hu_1 => ?_)
  obtain ⟨rfl, rfl⟩ := hu_1
  refine g_pop2_2 rfl dL_law_666 ?_
  refine g_aload_n (i := 2) dL_law_667 rfl rfl ?_
  refine g_aload_n (i := 0) dL_law_668 rfl rfl ?_
  refine g_iload_n (i := 3) dL_law_669 rfl rfl ?_
  refine g_iconst (1) rfl dL_law_670 ?_
  refine g_iadd dL_law_671 ?_
  refine g_sld hX hbl hbA dL_law_672 (ix6_1 hi6 hL) ?_
  refine g_i2l dL_law_673 ?_
  refine g_bipush (32) rfl dL_law_674 ?_
  refine g_lshl dL_law_676 ?_
  refine g_aload_n (i := 0) dL_law_677 rfl rfl ?_
  refine g_iload_n (i := 3) dL_law_678 rfl rfl ?_
  refine g_iconst (2) rfl dL_law_679 ?_
  refine g_iadd dL_law_680 ?_
  refine g_sld hX hbl hbA dL_law_681 (ix6_2 hi6 hL) ?_
  refine g_i2l dL_law_682 ?_
  refine g_ldc2 (4294967295) (List.mem_of_getElem? (i := 6) rfl) dL_law_683 ?_
  refine g_land dL_law_686 ?_
  refine g_lor dL_law_687 ?_
  refine g_aload_n (i := 0) dL_law_688 rfl rfl ?_
  refine g_iload_n (i := 3) dL_law_689 rfl rfl ?_
  refine g_iconst (3) rfl dL_law_690 ?_
  refine g_iadd dL_law_691 ?_
  refine g_sld hX hbl hbA dL_law_692 (ix6_3 hi6 hL) ?_
  refine g_callVX 2 gL_law_X9_feed rfl rfl rfl ⟨Nat.le_of_ble_eq_true rfl, Nat.le_of_ble_eq_true rfl⟩ ⟨by show kk + 0 + 0 ≤ 600000; omega, by show nn + 0 + 0 ≤ 7302250; omega⟩ (by exact Nat.le_of_ble_eq_true rfl) (by decide +kernel) rfl rfl rfl dL_law_693 (M_feed _ D cy a2 S hP.2.1.1 _ _) rfl (fun vu_2 wu_2 hu_2 => ?_)
  obtain ⟨rfl, rfl⟩ := hu_2
  refine g_pop2_2 rfl dL_law_696 ?_
  refine g_goto 1373 dL_law_697 (by decide) ?_
  exact hend a _ _ _ (kk + 0 + 0) (nn + 0 + 0) rfl (pi_feed hi9 _ _  hP) (by omega) (by omega)
set_option maxHeartbeats 4000000 in
set_option maxRecDepth 100000 in
/-- case 14: read -/
theorem lc_14 {Γ : gT} {D : va_G} {cy : Nat → ClassId} {a a2 adK adV : Nat → Nat} {b L i kk nn : Nat} {xs : Nat → Int32} {T S : MS} {B : List BL} (hX : va_X b L xs (gSt Γ) (gHp Γ)) (hbl : b < (gHp Γ).size) (hbA : ¬ gAp Γ b) (hE9 : sAt (sE adK adV) Γ) (hi6 : 6 * i + 6 ≤ L) (hL : L ≤ 3072) (hP : PI (Rel i) i T B S) (hkk : kk ≤ 1000 + 3 * i) (hnn : nn ≤ 20000 + 19 * i) (hend : ∀ (a9 : Nat → Nat) (T9 : MS) (B9 : List BL) (S9 : MS) (k9 n9 : Nat), a9 200 = a 200 → PI (Rel (i + 1)) (i + 1) T9 B9 S9 → k9 ≤ 1000 + 3 * (i + 1) → n9 ≤ 20000 + 19 * (i + 1) → GL Γ D cy k9 n9 (CW cy a9 T9 B9 ++ MW cy a2 S9) 1373 [(0, .ref b), (1, .ref (a 200)), (2, .ref (a2 0)), (3, .int (nI (6 * i)))] []) : GL Γ D cy kk nn (CW cy a T B ++ MW cy a2 S) 700 [(0, .ref b), (1, .ref (a 200)), (2, .ref (a2 0)), (3, .int (nI (6 * i)))] [] := by
  have hi9 : i < 600 := by omega
  obtain ⟨X, eX⟩ : ∃ Z : Int32 × MS, Z = crx T := ⟨_, rfl⟩
  refine g_aload_n (i := 1) dL_law_700 rfl rfl ?_
  refine g_callVXE 0 (sE_keep adK adV) hE9 gL_law_X8_read rfl rfl rfl ⟨Nat.le_of_ble_eq_true rfl, Nat.le_of_ble_eq_true rfl⟩ ⟨by show kk + 0 ≤ 600000; omega, by show nn + 0 ≤ 7302250; omega⟩ (by exact Nat.le_of_ble_eq_true rfl) (by decide +kernel) rfl (cO_main _ _ _ _) rfl dL_law_701 (K_read _ D adK adV cy a T B X hP.1.2.2.2.1 hP.1.2.2.2.2.2.1 eX) rfl (fun vu_1 wu_1 hu_1 => ?_)
  rcases hu_1 with ⟨hx9, rfl, rfl⟩ | ⟨hx9, rfl, rfl⟩
  · skip
    refine g_pop2_2 rfl dL_law_704 ?_
    refine g_aload_n (i := 2) dL_law_705 rfl rfl ?_
    refine g_callVX 0 gL_law_X9_read rfl rfl rfl ⟨Nat.le_of_ble_eq_true rfl, Nat.le_of_ble_eq_true rfl⟩ ⟨by show kk + 0 + 0 ≤ 600000; omega, by show nn + 0 + 0 ≤ 7302250; omega⟩ (by exact Nat.le_of_ble_eq_true rfl) (by decide +kernel) rfl rfl rfl dL_law_706 (M_read _ D cy a2 S hP.2.1.1 hP.2.1.2.1) rfl (fun vu_2 wu_2 hu_2 => ?_)
    obtain ⟨rfl, rfl⟩ := hu_2
    refine g_pop2_2 rfl dL_law_709 ?_
    refine g_goto 1373 dL_law_710 (by decide) ?_
    exact hend (fun n => a (swp n)) _ _ _ (kk + 0 + 0) (nn + 0 + 0) rfl (pi_readG hi9 eX hx9 hP) (by omega) (by omega)
  · skip
    refine g_pop2_2 rfl dL_law_704 ?_
    refine g_aload_n (i := 2) dL_law_705 rfl rfl ?_
    refine g_callVX 0 gL_law_X9_read rfl rfl rfl ⟨Nat.le_of_ble_eq_true rfl, Nat.le_of_ble_eq_true rfl⟩ ⟨by show kk + 0 + 0 ≤ 600000; omega, by show nn + 0 + 0 ≤ 7302250; omega⟩ (by exact Nat.le_of_ble_eq_true rfl) (by decide +kernel) rfl rfl rfl dL_law_706 (M_read _ D cy a2 S hP.2.1.1 hP.2.1.2.1) rfl (fun vu_3 wu_3 hu_3 => ?_)
    obtain ⟨rfl, rfl⟩ := hu_3
    refine g_pop2_2 rfl dL_law_709 ?_
    refine g_goto 1373 dL_law_710 (by decide) ?_
    exact hend a _ _ _ (kk + 0 + 0) (nn + 0 + 0) rfl (pi_readB hi9 eX hx9 hP) (by omega) (by omega)
set_option maxHeartbeats 4000000 in
set_option maxRecDepth 100000 in
/-- case 15: fault -/
theorem lc_15 {Γ : gT} {D : va_G} {cy : Nat → ClassId} {a a2 adK adV : Nat → Nat} {b L i kk nn : Nat} {xs : Nat → Int32} {T S : MS} {B : List BL} (hX : va_X b L xs (gSt Γ) (gHp Γ)) (hbl : b < (gHp Γ).size) (hbA : ¬ gAp Γ b) (hE9 : sAt (sE adK adV) Γ) (hi6 : 6 * i + 6 ≤ L) (hL : L ≤ 3072) (hP : PI (Rel i) i T B S) (hkk : kk ≤ 1000 + 3 * i) (hnn : nn ≤ 20000 + 19 * i) (hend : ∀ (a9 : Nat → Nat) (T9 : MS) (B9 : List BL) (S9 : MS) (k9 n9 : Nat), a9 200 = a 200 → PI (Rel (i + 1)) (i + 1) T9 B9 S9 → k9 ≤ 1000 + 3 * (i + 1) → n9 ≤ 20000 + 19 * (i + 1) → GL Γ D cy k9 n9 (CW cy a9 T9 B9 ++ MW cy a2 S9) 1373 [(0, .ref b), (1, .ref (a 200)), (2, .ref (a2 0)), (3, .int (nI (6 * i)))] []) : GL Γ D cy kk nn (CW cy a T B ++ MW cy a2 S) 713 [(0, .ref b), (1, .ref (a 200)), (2, .ref (a2 0)), (3, .int (nI (6 * i)))] [] := by
  have hi9 : i < 600 := by omega
  refine g_aload_n (i := 1) dL_law_713 rfl rfl ?_
  refine g_callVX 0 gL_law_X8_fault rfl rfl rfl ⟨Nat.le_of_ble_eq_true rfl, Nat.le_of_ble_eq_true rfl⟩ ⟨by show kk + 0 ≤ 600000; omega, by show nn + 0 ≤ 7302250; omega⟩ (by exact Nat.le_of_ble_eq_true rfl) (by decide +kernel) rfl (cO_main _ _ _ _) rfl dL_law_714 (K_fault _ D cy a T B ) rfl (fun vu_1 wu_1 hu_1 => ?_)
  obtain ⟨rfl, rfl⟩ := hu_1
  refine g_pop2_2 rfl dL_law_717 ?_
  refine g_aload_n (i := 2) dL_law_718 rfl rfl ?_
  refine g_callVX 0 gL_law_X9_fault rfl rfl rfl ⟨Nat.le_of_ble_eq_true rfl, Nat.le_of_ble_eq_true rfl⟩ ⟨by show kk + 0 + 0 ≤ 600000; omega, by show nn + 0 + 0 ≤ 7302250; omega⟩ (by exact Nat.le_of_ble_eq_true rfl) (by decide +kernel) rfl rfl rfl dL_law_719 (M_fault _ D cy a2 S ) rfl (fun vu_2 wu_2 hu_2 => ?_)
  obtain ⟨rfl, rfl⟩ := hu_2
  refine g_pop2_2 rfl dL_law_722 ?_
  refine g_goto 1373 dL_law_723 (by decide) ?_
  exact hend a _ _ _ (kk + 0 + 0) (nn + 0 + 0) rfl (pi_fault hi9   hP) (by omega) (by omega)
set_option maxHeartbeats 4000000 in
set_option maxRecDepth 100000 in
/-- case 16: binds -/
theorem lc_16 {Γ : gT} {D : va_G} {cy : Nat → ClassId} {a a2 adK adV : Nat → Nat} {b L i kk nn : Nat} {xs : Nat → Int32} {T S : MS} {B : List BL} (hX : va_X b L xs (gSt Γ) (gHp Γ)) (hbl : b < (gHp Γ).size) (hbA : ¬ gAp Γ b) (hE9 : sAt (sE adK adV) Γ) (hi6 : 6 * i + 6 ≤ L) (hL : L ≤ 3072) (hP : PI (Rel i) i T B S) (hkk : kk ≤ 1000 + 3 * i) (hnn : nn ≤ 20000 + 19 * i) (hend : ∀ (a9 : Nat → Nat) (T9 : MS) (B9 : List BL) (S9 : MS) (k9 n9 : Nat), a9 200 = a 200 → PI (Rel (i + 1)) (i + 1) T9 B9 S9 → k9 ≤ 1000 + 3 * (i + 1) → n9 ≤ 20000 + 19 * (i + 1) → GL Γ D cy k9 n9 (CW cy a9 T9 B9 ++ MW cy a2 S9) 1373 [(0, .ref b), (1, .ref (a 200)), (2, .ref (a2 0)), (3, .int (nI (6 * i)))] []) : GL Γ D cy kk nn (CW cy a T B ++ MW cy a2 S) 726 [(0, .ref b), (1, .ref (a 200)), (2, .ref (a2 0)), (3, .int (nI (6 * i)))] [] := by
  have hi9 : i < 600 := by omega
  refine g_aload_n (i := 1) dL_law_726 rfl rfl ?_
  refine g_aload_n (i := 0) dL_law_727 rfl rfl ?_
  refine g_iload_n (i := 3) dL_law_728 rfl rfl ?_
  refine g_iconst (1) rfl dL_law_729 ?_
  refine g_iadd dL_law_730 ?_
  refine g_sld hX hbl hbA dL_law_731 (ix6_1 hi6 hL) ?_
  refine g_aload_n (i := 0) dL_law_732 rfl rfl ?_
  refine g_iload_n (i := 3) dL_law_733 rfl rfl ?_
  refine g_iconst (2) rfl dL_law_734 ?_
  refine g_iadd dL_law_735 ?_
  refine g_sld hX hbl hbA dL_law_736 (ix6_2 hi6 hL) ?_
  refine g_aload_n (i := 0) dL_law_737 rfl rfl ?_
  refine g_iload_n (i := 3) dL_law_738 rfl rfl ?_
  refine g_iconst (3) rfl dL_law_739 ?_
  refine g_iadd dL_law_740 ?_
  refine g_sld hX hbl hbA dL_law_741 (ix6_3 hi6 hL) ?_
  refine g_aload_n (i := 0) dL_law_742 rfl rfl ?_
  refine g_iload_n (i := 3) dL_law_743 rfl rfl ?_
  refine g_iconst (4) rfl dL_law_744 ?_
  refine g_iadd dL_law_745 ?_
  refine g_sld hX hbl hbA dL_law_746 (ix6_4 hi6 hL) ?_
  refine g_aload_n (i := 0) dL_law_747 rfl rfl ?_
  refine g_iload_n (i := 3) dL_law_748 rfl rfl ?_
  refine g_iconst (5) rfl dL_law_749 ?_
  refine g_iadd dL_law_750 ?_
  refine g_sld hX hbl hbA dL_law_751 (ix6_5 hi6 hL) ?_
  refine g_callVX 5 gL_law_X8_binds rfl rfl rfl ⟨Nat.le_of_ble_eq_true rfl, Nat.le_of_ble_eq_true rfl⟩ ⟨by show kk + 0 ≤ 600000; omega, by show nn + 0 ≤ 7302250; omega⟩ (by exact Nat.le_of_ble_eq_true rfl) (by decide +kernel) rfl (cO_main _ _ _ _) rfl dL_law_752 (K_binds _ D cy a T B hP.1.2.2.2.2.1 _ _ _ _ _) rfl (fun vu_1 wu_1 hu_1 => ?_)
  obtain ⟨rfl, rfl⟩ := hu_1
  refine g_pop2_2 rfl dL_law_755 ?_
  refine g_aload_n (i := 2) dL_law_756 rfl rfl ?_
  refine g_aload_n (i := 0) dL_law_757 rfl rfl ?_
  refine g_iload_n (i := 3) dL_law_758 rfl rfl ?_
  refine g_iconst (1) rfl dL_law_759 ?_
  refine g_iadd dL_law_760 ?_
  refine g_sld hX hbl hbA dL_law_761 (ix6_1 hi6 hL) ?_
  refine g_aload_n (i := 0) dL_law_762 rfl rfl ?_
  refine g_iload_n (i := 3) dL_law_763 rfl rfl ?_
  refine g_iconst (2) rfl dL_law_764 ?_
  refine g_iadd dL_law_765 ?_
  refine g_sld hX hbl hbA dL_law_766 (ix6_2 hi6 hL) ?_
  refine g_aload_n (i := 0) dL_law_767 rfl rfl ?_
  refine g_iload_n (i := 3) dL_law_768 rfl rfl ?_
  refine g_iconst (3) rfl dL_law_769 ?_
  refine g_iadd dL_law_770 ?_
  refine g_sld hX hbl hbA dL_law_771 (ix6_3 hi6 hL) ?_
  refine g_aload_n (i := 0) dL_law_772 rfl rfl ?_
  refine g_iload_n (i := 3) dL_law_773 rfl rfl ?_
  refine g_iconst (4) rfl dL_law_774 ?_
  refine g_iadd dL_law_775 ?_
  refine g_sld hX hbl hbA dL_law_776 (ix6_4 hi6 hL) ?_
  refine g_aload_n (i := 0) dL_law_777 rfl rfl ?_
  refine g_iload_n (i := 3) dL_law_778 rfl rfl ?_
  refine g_iconst (5) rfl dL_law_779 ?_
  refine g_iadd dL_law_780 ?_
  refine g_sld hX hbl hbA dL_law_781 (ix6_5 hi6 hL) ?_
  refine g_callVX 5 gL_law_X9_binds rfl rfl rfl ⟨Nat.le_of_ble_eq_true rfl, Nat.le_of_ble_eq_true rfl⟩ ⟨by show kk + 0 + 0 ≤ 600000; omega, by show nn + 0 + 0 ≤ 7302250; omega⟩ (by exact Nat.le_of_ble_eq_true rfl) (by decide +kernel) rfl rfl rfl dL_law_782 (M_binds _ D cy a2 S hP.2.1.1 _ _ _ _ _) rfl (fun vu_2 wu_2 hu_2 => ?_)
  obtain ⟨rfl, rfl⟩ := hu_2
  refine g_pop2_2 rfl dL_law_785 ?_
  refine g_goto 1373 dL_law_786 (by decide) ?_
  exact hend a _ _ _ (kk + 0 + 0) (nn + 0 + 0) rfl (pi_binds hi9 _ _ _ _ _  hP) (by omega) (by omega)
set_option maxHeartbeats 4000000 in
set_option maxRecDepth 100000 in
/-- case 17: owe -/
theorem lc_17 {Γ : gT} {D : va_G} {cy : Nat → ClassId} {a a2 adK adV : Nat → Nat} {b L i kk nn : Nat} {xs : Nat → Int32} {T S : MS} {B : List BL} (hX : va_X b L xs (gSt Γ) (gHp Γ)) (hbl : b < (gHp Γ).size) (hbA : ¬ gAp Γ b) (hE9 : sAt (sE adK adV) Γ) (hi6 : 6 * i + 6 ≤ L) (hL : L ≤ 3072) (hP : PI (Rel i) i T B S) (hkk : kk ≤ 1000 + 3 * i) (hnn : nn ≤ 20000 + 19 * i) (hend : ∀ (a9 : Nat → Nat) (T9 : MS) (B9 : List BL) (S9 : MS) (k9 n9 : Nat), a9 200 = a 200 → PI (Rel (i + 1)) (i + 1) T9 B9 S9 → k9 ≤ 1000 + 3 * (i + 1) → n9 ≤ 20000 + 19 * (i + 1) → GL Γ D cy k9 n9 (CW cy a9 T9 B9 ++ MW cy a2 S9) 1373 [(0, .ref b), (1, .ref (a 200)), (2, .ref (a2 0)), (3, .int (nI (6 * i)))] []) : GL Γ D cy kk nn (CW cy a T B ++ MW cy a2 S) 789 [(0, .ref b), (1, .ref (a 200)), (2, .ref (a2 0)), (3, .int (nI (6 * i)))] [] := by
  have hi9 : i < 600 := by omega
  refine g_aload_n (i := 1) dL_law_789 rfl rfl ?_
  refine g_aload_n (i := 0) dL_law_790 rfl rfl ?_
  refine g_iload_n (i := 3) dL_law_791 rfl rfl ?_
  refine g_iconst (1) rfl dL_law_792 ?_
  refine g_iadd dL_law_793 ?_
  refine g_sld hX hbl hbA dL_law_794 (ix6_1 hi6 hL) ?_
  refine g_aload_n (i := 0) dL_law_795 rfl rfl ?_
  refine g_iload_n (i := 3) dL_law_796 rfl rfl ?_
  refine g_iconst (2) rfl dL_law_797 ?_
  refine g_iadd dL_law_798 ?_
  refine g_sld hX hbl hbA dL_law_799 (ix6_2 hi6 hL) ?_
  refine g_aload_n (i := 0) dL_law_800 rfl rfl ?_
  refine g_iload_n (i := 3) dL_law_801 rfl rfl ?_
  refine g_iconst (3) rfl dL_law_802 ?_
  refine g_iadd dL_law_803 ?_
  refine g_sld hX hbl hbA dL_law_804 (ix6_3 hi6 hL) ?_
  refine g_callVX 3 gL_law_X8_owe rfl rfl rfl ⟨Nat.le_of_ble_eq_true rfl, Nat.le_of_ble_eq_true rfl⟩ ⟨by show kk + 0 ≤ 600000; omega, by show nn + 0 ≤ 7302250; omega⟩ (by exact Nat.le_of_ble_eq_true rfl) (by decide +kernel) rfl (cO_main _ _ _ _) rfl dL_law_805 (K_owe _ D cy a T B _ _ _) rfl (fun vu_1 wu_1 hu_1 => ?_)
  obtain ⟨rfl, rfl⟩ := hu_1
  refine g_pop2_2 rfl dL_law_808 ?_
  refine g_aload_n (i := 2) dL_law_809 rfl rfl ?_
  refine g_aload_n (i := 0) dL_law_810 rfl rfl ?_
  refine g_iload_n (i := 3) dL_law_811 rfl rfl ?_
  refine g_iconst (1) rfl dL_law_812 ?_
  refine g_iadd dL_law_813 ?_
  refine g_sld hX hbl hbA dL_law_814 (ix6_1 hi6 hL) ?_
  refine g_aload_n (i := 0) dL_law_815 rfl rfl ?_
  refine g_iload_n (i := 3) dL_law_816 rfl rfl ?_
  refine g_iconst (2) rfl dL_law_817 ?_
  refine g_iadd dL_law_818 ?_
  refine g_sld hX hbl hbA dL_law_819 (ix6_2 hi6 hL) ?_
  refine g_aload_n (i := 0) dL_law_820 rfl rfl ?_
  refine g_iload_n (i := 3) dL_law_821 rfl rfl ?_
  refine g_iconst (3) rfl dL_law_822 ?_
  refine g_iadd dL_law_823 ?_
  refine g_sld hX hbl hbA dL_law_824 (ix6_3 hi6 hL) ?_
  refine g_callVX 3 gL_law_X9_owe rfl rfl rfl ⟨Nat.le_of_ble_eq_true rfl, Nat.le_of_ble_eq_true rfl⟩ ⟨by show kk + 0 + 0 ≤ 600000; omega, by show nn + 0 + 0 ≤ 7302250; omega⟩ (by exact Nat.le_of_ble_eq_true rfl) (by decide +kernel) rfl rfl rfl dL_law_825 (M_owe _ D cy a2 S _ _ _) rfl (fun vu_2 wu_2 hu_2 => ?_)
  obtain ⟨rfl, rfl⟩ := hu_2
  refine g_pop2_2 rfl dL_law_828 ?_
  refine g_goto 1373 dL_law_829 (by decide) ?_
  exact hend a _ _ _ (kk + 0 + 0) (nn + 0 + 0) rfl (pi_owe hi9 _ _ _  hP) (by omega) (by omega)
set_option maxHeartbeats 4000000 in
set_option maxRecDepth 100000 in
/-- case 18: owes -/
theorem lc_18 {Γ : gT} {D : va_G} {cy : Nat → ClassId} {a a2 adK adV : Nat → Nat} {b L i kk nn : Nat} {xs : Nat → Int32} {T S : MS} {B : List BL} (hX : va_X b L xs (gSt Γ) (gHp Γ)) (hbl : b < (gHp Γ).size) (hbA : ¬ gAp Γ b) (hE9 : sAt (sE adK adV) Γ) (hi6 : 6 * i + 6 ≤ L) (hL : L ≤ 3072) (hP : PI (Rel i) i T B S) (hkk : kk ≤ 1000 + 3 * i) (hnn : nn ≤ 20000 + 19 * i) (hend : ∀ (a9 : Nat → Nat) (T9 : MS) (B9 : List BL) (S9 : MS) (k9 n9 : Nat), a9 200 = a 200 → PI (Rel (i + 1)) (i + 1) T9 B9 S9 → k9 ≤ 1000 + 3 * (i + 1) → n9 ≤ 20000 + 19 * (i + 1) → GL Γ D cy k9 n9 (CW cy a9 T9 B9 ++ MW cy a2 S9) 1373 [(0, .ref b), (1, .ref (a 200)), (2, .ref (a2 0)), (3, .int (nI (6 * i)))] []) : GL Γ D cy kk nn (CW cy a T B ++ MW cy a2 S) 832 [(0, .ref b), (1, .ref (a 200)), (2, .ref (a2 0)), (3, .int (nI (6 * i)))] [] := by
  have hi9 : i < 600 := by omega
  refine g_aload_n (i := 1) dL_law_832 rfl rfl ?_
  refine g_aload_n (i := 0) dL_law_833 rfl rfl ?_
  refine g_iload_n (i := 3) dL_law_834 rfl rfl ?_
  refine g_iconst (1) rfl dL_law_835 ?_
  refine g_iadd dL_law_836 ?_
  refine g_sld hX hbl hbA dL_law_837 (ix6_1 hi6 hL) ?_
  refine g_aload_n (i := 0) dL_law_838 rfl rfl ?_
  refine g_iload_n (i := 3) dL_law_839 rfl rfl ?_
  refine g_iconst (2) rfl dL_law_840 ?_
  refine g_iadd dL_law_841 ?_
  refine g_sld hX hbl hbA dL_law_842 (ix6_2 hi6 hL) ?_
  refine g_callVX 2 gL_law_X8_owes rfl rfl rfl ⟨Nat.le_of_ble_eq_true rfl, Nat.le_of_ble_eq_true rfl⟩ ⟨by show kk + 0 ≤ 600000; omega, by show nn + 0 ≤ 7302250; omega⟩ (by exact Nat.le_of_ble_eq_true rfl) (by decide +kernel) rfl (cO_main _ _ _ _) rfl dL_law_843 (K_owes _ D cy a T B _ _) rfl (fun vu_1 wu_1 hu_1 => ?_)
  obtain ⟨rfl, rfl⟩ := hu_1
  refine g_pop2_2 rfl dL_law_846 ?_
  refine g_aload_n (i := 2) dL_law_847 rfl rfl ?_
  refine g_aload_n (i := 0) dL_law_848 rfl rfl ?_
  refine g_iload_n (i := 3) dL_law_849 rfl rfl ?_
  refine g_iconst (1) rfl dL_law_850 ?_
  refine g_iadd dL_law_851 ?_
  refine g_sld hX hbl hbA dL_law_852 (ix6_1 hi6 hL) ?_
  refine g_aload_n (i := 0) dL_law_853 rfl rfl ?_
  refine g_iload_n (i := 3) dL_law_854 rfl rfl ?_
  refine g_iconst (2) rfl dL_law_855 ?_
  refine g_iadd dL_law_856 ?_
  refine g_sld hX hbl hbA dL_law_857 (ix6_2 hi6 hL) ?_
  refine g_callVX 2 gL_law_X9_owes rfl rfl rfl ⟨Nat.le_of_ble_eq_true rfl, Nat.le_of_ble_eq_true rfl⟩ ⟨by show kk + 0 + 0 ≤ 600000; omega, by show nn + 0 + 0 ≤ 7302250; omega⟩ (by exact Nat.le_of_ble_eq_true rfl) (by decide +kernel) rfl rfl rfl dL_law_858 (M_owes _ D cy a2 S _ _) rfl (fun vu_2 wu_2 hu_2 => ?_)
  obtain ⟨rfl, rfl⟩ := hu_2
  refine g_pop2_2 rfl dL_law_861 ?_
  refine g_goto 1373 dL_law_862 (by decide) ?_
  exact hend a _ _ _ (kk + 0 + 0) (nn + 0 + 0) rfl (pi_owes hi9 _ _  hP) (by omega) (by omega)
set_option maxHeartbeats 4000000 in
set_option maxRecDepth 100000 in
/-- case 19: net -/
theorem lc_19 {Γ : gT} {D : va_G} {cy : Nat → ClassId} {a a2 adK adV : Nat → Nat} {b L i kk nn : Nat} {xs : Nat → Int32} {T S : MS} {B : List BL} (hX : va_X b L xs (gSt Γ) (gHp Γ)) (hbl : b < (gHp Γ).size) (hbA : ¬ gAp Γ b) (hE9 : sAt (sE adK adV) Γ) (hi6 : 6 * i + 6 ≤ L) (hL : L ≤ 3072) (hP : PI (Rel i) i T B S) (hkk : kk ≤ 1000 + 3 * i) (hnn : nn ≤ 20000 + 19 * i) (hend : ∀ (a9 : Nat → Nat) (T9 : MS) (B9 : List BL) (S9 : MS) (k9 n9 : Nat), a9 200 = a 200 → PI (Rel (i + 1)) (i + 1) T9 B9 S9 → k9 ≤ 1000 + 3 * (i + 1) → n9 ≤ 20000 + 19 * (i + 1) → GL Γ D cy k9 n9 (CW cy a9 T9 B9 ++ MW cy a2 S9) 1373 [(0, .ref b), (1, .ref (a 200)), (2, .ref (a2 0)), (3, .int (nI (6 * i)))] []) : GL Γ D cy kk nn (CW cy a T B ++ MW cy a2 S) 865 [(0, .ref b), (1, .ref (a 200)), (2, .ref (a2 0)), (3, .int (nI (6 * i)))] [] := by
  have hi9 : i < 600 := by omega
  refine g_aload_n (i := 1) dL_law_865 rfl rfl ?_
  refine g_aload_n (i := 0) dL_law_866 rfl rfl ?_
  refine g_iload_n (i := 3) dL_law_867 rfl rfl ?_
  refine g_iconst (1) rfl dL_law_868 ?_
  refine g_iadd dL_law_869 ?_
  refine g_sld hX hbl hbA dL_law_870 (ix6_1 hi6 hL) ?_
  refine g_callVX 1 gL_law_X8_net rfl rfl rfl ⟨Nat.le_of_ble_eq_true rfl, Nat.le_of_ble_eq_true rfl⟩ ⟨by show kk + 0 ≤ 600000; omega, by show nn + 0 ≤ 7302250; omega⟩ (by exact Nat.le_of_ble_eq_true rfl) (by decide +kernel) rfl (cO_main _ _ _ _) rfl dL_law_871 (K_net _ D cy a T B _) rfl (fun vu_1 wu_1 hu_1 => ?_)
  obtain ⟨rfl, rfl⟩ := hu_1
  refine g_pop2_2 rfl dL_law_874 ?_
  refine g_aload_n (i := 2) dL_law_875 rfl rfl ?_
  refine g_aload_n (i := 0) dL_law_876 rfl rfl ?_
  refine g_iload_n (i := 3) dL_law_877 rfl rfl ?_
  refine g_iconst (1) rfl dL_law_878 ?_
  refine g_iadd dL_law_879 ?_
  refine g_sld hX hbl hbA dL_law_880 (ix6_1 hi6 hL) ?_
  refine g_callVX 1 gL_law_X9_net rfl rfl rfl ⟨Nat.le_of_ble_eq_true rfl, Nat.le_of_ble_eq_true rfl⟩ ⟨by show kk + 0 + 0 ≤ 600000; omega, by show nn + 0 + 0 ≤ 7302250; omega⟩ (by exact Nat.le_of_ble_eq_true rfl) (by decide +kernel) rfl rfl rfl dL_law_881 (M_net _ D cy a2 S _) rfl (fun vu_2 wu_2 hu_2 => ?_)
  obtain ⟨rfl, rfl⟩ := hu_2
  refine g_pop2_2 rfl dL_law_884 ?_
  refine g_goto 1373 dL_law_885 (by decide) ?_
  exact hend a _ _ _ (kk + 0 + 0) (nn + 0 + 0) rfl (pi_net hi9 _  hP) (by omega) (by omega)
set_option maxHeartbeats 4000000 in
set_option maxRecDepth 100000 in
/-- case 20: plan -/
theorem lc_20 {Γ : gT} {D : va_G} {cy : Nat → ClassId} {a a2 adK adV : Nat → Nat} {b L i kk nn : Nat} {xs : Nat → Int32} {T S : MS} {B : List BL} (hX : va_X b L xs (gSt Γ) (gHp Γ)) (hbl : b < (gHp Γ).size) (hbA : ¬ gAp Γ b) (hE9 : sAt (sE adK adV) Γ) (hi6 : 6 * i + 6 ≤ L) (hL : L ≤ 3072) (hP : PI (Rel i) i T B S) (hkk : kk ≤ 1000 + 3 * i) (hnn : nn ≤ 20000 + 19 * i) (hend : ∀ (a9 : Nat → Nat) (T9 : MS) (B9 : List BL) (S9 : MS) (k9 n9 : Nat), a9 200 = a 200 → PI (Rel (i + 1)) (i + 1) T9 B9 S9 → k9 ≤ 1000 + 3 * (i + 1) → n9 ≤ 20000 + 19 * (i + 1) → GL Γ D cy k9 n9 (CW cy a9 T9 B9 ++ MW cy a2 S9) 1373 [(0, .ref b), (1, .ref (a 200)), (2, .ref (a2 0)), (3, .int (nI (6 * i)))] []) : GL Γ D cy kk nn (CW cy a T B ++ MW cy a2 S) 888 [(0, .ref b), (1, .ref (a 200)), (2, .ref (a2 0)), (3, .int (nI (6 * i)))] [] := by
  have hi9 : i < 600 := by omega
  obtain ⟨U, N, hPl, hOk, hF, hp, hs⟩ := pl_ex (S := S) (Mi_le hi9).1 hP.2.1.2.2.2.1
  refine g_aload_n (i := 1) dL_law_888 rfl rfl ?_
  refine g_aload_n (i := 0) dL_law_889 rfl rfl ?_
  refine g_iload_n (i := 3) dL_law_890 rfl rfl ?_
  refine g_iconst (1) rfl dL_law_891 ?_
  refine g_iadd dL_law_892 ?_
  refine g_sld hX hbl hbA dL_law_893 (ix6_1 hi6 hL) ?_
  refine g_if_eq 901 dL_law_894 (by decide) (fun c_1 => ?_) (fun c_1 => ?_)
  · skip
    refine g_iconst (0) rfl dL_law_901 ?_
    refine g_callVX 1 gL_law_X8_plan rfl rfl rfl ⟨Nat.le_of_ble_eq_true rfl, Nat.le_of_ble_eq_true rfl⟩ ⟨by show kk + 0 ≤ 600000; omega, by show nn + 0 ≤ 7302250; omega⟩ (by exact Nat.le_of_ble_eq_true rfl) (by decide +kernel) rfl (cO_main _ _ _ _) rfl dL_law_902 (K_plan _ D cy a T B _) rfl (fun vu_2 wu_2 hu_2 => ?_)
    obtain ⟨rfl, rfl⟩ := hu_2
    refine g_pop2_2 rfl dL_law_905 ?_
    refine g_aload_n (i := 2) dL_law_906 rfl rfl ?_
    refine g_aload_n (i := 0) dL_law_907 rfl rfl ?_
    refine g_iload_n (i := 3) dL_law_908 rfl rfl ?_
    refine g_iconst (1) rfl dL_law_909 ?_
    refine g_iadd dL_law_910 ?_
    refine g_sld hX hbl hbA dL_law_911 (ix6_1 hi6 hL) ?_
    refine g_if_eq 919 dL_law_912 (by decide) (fun c_3 => ?_) (fun c_3 => ?_)
    · skip
      refine g_iconst (0) rfl dL_law_919 ?_
      refine g_callVX 1 gL_law_X9_plan rfl rfl rfl ⟨Nat.le_of_ble_eq_true rfl, Nat.le_of_ble_eq_true rfl⟩ ⟨by show kk + 0 + 0 ≤ 600000; omega, by show nn + 0 + 0 ≤ 7302250; omega⟩ (by exact Nat.le_of_ble_eq_true rfl) (by decide +kernel) rfl rfl rfl dL_law_920 (M_plan _ D cy a2 S U hPl _) rfl (fun vu_4 wu_4 hu_4 => ?_)
      obtain ⟨rfl, rfl⟩ := hu_4
      refine g_pop2_2 rfl dL_law_923 ?_
      refine g_goto 1373 dL_law_924 (by decide) ?_
      exact hend a _ _ _ (kk + 0 + 0) (nn + 0 + 0) rfl (pi_plan hi9 _ hF hPl hOk hP) (by omega) (by omega)
    · skip
      exact absurd c_1 c_3
  · skip
    refine g_iconst (1) rfl dL_law_897 ?_
    refine g_goto 902 dL_law_898 (by decide) ?_
    refine g_callVX 1 gL_law_X8_plan rfl rfl rfl ⟨Nat.le_of_ble_eq_true rfl, Nat.le_of_ble_eq_true rfl⟩ ⟨by show kk + 0 ≤ 600000; omega, by show nn + 0 ≤ 7302250; omega⟩ (by exact Nat.le_of_ble_eq_true rfl) (by decide +kernel) rfl (cO_main _ _ _ _) rfl dL_law_902 (K_plan _ D cy a T B _) rfl (fun vu_5 wu_5 hu_5 => ?_)
    obtain ⟨rfl, rfl⟩ := hu_5
    refine g_pop2_2 rfl dL_law_905 ?_
    refine g_aload_n (i := 2) dL_law_906 rfl rfl ?_
    refine g_aload_n (i := 0) dL_law_907 rfl rfl ?_
    refine g_iload_n (i := 3) dL_law_908 rfl rfl ?_
    refine g_iconst (1) rfl dL_law_909 ?_
    refine g_iadd dL_law_910 ?_
    refine g_sld hX hbl hbA dL_law_911 (ix6_1 hi6 hL) ?_
    refine g_if_eq 919 dL_law_912 (by decide) (fun c_6 => ?_) (fun c_6 => ?_)
    · skip
      exact absurd c_6 c_1
    · skip
      refine g_iconst (1) rfl dL_law_915 ?_
      refine g_goto 920 dL_law_916 (by decide) ?_
      refine g_callVX 1 gL_law_X9_plan rfl rfl rfl ⟨Nat.le_of_ble_eq_true rfl, Nat.le_of_ble_eq_true rfl⟩ ⟨by show kk + 0 + 0 ≤ 600000; omega, by show nn + 0 + 0 ≤ 7302250; omega⟩ (by exact Nat.le_of_ble_eq_true rfl) (by decide +kernel) rfl rfl rfl dL_law_920 (M_plan _ D cy a2 S U hPl _) rfl (fun vu_7 wu_7 hu_7 => ?_)
      obtain ⟨rfl, rfl⟩ := hu_7
      refine g_pop2_2 rfl dL_law_923 ?_
      refine g_goto 1373 dL_law_924 (by decide) ?_
      exact hend a _ _ _ (kk + 0 + 0) (nn + 0 + 0) rfl (pi_plan hi9 _ hF hPl hOk hP) (by omega) (by omega)
set_option maxHeartbeats 4000000 in
set_option maxRecDepth 100000 in
/-- case 21: payment -/
theorem lc_21 {Γ : gT} {D : va_G} {cy : Nat → ClassId} {a a2 adK adV : Nat → Nat} {b L i kk nn : Nat} {xs : Nat → Int32} {T S : MS} {B : List BL} (hX : va_X b L xs (gSt Γ) (gHp Γ)) (hbl : b < (gHp Γ).size) (hbA : ¬ gAp Γ b) (hE9 : sAt (sE adK adV) Γ) (hi6 : 6 * i + 6 ≤ L) (hL : L ≤ 3072) (hP : PI (Rel i) i T B S) (hkk : kk ≤ 1000 + 3 * i) (hnn : nn ≤ 20000 + 19 * i) (hend : ∀ (a9 : Nat → Nat) (T9 : MS) (B9 : List BL) (S9 : MS) (k9 n9 : Nat), a9 200 = a 200 → PI (Rel (i + 1)) (i + 1) T9 B9 S9 → k9 ≤ 1000 + 3 * (i + 1) → n9 ≤ 20000 + 19 * (i + 1) → GL Γ D cy k9 n9 (CW cy a9 T9 B9 ++ MW cy a2 S9) 1373 [(0, .ref b), (1, .ref (a 200)), (2, .ref (a2 0)), (3, .int (nI (6 * i)))] []) : GL Γ D cy kk nn (CW cy a T B ++ MW cy a2 S) 927 [(0, .ref b), (1, .ref (a 200)), (2, .ref (a2 0)), (3, .int (nI (6 * i)))] [] := by
  have hi9 : i < 600 := by omega
  obtain ⟨U, N, hPl, hOk, hF, hp, hs⟩ := pl_ex (S := S) (Mi_le hi9).1 hP.2.1.2.2.2.1
  refine g_aload_n (i := 1) dL_law_927 rfl rfl ?_
  refine g_aload_n (i := 0) dL_law_928 rfl rfl ?_
  refine g_iload_n (i := 3) dL_law_929 rfl rfl ?_
  refine g_iconst (1) rfl dL_law_930 ?_
  refine g_iadd dL_law_931 ?_
  refine g_sld hX hbl hbA dL_law_932 (ix6_1 hi6 hL) ?_
  refine g_aload_n (i := 0) dL_law_933 rfl rfl ?_
  refine g_iload_n (i := 3) dL_law_934 rfl rfl ?_
  refine g_iconst (2) rfl dL_law_935 ?_
  refine g_iadd dL_law_936 ?_
  refine g_sld hX hbl hbA dL_law_937 (ix6_2 hi6 hL) ?_
  refine g_callVX 2 gL_law_X8_payment rfl rfl rfl ⟨Nat.le_of_ble_eq_true rfl, Nat.le_of_ble_eq_true rfl⟩ ⟨by show kk + 0 ≤ 600000; omega, by show nn + 0 ≤ 7302250; omega⟩ (by exact Nat.le_of_ble_eq_true rfl) (by decide +kernel) rfl (cO_main _ _ _ _) rfl dL_law_938 (K_payment _ D cy a T B hP.1.2.2.2.2.2.2.1 _ _) rfl (fun vu_1 wu_1 hu_1 => ?_)
  obtain ⟨rfl, rfl⟩ := hu_1
  refine g_pop2_2 rfl dL_law_941 ?_
  refine g_aload_n (i := 2) dL_law_942 rfl rfl ?_
  refine g_aload_n (i := 0) dL_law_943 rfl rfl ?_
  refine g_iload_n (i := 3) dL_law_944 rfl rfl ?_
  refine g_iconst (1) rfl dL_law_945 ?_
  refine g_iadd dL_law_946 ?_
  refine g_sld hX hbl hbA dL_law_947 (ix6_1 hi6 hL) ?_
  refine g_aload_n (i := 0) dL_law_948 rfl rfl ?_
  refine g_iload_n (i := 3) dL_law_949 rfl rfl ?_
  refine g_iconst (2) rfl dL_law_950 ?_
  refine g_iadd dL_law_951 ?_
  refine g_sld hX hbl hbA dL_law_952 (ix6_2 hi6 hL) ?_
  refine g_callVX 2 gL_law_X9_payment rfl rfl rfl ⟨Nat.le_of_ble_eq_true rfl, Nat.le_of_ble_eq_true rfl⟩ ⟨by show kk + 0 + 0 ≤ 600000; omega, by show nn + 0 + 0 ≤ 7302250; omega⟩ (by exact Nat.le_of_ble_eq_true rfl) (by decide +kernel) rfl rfl rfl dL_law_953 (M_payment _ D cy a2 S U hPl N hOk _ _) rfl (fun vu_2 wu_2 hu_2 => ?_)
  obtain ⟨rfl, rfl⟩ := hu_2
  refine g_pop2_2 rfl dL_law_956 ?_
  refine g_goto 1373 dL_law_957 (by decide) ?_
  exact hend a _ _ _ (kk + 0 + 0) (nn + 0 + 0) rfl (pi_payment hi9 _ _ hF hPl hOk hP) (by omega) (by omega)
set_option maxHeartbeats 4000000 in
set_option maxRecDepth 100000 in
/-- case 22: clear -/
theorem lc_22 {Γ : gT} {D : va_G} {cy : Nat → ClassId} {a a2 adK adV : Nat → Nat} {b L i kk nn : Nat} {xs : Nat → Int32} {T S : MS} {B : List BL} (hX : va_X b L xs (gSt Γ) (gHp Γ)) (hbl : b < (gHp Γ).size) (hbA : ¬ gAp Γ b) (hE9 : sAt (sE adK adV) Γ) (hi6 : 6 * i + 6 ≤ L) (hL : L ≤ 3072) (hP : PI (Rel i) i T B S) (hkk : kk ≤ 1000 + 3 * i) (hnn : nn ≤ 20000 + 19 * i) (hend : ∀ (a9 : Nat → Nat) (T9 : MS) (B9 : List BL) (S9 : MS) (k9 n9 : Nat), a9 200 = a 200 → PI (Rel (i + 1)) (i + 1) T9 B9 S9 → k9 ≤ 1000 + 3 * (i + 1) → n9 ≤ 20000 + 19 * (i + 1) → GL Γ D cy k9 n9 (CW cy a9 T9 B9 ++ MW cy a2 S9) 1373 [(0, .ref b), (1, .ref (a 200)), (2, .ref (a2 0)), (3, .int (nI (6 * i)))] []) : GL Γ D cy kk nn (CW cy a T B ++ MW cy a2 S) 960 [(0, .ref b), (1, .ref (a 200)), (2, .ref (a2 0)), (3, .int (nI (6 * i)))] [] := by
  have hi9 : i < 600 := by omega
  obtain ⟨U, N, hPl, hOk, hF, hp, hs⟩ := pl_ex (S := S) (Mi_le hi9).1 hP.2.1.2.2.2.1
  refine g_aload_n (i := 1) dL_law_960 rfl rfl ?_
  refine g_callVX 0 gL_law_X8_clear rfl rfl rfl ⟨Nat.le_of_ble_eq_true rfl, Nat.le_of_ble_eq_true rfl⟩ ⟨by show kk + 0 ≤ 600000; omega, by show nn + 0 ≤ 7302250; omega⟩ (by exact Nat.le_of_ble_eq_true rfl) (by decide +kernel) rfl (cO_main _ _ _ _) rfl dL_law_961 (K_clear _ D cy a T B hP.1.2.2.2.2.2.2) rfl (fun vu_1 wu_1 hu_1 => ?_)
  obtain ⟨rfl, rfl⟩ := hu_1
  refine g_pop2_2 rfl dL_law_964 ?_
  refine g_aload_n (i := 2) dL_law_965 rfl rfl ?_
  refine g_callVX 0 gL_law_X9_clear rfl rfl rfl ⟨Nat.le_of_ble_eq_true rfl, Nat.le_of_ble_eq_true rfl⟩ ⟨by show kk + 0 + 0 ≤ 600000; omega, by show nn + 0 + 0 ≤ 7302250; omega⟩ (by exact Nat.le_of_ble_eq_true rfl) (by decide +kernel) rfl rfl rfl dL_law_966 (M_clear _ D cy a2 S U hPl N hOk) rfl (fun vu_2 wu_2 hu_2 => ?_)
  obtain ⟨rfl, rfl⟩ := hu_2
  refine g_pop2_2 rfl dL_law_969 ?_
  refine g_goto 1373 dL_law_970 (by decide) ?_
  exact hend a _ _ _ (kk + 0 + 0) (nn + 0 + 0) rfl (pi_clear hi9  hF hPl hOk hp hs hP) (by omega) (by omega)
set_option maxHeartbeats 4000000 in
set_option maxRecDepth 100000 in
/-- case 23: coin -/
theorem lc_23 {Γ : gT} {D : va_G} {cy : Nat → ClassId} {a a2 adK adV : Nat → Nat} {b L i kk nn : Nat} {xs : Nat → Int32} {T S : MS} {B : List BL} (hX : va_X b L xs (gSt Γ) (gHp Γ)) (hbl : b < (gHp Γ).size) (hbA : ¬ gAp Γ b) (hE9 : sAt (sE adK adV) Γ) (hi6 : 6 * i + 6 ≤ L) (hL : L ≤ 3072) (hP : PI (Rel i) i T B S) (hkk : kk ≤ 1000 + 3 * i) (hnn : nn ≤ 20000 + 19 * i) (hend : ∀ (a9 : Nat → Nat) (T9 : MS) (B9 : List BL) (S9 : MS) (k9 n9 : Nat), a9 200 = a 200 → PI (Rel (i + 1)) (i + 1) T9 B9 S9 → k9 ≤ 1000 + 3 * (i + 1) → n9 ≤ 20000 + 19 * (i + 1) → GL Γ D cy k9 n9 (CW cy a9 T9 B9 ++ MW cy a2 S9) 1373 [(0, .ref b), (1, .ref (a 200)), (2, .ref (a2 0)), (3, .int (nI (6 * i)))] []) : GL Γ D cy kk nn (CW cy a T B ++ MW cy a2 S) 973 [(0, .ref b), (1, .ref (a 200)), (2, .ref (a2 0)), (3, .int (nI (6 * i)))] [] := by
  have hi9 : i < 600 := by omega
  refine g_aload_n (i := 1) dL_law_973 rfl rfl ?_
  refine g_aload_n (i := 0) dL_law_974 rfl rfl ?_
  refine g_iload_n (i := 3) dL_law_975 rfl rfl ?_
  refine g_iconst (1) rfl dL_law_976 ?_
  refine g_iadd dL_law_977 ?_
  refine g_sld hX hbl hbA dL_law_978 (ix6_1 hi6 hL) ?_
  refine g_aload_n (i := 0) dL_law_979 rfl rfl ?_
  refine g_iload_n (i := 3) dL_law_980 rfl rfl ?_
  refine g_iconst (2) rfl dL_law_981 ?_
  refine g_iadd dL_law_982 ?_
  refine g_sld hX hbl hbA dL_law_983 (ix6_2 hi6 hL) ?_
  refine g_aload_n (i := 0) dL_law_984 rfl rfl ?_
  refine g_iload_n (i := 3) dL_law_985 rfl rfl ?_
  refine g_iconst (3) rfl dL_law_986 ?_
  refine g_iadd dL_law_987 ?_
  refine g_sld hX hbl hbA dL_law_988 (ix6_3 hi6 hL) ?_
  refine g_callVX 3 gL_law_X8_coin rfl rfl rfl ⟨Nat.le_of_ble_eq_true rfl, Nat.le_of_ble_eq_true rfl⟩ ⟨by show kk + 0 ≤ 600000; omega, by show nn + 0 ≤ 7302250; omega⟩ (by exact Nat.le_of_ble_eq_true rfl) (by decide +kernel) rfl (cO_main _ _ _ _) rfl dL_law_989 (K_coin _ D cy a T B _ _ _) rfl (fun vu_1 wu_1 hu_1 => ?_)
  obtain ⟨rfl, rfl⟩ := hu_1
  refine g_pop2_2 rfl dL_law_992 ?_
  refine g_aload_n (i := 2) dL_law_993 rfl rfl ?_
  refine g_aload_n (i := 0) dL_law_994 rfl rfl ?_
  refine g_iload_n (i := 3) dL_law_995 rfl rfl ?_
  refine g_iconst (1) rfl dL_law_996 ?_
  refine g_iadd dL_law_997 ?_
  refine g_sld hX hbl hbA dL_law_998 (ix6_1 hi6 hL) ?_
  refine g_aload_n (i := 0) dL_law_999 rfl rfl ?_
  refine g_iload_n (i := 3) dL_law_1000 rfl rfl ?_
  refine g_iconst (2) rfl dL_law_1001 ?_
  refine g_iadd dL_law_1002 ?_
  refine g_sld hX hbl hbA dL_law_1003 (ix6_2 hi6 hL) ?_
  refine g_aload_n (i := 0) dL_law_1004 rfl rfl ?_
  refine g_iload_n (i := 3) dL_law_1005 rfl rfl ?_
  refine g_iconst (3) rfl dL_law_1006 ?_
  refine g_iadd dL_law_1007 ?_
  refine g_sld hX hbl hbA dL_law_1008 (ix6_3 hi6 hL) ?_
  refine g_callVX 3 gL_law_X9_coin rfl rfl rfl ⟨Nat.le_of_ble_eq_true rfl, Nat.le_of_ble_eq_true rfl⟩ ⟨by show kk + 0 + 0 ≤ 600000; omega, by show nn + 0 + 0 ≤ 7302250; omega⟩ (by exact Nat.le_of_ble_eq_true rfl) (by decide +kernel) rfl rfl rfl dL_law_1009 (M_coin _ D cy a2 S _ _ _) rfl (fun vu_2 wu_2 hu_2 => ?_)
  obtain ⟨rfl, rfl⟩ := hu_2
  refine g_pop2_2 rfl dL_law_1012 ?_
  refine g_goto 1373 dL_law_1013 (by decide) ?_
  exact hend a _ _ _ (kk + 0 + 0) (nn + 0 + 0) rfl (pi_coin hi9 _ _ _  hP) (by omega) (by omega)
set_option maxHeartbeats 4000000 in
set_option maxRecDepth 100000 in
/-- case 24: purse -/
theorem lc_24 {Γ : gT} {D : va_G} {cy : Nat → ClassId} {a a2 adK adV : Nat → Nat} {b L i kk nn : Nat} {xs : Nat → Int32} {T S : MS} {B : List BL} (hX : va_X b L xs (gSt Γ) (gHp Γ)) (hbl : b < (gHp Γ).size) (hbA : ¬ gAp Γ b) (hE9 : sAt (sE adK adV) Γ) (hi6 : 6 * i + 6 ≤ L) (hL : L ≤ 3072) (hP : PI (Rel i) i T B S) (hkk : kk ≤ 1000 + 3 * i) (hnn : nn ≤ 20000 + 19 * i) (hend : ∀ (a9 : Nat → Nat) (T9 : MS) (B9 : List BL) (S9 : MS) (k9 n9 : Nat), a9 200 = a 200 → PI (Rel (i + 1)) (i + 1) T9 B9 S9 → k9 ≤ 1000 + 3 * (i + 1) → n9 ≤ 20000 + 19 * (i + 1) → GL Γ D cy k9 n9 (CW cy a9 T9 B9 ++ MW cy a2 S9) 1373 [(0, .ref b), (1, .ref (a 200)), (2, .ref (a2 0)), (3, .int (nI (6 * i)))] []) : GL Γ D cy kk nn (CW cy a T B ++ MW cy a2 S) 1016 [(0, .ref b), (1, .ref (a 200)), (2, .ref (a2 0)), (3, .int (nI (6 * i)))] [] := by
  have hi9 : i < 600 := by omega
  refine g_aload_n (i := 1) dL_law_1016 rfl rfl ?_
  refine g_aload_n (i := 0) dL_law_1017 rfl rfl ?_
  refine g_iload_n (i := 3) dL_law_1018 rfl rfl ?_
  refine g_iconst (1) rfl dL_law_1019 ?_
  refine g_iadd dL_law_1020 ?_
  refine g_sld hX hbl hbA dL_law_1021 (ix6_1 hi6 hL) ?_
  refine g_aload_n (i := 0) dL_law_1022 rfl rfl ?_
  refine g_iload_n (i := 3) dL_law_1023 rfl rfl ?_
  refine g_iconst (2) rfl dL_law_1024 ?_
  refine g_iadd dL_law_1025 ?_
  refine g_sld hX hbl hbA dL_law_1026 (ix6_2 hi6 hL) ?_
  refine g_aload_n (i := 0) dL_law_1027 rfl rfl ?_
  refine g_iload_n (i := 3) dL_law_1028 rfl rfl ?_
  refine g_iconst (3) rfl dL_law_1029 ?_
  refine g_iadd dL_law_1030 ?_
  refine g_sld hX hbl hbA dL_law_1031 (ix6_3 hi6 hL) ?_
  refine g_callVX 3 gL_law_X8_purse rfl rfl rfl ⟨Nat.le_of_ble_eq_true rfl, Nat.le_of_ble_eq_true rfl⟩ ⟨by show kk + 0 ≤ 600000; omega, by show nn + 0 ≤ 7302250; omega⟩ (by exact Nat.le_of_ble_eq_true rfl) (by decide +kernel) rfl (cO_main _ _ _ _) rfl dL_law_1032 (K_purse _ D cy a T B _ _ _) rfl (fun vu_1 wu_1 hu_1 => ?_)
  obtain ⟨rfl, rfl⟩ := hu_1
  refine g_pop2_2 rfl dL_law_1035 ?_
  refine g_aload_n (i := 2) dL_law_1036 rfl rfl ?_
  refine g_aload_n (i := 0) dL_law_1037 rfl rfl ?_
  refine g_iload_n (i := 3) dL_law_1038 rfl rfl ?_
  refine g_iconst (1) rfl dL_law_1039 ?_
  refine g_iadd dL_law_1040 ?_
  refine g_sld hX hbl hbA dL_law_1041 (ix6_1 hi6 hL) ?_
  refine g_aload_n (i := 0) dL_law_1042 rfl rfl ?_
  refine g_iload_n (i := 3) dL_law_1043 rfl rfl ?_
  refine g_iconst (2) rfl dL_law_1044 ?_
  refine g_iadd dL_law_1045 ?_
  refine g_sld hX hbl hbA dL_law_1046 (ix6_2 hi6 hL) ?_
  refine g_aload_n (i := 0) dL_law_1047 rfl rfl ?_
  refine g_iload_n (i := 3) dL_law_1048 rfl rfl ?_
  refine g_iconst (3) rfl dL_law_1049 ?_
  refine g_iadd dL_law_1050 ?_
  refine g_sld hX hbl hbA dL_law_1051 (ix6_3 hi6 hL) ?_
  refine g_callVX 3 gL_law_X9_purse rfl rfl rfl ⟨Nat.le_of_ble_eq_true rfl, Nat.le_of_ble_eq_true rfl⟩ ⟨by show kk + 0 + 0 ≤ 600000; omega, by show nn + 0 + 0 ≤ 7302250; omega⟩ (by exact Nat.le_of_ble_eq_true rfl) (by decide +kernel) rfl rfl rfl dL_law_1052 (M_purse _ D cy a2 S _ _ _) rfl (fun vu_2 wu_2 hu_2 => ?_)
  obtain ⟨rfl, rfl⟩ := hu_2
  refine g_pop2_2 rfl dL_law_1055 ?_
  refine g_goto 1373 dL_law_1056 (by decide) ?_
  exact hend a _ _ _ (kk + 0 + 0) (nn + 0 + 0) rfl (pi_purse hi9 _ _ _  hP) (by omega) (by omega)
set_option maxHeartbeats 4000000 in
set_option maxRecDepth 100000 in
/-- case 25: has -/
theorem lc_25 {Γ : gT} {D : va_G} {cy : Nat → ClassId} {a a2 adK adV : Nat → Nat} {b L i kk nn : Nat} {xs : Nat → Int32} {T S : MS} {B : List BL} (hX : va_X b L xs (gSt Γ) (gHp Γ)) (hbl : b < (gHp Γ).size) (hbA : ¬ gAp Γ b) (hE9 : sAt (sE adK adV) Γ) (hi6 : 6 * i + 6 ≤ L) (hL : L ≤ 3072) (hP : PI (Rel i) i T B S) (hkk : kk ≤ 1000 + 3 * i) (hnn : nn ≤ 20000 + 19 * i) (hend : ∀ (a9 : Nat → Nat) (T9 : MS) (B9 : List BL) (S9 : MS) (k9 n9 : Nat), a9 200 = a 200 → PI (Rel (i + 1)) (i + 1) T9 B9 S9 → k9 ≤ 1000 + 3 * (i + 1) → n9 ≤ 20000 + 19 * (i + 1) → GL Γ D cy k9 n9 (CW cy a9 T9 B9 ++ MW cy a2 S9) 1373 [(0, .ref b), (1, .ref (a 200)), (2, .ref (a2 0)), (3, .int (nI (6 * i)))] []) : GL Γ D cy kk nn (CW cy a T B ++ MW cy a2 S) 1059 [(0, .ref b), (1, .ref (a 200)), (2, .ref (a2 0)), (3, .int (nI (6 * i)))] [] := by
  have hi9 : i < 600 := by omega
  refine g_aload_n (i := 1) dL_law_1059 rfl rfl ?_
  refine g_aload_n (i := 0) dL_law_1060 rfl rfl ?_
  refine g_iload_n (i := 3) dL_law_1061 rfl rfl ?_
  refine g_iconst (1) rfl dL_law_1062 ?_
  refine g_iadd dL_law_1063 ?_
  refine g_sld hX hbl hbA dL_law_1064 (ix6_1 hi6 hL) ?_
  refine g_aload_n (i := 0) dL_law_1065 rfl rfl ?_
  refine g_iload_n (i := 3) dL_law_1066 rfl rfl ?_
  refine g_iconst (2) rfl dL_law_1067 ?_
  refine g_iadd dL_law_1068 ?_
  refine g_sld hX hbl hbA dL_law_1069 (ix6_2 hi6 hL) ?_
  refine g_callVX 2 gL_law_X8_has rfl rfl rfl ⟨Nat.le_of_ble_eq_true rfl, Nat.le_of_ble_eq_true rfl⟩ ⟨by show kk + 0 ≤ 600000; omega, by show nn + 0 ≤ 7302250; omega⟩ (by exact Nat.le_of_ble_eq_true rfl) (by decide +kernel) rfl (cO_main _ _ _ _) rfl dL_law_1070 (K_has _ D cy a T B _ _) rfl (fun vu_1 wu_1 hu_1 => ?_)
  obtain ⟨rfl, rfl⟩ := hu_1
  refine g_pop2_2 rfl dL_law_1073 ?_
  refine g_aload_n (i := 2) dL_law_1074 rfl rfl ?_
  refine g_aload_n (i := 0) dL_law_1075 rfl rfl ?_
  refine g_iload_n (i := 3) dL_law_1076 rfl rfl ?_
  refine g_iconst (1) rfl dL_law_1077 ?_
  refine g_iadd dL_law_1078 ?_
  refine g_sld hX hbl hbA dL_law_1079 (ix6_1 hi6 hL) ?_
  refine g_aload_n (i := 0) dL_law_1080 rfl rfl ?_
  refine g_iload_n (i := 3) dL_law_1081 rfl rfl ?_
  refine g_iconst (2) rfl dL_law_1082 ?_
  refine g_iadd dL_law_1083 ?_
  refine g_sld hX hbl hbA dL_law_1084 (ix6_2 hi6 hL) ?_
  refine g_callVX 2 gL_law_X9_has rfl rfl rfl ⟨Nat.le_of_ble_eq_true rfl, Nat.le_of_ble_eq_true rfl⟩ ⟨by show kk + 0 + 0 ≤ 600000; omega, by show nn + 0 + 0 ≤ 7302250; omega⟩ (by exact Nat.le_of_ble_eq_true rfl) (by decide +kernel) rfl rfl rfl dL_law_1085 (M_has _ D cy a2 S _ _) rfl (fun vu_2 wu_2 hu_2 => ?_)
  obtain ⟨rfl, rfl⟩ := hu_2
  refine g_pop2_2 rfl dL_law_1088 ?_
  refine g_goto 1373 dL_law_1089 (by decide) ?_
  exact hend a _ _ _ (kk + 0 + 0) (nn + 0 + 0) rfl (pi_has hi9 _ _  hP) (by omega) (by omega)
set_option maxHeartbeats 4000000 in
set_option maxRecDepth 100000 in
/-- case 26: settle -/
theorem lc_26 {Γ : gT} {D : va_G} {cy : Nat → ClassId} {a a2 adK adV : Nat → Nat} {b L i kk nn : Nat} {xs : Nat → Int32} {T S : MS} {B : List BL} (hX : va_X b L xs (gSt Γ) (gHp Γ)) (hbl : b < (gHp Γ).size) (hbA : ¬ gAp Γ b) (hE9 : sAt (sE adK adV) Γ) (hi6 : 6 * i + 6 ≤ L) (hL : L ≤ 3072) (hP : PI (Rel i) i T B S) (hkk : kk ≤ 1000 + 3 * i) (hnn : nn ≤ 20000 + 19 * i) (hend : ∀ (a9 : Nat → Nat) (T9 : MS) (B9 : List BL) (S9 : MS) (k9 n9 : Nat), a9 200 = a 200 → PI (Rel (i + 1)) (i + 1) T9 B9 S9 → k9 ≤ 1000 + 3 * (i + 1) → n9 ≤ 20000 + 19 * (i + 1) → GL Γ D cy k9 n9 (CW cy a9 T9 B9 ++ MW cy a2 S9) 1373 [(0, .ref b), (1, .ref (a 200)), (2, .ref (a2 0)), (3, .int (nI (6 * i)))] []) : GL Γ D cy kk nn (CW cy a T B ++ MW cy a2 S) 1092 [(0, .ref b), (1, .ref (a 200)), (2, .ref (a2 0)), (3, .int (nI (6 * i)))] [] := by
  have hi9 : i < 600 := by omega
  refine g_aload_n (i := 1) dL_law_1092 rfl rfl ?_
  refine g_aload_n (i := 0) dL_law_1093 rfl rfl ?_
  refine g_iload_n (i := 3) dL_law_1094 rfl rfl ?_
  refine g_iconst (1) rfl dL_law_1095 ?_
  refine g_iadd dL_law_1096 ?_
  refine g_sld hX hbl hbA dL_law_1097 (ix6_1 hi6 hL) ?_
  refine g_aload_n (i := 0) dL_law_1098 rfl rfl ?_
  refine g_iload_n (i := 3) dL_law_1099 rfl rfl ?_
  refine g_iconst (2) rfl dL_law_1100 ?_
  refine g_iadd dL_law_1101 ?_
  refine g_sld hX hbl hbA dL_law_1102 (ix6_2 hi6 hL) ?_
  refine g_callVX 2 gL_law_X8_settle rfl rfl rfl ⟨Nat.le_of_ble_eq_true rfl, Nat.le_of_ble_eq_true rfl⟩ ⟨by show kk + 0 ≤ 600000; omega, by show nn + 0 ≤ 7302250; omega⟩ (by exact Nat.le_of_ble_eq_true rfl) (by decide +kernel) rfl (cO_main _ _ _ _) rfl dL_law_1103 (K_settle _ D cy a T B _ _) rfl (fun vu_1 wu_1 hu_1 => ?_)
  obtain ⟨rfl, rfl⟩ := hu_1
  refine g_pop2_2 rfl dL_law_1106 ?_
  refine g_aload_n (i := 2) dL_law_1107 rfl rfl ?_
  refine g_aload_n (i := 0) dL_law_1108 rfl rfl ?_
  refine g_iload_n (i := 3) dL_law_1109 rfl rfl ?_
  refine g_iconst (1) rfl dL_law_1110 ?_
  refine g_iadd dL_law_1111 ?_
  refine g_sld hX hbl hbA dL_law_1112 (ix6_1 hi6 hL) ?_
  refine g_aload_n (i := 0) dL_law_1113 rfl rfl ?_
  refine g_iload_n (i := 3) dL_law_1114 rfl rfl ?_
  refine g_iconst (2) rfl dL_law_1115 ?_
  refine g_iadd dL_law_1116 ?_
  refine g_sld hX hbl hbA dL_law_1117 (ix6_2 hi6 hL) ?_
  refine g_callVX 2 gL_law_X9_settle rfl rfl rfl ⟨Nat.le_of_ble_eq_true rfl, Nat.le_of_ble_eq_true rfl⟩ ⟨by show kk + 0 + 0 ≤ 600000; omega, by show nn + 0 + 0 ≤ 7302250; omega⟩ (by exact Nat.le_of_ble_eq_true rfl) (by decide +kernel) rfl rfl rfl dL_law_1118 (M_settle _ D cy a2 S _ _) rfl (fun vu_2 wu_2 hu_2 => ?_)
  obtain ⟨rfl, rfl⟩ := hu_2
  refine g_pop2_2 rfl dL_law_1121 ?_
  refine g_goto 1373 dL_law_1122 (by decide) ?_
  exact hend a _ _ _ (kk + 0 + 0) (nn + 0 + 0) rfl (pi_settle hi9 _ _  hP) (by omega) (by omega)
set_option maxHeartbeats 4000000 in
set_option maxRecDepth 100000 in
/-- case 27: vote -/
theorem lc_27 {Γ : gT} {D : va_G} {cy : Nat → ClassId} {a a2 adK adV : Nat → Nat} {b L i kk nn : Nat} {xs : Nat → Int32} {T S : MS} {B : List BL} (hX : va_X b L xs (gSt Γ) (gHp Γ)) (hbl : b < (gHp Γ).size) (hbA : ¬ gAp Γ b) (hE9 : sAt (sE adK adV) Γ) (hi6 : 6 * i + 6 ≤ L) (hL : L ≤ 3072) (hP : PI (Rel i) i T B S) (hkk : kk ≤ 1000 + 3 * i) (hnn : nn ≤ 20000 + 19 * i) (hend : ∀ (a9 : Nat → Nat) (T9 : MS) (B9 : List BL) (S9 : MS) (k9 n9 : Nat), a9 200 = a 200 → PI (Rel (i + 1)) (i + 1) T9 B9 S9 → k9 ≤ 1000 + 3 * (i + 1) → n9 ≤ 20000 + 19 * (i + 1) → GL Γ D cy k9 n9 (CW cy a9 T9 B9 ++ MW cy a2 S9) 1373 [(0, .ref b), (1, .ref (a 200)), (2, .ref (a2 0)), (3, .int (nI (6 * i)))] []) : GL Γ D cy kk nn (CW cy a T B ++ MW cy a2 S) 1125 [(0, .ref b), (1, .ref (a 200)), (2, .ref (a2 0)), (3, .int (nI (6 * i)))] [] := by
  have hi9 : i < 600 := by omega
  refine g_aload_n (i := 1) dL_law_1125 rfl rfl ?_
  refine g_aload_n (i := 0) dL_law_1126 rfl rfl ?_
  refine g_iload_n (i := 3) dL_law_1127 rfl rfl ?_
  refine g_iconst (1) rfl dL_law_1128 ?_
  refine g_iadd dL_law_1129 ?_
  refine g_sld hX hbl hbA dL_law_1130 (ix6_1 hi6 hL) ?_
  refine g_aload_n (i := 0) dL_law_1131 rfl rfl ?_
  refine g_iload_n (i := 3) dL_law_1132 rfl rfl ?_
  refine g_iconst (2) rfl dL_law_1133 ?_
  refine g_iadd dL_law_1134 ?_
  refine g_sld hX hbl hbA dL_law_1135 (ix6_2 hi6 hL) ?_
  refine g_aload_n (i := 0) dL_law_1136 rfl rfl ?_
  refine g_iload_n (i := 3) dL_law_1137 rfl rfl ?_
  refine g_iconst (3) rfl dL_law_1138 ?_
  refine g_iadd dL_law_1139 ?_
  refine g_sld hX hbl hbA dL_law_1140 (ix6_3 hi6 hL) ?_
  refine g_callVX 3 gL_law_X8_vote rfl rfl rfl ⟨Nat.le_of_ble_eq_true rfl, Nat.le_of_ble_eq_true rfl⟩ ⟨by show kk + 0 ≤ 600000; omega, by show nn + 0 ≤ 7302250; omega⟩ (by exact Nat.le_of_ble_eq_true rfl) (by decide +kernel) rfl (cO_main _ _ _ _) rfl dL_law_1141 (K_vote _ D cy a T B _ _ _) rfl (fun vu_1 wu_1 hu_1 => ?_)
  obtain ⟨rfl, rfl⟩ := hu_1
  refine g_pop2_2 rfl dL_law_1144 ?_
  refine g_aload_n (i := 2) dL_law_1145 rfl rfl ?_
  refine g_aload_n (i := 0) dL_law_1146 rfl rfl ?_
  refine g_iload_n (i := 3) dL_law_1147 rfl rfl ?_
  refine g_iconst (1) rfl dL_law_1148 ?_
  refine g_iadd dL_law_1149 ?_
  refine g_sld hX hbl hbA dL_law_1150 (ix6_1 hi6 hL) ?_
  refine g_aload_n (i := 0) dL_law_1151 rfl rfl ?_
  refine g_iload_n (i := 3) dL_law_1152 rfl rfl ?_
  refine g_iconst (2) rfl dL_law_1153 ?_
  refine g_iadd dL_law_1154 ?_
  refine g_sld hX hbl hbA dL_law_1155 (ix6_2 hi6 hL) ?_
  refine g_aload_n (i := 0) dL_law_1156 rfl rfl ?_
  refine g_iload_n (i := 3) dL_law_1157 rfl rfl ?_
  refine g_iconst (3) rfl dL_law_1158 ?_
  refine g_iadd dL_law_1159 ?_
  refine g_sld hX hbl hbA dL_law_1160 (ix6_3 hi6 hL) ?_
  refine g_callVX 3 gL_law_X9_vote rfl rfl rfl ⟨Nat.le_of_ble_eq_true rfl, Nat.le_of_ble_eq_true rfl⟩ ⟨by show kk + 0 + 0 ≤ 600000; omega, by show nn + 0 + 0 ≤ 7302250; omega⟩ (by exact Nat.le_of_ble_eq_true rfl) (by decide +kernel) rfl rfl rfl dL_law_1161 (M_vote _ D cy a2 S _ _ _) rfl (fun vu_2 wu_2 hu_2 => ?_)
  obtain ⟨rfl, rfl⟩ := hu_2
  refine g_pop2_2 rfl dL_law_1164 ?_
  refine g_goto 1373 dL_law_1165 (by decide) ?_
  exact hend a _ _ _ (kk + 0 + 0) (nn + 0 + 0) rfl (pi_vote hi9 _ _ _  hP) (by omega) (by omega)
set_option maxHeartbeats 4000000 in
set_option maxRecDepth 100000 in
/-- case 28: rate -/
theorem lc_28 {Γ : gT} {D : va_G} {cy : Nat → ClassId} {a a2 adK adV : Nat → Nat} {b L i kk nn : Nat} {xs : Nat → Int32} {T S : MS} {B : List BL} (hX : va_X b L xs (gSt Γ) (gHp Γ)) (hbl : b < (gHp Γ).size) (hbA : ¬ gAp Γ b) (hE9 : sAt (sE adK adV) Γ) (hi6 : 6 * i + 6 ≤ L) (hL : L ≤ 3072) (hP : PI (Rel i) i T B S) (hkk : kk ≤ 1000 + 3 * i) (hnn : nn ≤ 20000 + 19 * i) (hend : ∀ (a9 : Nat → Nat) (T9 : MS) (B9 : List BL) (S9 : MS) (k9 n9 : Nat), a9 200 = a 200 → PI (Rel (i + 1)) (i + 1) T9 B9 S9 → k9 ≤ 1000 + 3 * (i + 1) → n9 ≤ 20000 + 19 * (i + 1) → GL Γ D cy k9 n9 (CW cy a9 T9 B9 ++ MW cy a2 S9) 1373 [(0, .ref b), (1, .ref (a 200)), (2, .ref (a2 0)), (3, .int (nI (6 * i)))] []) : GL Γ D cy kk nn (CW cy a T B ++ MW cy a2 S) 1168 [(0, .ref b), (1, .ref (a 200)), (2, .ref (a2 0)), (3, .int (nI (6 * i)))] [] := by
  have hi9 : i < 600 := by omega
  refine g_aload_n (i := 1) dL_law_1168 rfl rfl ?_
  refine g_aload_n (i := 0) dL_law_1169 rfl rfl ?_
  refine g_iload_n (i := 3) dL_law_1170 rfl rfl ?_
  refine g_iconst (1) rfl dL_law_1171 ?_
  refine g_iadd dL_law_1172 ?_
  refine g_sld hX hbl hbA dL_law_1173 (ix6_1 hi6 hL) ?_
  refine g_callVX 1 gL_law_X8_rate rfl rfl rfl ⟨Nat.le_of_ble_eq_true rfl, Nat.le_of_ble_eq_true rfl⟩ ⟨by show kk + 0 ≤ 600000; omega, by show nn + 0 ≤ 7302250; omega⟩ (by exact Nat.le_of_ble_eq_true rfl) (by decide +kernel) rfl (cO_main _ _ _ _) rfl dL_law_1174 (K_rate _ D cy a T B _) rfl (fun vu_1 wu_1 hu_1 => ?_)
  obtain ⟨rfl, rfl⟩ := hu_1
  refine g_pop2_2 rfl dL_law_1177 ?_
  refine g_aload_n (i := 2) dL_law_1178 rfl rfl ?_
  refine g_aload_n (i := 0) dL_law_1179 rfl rfl ?_
  refine g_iload_n (i := 3) dL_law_1180 rfl rfl ?_
  refine g_iconst (1) rfl dL_law_1181 ?_
  refine g_iadd dL_law_1182 ?_
  refine g_sld hX hbl hbA dL_law_1183 (ix6_1 hi6 hL) ?_
  refine g_callVX 1 gL_law_X9_rate rfl rfl rfl ⟨Nat.le_of_ble_eq_true rfl, Nat.le_of_ble_eq_true rfl⟩ ⟨by show kk + 0 + 0 ≤ 600000; omega, by show nn + 0 + 0 ≤ 7302250; omega⟩ (by exact Nat.le_of_ble_eq_true rfl) (by decide +kernel) rfl rfl rfl dL_law_1184 (M_rate _ D cy a2 S _) rfl (fun vu_2 wu_2 hu_2 => ?_)
  obtain ⟨rfl, rfl⟩ := hu_2
  refine g_pop2_2 rfl dL_law_1187 ?_
  refine g_goto 1373 dL_law_1188 (by decide) ?_
  exact hend a _ _ _ (kk + 0 + 0) (nn + 0 + 0) rfl (pi_rate hi9 _  hP) (by omega) (by omega)
set_option maxHeartbeats 4000000 in
set_option maxRecDepth 100000 in
/-- case 29: offer -/
theorem lc_29 {Γ : gT} {D : va_G} {cy : Nat → ClassId} {a a2 adK adV : Nat → Nat} {b L i kk nn : Nat} {xs : Nat → Int32} {T S : MS} {B : List BL} (hX : va_X b L xs (gSt Γ) (gHp Γ)) (hbl : b < (gHp Γ).size) (hbA : ¬ gAp Γ b) (hE9 : sAt (sE adK adV) Γ) (hi6 : 6 * i + 6 ≤ L) (hL : L ≤ 3072) (hP : PI (Rel i) i T B S) (hkk : kk ≤ 1000 + 3 * i) (hnn : nn ≤ 20000 + 19 * i) (hend : ∀ (a9 : Nat → Nat) (T9 : MS) (B9 : List BL) (S9 : MS) (k9 n9 : Nat), a9 200 = a 200 → PI (Rel (i + 1)) (i + 1) T9 B9 S9 → k9 ≤ 1000 + 3 * (i + 1) → n9 ≤ 20000 + 19 * (i + 1) → GL Γ D cy k9 n9 (CW cy a9 T9 B9 ++ MW cy a2 S9) 1373 [(0, .ref b), (1, .ref (a 200)), (2, .ref (a2 0)), (3, .int (nI (6 * i)))] []) : GL Γ D cy kk nn (CW cy a T B ++ MW cy a2 S) 1191 [(0, .ref b), (1, .ref (a 200)), (2, .ref (a2 0)), (3, .int (nI (6 * i)))] [] := by
  have hi9 : i < 600 := by omega
  refine g_aload_n (i := 1) dL_law_1191 rfl rfl ?_
  refine g_aload_n (i := 0) dL_law_1192 rfl rfl ?_
  refine g_iload_n (i := 3) dL_law_1193 rfl rfl ?_
  refine g_iconst (1) rfl dL_law_1194 ?_
  refine g_iadd dL_law_1195 ?_
  refine g_sld hX hbl hbA dL_law_1196 (ix6_1 hi6 hL) ?_
  refine g_aload_n (i := 0) dL_law_1197 rfl rfl ?_
  refine g_iload_n (i := 3) dL_law_1198 rfl rfl ?_
  refine g_iconst (2) rfl dL_law_1199 ?_
  refine g_iadd dL_law_1200 ?_
  refine g_sld hX hbl hbA dL_law_1201 (ix6_2 hi6 hL) ?_
  refine g_aload_n (i := 0) dL_law_1202 rfl rfl ?_
  refine g_iload_n (i := 3) dL_law_1203 rfl rfl ?_
  refine g_iconst (3) rfl dL_law_1204 ?_
  refine g_iadd dL_law_1205 ?_
  refine g_sld hX hbl hbA dL_law_1206 (ix6_3 hi6 hL) ?_
  refine g_callVX 3 gL_law_X8_offer rfl rfl rfl ⟨Nat.le_of_ble_eq_true rfl, Nat.le_of_ble_eq_true rfl⟩ ⟨by show kk + 0 ≤ 600000; omega, by show nn + 0 ≤ 7302250; omega⟩ (by exact Nat.le_of_ble_eq_true rfl) (by decide +kernel) rfl (cO_main _ _ _ _) rfl dL_law_1207 (K_offer _ D cy a T B _ _ _) rfl (fun vu_1 wu_1 hu_1 => ?_)
  obtain ⟨rfl, rfl⟩ := hu_1
  refine g_pop2_2 rfl dL_law_1210 ?_
  refine g_aload_n (i := 2) dL_law_1211 rfl rfl ?_
  refine g_aload_n (i := 0) dL_law_1212 rfl rfl ?_
  refine g_iload_n (i := 3) dL_law_1213 rfl rfl ?_
  refine g_iconst (1) rfl dL_law_1214 ?_
  refine g_iadd dL_law_1215 ?_
  refine g_sld hX hbl hbA dL_law_1216 (ix6_1 hi6 hL) ?_
  refine g_aload_n (i := 0) dL_law_1217 rfl rfl ?_
  refine g_iload_n (i := 3) dL_law_1218 rfl rfl ?_
  refine g_iconst (2) rfl dL_law_1219 ?_
  refine g_iadd dL_law_1220 ?_
  refine g_sld hX hbl hbA dL_law_1221 (ix6_2 hi6 hL) ?_
  refine g_aload_n (i := 0) dL_law_1222 rfl rfl ?_
  refine g_iload_n (i := 3) dL_law_1223 rfl rfl ?_
  refine g_iconst (3) rfl dL_law_1224 ?_
  refine g_iadd dL_law_1225 ?_
  refine g_sld hX hbl hbA dL_law_1226 (ix6_3 hi6 hL) ?_
  refine g_callVX 3 gL_law_X9_offer rfl rfl rfl ⟨Nat.le_of_ble_eq_true rfl, Nat.le_of_ble_eq_true rfl⟩ ⟨by show kk + 0 + 0 ≤ 600000; omega, by show nn + 0 + 0 ≤ 7302250; omega⟩ (by exact Nat.le_of_ble_eq_true rfl) (by decide +kernel) rfl rfl rfl dL_law_1227 (M_offer _ D cy a2 S _ _ _) rfl (fun vu_2 wu_2 hu_2 => ?_)
  obtain ⟨rfl, rfl⟩ := hu_2
  refine g_pop2_2 rfl dL_law_1230 ?_
  refine g_goto 1373 dL_law_1231 (by decide) ?_
  exact hend a _ _ _ (kk + 0 + 0) (nn + 0 + 0) rfl (pi_offer hi9 _ _ _  hP) (by omega) (by omega)
set_option maxHeartbeats 4000000 in
set_option maxRecDepth 100000 in
/-- case 30: turn -/
theorem lc_30 {Γ : gT} {D : va_G} {cy : Nat → ClassId} {a a2 adK adV : Nat → Nat} {b L i kk nn : Nat} {xs : Nat → Int32} {T S : MS} {B : List BL} (hX : va_X b L xs (gSt Γ) (gHp Γ)) (hbl : b < (gHp Γ).size) (hbA : ¬ gAp Γ b) (hE9 : sAt (sE adK adV) Γ) (hi6 : 6 * i + 6 ≤ L) (hL : L ≤ 3072) (hP : PI (Rel i) i T B S) (hkk : kk ≤ 1000 + 3 * i) (hnn : nn ≤ 20000 + 19 * i) (hend : ∀ (a9 : Nat → Nat) (T9 : MS) (B9 : List BL) (S9 : MS) (k9 n9 : Nat), a9 200 = a 200 → PI (Rel (i + 1)) (i + 1) T9 B9 S9 → k9 ≤ 1000 + 3 * (i + 1) → n9 ≤ 20000 + 19 * (i + 1) → GL Γ D cy k9 n9 (CW cy a9 T9 B9 ++ MW cy a2 S9) 1373 [(0, .ref b), (1, .ref (a 200)), (2, .ref (a2 0)), (3, .int (nI (6 * i)))] []) : GL Γ D cy kk nn (CW cy a T B ++ MW cy a2 S) 1234 [(0, .ref b), (1, .ref (a 200)), (2, .ref (a2 0)), (3, .int (nI (6 * i)))] [] := by
  have hi9 : i < 600 := by omega
  refine g_aload_n (i := 1) dL_law_1234 rfl rfl ?_
  refine g_callVX 0 gL_law_X8_turn rfl rfl rfl ⟨Nat.le_of_ble_eq_true rfl, Nat.le_of_ble_eq_true rfl⟩ ⟨by show kk + 0 ≤ 600000; omega, by show nn + 0 ≤ 7302250; omega⟩ (by exact Nat.le_of_ble_eq_true rfl) (by decide +kernel) rfl (cO_main _ _ _ _) rfl dL_law_1235 (K_turn _ D cy a T B ) rfl (fun vu_1 wu_1 hu_1 => ?_)
  obtain ⟨rfl, rfl⟩ := hu_1
  refine g_pop2_2 rfl dL_law_1238 ?_
  refine g_aload_n (i := 2) dL_law_1239 rfl rfl ?_
  refine g_callVX 0 gL_law_X9_turn rfl rfl rfl ⟨Nat.le_of_ble_eq_true rfl, Nat.le_of_ble_eq_true rfl⟩ ⟨by show kk + 0 + 0 ≤ 600000; omega, by show nn + 0 + 0 ≤ 7302250; omega⟩ (by exact Nat.le_of_ble_eq_true rfl) (by decide +kernel) rfl rfl rfl dL_law_1240 (M_turn _ D cy a2 S ) rfl (fun vu_2 wu_2 hu_2 => ?_)
  obtain ⟨rfl, rfl⟩ := hu_2
  refine g_pop2_2 rfl dL_law_1243 ?_
  refine g_goto 1373 dL_law_1244 (by decide) ?_
  exact hend a _ _ _ (kk + 0 + 0) (nn + 0 + 0) rfl (pi_turn hi9   hP) (by omega) (by omega)
set_option maxHeartbeats 4000000 in
set_option maxRecDepth 100000 in
/-- case 31: part -/
theorem lc_31 {Γ : gT} {D : va_G} {cy : Nat → ClassId} {a a2 adK adV : Nat → Nat} {b L i kk nn : Nat} {xs : Nat → Int32} {T S : MS} {B : List BL} (hX : va_X b L xs (gSt Γ) (gHp Γ)) (hbl : b < (gHp Γ).size) (hbA : ¬ gAp Γ b) (hE9 : sAt (sE adK adV) Γ) (hi6 : 6 * i + 6 ≤ L) (hL : L ≤ 3072) (hP : PI (Rel i) i T B S) (hkk : kk ≤ 1000 + 3 * i) (hnn : nn ≤ 20000 + 19 * i) (hend : ∀ (a9 : Nat → Nat) (T9 : MS) (B9 : List BL) (S9 : MS) (k9 n9 : Nat), a9 200 = a 200 → PI (Rel (i + 1)) (i + 1) T9 B9 S9 → k9 ≤ 1000 + 3 * (i + 1) → n9 ≤ 20000 + 19 * (i + 1) → GL Γ D cy k9 n9 (CW cy a9 T9 B9 ++ MW cy a2 S9) 1373 [(0, .ref b), (1, .ref (a 200)), (2, .ref (a2 0)), (3, .int (nI (6 * i)))] []) : GL Γ D cy kk nn (CW cy a T B ++ MW cy a2 S) 1247 [(0, .ref b), (1, .ref (a 200)), (2, .ref (a2 0)), (3, .int (nI (6 * i)))] [] := by
  have hi9 : i < 600 := by omega
  refine g_aload_n (i := 1) dL_law_1247 rfl rfl ?_
  refine g_aload_n (i := 0) dL_law_1248 rfl rfl ?_
  refine g_iload_n (i := 3) dL_law_1249 rfl rfl ?_
  refine g_iconst (1) rfl dL_law_1250 ?_
  refine g_iadd dL_law_1251 ?_
  refine g_sld hX hbl hbA dL_law_1252 (ix6_1 hi6 hL) ?_
  refine g_aload_n (i := 0) dL_law_1253 rfl rfl ?_
  refine g_iload_n (i := 3) dL_law_1254 rfl rfl ?_
  refine g_iconst (2) rfl dL_law_1255 ?_
  refine g_iadd dL_law_1256 ?_
  refine g_sld hX hbl hbA dL_law_1257 (ix6_2 hi6 hL) ?_
  refine g_aload_n (i := 0) dL_law_1258 rfl rfl ?_
  refine g_iload_n (i := 3) dL_law_1259 rfl rfl ?_
  refine g_iconst (3) rfl dL_law_1260 ?_
  refine g_iadd dL_law_1261 ?_
  refine g_sld hX hbl hbA dL_law_1262 (ix6_3 hi6 hL) ?_
  refine g_callVX 3 gL_law_X8_part rfl rfl rfl ⟨Nat.le_of_ble_eq_true rfl, Nat.le_of_ble_eq_true rfl⟩ ⟨by show kk + 0 ≤ 600000; omega, by show nn + 0 ≤ 7302250; omega⟩ (by exact Nat.le_of_ble_eq_true rfl) (by decide +kernel) rfl (cO_main _ _ _ _) rfl dL_law_1263 (K_part _ D cy a T B hP.1.1 _ _ _) rfl (fun vu_1 wu_1 hu_1 => ?_)
  rcases hu_1 with ⟨hc9, rfl, rfl⟩ | ⟨hc9, s1, s2, rfl, rfl, hs1, hs2⟩
  · skip
    refine g_pop2_2 rfl dL_law_1266 ?_
    refine g_aload_n (i := 2) dL_law_1267 rfl rfl ?_
    refine g_aload_n (i := 0) dL_law_1268 rfl rfl ?_
    refine g_iload_n (i := 3) dL_law_1269 rfl rfl ?_
    refine g_iconst (1) rfl dL_law_1270 ?_
    refine g_iadd dL_law_1271 ?_
    refine g_sld hX hbl hbA dL_law_1272 (ix6_1 hi6 hL) ?_
    refine g_aload_n (i := 0) dL_law_1273 rfl rfl ?_
    refine g_iload_n (i := 3) dL_law_1274 rfl rfl ?_
    refine g_iconst (2) rfl dL_law_1275 ?_
    refine g_iadd dL_law_1276 ?_
    refine g_sld hX hbl hbA dL_law_1277 (ix6_2 hi6 hL) ?_
    refine g_aload_n (i := 0) dL_law_1278 rfl rfl ?_
    refine g_iload_n (i := 3) dL_law_1279 rfl rfl ?_
    refine g_iconst (3) rfl dL_law_1280 ?_
    refine g_iadd dL_law_1281 ?_
    refine g_sld hX hbl hbA dL_law_1282 (ix6_3 hi6 hL) ?_
    refine g_callVX 3 gL_law_X9_part rfl rfl rfl ⟨Nat.le_of_ble_eq_true rfl, Nat.le_of_ble_eq_true rfl⟩ ⟨by show kk + 0 + 0 ≤ 600000; omega, by show nn + 0 + 0 ≤ 7302250; omega⟩ (by exact Nat.le_of_ble_eq_true rfl) (by decide +kernel) rfl rfl rfl dL_law_1283 (M_part2 _ D cy a2 S hP.2.1 _ _ _) rfl (fun vu_2 wu_2 hu_2 => ?_)
    obtain ⟨rfl, rfl⟩ := hu_2
    refine g_pop2_2 rfl dL_law_1286 ?_
    refine g_goto 1373 dL_law_1287 (by decide) ?_
    exact hend a _ _ _ (kk + 0 + 0) (nn + 0 + 0) rfl (pi_partN hi9 _ _ _ hc9 hP) (by omega) (by omega)
  · skip
    refine g_pop2_2 rfl dL_law_1266 ?_
    refine g_aload_n (i := 2) dL_law_1267 rfl rfl ?_
    refine g_aload_n (i := 0) dL_law_1268 rfl rfl ?_
    refine g_iload_n (i := 3) dL_law_1269 rfl rfl ?_
    refine g_iconst (1) rfl dL_law_1270 ?_
    refine g_iadd dL_law_1271 ?_
    refine g_sld hX hbl hbA dL_law_1272 (ix6_1 hi6 hL) ?_
    refine g_aload_n (i := 0) dL_law_1273 rfl rfl ?_
    refine g_iload_n (i := 3) dL_law_1274 rfl rfl ?_
    refine g_iconst (2) rfl dL_law_1275 ?_
    refine g_iadd dL_law_1276 ?_
    refine g_sld hX hbl hbA dL_law_1277 (ix6_2 hi6 hL) ?_
    refine g_aload_n (i := 0) dL_law_1278 rfl rfl ?_
    refine g_iload_n (i := 3) dL_law_1279 rfl rfl ?_
    refine g_iconst (3) rfl dL_law_1280 ?_
    refine g_iadd dL_law_1281 ?_
    refine g_sld hX hbl hbA dL_law_1282 (ix6_3 hi6 hL) ?_
    refine g_callVX 3 gL_law_X9_part rfl rfl rfl ⟨Nat.le_of_ble_eq_true rfl, Nat.le_of_ble_eq_true rfl⟩ ⟨by show kk + 0 + 0 ≤ 600000; omega, by show nn + 0 + 0 ≤ 7302250; omega⟩ (by exact Nat.le_of_ble_eq_true rfl) (by decide +kernel) rfl rfl rfl dL_law_1283 (M_part2 _ D cy a2 S hP.2.1 _ _ _) rfl (fun vu_3 wu_3 hu_3 => ?_)
    obtain ⟨rfl, rfl⟩ := hu_3
    refine g_pop2_2 rfl dL_law_1286 ?_
    refine g_goto 1373 dL_law_1287 (by decide) ?_
    exact hend a _ _ _ (kk + 0 + 0) (nn + 0 + 0) rfl (pi_partY hi9 _ _ _ hc9 hP) (by omega) (by omega)
set_option maxHeartbeats 4000000 in
set_option maxRecDepth 100000 in
/-- case 32: tell -/
theorem lc_32 {Γ : gT} {D : va_G} {cy : Nat → ClassId} {a a2 adK adV : Nat → Nat} {b L i kk nn : Nat} {xs : Nat → Int32} {T S : MS} {B : List BL} (hX : va_X b L xs (gSt Γ) (gHp Γ)) (hbl : b < (gHp Γ).size) (hbA : ¬ gAp Γ b) (hE9 : sAt (sE adK adV) Γ) (hi6 : 6 * i + 6 ≤ L) (hL : L ≤ 3072) (hP : PI (Rel i) i T B S) (hkk : kk ≤ 1000 + 3 * i) (hnn : nn ≤ 20000 + 19 * i) (hend : ∀ (a9 : Nat → Nat) (T9 : MS) (B9 : List BL) (S9 : MS) (k9 n9 : Nat), a9 200 = a 200 → PI (Rel (i + 1)) (i + 1) T9 B9 S9 → k9 ≤ 1000 + 3 * (i + 1) → n9 ≤ 20000 + 19 * (i + 1) → GL Γ D cy k9 n9 (CW cy a9 T9 B9 ++ MW cy a2 S9) 1373 [(0, .ref b), (1, .ref (a 200)), (2, .ref (a2 0)), (3, .int (nI (6 * i)))] []) : GL Γ D cy kk nn (CW cy a T B ++ MW cy a2 S) 1290 [(0, .ref b), (1, .ref (a 200)), (2, .ref (a2 0)), (3, .int (nI (6 * i)))] [] := by
  have hi9 : i < 600 := by omega
  refine g_aload_n (i := 1) dL_law_1290 rfl rfl ?_
  refine g_aload_n (i := 0) dL_law_1291 rfl rfl ?_
  refine g_iload_n (i := 3) dL_law_1292 rfl rfl ?_
  refine g_iconst (1) rfl dL_law_1293 ?_
  refine g_iadd dL_law_1294 ?_
  refine g_sld hX hbl hbA dL_law_1295 (ix6_1 hi6 hL) ?_
  refine g_callVX 1 gL_law_X8_tell rfl rfl rfl ⟨Nat.le_of_ble_eq_true rfl, Nat.le_of_ble_eq_true rfl⟩ ⟨by show kk + 0 ≤ 600000; omega, by show nn + 0 ≤ 7302250; omega⟩ (by exact Nat.le_of_ble_eq_true rfl) (by decide +kernel) rfl (cO_main _ _ _ _) rfl dL_law_1296 (K_tell _ D cy a T B hP.1.2.2.1 _) rfl (fun vu_1 wu_1 hu_1 => ?_)
  obtain ⟨rfl, rfl⟩ := hu_1
  refine g_pop2_2 rfl dL_law_1299 ?_
  refine g_aload_n (i := 2) dL_law_1300 rfl rfl ?_
  refine g_aload_n (i := 0) dL_law_1301 rfl rfl ?_
  refine g_iload_n (i := 3) dL_law_1302 rfl rfl ?_
  refine g_iconst (1) rfl dL_law_1303 ?_
  refine g_iadd dL_law_1304 ?_
  refine g_sld hX hbl hbA dL_law_1305 (ix6_1 hi6 hL) ?_
  refine g_callVX 1 gL_law_X9_tell rfl rfl rfl ⟨Nat.le_of_ble_eq_true rfl, Nat.le_of_ble_eq_true rfl⟩ ⟨by show kk + 0 + 0 ≤ 600000; omega, by show nn + 0 + 0 ≤ 7302250; omega⟩ (by exact Nat.le_of_ble_eq_true rfl) (by decide +kernel) rfl rfl rfl dL_law_1306 (M_tell _ D cy a2 S hP.2.1.1 _) rfl (fun vu_2 wu_2 hu_2 => ?_)
  obtain ⟨rfl, rfl⟩ := hu_2
  refine g_pop2_2 rfl dL_law_1309 ?_
  refine g_goto 1373 dL_law_1310 (by decide) ?_
  exact hend a _ _ _ (kk + 0 + 0) (nn + 0 + 0) rfl (pi_tell hi9 _  hP) (by omega) (by omega)
set_option maxHeartbeats 4000000 in
set_option maxRecDepth 100000 in
/-- case 33: check -/
theorem lc_33 {Γ : gT} {D : va_G} {cy : Nat → ClassId} {a a2 adK adV : Nat → Nat} {b L i kk nn : Nat} {xs : Nat → Int32} {T S : MS} {B : List BL} (hX : va_X b L xs (gSt Γ) (gHp Γ)) (hbl : b < (gHp Γ).size) (hbA : ¬ gAp Γ b) (hE9 : sAt (sE adK adV) Γ) (hi6 : 6 * i + 6 ≤ L) (hL : L ≤ 3072) (hP : PI (Rel i) i T B S) (hkk : kk ≤ 1000 + 3 * i) (hnn : nn ≤ 20000 + 19 * i) (hend : ∀ (a9 : Nat → Nat) (T9 : MS) (B9 : List BL) (S9 : MS) (k9 n9 : Nat), a9 200 = a 200 → PI (Rel (i + 1)) (i + 1) T9 B9 S9 → k9 ≤ 1000 + 3 * (i + 1) → n9 ≤ 20000 + 19 * (i + 1) → GL Γ D cy k9 n9 (CW cy a9 T9 B9 ++ MW cy a2 S9) 1373 [(0, .ref b), (1, .ref (a 200)), (2, .ref (a2 0)), (3, .int (nI (6 * i)))] []) : GL Γ D cy kk nn (CW cy a T B ++ MW cy a2 S) 1313 [(0, .ref b), (1, .ref (a 200)), (2, .ref (a2 0)), (3, .int (nI (6 * i)))] [] := by
  have hi9 : i < 600 := by omega
  obtain ⟨U, N, hPl, hOk, hF, hp, hs⟩ := pl_ex (S := sI S 20 0) (Mi_le hi9).1 hP.2.1.2.2.2.1
  refine g_aload_n (i := 1) dL_law_1313 rfl rfl ?_
  refine g_callVX 0 gL_law_X8_check rfl rfl rfl ⟨Nat.le_of_ble_eq_true rfl, Nat.le_of_ble_eq_true rfl⟩ ⟨by show kk + 0 ≤ 600000; omega, by show nn + 0 ≤ 7302250; omega⟩ (by exact Nat.le_of_ble_eq_true rfl) (by decide +kernel) rfl (cO_main _ _ _ _) rfl dL_law_1314 (K_check _ D cy a T B hP.1.2.2.2.2.2.2.1 hP.1.2.2.1) rfl (fun vu_1 wu_1 hu_1 => ?_)
  obtain ⟨rfl, rfl⟩ := hu_1
  refine g_pop2_2 rfl dL_law_1317 ?_
  refine g_aload_n (i := 2) dL_law_1318 rfl rfl ?_
  refine g_callVX 0 gL_law_X9_check rfl rfl rfl ⟨Nat.le_of_ble_eq_true rfl, Nat.le_of_ble_eq_true rfl⟩ ⟨by show kk + 0 + 0 ≤ 600000; omega, by show nn + 0 + 0 ≤ 7302250; omega⟩ (by exact Nat.le_of_ble_eq_true rfl) (by decide +kernel) rfl rfl rfl dL_law_1319 (M_check _ D cy a2 S hP.2.1.1 U hPl N hOk) rfl (fun vu_2 wu_2 hu_2 => ?_)
  obtain ⟨rfl, rfl⟩ := hu_2
  refine g_pop2_2 rfl dL_law_1322 ?_
  refine g_goto 1373 dL_law_1323 (by decide) ?_
  exact hend a _ _ _ (kk + 0 + 0) (nn + 0 + 0) rfl (pi_check hi9  hF hPl hOk hP) (by omega) (by omega)
set_option maxHeartbeats 4000000 in
set_option maxRecDepth 100000 in
/-- case 34: count -/
theorem lc_34 {Γ : gT} {D : va_G} {cy : Nat → ClassId} {a a2 adK adV : Nat → Nat} {b L i kk nn : Nat} {xs : Nat → Int32} {T S : MS} {B : List BL} (hX : va_X b L xs (gSt Γ) (gHp Γ)) (hbl : b < (gHp Γ).size) (hbA : ¬ gAp Γ b) (hE9 : sAt (sE adK adV) Γ) (hi6 : 6 * i + 6 ≤ L) (hL : L ≤ 3072) (hP : PI (Rel i) i T B S) (hkk : kk ≤ 1000 + 3 * i) (hnn : nn ≤ 20000 + 19 * i) (hend : ∀ (a9 : Nat → Nat) (T9 : MS) (B9 : List BL) (S9 : MS) (k9 n9 : Nat), a9 200 = a 200 → PI (Rel (i + 1)) (i + 1) T9 B9 S9 → k9 ≤ 1000 + 3 * (i + 1) → n9 ≤ 20000 + 19 * (i + 1) → GL Γ D cy k9 n9 (CW cy a9 T9 B9 ++ MW cy a2 S9) 1373 [(0, .ref b), (1, .ref (a 200)), (2, .ref (a2 0)), (3, .int (nI (6 * i)))] []) : GL Γ D cy kk nn (CW cy a T B ++ MW cy a2 S) 1326 [(0, .ref b), (1, .ref (a 200)), (2, .ref (a2 0)), (3, .int (nI (6 * i)))] [] := by
  have hi9 : i < 600 := by omega
  refine g_aload_n (i := 1) dL_law_1326 rfl rfl ?_
  refine g_aload_n (i := 0) dL_law_1327 rfl rfl ?_
  refine g_iload_n (i := 3) dL_law_1328 rfl rfl ?_
  refine g_iconst (1) rfl dL_law_1329 ?_
  refine g_iadd dL_law_1330 ?_
  refine g_sld hX hbl hbA dL_law_1331 (ix6_1 hi6 hL) ?_
  refine g_callVX 1 gL_law_X8_count rfl rfl rfl ⟨Nat.le_of_ble_eq_true rfl, Nat.le_of_ble_eq_true rfl⟩ ⟨by show kk + 0 ≤ 600000; omega, by show nn + 0 ≤ 7302250; omega⟩ (by exact Nat.le_of_ble_eq_true rfl) (by decide +kernel) rfl (cO_main _ _ _ _) rfl dL_law_1332 (K_count _ D cy a T B _) rfl (fun vu_1 wu_1 hu_1 => ?_)
  obtain ⟨rfl, rfl⟩ := hu_1
  refine g_pop2_2 rfl dL_law_1335 ?_
  refine g_aload_n (i := 2) dL_law_1336 rfl rfl ?_
  refine g_aload_n (i := 0) dL_law_1337 rfl rfl ?_
  refine g_iload_n (i := 3) dL_law_1338 rfl rfl ?_
  refine g_iconst (1) rfl dL_law_1339 ?_
  refine g_iadd dL_law_1340 ?_
  refine g_sld hX hbl hbA dL_law_1341 (ix6_1 hi6 hL) ?_
  refine g_callVX 1 gL_law_X9_count rfl rfl rfl ⟨Nat.le_of_ble_eq_true rfl, Nat.le_of_ble_eq_true rfl⟩ ⟨by show kk + 0 + 0 ≤ 600000; omega, by show nn + 0 + 0 ≤ 7302250; omega⟩ (by exact Nat.le_of_ble_eq_true rfl) (by decide +kernel) rfl rfl rfl dL_law_1342 (M_count _ D cy a2 S _) rfl (fun vu_2 wu_2 hu_2 => ?_)
  obtain ⟨rfl, rfl⟩ := hu_2
  refine g_pop2_2 rfl dL_law_1345 ?_
  refine g_goto 1373 dL_law_1346 (by decide) ?_
  exact hend a _ _ _ (kk + 0 + 0) (nn + 0 + 0) rfl (pi_count hi9 _  hP) (by omega) (by omega)
set_option maxHeartbeats 4000000 in
set_option maxRecDepth 100000 in
/-- case 35: found -/
theorem lc_35 {Γ : gT} {D : va_G} {cy : Nat → ClassId} {a a2 adK adV : Nat → Nat} {b L i kk nn : Nat} {xs : Nat → Int32} {T S : MS} {B : List BL} (hX : va_X b L xs (gSt Γ) (gHp Γ)) (hbl : b < (gHp Γ).size) (hbA : ¬ gAp Γ b) (hE9 : sAt (sE adK adV) Γ) (hi6 : 6 * i + 6 ≤ L) (hL : L ≤ 3072) (hP : PI (Rel i) i T B S) (hkk : kk ≤ 1000 + 3 * i) (hnn : nn ≤ 20000 + 19 * i) (hend : ∀ (a9 : Nat → Nat) (T9 : MS) (B9 : List BL) (S9 : MS) (k9 n9 : Nat), a9 200 = a 200 → PI (Rel (i + 1)) (i + 1) T9 B9 S9 → k9 ≤ 1000 + 3 * (i + 1) → n9 ≤ 20000 + 19 * (i + 1) → GL Γ D cy k9 n9 (CW cy a9 T9 B9 ++ MW cy a2 S9) 1373 [(0, .ref b), (1, .ref (a 200)), (2, .ref (a2 0)), (3, .int (nI (6 * i)))] []) : GL Γ D cy kk nn (CW cy a T B ++ MW cy a2 S) 1349 [(0, .ref b), (1, .ref (a 200)), (2, .ref (a2 0)), (3, .int (nI (6 * i)))] [] := by
  have hi9 : i < 600 := by omega
  refine g_aload_n (i := 1) dL_law_1349 rfl rfl ?_
  refine g_aload_n (i := 0) dL_law_1350 rfl rfl ?_
  refine g_iload_n (i := 3) dL_law_1351 rfl rfl ?_
  refine g_iconst (1) rfl dL_law_1352 ?_
  refine g_iadd dL_law_1353 ?_
  refine g_sld hX hbl hbA dL_law_1354 (ix6_1 hi6 hL) ?_
  refine g_callVX 1 gL_law_X8_found rfl rfl rfl ⟨Nat.le_of_ble_eq_true rfl, Nat.le_of_ble_eq_true rfl⟩ ⟨by show kk + 0 ≤ 600000; omega, by show nn + 0 ≤ 7302250; omega⟩ (by exact Nat.le_of_ble_eq_true rfl) (by decide +kernel) rfl (cO_main _ _ _ _) rfl dL_law_1355 (K_found _ D cy a T B _) rfl (fun vu_1 wu_1 hu_1 => ?_)
  obtain ⟨rfl, rfl⟩ := hu_1
  refine g_aload_n (i := 2) dL_law_1358 rfl rfl ?_
  refine g_aload_n (i := 0) dL_law_1359 rfl rfl ?_
  refine g_iload_n (i := 3) dL_law_1360 rfl rfl ?_
  refine g_iconst (1) rfl dL_law_1361 ?_
  refine g_iadd dL_law_1362 ?_
  refine g_sld hX hbl hbA dL_law_1363 (ix6_1 hi6 hL) ?_
  refine g_callVX 1 gL_law_X9_found rfl rfl rfl ⟨Nat.le_of_ble_eq_true rfl, Nat.le_of_ble_eq_true rfl⟩ ⟨by show kk + 0 + 0 ≤ 600000; omega, by show nn + 0 + 0 ≤ 7302250; omega⟩ (by exact Nat.le_of_ble_eq_true rfl) (by decide +kernel) rfl rfl rfl dL_law_1364 (M_found _ D cy a2 S _) rfl (fun vu_2 wu_2 hu_2 => ?_)
  obtain ⟨rfl, rfl⟩ := hu_2
  refine g_lcmp_eq 1373 dL_law_1367 dL_law_1368 (by decide) (fun c_3 => ?_) (fun c_3 => ?_)
  · skip
    exact hend a _ _ _ (kk + 0 + 0) (nn + 0 + 0) rfl (pi_found hi9 _  hP) (by omega) (by omega)
  · skip
    exact absurd (eq_m hi9 _  hP) c_3
