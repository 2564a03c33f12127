theorem tsw36 (y : Int32) (h : vp_in y 64) : (∃ j, j < 36 ∧ y = nI j) ∨ (y.toInt < 0 ∨ 35 < y.toInt) := by
  obtain ⟨j, hj, rfl⟩ := vp_in_of h (by decide)
  by_cases h36 : j < 36
  · exact Or.inl ⟨j, h36, rfl⟩
  · rw [nI_toInt (by omega)]
    exact Or.inr (Or.inr (by omega))
theorem i6s (i : Nat) : nI (6 * i) + 6 = nI (6 * (i + 1)) := by
  rw [show (6 : Int32) = nI 6 from by decide, nI_add, Nat.mul_add]
theorem lcgt {i L : Nat} (hi : i ≤ 600) (hL : L ≤ 3072) : (nI L - 6 < nI (6 * i)) ↔ ¬ 6 * i + 6 ≤ L := by
  have e6 : (6 : Int32).toInt = 6 := by decide
  rw [Int32.lt_iff_toInt_lt, I_sub (by rw [nI_toInt (by omega), e6]; omega) (by rw [nI_toInt (by omega), e6]; omega), nI_toInt (by omega), nI_toInt (by omega), e6]
  omega
set_option maxHeartbeats 4000000 in
set_option maxRecDepth 100000 in
/-- the law's loop, from call i on: at most m calls more -/
theorem law_loop {Γ : gT} {D : va_G} {cy : Nat → ClassId} {a2 adK adV : Nat → Nat} {b L q : Nat} {xs : Nat → Int32} (hX : va_X b L xs (gSt Γ) (gHp Γ)) (hbl : b < (gHp Γ).size) (hbA : ¬ gAp Γ b) (hE9 : sAt (sE adK adV) Γ) (hL : L ≤ 3072) : ∀ (m i kk nn : Nat) (a : Nat → Nat) (T S : MS) (B : List BL), L ≤ 6 * i + 6 * m + 5 → i ≤ 512 → a 200 = q → PI (Rel i) i T B S → kk ≤ 1000 + 3 * i → nn ≤ 20000 + 19 * i → GL Γ D cy kk nn (CW cy a T B ++ MW cy a2 S) 18 [(0, .ref b), (1, .ref q), (2, .ref (a2 0)), (3, .int (nI (6 * i)))] [] := by
  intro m
  induction m with
  | zero =>
    intro i kk nn a T S B hm hi hq hP hkk hnn
    refine g_iload_n (i := 3) dL_law_18 rfl rfl ?_
    refine g_aload_n (i := 0) dL_law_19 rfl rfl ?_
    refine g_slen hX hbl hbA dL_law_20 ?_
    refine g_bipush (6) rfl dL_law_21 ?_
    refine g_isub dL_law_23 ?_
    refine g_icmp_gt 1379 dL_law_24 (by decide) (fun c1 => ?_) (fun c1 => absurd ((lcgt (by omega) hL).mpr (by omega)) c1)
    refine g_iconst (1) rfl dL_law_1379 ?_
    refine g_widen 600000 7302250 (by omega) (by omega) ?_
    refine g_iret dL_law_1380 ?_
    rfl
  | succ m ih =>
    intro i kk nn a T S B hm hi hq hP hkk hnn
    subst hq
    refine g_iload_n (i := 3) dL_law_18 rfl rfl ?_
    refine g_aload_n (i := 0) dL_law_19 rfl rfl ?_
    refine g_slen hX hbl hbA dL_law_20 ?_
    refine g_bipush (6) rfl dL_law_21 ?_
    refine g_isub dL_law_23 ?_
    refine g_icmp_gt 1379 dL_law_24 (by decide) (fun c1 => ?_) (fun c1 => ?_)
    · skip
      refine g_iconst (1) rfl dL_law_1379 ?_
      refine g_widen 600000 7302250 (by omega) (by omega) ?_
      refine g_iret dL_law_1380 ?_
      rfl
    · have hi6 : 6 * i + 6 ≤ L := (by by_cases h9 : 6 * i + 6 ≤ L; exact h9; exact absurd ((lcgt (by omega) hL).mpr h9) c1)
      have hend : ∀ (a9 : Nat → Nat) (T9 : MS) (B9 : List BL) (S9 : MS) (k9 n9 : Nat), a9 200 = a 200 → PI (Rel (i + 1)) (i + 1) T9 B9 S9 → k9 ≤ 1000 + 3 * (i + 1) → n9 ≤ 20000 + 19 * (i + 1) → GL Γ D cy k9 n9 (CW cy a9 T9 B9 ++ MW cy a2 S9) 1373 [(0, .ref b), (1, .ref (a 200)), (2, .ref (a2 0)), (3, .int (nI (6 * i)))] [] := by
        intro a9 T9 B9 S9 k9 n9 ha9 hP9 hk9 hn9
        refine g_iinc (6) dL_law_1373 rfl rfl (by decide) ?_
        refine g_goto 18 dL_law_1376 (by decide) ?_
        exact g_to _ _ (ih (i + 1) k9 n9 a9 T9 S9 B9 (by omega) (by omega) ha9 hP9 hk9 hn9) rfl ⟨rfl, rfl, rfl, (by rw [← i6s]; rfl), trivial⟩
      refine g_aload_n (i := 0) dL_law_27 rfl rfl ?_
      refine g_iload_n (i := 3) dL_law_28 rfl rfl ?_
      refine g_sld hX hbl hbA dL_law_29 (ix6_0 hi6 hL) ?_
      refine g_bipush (63) rfl dL_law_30 ?_
      refine g_iand dL_law_32 ?_
      rcases tsw36 _ (pk_andIn (xs ((nI (6 * i)).toNatClampNeg)) (m := 63) 6 (by decide) (by decide)) with ⟨j, hj, e⟩ | h
      · rw [e]
        obtain rfl | rfl | rfl | rfl | rfl | rfl | rfl | rfl | rfl | rfl | rfl | rfl | rfl | rfl | rfl | rfl | rfl | rfl | rfl | rfl | rfl | rfl | rfl | rfl | rfl | rfl | rfl | rfl | rfl | rfl | rfl | rfl | rfl | rfl | rfl | rfl := (show j = 0 ∨ j = 1 ∨ j = 2 ∨ j = 3 ∨ j = 4 ∨ j = 5 ∨ j = 6 ∨ j = 7 ∨ j = 8 ∨ j = 9 ∨ j = 10 ∨ j = 11 ∨ j = 12 ∨ j = 13 ∨ j = 14 ∨ j = 15 ∨ j = 16 ∨ j = 17 ∨ j = 18 ∨ j = 19 ∨ j = 20 ∨ j = 21 ∨ j = 22 ∨ j = 23 ∨ j = 24 ∨ j = 25 ∨ j = 26 ∨ j = 27 ∨ j = 28 ∨ j = 29 ∨ j = 30 ∨ j = 31 ∨ j = 32 ∨ j = 33 ∨ j = 34 ∨ j = 35 by omega)
        · exact g_tabIn 192 dL_law_33 (by decide) (by decide) rfl (by decide) (lc_0 hX hbl hbA hE9 hi6 hL hP hkk hnn hend)
        · exact g_tabIn 215 dL_law_33 (by decide) (by decide) rfl (by decide) (lc_1 hX hbl hbA hE9 hi6 hL hP hkk hnn hend)
        · exact g_tabIn 238 dL_law_33 (by decide) (by decide) rfl (by decide) (lc_2 hX hbl hbA hE9 hi6 hL hP hkk hnn hend)
        · exact g_tabIn 271 dL_law_33 (by decide) (by decide) rfl (by decide) (lc_3 hX hbl hbA hE9 hi6 hL hP hkk hnn hend)
        · exact g_tabIn 304 dL_law_33 (by decide) (by decide) rfl (by decide) (lc_4 hX hbl hbA hE9 hi6 hL hP hkk hnn hend)
        · exact g_tabIn 367 dL_law_33 (by decide) (by decide) rfl (by decide) (lc_5 hX hbl hbA hE9 hi6 hL hP hkk hnn hend)
        · exact g_tabIn 400 dL_law_33 (by decide) (by decide) rfl (by decide) (lc_6 hX hbl hbA hE9 hi6 hL hP hkk hnn hend)
        · exact g_tabIn 449 dL_law_33 (by decide) (by decide) rfl (by decide) (lc_7 hX hbl hbA hE9 hi6 hL hP hkk hnn hend)
        · exact g_tabIn 472 dL_law_33 (by decide) (by decide) rfl (by decide) (lc_8 hX hbl hbA hE9 hi6 hL hP hkk hnn hend)
        · exact g_tabIn 495 dL_law_33 (by decide) (by decide) rfl (by decide) (lc_9 hX hbl hbA hE9 hi6 hL hP hkk hnn hend)
        · exact g_tabIn 528 dL_law_33 (by decide) (by decide) rfl (by decide) (lc_10 hX hbl hbA hE9 hi6 hL hP hkk hnn hend)
        · exact g_tabIn 561 dL_law_33 (by decide) (by decide) rfl (by decide) (lc_11 hX hbl hbA hE9 hi6 hL hP hkk hnn hend)
        · exact g_tabIn 594 dL_law_33 (by decide) (by decide) rfl (by decide) (lc_12 hX hbl hbA hE9 hi6 hL hP hkk hnn hend)
        · exact g_tabIn 637 dL_law_33 (by decide) (by decide) rfl (by decide) (lc_13 hX hbl hbA hE9 hi6 hL hP hkk hnn hend)
        · exact g_tabIn 700 dL_law_33 (by decide) (by decide) rfl (by decide) (lc_14 hX hbl hbA hE9 hi6 hL hP hkk hnn hend)
        · exact g_tabIn 713 dL_law_33 (by decide) (by decide) rfl (by decide) (lc_15 hX hbl hbA hE9 hi6 hL hP hkk hnn hend)
        · exact g_tabIn 726 dL_law_33 (by decide) (by decide) rfl (by decide) (lc_16 hX hbl hbA hE9 hi6 hL hP hkk hnn hend)
        · exact g_tabIn 789 dL_law_33 (by decide) (by decide) rfl (by decide) (lc_17 hX hbl hbA hE9 hi6 hL hP hkk hnn hend)
        · exact g_tabIn 832 dL_law_33 (by decide) (by decide) rfl (by decide) (lc_18 hX hbl hbA hE9 hi6 hL hP hkk hnn hend)
        · exact g_tabIn 865 dL_law_33 (by decide) (by decide) rfl (by decide) (lc_19 hX hbl hbA hE9 hi6 hL hP hkk hnn hend)
        · exact g_tabIn 888 dL_law_33 (by decide) (by decide) rfl (by decide) (lc_20 hX hbl hbA hE9 hi6 hL hP hkk hnn hend)
        · exact g_tabIn 927 dL_law_33 (by decide) (by decide) rfl (by decide) (lc_21 hX hbl hbA hE9 hi6 hL hP hkk hnn hend)
        · exact g_tabIn 960 dL_law_33 (by decide) (by decide) rfl (by decide) (lc_22 hX hbl hbA hE9 hi6 hL hP hkk hnn hend)
        · exact g_tabIn 973 dL_law_33 (by decide) (by decide) rfl (by decide) (lc_23 hX hbl hbA hE9 hi6 hL hP hkk hnn hend)
        · exact g_tabIn 1016 dL_law_33 (by decide) (by decide) rfl (by decide) (lc_24 hX hbl hbA hE9 hi6 hL hP hkk hnn hend)
        · exact g_tabIn 1059 dL_law_33 (by decide) (by decide) rfl (by decide) (lc_25 hX hbl hbA hE9 hi6 hL hP hkk hnn hend)
        · exact g_tabIn 1092 dL_law_33 (by decide) (by decide) rfl (by decide) (lc_26 hX hbl hbA hE9 hi6 hL hP hkk hnn hend)
        · exact g_tabIn 1125 dL_law_33 (by decide) (by decide) rfl (by decide) (lc_27 hX hbl hbA hE9 hi6 hL hP hkk hnn hend)
        · exact g_tabIn 1168 dL_law_33 (by decide) (by decide) rfl (by decide) (lc_28 hX hbl hbA hE9 hi6 hL hP hkk hnn hend)
        · exact g_tabIn 1191 dL_law_33 (by decide) (by decide) rfl (by decide) (lc_29 hX hbl hbA hE9 hi6 hL hP hkk hnn hend)
        · exact g_tabIn 1234 dL_law_33 (by decide) (by decide) rfl (by decide) (lc_30 hX hbl hbA hE9 hi6 hL hP hkk hnn hend)
        · exact g_tabIn 1247 dL_law_33 (by decide) (by decide) rfl (by decide) (lc_31 hX hbl hbA hE9 hi6 hL hP hkk hnn hend)
        · exact g_tabIn 1290 dL_law_33 (by decide) (by decide) rfl (by decide) (lc_32 hX hbl hbA hE9 hi6 hL hP hkk hnn hend)
        · exact g_tabIn 1313 dL_law_33 (by decide) (by decide) rfl (by decide) (lc_33 hX hbl hbA hE9 hi6 hL hP hkk hnn hend)
        · exact g_tabIn 1326 dL_law_33 (by decide) (by decide) rfl (by decide) (lc_34 hX hbl hbA hE9 hi6 hL hP hkk hnn hend)
        · exact g_tabIn 1349 dL_law_33 (by decide) (by decide) rfl (by decide) (lc_35 hX hbl hbA hE9 hi6 hL hP hkk hnn hend)
      · exact g_tabOut 1373 dL_law_33 h (by decide) (hend a T B S kk nn rfl ⟨hP.1, ri_up (by omega) hP.2.1, rel_up hP.2.2⟩ (by omega) (by omega))
theorem pi_0 : PI (Rel 0) 0 T0 [] S0 := ⟨cinv0, rinv0, rel0⟩
set_option maxHeartbeats 4000000 in
set_option maxRecDepth 100000 in
/-- THE LAW, from its entry -/
theorem whole_start {p : Program} {e : Env} {s : State} {m : MethodId} {below : List Frame} {meth : Method} {c : Code} (l : Launch) {b L : Nat} {xs : Nat → Int32} (hL : L ≤ 3072) (C0 : lw_At p s m meth c b L xs) : W p l e room_1 s m #[Value.ref b] below meth c s.heap [] 0 0 (lw_Z below #[Value.ref b] s) (entryFrame m ([Value.ref b] : List Value).toArray 4) := by
  refine law_G l C0 (fun Γ D cy adK adV hlΓ hE hSE hX hbl hbA => ?_)
  subst hlΓ
  refine g_new (C := RX8) (T := TX8) (N := 18) (ci := 8) (fs := [.null, .null, .null, .null, .null, .null, .null, .null, .null, .null, .null, .null, .null, .null, .int 0, .int 0, .int 0, .int 0]) tyX8 tyX8_ok dL_law_0 inlX8 (List.mem_of_getElem? (i := 0) rfl) (List.mem_of_getElem? (i := 1) rfl) (List.mem_of_getElem? (i := 2) rfl) rfl (fun j hj => by rcases (show j = 0 ∨ j = 1 ∨ j = 2 ∨ j = 3 ∨ j = 4 ∨ j = 5 ∨ j = 6 ∨ j = 7 ∨ j = 8 ∨ j = 9 ∨ j = 10 ∨ j = 11 ∨ j = 12 ∨ j = 13 ∨ j = 14 ∨ j = 15 ∨ j = 16 ∨ j = 17 by omega) with rfl | rfl | rfl | rfl | rfl | rfl | rfl | rfl | rfl | rfl | rfl | rfl | rfl | rfl | rfl | rfl | rfl | rfl <;> rfl) (Nat.le_of_ble_eq_true rfl) (Nat.le_of_ble_eq_true rfl) (fun q0 => ?_)
  refine g_dup rfl dL_law_3 ?_
  refine g_callI1E 0 kE0 hE gL_law_X8_init (List.mem_of_getElem? (i := 7) rfl) (List.mem_of_getElem? (i := 8) rfl) (List.mem_of_getElem? (i := 2) rfl) rfl rfl rfl ⟨Nat.le_of_ble_eq_true rfl, Nat.le_of_ble_eq_true rfl⟩ ⟨Nat.le_of_ble_eq_true rfl, Nat.le_of_ble_eq_true rfl⟩ (by exact Nat.le_of_ble_eq_true rfl) rfl (by decide +kernel) rfl dL_law_4 (I_X8 _ D cy q0) rfl (fun v0 w0 h0 => ?_)
  obtain ⟨a, rfl, rfl, rfl⟩ := h0
  refine g_astore_n (i := 1) dL_law_7 rfl (by decide) ?_
  refine g_new (C := RX9) (T := TX9) (N := 55) (ci := 9) (fs := [.long 0, .int 0, .null, .null, .int 0, .null, .null, .null, .null, .null, .null, .null, .null, .null, .null, .null, .null, .null, .null, .null, .int 0, .null, .null, .int 0, .null, .null, .null, .null, .null, .int 0, .null, .null, .null, .null, .null, .null, .int 0, .long 0, .int 0, .int 0, .int 0, .int 0, .null, .null, .int 0, .null, .int 0, .null, .null, .null, .null, .long 0, .long 0, .null, .null]) tyX9 tyX9_ok dL_law_8 inlX9 (List.mem_of_getElem? (i := 3) rfl) (List.mem_of_getElem? (i := 4) rfl) (List.mem_of_getElem? (i := 5) rfl) rfl (fun j hj => by rcases (show j = 0 ∨ j = 1 ∨ j = 2 ∨ j = 3 ∨ j = 4 ∨ j = 5 ∨ j = 6 ∨ j = 7 ∨ j = 8 ∨ j = 9 ∨ j = 10 ∨ j = 11 ∨ j = 12 ∨ j = 13 ∨ j = 14 ∨ j = 15 ∨ j = 16 ∨ j = 17 ∨ j = 18 ∨ j = 19 ∨ j = 20 ∨ j = 21 ∨ j = 22 ∨ j = 23 ∨ j = 24 ∨ j = 25 ∨ j = 26 ∨ j = 27 ∨ j = 28 ∨ j = 29 ∨ j = 30 ∨ j = 31 ∨ j = 32 ∨ j = 33 ∨ j = 34 ∨ j = 35 ∨ j = 36 ∨ j = 37 ∨ j = 38 ∨ j = 39 ∨ j = 40 ∨ j = 41 ∨ j = 42 ∨ j = 43 ∨ j = 44 ∨ j = 45 ∨ j = 46 ∨ j = 47 ∨ j = 48 ∨ j = 49 ∨ j = 50 ∨ j = 51 ∨ j = 52 ∨ j = 53 ∨ j = 54 by omega) with rfl | rfl | rfl | rfl | rfl | rfl | rfl | rfl | rfl | rfl | rfl | rfl | rfl | rfl | rfl | rfl | rfl | rfl | rfl | rfl | rfl | rfl | rfl | rfl | rfl | rfl | rfl | rfl | rfl | rfl | rfl | rfl | rfl | rfl | rfl | rfl | rfl | rfl | rfl | rfl | rfl | rfl | rfl | rfl | rfl | rfl | rfl | rfl | rfl | rfl | rfl | rfl | rfl | rfl | rfl <;> rfl) (Nat.le_of_ble_eq_true rfl) (Nat.le_of_ble_eq_true rfl) (fun q8 => ?_)
  refine g_dup rfl dL_law_11 ?_
  refine g_callI1E 0 kE0 hE gL_law_X9_init (by decide +kernel) (by decide +kernel) (List.mem_of_getElem? (i := 5) rfl) rfl rfl rfl ⟨Nat.le_of_ble_eq_true rfl, Nat.le_of_ble_eq_true rfl⟩ ⟨Nat.le_of_ble_eq_true rfl, Nat.le_of_ble_eq_true rfl⟩ (by exact Nat.le_of_ble_eq_true rfl) rfl (by decide +kernel) rfl dL_law_12 (I_X9 _ D cy q8) rfl (fun v8 w8 h8 => ?_)
  obtain ⟨a2, rfl, rfl, rfl⟩ := h8
  refine g_astore_n (i := 2) dL_law_15 rfl (by decide) ?_
  refine g_iconst (0) rfl dL_law_16 ?_
  refine g_istore_n (i := 3) dL_law_17 rfl (by decide) ?_
  refine g_widen 1000 20000 (by decide) (by decide) ?_
  exact g_to _ _ (law_loop hX hbl hbA hSE hL 512 0 1000 20000 a T0 S0 [] (by omega) (by omega) rfl pi_0 (by omega) (by omega)) rfl ⟨rfl, rfl, rfl, rfl, trivial⟩
