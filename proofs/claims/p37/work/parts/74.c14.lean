/-- between the reader's words -/
def crJ (T : MS) : Prop := trI T 401 ∧ ciC T 80 ∧ ∃ k, k ≤ 15 ∧ T.1 24 = nI k
theorem ciC_fr {T U : MS} (q : Nat) (e0 : U.1 q = T.1 q) (e1 : U.2.2.1 (q + 1) = T.2.2.1 (q + 1)) (e2 : U.2.2.1 (q + 2) = T.2.2.1 (q + 2)) (e3 : U.2.2.1 (q + 3) = T.2.2.1 (q + 3)) (h : ciC T q) : ciC U q := by
  obtain ⟨h1, h2, h3, h4⟩ := h
  refine ⟨?_, ?_, ?_, ?_⟩
  · rw [e0]; exact h1
  · rw [e2]; exact h2
  · rw [e3]; exact h3
  · rw [e1]; exact h4
theorem crJ_nx {T : MS} (h : crJ T) : crJ (cnx T) := by
  obtain ⟨k1, k2, k3, k4⟩ := cnx_sp h.1
  exact ⟨k1, ciC_fr 80 (k3 80 (by decide) (by decide) (by decide) (by decide)) (by rw [k2]) (by rw [k2]) (by rw [k2]) h.2.1, k4⟩
theorem crJ_cat {T : MS} {v g n : Int32} (h : crJ T) (hv : vp_in v 5) : crJ (catT T v g n) := by
  unfold catT
  split
  · exact h
  · next hl =>
    split
    · next h4 =>
      obtain ⟨m, hm, e1, e2⟩ := dC_m h.2.1 hl
      have ec : (T.1 80 - 1).toNatClampNeg = m := by rw [e2, nI_clamp (by omega)]
      obtain ⟨k, hk, ek⟩ := h.2.1.2.1 m hm
      have ek' : T.2.2.1 82 m = nI k := ek
      have h5 := h4
      rw [ec, ek', show (4 : Int32) = nI 4 from by decide, nI_ltI (by omega) (by decide)] at h5
      rw [ec, show (cat3 T v g n).2.2.1 82 m = nI k from ek', nI_1]
      obtain ⟨j1, ⟨c1, c2, c3, c4⟩, j3⟩ := h
      refine ⟨j1, ⟨c1, ?_, ?_, c4⟩, j3⟩
      · intro c hc
        show ∃ q, q ≤ 4 ∧ upd (T.2.2.1 82) m (nI (k + 1)) c = nI q
        unfold upd
        split
        · exact ⟨k + 1, by omega, rfl⟩
        · exact c2 c hc
      · intro c hc
        show vp_in (upd (T.2.2.1 83) (catA T).toNatClampNeg v c) 5
        unfold upd
        split
        · exact hv
        · exact c3 c hc
    · exact h
theorem crJ_cac {T : MS} {v : Int32} (h : crJ T) (hv : vp_nar .boolean v = 0 ∨ vp_nar .boolean v = 1) : crJ (cac T v) := by
  unfold cac
  split
  · next hl =>
    obtain ⟨m, hm, e⟩ := dC_n h.2.1
    have hm8 : m < 8 := by
      rw [e, show (8 : Int32) = nI 8 from by decide, nI_ltI (by omega) (by decide)] at hl
      exact hl
    rw [e, nI_clamp (by omega), nI_1, show (0 : Int32) = nI 0 from by decide]
    obtain ⟨j1, ⟨c1, c2, c3, c4⟩, j3⟩ := h
    refine ⟨j1, ⟨⟨m + 1, by omega, rfl⟩, ?_, c3, ?_⟩, j3⟩
    · intro c hc
      show ∃ q, q ≤ 4 ∧ upd (T.2.2.1 82) m (nI 0) c = nI q
      unfold upd
      split
      · exact ⟨0, by omega, rfl⟩
      · exact c2 c hc
    · intro c hc
      show upd (T.2.2.1 81) m (vp_nar .boolean v) c = 0 ∨ upd (T.2.2.1 81) m (vp_nar .boolean v) c = 1
      unfold upd
      split
      · exact hv
      · exact c4 c hc
  · exact h
def crt3 (v g : Int32) (T : MS) : Int32 × MS := if T.1 24 = 13 then (if T.1 26 ≤ 999999 then (1, cnx (catT T v g (T.1 26))) else (0, T)) else (0, T)
def crt2 (v : Int32) (T : MS) : Int32 × MS := if T.1 24 = 5 ∨ T.1 24 = 6 ∨ T.1 24 = 7 then crt3 v (T.1 24) (cnx T) else (0, T)
def crt (T : MS) : Int32 × MS := if T.1 24 < 5 then crt2 (T.1 24) (cnx T) else (0, T)
theorem wd5 {T : MS} (h : crJ T) (h5 : T.1 24 < 5) : vp_in (T.1 24) 5 := by
  obtain ⟨-, -, k, hk, e⟩ := h
  rw [e, show (5 : Int32) = nI 5 from by decide, nI_ltI (by omega) (by decide)] at h5
  rw [e]
  exact vp_in_nI h5 (by decide)
theorem crt_J {T : MS} (h : crJ T) : crJ (crt T).2 ∧ ((crt T).1 = 0 ∨ (crt T).1 = 1) := by
  unfold crt
  split
  · next h5 =>
    have hv := wd5 h h5
    have h1 := crJ_nx h
    generalize cnx T = X1 at h1
    unfold crt2
    split
    · have h2 := crJ_nx h1
      generalize cnx X1 = X2 at h2
      unfold crt3
      split
      · split
        · have h3 := crJ_nx (crJ_cat (v := T.1 24) (g := X1.1 24) (n := X2.1 26) h2 hv)
          generalize cnx (catT X2 (T.1 24) (X1.1 24) (X2.1 26)) = X3 at h3
          exact ⟨h3, Or.inr rfl⟩
        · exact ⟨h2, Or.inl rfl⟩
      · exact ⟨h2, Or.inl rfl⟩
    · exact ⟨h1, Or.inl rfl⟩
  · exact ⟨h, Or.inl rfl⟩

set_option maxHeartbeats 4000000 in
set_option maxRecDepth 100000 in
/-- readTest -/
theorem K_testX (l : Launch) (D : va_G) (adK adV : Nat → Nat) (cy : Nat → ClassId) (a : Nat → Nat) (T : MS) (B : List BL) (X : Int32 × MS) (hJ : crJ T) (eX : X = crt T) : CtS (sE adK adV) l D clx (tyx cy) yX3_readTest wsX3_readTest (rmC 7) 0 0 [.ref (a 203), .ref (a 212)] (CW cy a T B) (fun r9 w9 => (r9 = some (.int 1) ∧ X.1 = 1 ∧ w9 = CW cy a X.2 B) ∨ (r9 = some (.int 0) ∧ X.1 = 0 ∧ w9 = CW cy a X.2 B)) := by
  refine g_startS (cc := cX3_readTest) (maxL := 4) (ret := (some .boolean)) (by decide) rfl (Nat.le_of_ble_eq_true rfl) (fun v w1 h => by rcases h with ⟨rfl, -, -⟩ | ⟨rfl, -, -⟩ <;> exact ⟨.boolean, rfl, rfl⟩) (fun Γ hlΓ hE9 => ?_)
  subst hlΓ
  obtain ⟨X1, eX1⟩ : ∃ Z : MS, Z = cnx T := ⟨_, rfl⟩
  have hJ1 : crJ X1 := by rw [eX1]; exact crJ_nx hJ
  obtain ⟨X2, eX2⟩ : ∃ Z : MS, Z = cnx X1 := ⟨_, rfl⟩
  have hJ2 : crJ X2 := by rw [eX2]; exact crJ_nx hJ1
  obtain ⟨X3, eX3⟩ : ∃ Z : MS, Z = cnx (catT X2 (T.1 24) (X1.1 24) (X2.1 26)) := ⟨_, rfl⟩
  refine g_aload_n (i := 0) dX3_readTest_0 rfl rfl ?_
  refine g_get 7 4 dX3_readTest_1 (List.mem_of_getElem? (i := 1) rfl) (fun w h => List.mem_cons_of_mem _ (List.mem_append_left _ (List.mem_append_right _ h))) (cO_reader _ _ _ _) rfl (by decide) rfl ?_
  refine g_istore_n (i := 2) dX3_readTest_4 rfl (by decide) ?_
  refine g_iload_n (i := 2) dX3_readTest_5 rfl rfl ?_
  refine g_iconst (5) rfl dX3_readTest_6 ?_
  refine g_icmp_lt 12 dX3_readTest_7 (by decide) (fun c_1 => ?_) (fun c_1 => ?_)
  · skip
    have h5 : T.1 24 < 5 := c_1
    have hv5 := wd5 hJ h5
    refine g_aload_n (i := 0) dX3_readTest_12 rfl rfl ?_
    refine g_callVEf 0 7 (sE_keep adK adV) hE9 gX3_readTest_X3_nextWord rfl rfl rfl ⟨Nat.le_of_ble_eq_true rfl, Nat.le_of_ble_eq_true rfl⟩ ⟨Nat.le_of_ble_eq_true rfl, Nat.le_of_ble_eq_true rfl⟩ (by exact Nat.le_of_ble_eq_true rfl) (by decide +kernel) rfl (cO_reader _ _ _ _) rfl dX3_readTest_13 (K_nextX _ D adK adV cy a T B X1 hJ.1 eX1) rfl (fun vu_2 wu_2 hu_2 => ?_)
    obtain ⟨rfl, rfl⟩ := hu_2
    refine g_aload_n (i := 0) dX3_readTest_16 rfl rfl ?_
    refine g_get 7 4 dX3_readTest_17 (List.mem_of_getElem? (i := 1) rfl) (fun w h => List.mem_cons_of_mem _ (List.mem_append_left _ (List.mem_append_right _ h))) (cO_reader _ _ _ _) rfl (by decide) rfl ?_
    refine g_istore_n (i := 3) dX3_readTest_20 rfl (by decide) ?_
    refine g_iload_n (i := 3) dX3_readTest_21 rfl rfl ?_
    refine g_iconst (5) rfl dX3_readTest_22 ?_
    refine g_icmp_eq 40 dX3_readTest_23 (by decide) (fun c_3 => ?_) (fun c_3 => ?_)
    · skip
      have hor : X1.1 24 = 5 ∨ X1.1 24 = 6 ∨ X1.1 24 = 7 := Or.inl c_3
      refine g_aload_n (i := 0) dX3_readTest_40 rfl rfl ?_
      refine g_callVEf 0 7 (sE_keep adK adV) hE9 gX3_readTest_X3_nextWord rfl rfl rfl ⟨Nat.le_of_ble_eq_true rfl, Nat.le_of_ble_eq_true rfl⟩ ⟨Nat.le_of_ble_eq_true rfl, Nat.le_of_ble_eq_true rfl⟩ (by exact Nat.le_of_ble_eq_true rfl) (by decide +kernel) rfl (cO_reader _ _ _ _) rfl dX3_readTest_41 (K_nextX _ D adK adV cy a X1 B X2 hJ1.1 eX2) rfl (fun vu_4 wu_4 hu_4 => ?_)
      obtain ⟨rfl, rfl⟩ := hu_4
      refine g_aload_n (i := 0) dX3_readTest_44 rfl rfl ?_
      refine g_get 7 4 dX3_readTest_45 (List.mem_of_getElem? (i := 1) rfl) (fun w h => List.mem_cons_of_mem _ (List.mem_append_left _ (List.mem_append_right _ h))) (cO_reader _ _ _ _) rfl (by decide) rfl ?_
      refine g_bipush (13) rfl dX3_readTest_48 ?_
      refine g_icmp_ne 62 dX3_readTest_50 (by decide) (fun c_5 => ?_) (fun c_5 => ?_)
      · skip
        refine g_iconst (0) rfl dX3_readTest_62 ?_
        refine g_iret dX3_readTest_63 ?_
        refine Or.inr ⟨rfl, ?_⟩
        rw [eX]
        unfold crt
        rw [if_pos h5, ← eX1]
        unfold crt2
        rw [if_pos hor, ← eX2]
        unfold crt3
        first | (rw [if_neg (by assumption)]; exact ⟨rfl, rfl⟩) | (rw [if_pos h13, if_neg hbig]; exact ⟨rfl, rfl⟩)
      · skip
        have h13 : X2.1 24 = 13 := c_5
        refine g_aload_n (i := 0) dX3_readTest_53 rfl rfl ?_
        refine g_get 7 6 dX3_readTest_54 (List.mem_of_getElem? (i := 2) rfl) (fun w h => List.mem_cons_of_mem _ (List.mem_append_left _ (List.mem_append_right _ h))) (cO_reader _ _ _ _) rfl (by decide) rfl ?_
        refine g_ldc (999999) (List.mem_of_getElem? (i := 3) rfl) dX3_readTest_57 ?_
        refine g_icmp_le 64 dX3_readTest_59 (by decide) (fun c_6 => ?_) (fun c_6 => ?_)
        · skip
          have hsm : X2.1 26 ≤ 999999 := c_6
          refine g_aload_n (i := 1) dX3_readTest_64 rfl rfl ?_
          refine g_iload_n (i := 2) dX3_readTest_65 rfl rfl ?_
          refine g_iload_n (i := 3) dX3_readTest_66 rfl rfl ?_
          refine g_aload_n (i := 0) dX3_readTest_67 rfl rfl ?_
          refine g_get 7 6 dX3_readTest_68 (List.mem_of_getElem? (i := 2) rfl) (fun w h => List.mem_cons_of_mem _ (List.mem_append_left _ (List.mem_append_right _ h))) (cO_reader _ _ _ _) rfl (by decide) rfl ?_
          refine g_callVf 3 65 gX3_readTest_X2_addTest rfl rfl rfl ⟨Nat.le_of_ble_eq_true rfl, Nat.le_of_ble_eq_true rfl⟩ ⟨Nat.le_of_ble_eq_true rfl, Nat.le_of_ble_eq_true rfl⟩ (by exact Nat.le_of_ble_eq_true rfl) (by decide +kernel) rfl (cO_draft _ _ _ _) rfl dX3_readTest_71 (K_addTest _ D cy a X2 B hJ2.2.1 (T.1 24) (X1.1 24) (X2.1 26)) rfl (fun vu_7 wu_7 hu_7 => ?_)
          obtain ⟨rfl, rfl⟩ := hu_7
          refine g_aload_n (i := 0) dX3_readTest_74 rfl rfl ?_
          refine g_callVEf 0 7 (sE_keep adK adV) hE9 gX3_readTest_X3_nextWord rfl rfl rfl ⟨Nat.le_of_ble_eq_true rfl, Nat.le_of_ble_eq_true rfl⟩ ⟨Nat.le_of_ble_eq_true rfl, Nat.le_of_ble_eq_true rfl⟩ (by exact Nat.le_of_ble_eq_true rfl) (by decide +kernel) rfl (cO_reader _ _ _ _) rfl dX3_readTest_75 (K_nextX _ D adK adV cy a (catT X2 (T.1 24) (X1.1 24) (X2.1 26)) B X3 (crJ_cat hJ2 hv5).1 eX3) rfl (fun vu_8 wu_8 hu_8 => ?_)
          obtain ⟨rfl, rfl⟩ := hu_8
          refine g_iconst (1) rfl dX3_readTest_78 ?_
          refine g_iret dX3_readTest_79 ?_
          refine Or.inl ⟨rfl, ?_⟩
          rw [eX]
          unfold crt
          rw [if_pos h5, ← eX1]
          unfold crt2
          rw [if_pos hor, ← eX2]
          unfold crt3
          rw [if_pos h13, if_pos hsm, ← eX3]
          exact ⟨rfl, rfl⟩
        · skip
          have hbig : ¬ X2.1 26 ≤ 999999 := c_6
          refine g_iconst (0) rfl dX3_readTest_62 ?_
          refine g_iret dX3_readTest_63 ?_
          refine Or.inr ⟨rfl, ?_⟩
          rw [eX]
          unfold crt
          rw [if_pos h5, ← eX1]
          unfold crt2
          rw [if_pos hor, ← eX2]
          unfold crt3
          first | (rw [if_neg (by assumption)]; exact ⟨rfl, rfl⟩) | (rw [if_pos h13, if_neg hbig]; exact ⟨rfl, rfl⟩)
    · skip
      refine g_iload_n (i := 3) dX3_readTest_26 rfl rfl ?_
      refine g_bipush (6) rfl dX3_readTest_27 ?_
      refine g_icmp_eq 40 dX3_readTest_29 (by decide) (fun c_9 => ?_) (fun c_9 => ?_)
      · skip
        have hor : X1.1 24 = 5 ∨ X1.1 24 = 6 ∨ X1.1 24 = 7 := Or.inr (Or.inl c_9)
        refine g_aload_n (i := 0) dX3_readTest_40 rfl rfl ?_
        refine g_callVEf 0 7 (sE_keep adK adV) hE9 gX3_readTest_X3_nextWord rfl rfl rfl ⟨Nat.le_of_ble_eq_true rfl, Nat.le_of_ble_eq_true rfl⟩ ⟨Nat.le_of_ble_eq_true rfl, Nat.le_of_ble_eq_true rfl⟩ (by exact Nat.le_of_ble_eq_true rfl) (by decide +kernel) rfl (cO_reader _ _ _ _) rfl dX3_readTest_41 (K_nextX _ D adK adV cy a X1 B X2 hJ1.1 eX2) rfl (fun vu_10 wu_10 hu_10 => ?_)
        obtain ⟨rfl, rfl⟩ := hu_10
        refine g_aload_n (i := 0) dX3_readTest_44 rfl rfl ?_
        refine g_get 7 4 dX3_readTest_45 (List.mem_of_getElem? (i := 1) rfl) (fun w h => List.mem_cons_of_mem _ (List.mem_append_left _ (List.mem_append_right _ h))) (cO_reader _ _ _ _) rfl (by decide) rfl ?_
        refine g_bipush (13) rfl dX3_readTest_48 ?_
        refine g_icmp_ne 62 dX3_readTest_50 (by decide) (fun c_11 => ?_) (fun c_11 => ?_)
        · skip
          refine g_iconst (0) rfl dX3_readTest_62 ?_
          refine g_iret dX3_readTest_63 ?_
          refine Or.inr ⟨rfl, ?_⟩
          rw [eX]
          unfold crt
          rw [if_pos h5, ← eX1]
          unfold crt2
          rw [if_pos hor, ← eX2]
          unfold crt3
          first | (rw [if_neg (by assumption)]; exact ⟨rfl, rfl⟩) | (rw [if_pos h13, if_neg hbig]; exact ⟨rfl, rfl⟩)
        · skip
          have h13 : X2.1 24 = 13 := c_11
          refine g_aload_n (i := 0) dX3_readTest_53 rfl rfl ?_
          refine g_get 7 6 dX3_readTest_54 (List.mem_of_getElem? (i := 2) rfl) (fun w h => List.mem_cons_of_mem _ (List.mem_append_left _ (List.mem_append_right _ h))) (cO_reader _ _ _ _) rfl (by decide) rfl ?_
          refine g_ldc (999999) (List.mem_of_getElem? (i := 3) rfl) dX3_readTest_57 ?_
          refine g_icmp_le 64 dX3_readTest_59 (by decide) (fun c_12 => ?_) (fun c_12 => ?_)
          · skip
            have hsm : X2.1 26 ≤ 999999 := c_12
            refine g_aload_n (i := 1) dX3_readTest_64 rfl rfl ?_
            refine g_iload_n (i := 2) dX3_readTest_65 rfl rfl ?_
            refine g_iload_n (i := 3) dX3_readTest_66 rfl rfl ?_
            refine g_aload_n (i := 0) dX3_readTest_67 rfl rfl ?_
            refine g_get 7 6 dX3_readTest_68 (List.mem_of_getElem? (i := 2) rfl) (fun w h => List.mem_cons_of_mem _ (List.mem_append_left _ (List.mem_append_right _ h))) (cO_reader _ _ _ _) rfl (by decide) rfl ?_
            refine g_callVf 3 65 gX3_readTest_X2_addTest rfl rfl rfl ⟨Nat.le_of_ble_eq_true rfl, Nat.le_of_ble_eq_true rfl⟩ ⟨Nat.le_of_ble_eq_true rfl, Nat.le_of_ble_eq_true rfl⟩ (by exact Nat.le_of_ble_eq_true rfl) (by decide +kernel) rfl (cO_draft _ _ _ _) rfl dX3_readTest_71 (K_addTest _ D cy a X2 B hJ2.2.1 (T.1 24) (X1.1 24) (X2.1 26)) rfl (fun vu_13 wu_13 hu_13 => ?_)
            obtain ⟨rfl, rfl⟩ := hu_13
            refine g_aload_n (i := 0) dX3_readTest_74 rfl rfl ?_
            refine g_callVEf 0 7 (sE_keep adK adV) hE9 gX3_readTest_X3_nextWord rfl rfl rfl ⟨Nat.le_of_ble_eq_true rfl, Nat.le_of_ble_eq_true rfl⟩ ⟨Nat.le_of_ble_eq_true rfl, Nat.le_of_ble_eq_true rfl⟩ (by exact Nat.le_of_ble_eq_true rfl) (by decide +kernel) rfl (cO_reader _ _ _ _) rfl dX3_readTest_75 (K_nextX _ D adK adV cy a (catT X2 (T.1 24) (X1.1 24) (X2.1 26)) B X3 (crJ_cat hJ2 hv5).1 eX3) rfl (fun vu_14 wu_14 hu_14 => ?_)
            obtain ⟨rfl, rfl⟩ := hu_14
            refine g_iconst (1) rfl dX3_readTest_78 ?_
            refine g_iret dX3_readTest_79 ?_
            refine Or.inl ⟨rfl, ?_⟩
            rw [eX]
            unfold crt
            rw [if_pos h5, ← eX1]
            unfold crt2
            rw [if_pos hor, ← eX2]
            unfold crt3
            rw [if_pos h13, if_pos hsm, ← eX3]
            exact ⟨rfl, rfl⟩
          · skip
            have hbig : ¬ X2.1 26 ≤ 999999 := c_12
            refine g_iconst (0) rfl dX3_readTest_62 ?_
            refine g_iret dX3_readTest_63 ?_
            refine Or.inr ⟨rfl, ?_⟩
            rw [eX]
            unfold crt
            rw [if_pos h5, ← eX1]
            unfold crt2
            rw [if_pos hor, ← eX2]
            unfold crt3
            first | (rw [if_neg (by assumption)]; exact ⟨rfl, rfl⟩) | (rw [if_pos h13, if_neg hbig]; exact ⟨rfl, rfl⟩)
      · skip
        refine g_iload_n (i := 3) dX3_readTest_32 rfl rfl ?_
        refine g_bipush (7) rfl dX3_readTest_33 ?_
        refine g_icmp_eq 40 dX3_readTest_35 (by decide) (fun c_15 => ?_) (fun c_15 => ?_)
        · skip
          have hor : X1.1 24 = 5 ∨ X1.1 24 = 6 ∨ X1.1 24 = 7 := Or.inr (Or.inr c_15)
          refine g_aload_n (i := 0) dX3_readTest_40 rfl rfl ?_
          refine g_callVEf 0 7 (sE_keep adK adV) hE9 gX3_readTest_X3_nextWord rfl rfl rfl ⟨Nat.le_of_ble_eq_true rfl, Nat.le_of_ble_eq_true rfl⟩ ⟨Nat.le_of_ble_eq_true rfl, Nat.le_of_ble_eq_true rfl⟩ (by exact Nat.le_of_ble_eq_true rfl) (by decide +kernel) rfl (cO_reader _ _ _ _) rfl dX3_readTest_41 (K_nextX _ D adK adV cy a X1 B X2 hJ1.1 eX2) rfl (fun vu_16 wu_16 hu_16 => ?_)
          obtain ⟨rfl, rfl⟩ := hu_16
          refine g_aload_n (i := 0) dX3_readTest_44 rfl rfl ?_
          refine g_get 7 4 dX3_readTest_45 (List.mem_of_getElem? (i := 1) rfl) (fun w h => List.mem_cons_of_mem _ (List.mem_append_left _ (List.mem_append_right _ h))) (cO_reader _ _ _ _) rfl (by decide) rfl ?_
          refine g_bipush (13) rfl dX3_readTest_48 ?_
          refine g_icmp_ne 62 dX3_readTest_50 (by decide) (fun c_17 => ?_) (fun c_17 => ?_)
          · skip
            refine g_iconst (0) rfl dX3_readTest_62 ?_
            refine g_iret dX3_readTest_63 ?_
            refine Or.inr ⟨rfl, ?_⟩
            rw [eX]
            unfold crt
            rw [if_pos h5, ← eX1]
            unfold crt2
            rw [if_pos hor, ← eX2]
            unfold crt3
            first | (rw [if_neg (by assumption)]; exact ⟨rfl, rfl⟩) | (rw [if_pos h13, if_neg hbig]; exact ⟨rfl, rfl⟩)
          · skip
            have h13 : X2.1 24 = 13 := c_17
            refine g_aload_n (i := 0) dX3_readTest_53 rfl rfl ?_
            refine g_get 7 6 dX3_readTest_54 (List.mem_of_getElem? (i := 2) rfl) (fun w h => List.mem_cons_of_mem _ (List.mem_append_left _ (List.mem_append_right _ h))) (cO_reader _ _ _ _) rfl (by decide) rfl ?_
            refine g_ldc (999999) (List.mem_of_getElem? (i := 3) rfl) dX3_readTest_57 ?_
            refine g_icmp_le 64 dX3_readTest_59 (by decide) (fun c_18 => ?_) (fun c_18 => ?_)
            · skip
              have hsm : X2.1 26 ≤ 999999 := c_18
              refine g_aload_n (i := 1) dX3_readTest_64 rfl rfl ?_
              refine g_iload_n (i := 2) dX3_readTest_65 rfl rfl ?_
              refine g_iload_n (i := 3) dX3_readTest_66 rfl rfl ?_
              refine g_aload_n (i := 0) dX3_readTest_67 rfl rfl ?_
              refine g_get 7 6 dX3_readTest_68 (List.mem_of_getElem? (i := 2) rfl) (fun w h => List.mem_cons_of_mem _ (List.mem_append_left _ (List.mem_append_right _ h))) (cO_reader _ _ _ _) rfl (by decide) rfl ?_
              refine g_callVf 3 65 gX3_readTest_X2_addTest rfl rfl rfl ⟨Nat.le_of_ble_eq_true rfl, Nat.le_of_ble_eq_true rfl⟩ ⟨Nat.le_of_ble_eq_true rfl, Nat.le_of_ble_eq_true rfl⟩ (by exact Nat.le_of_ble_eq_true rfl) (by decide +kernel) rfl (cO_draft _ _ _ _) rfl dX3_readTest_71 (K_addTest _ D cy a X2 B hJ2.2.1 (T.1 24) (X1.1 24) (X2.1 26)) rfl (fun vu_19 wu_19 hu_19 => ?_)
              obtain ⟨rfl, rfl⟩ := hu_19
              refine g_aload_n (i := 0) dX3_readTest_74 rfl rfl ?_
              refine g_callVEf 0 7 (sE_keep adK adV) hE9 gX3_readTest_X3_nextWord rfl rfl rfl ⟨Nat.le_of_ble_eq_true rfl, Nat.le_of_ble_eq_true rfl⟩ ⟨Nat.le_of_ble_eq_true rfl, Nat.le_of_ble_eq_true rfl⟩ (by exact Nat.le_of_ble_eq_true rfl) (by decide +kernel) rfl (cO_reader _ _ _ _) rfl dX3_readTest_75 (K_nextX _ D adK adV cy a (catT X2 (T.1 24) (X1.1 24) (X2.1 26)) B X3 (crJ_cat hJ2 hv5).1 eX3) rfl (fun vu_20 wu_20 hu_20 => ?_)
              obtain ⟨rfl, rfl⟩ := hu_20
              refine g_iconst (1) rfl dX3_readTest_78 ?_
              refine g_iret dX3_readTest_79 ?_
              refine Or.inl ⟨rfl, ?_⟩
              rw [eX]
              unfold crt
              rw [if_pos h5, ← eX1]
              unfold crt2
              rw [if_pos hor, ← eX2]
              unfold crt3
              rw [if_pos h13, if_pos hsm, ← eX3]
              exact ⟨rfl, rfl⟩
            · skip
              have hbig : ¬ X2.1 26 ≤ 999999 := c_18
              refine g_iconst (0) rfl dX3_readTest_62 ?_
              refine g_iret dX3_readTest_63 ?_
              refine Or.inr ⟨rfl, ?_⟩
              rw [eX]
              unfold crt
              rw [if_pos h5, ← eX1]
              unfold crt2
              rw [if_pos hor, ← eX2]
              unfold crt3
              first | (rw [if_neg (by assumption)]; exact ⟨rfl, rfl⟩) | (rw [if_pos h13, if_neg hbig]; exact ⟨rfl, rfl⟩)
        · skip
          refine g_iconst (0) rfl dX3_readTest_38 ?_
          refine g_iret dX3_readTest_39 ?_
          refine Or.inr ⟨rfl, ?_⟩
          rw [eX]
          unfold crt
          rw [if_pos h5, ← eX1]
          unfold crt2
          rw [if_neg (by intro h9; rcases h9 with h9 | h9 | h9 <;> contradiction)]
          exact ⟨rfl, rfl⟩
  · skip
    have hn5 : ¬ T.1 24 < 5 := c_1
    refine g_iconst (0) rfl dX3_readTest_10 ?_
    refine g_iret dX3_readTest_11 ?_
    refine Or.inr ⟨rfl, ?_⟩
    rw [eX]
    unfold crt
    rw [if_neg hn5]
    exact ⟨rfl, rfl⟩

def cend (T : MS) : Int32 := if T.1 24 = 12 then 1 else if T.1 24 = 14 then 1 else 0
def crcL : Nat → MS → Int32 × MS
  | 0, T => (0, T)
  | n + 1, T => if (crt (cnx T)).1 = 0 then (0, (crt (cnx T)).2) else if (crt (cnx T)).2.1 24 = 11 then crcL n (crt (cnx T)).2 else (cend (crt (cnx T)).2, (crt (cnx T)).2)
def crcA (X : MS) : Int32 × MS := if X.1 24 = 10 then crcL 4 X else (cend X, X)
def crc (T : MS) : Int32 × MS := if T.1 24 = 8 then crcA (cnx (cac T 1)) else if T.1 24 = 9 then crcA (cnx (cac T 0)) else (0, T)
theorem cend_b (T : MS) : cend T = 0 ∨ cend T = 1 := by
  unfold cend
  repeat' split
  · exact Or.inr rfl
  · exact Or.inr rfl
  · exact Or.inl rfl
theorem crcL0 {n : Nat} {T : MS} {Y : Int32 × MS} (e : Y = crt (cnx T)) (h : Y.1 = 0) : crcL (n + 1) T = (0, Y.2) := by
  subst e
  exact if_pos h
theorem crcL1 {n : Nat} {T : MS} {Y : Int32 × MS} (e : Y = crt (cnx T)) (h : Y.1 = 1) (h11 : Y.2.1 24 = 11) : crcL (n + 1) T = crcL n Y.2 := by
  subst e
  exact (if_neg (by rw [h]; decide)).trans (if_pos h11)
theorem crcL2 {n : Nat} {T : MS} {Y : Int32 × MS} (e : Y = crt (cnx T)) (h : Y.1 = 1) (h11 : ¬ Y.2.1 24 = 11) : crcL (n + 1) T = (cend Y.2, Y.2) := by
  subst e
  exact (if_neg (by rw [h]; decide)).trans (if_neg h11)
theorem crcL_J : ∀ (n : Nat) (T : MS), crJ T → crJ (crcL n T).2 ∧ ((crcL n T).1 = 0 ∨ (crcL n T).1 = 1)
  | 0, T, h => ⟨h, Or.inl rfl⟩
  | n + 1, T, h => by
    have hq := crt_J (crJ_nx h)
    obtain ⟨Y, eY⟩ : ∃ Z, Z = crt (cnx T) := ⟨_, rfl⟩
    rw [← eY] at hq
    rcases hq.2 with h0 | h1
    · rw [crcL0 eY h0]; exact ⟨hq.1, Or.inl rfl⟩
    · by_cases h11 : Y.2.1 24 = 11
      · rw [crcL1 eY h1 h11]; exact crcL_J n Y.2 hq.1
      · rw [crcL2 eY h1 h11]; exact ⟨hq.1, cend_b _⟩
theorem crcA_J {X : MS} (h : crJ X) : crJ (crcA X).2 ∧ ((crcA X).1 = 0 ∨ (crcA X).1 = 1) := by
  unfold crcA
  split
  · exact crcL_J 4 X h
  · exact ⟨h, cend_b _⟩
theorem wn1 : vp_nar .boolean 1 = 1 := by decide
theorem wn0 : vp_nar .boolean 0 = 0 := by decide
theorem crc_J {T : MS} (h : crJ T) : crJ (crc T).2 ∧ ((crc T).1 = 0 ∨ (crc T).1 = 1) := by
  unfold crc
  have k1 := crcA_J (crJ_nx (crJ_cac (v := 1) h (Or.inr wn1)))
  have k0 := crcA_J (crJ_nx (crJ_cac (v := 0) h (Or.inl wn0)))
  generalize crcA (cnx (cac T 1)) = A1 at k1
  generalize crcA (cnx (cac T 0)) = A0 at k0
  split
  · exact k1
  · split
    · exact k0
    · exact ⟨h, Or.inl rfl⟩
theorem i4s (m : Nat) (h : m < 4) : nI (4 - (m + 1)) + 1 = nI (4 - m) := by
  rw [nI_1]
  congr 1
  omega

set_option maxHeartbeats 4000000 in
set_option maxRecDepth 100000 in
/-- readClause -/
theorem K_clauseX (l : Launch) (D : va_G) (adK adV : Nat → Nat) (cy : Nat → ClassId) (a : Nat → Nat) (T : MS) (B : List BL) (X : Int32 × MS) (hJ : crJ T) (eX : X = crc T) : CtS (sE adK adV) l D clx (tyx cy) yX3_readClause wsX3_readClause (rmC 8) 0 0 [.ref (a 203), .ref (a 212)] (CW cy a T B) (fun r9 w9 => (r9 = some (.int 1) ∧ X.1 = 1 ∧ w9 = CW cy a X.2 B) ∨ (r9 = some (.int 0) ∧ X.1 = 0 ∧ w9 = CW cy a X.2 B)) := by
  refine g_startS (cc := cX3_readClause) (maxL := 3) (ret := (some .boolean)) (by decide) rfl (Nat.le_of_ble_eq_true rfl) (fun v w1 h => by rcases h with ⟨rfl, -, -⟩ | ⟨rfl, -, -⟩ <;> exact ⟨.boolean, rfl, rfl⟩) (fun Γ hlΓ hE9 => ?_)
  subst hlΓ
  refine g_aload_n (i := 0) dX3_readClause_0 rfl rfl ?_
  refine g_get 7 4 dX3_readClause_1 (List.mem_of_getElem? (i := 1) rfl) (fun w h => List.mem_cons_of_mem _ (List.mem_append_left _ (List.mem_append_right _ h))) (cO_reader _ _ _ _) rfl (by decide) rfl ?_
  refine g_bipush (8) rfl dX3_readClause_4 ?_
  refine g_icmp_eq 20 dX3_readClause_6 (by decide) (fun c_1 => ?_) (fun c_1 => ?_)
  · skip
    have hw8 : T.1 24 = 8 := c_1
    refine g_aload_n (i := 1) dX3_readClause_20 rfl rfl ?_
    refine g_aload_n (i := 0) dX3_readClause_21 rfl rfl ?_
    refine g_get 7 4 dX3_readClause_22 (List.mem_of_getElem? (i := 1) rfl) (fun w h => List.mem_cons_of_mem _ (List.mem_append_left _ (List.mem_append_right _ h))) (cO_reader _ _ _ _) rfl (by decide) rfl ?_
    refine g_bipush (8) rfl dX3_readClause_25 ?_
    refine g_icmp_ne 34 dX3_readClause_27 (by decide) (fun c_2 => ?_) (fun c_2 => ?_)
    · skip
      exact absurd hw8 c_2
    · skip
      have hJ0 := crJ_cac (v := 1) hJ (Or.inr wn1)
      obtain ⟨X1, eX1⟩ : ∃ Z : MS, Z = cnx (cac T 1) := ⟨_, rfl⟩
      have hJ1 : crJ X1 := (by rw [eX1]; exact crJ_nx hJ0)
      refine g_iconst (1) rfl dX3_readClause_30 ?_
      refine g_goto 35 dX3_readClause_31 (by decide) ?_
      refine g_callVf 1 65 gX3_readClause_X2_addClause rfl rfl rfl ⟨Nat.le_of_ble_eq_true rfl, Nat.le_of_ble_eq_true rfl⟩ ⟨Nat.le_of_ble_eq_true rfl, Nat.le_of_ble_eq_true rfl⟩ (by exact Nat.le_of_ble_eq_true rfl) (by decide +kernel) rfl (cO_draft _ _ _ _) rfl dX3_readClause_35 (K_addClause _ D cy a T B hJ.2.1 _) rfl (fun vu_3 wu_3 hu_3 => ?_)
      obtain ⟨rfl, rfl⟩ := hu_3
      refine g_aload_n (i := 0) dX3_readClause_38 rfl rfl ?_
      refine g_callVEf 0 7 (sE_keep adK adV) hE9 gX3_readClause_X3_nextWord rfl rfl rfl ⟨Nat.le_of_ble_eq_true rfl, Nat.le_of_ble_eq_true rfl⟩ ⟨Nat.le_of_ble_eq_true rfl, Nat.le_of_ble_eq_true rfl⟩ (by exact Nat.le_of_ble_eq_true rfl) (by decide +kernel) rfl (cO_reader _ _ _ _) rfl dX3_readClause_39 (K_nextX _ D adK adV cy a (cac T _) B X1 hJ0.1 eX1) rfl (fun vu_4 wu_4 hu_4 => ?_)
      obtain ⟨rfl, rfl⟩ := hu_4
      refine g_aload_n (i := 0) dX3_readClause_42 rfl rfl ?_
      refine g_get 7 4 dX3_readClause_43 (List.mem_of_getElem? (i := 1) rfl) (fun w h => List.mem_cons_of_mem _ (List.mem_append_left _ (List.mem_append_right _ h))) (cO_reader _ _ _ _) rfl (by decide) rfl ?_
      refine g_bipush (10) rfl dX3_readClause_46 ?_
      refine g_icmp_eq 75 dX3_readClause_48 (by decide) (fun c_5 => ?_) (fun c_5 => ?_)
      · skip
        have hw10 : X1.1 24 = 10 := c_5
        refine g_iconst (0) rfl dX3_readClause_75 ?_
        refine g_istore_n (i := 2) dX3_readClause_76 rfl (by decide) ?_
        obtain ⟨X9, hX9⟩ : ∃ Z : Int32 × MS, Z = crcL 4 X1 := ⟨_, rfl⟩
        refine g_whl (σ := Nat × MS) (fun x => x.1) (fun x => x.1 ≤ 4 ∧ crJ x.2 ∧ crcL x.1 x.2 = X9) (fun x => CW cy a x.2 B) (fun x => [(0, .ref (a 203)), (1, .ref (a 212)), (2, .int (nI (4 - x.1)))]) (4, X1) ⟨Nat.le_refl 4, hJ1, hX9.symm⟩ rfl ⟨rfl, rfl, rfl, trivial⟩ (fun x gx ih => ?_)
        obtain ⟨f, U⟩ := x
        obtain ⟨hf4, hJU, gx⟩ := gx
        replace hf4 : f ≤ 4 := hf4
        replace hJU : crJ U := hJU
        replace gx : crcL f U = X9 := gx
        refine g_nrm [(0, .ref (a 203)), (1, .ref (a 212)), (2, .int (nI (4 - f)))] ⟨rfl, rfl, rfl, trivial⟩ ?_
        obtain ⟨Z1, eZ1⟩ : ∃ Z : MS, Z = cnx U := ⟨_, rfl⟩
        have hJZ : crJ Z1 := (by rw [eZ1]; exact crJ_nx hJU)
        obtain ⟨Y, eY⟩ : ∃ Z : Int32 × MS, Z = crt Z1 := ⟨_, rfl⟩
        have hJY := crt_J hJZ
        rw [← eY] at hJY
        have eY2 : Y = crt (cnx U) := (by rw [← eZ1]; exact eY)
        cases f with
        | zero =>
          refine g_iload_n (i := 2) dX3_readClause_77 rfl rfl ?_
          refine g_iconst (4) rfl dX3_readClause_78 ?_
          refine g_icmp_ge 135 dX3_readClause_79 (by decide) (fun c_7 => ?_) (fun c_7 => ?_)
          · skip
            refine g_iconst (0) rfl dX3_readClause_135 ?_
            refine g_iret dX3_readClause_136 ?_
            refine Or.inr ⟨rfl, ?_⟩
            rw [eX]
            unfold crc
            first | rw [if_pos hw8, ← eX1] | rw [if_neg hn8, if_pos hw9, ← eX1]
            unfold crcA
            rw [if_pos hw10, ← hX9, ← gx]
            exact ⟨rfl, rfl⟩
          · skip
            exact absurd (by decide) c_7
        | succ f =>
          refine g_iload_n (i := 2) dX3_readClause_77 rfl rfl ?_
          refine g_iconst (4) rfl dX3_readClause_78 ?_
          refine g_icmp_ge 135 dX3_readClause_79 (by decide) (fun c_8 => ?_) (fun c_8 => ?_)
          · skip
            exact absurd c_8 (nI_ge (b := 4) (by omega) (by decide))
          · skip
            refine g_aload_n (i := 0) dX3_readClause_82 rfl rfl ?_
            refine g_callVEf 0 7 (sE_keep adK adV) hE9 gX3_readClause_X3_nextWord rfl rfl rfl ⟨Nat.le_of_ble_eq_true rfl, Nat.le_of_ble_eq_true rfl⟩ ⟨Nat.le_of_ble_eq_true rfl, Nat.le_of_ble_eq_true rfl⟩ (by exact Nat.le_of_ble_eq_true rfl) (by decide +kernel) rfl (cO_reader _ _ _ _) rfl dX3_readClause_83 (K_nextX _ D adK adV cy a U B Z1 hJU.1 eZ1) rfl (fun vu_9 wu_9 hu_9 => ?_)
            obtain ⟨rfl, rfl⟩ := hu_9
            refine g_aload_n (i := 0) dX3_readClause_86 rfl rfl ?_
            refine g_aload_n (i := 1) dX3_readClause_87 rfl rfl ?_
            refine g_callVEf 1 7 (sE_keep adK adV) hE9 gX3_readClause_X3_readTest rfl rfl rfl ⟨Nat.le_of_ble_eq_true rfl, Nat.le_of_ble_eq_true rfl⟩ ⟨Nat.le_of_ble_eq_true rfl, Nat.le_of_ble_eq_true rfl⟩ (by exact Nat.le_of_ble_eq_true rfl) (by decide +kernel) rfl (cO_reader _ _ _ _) rfl dX3_readClause_88 (K_testX _ D adK adV cy a Z1 B Y hJZ eY) rfl (fun vu_10 wu_10 hu_10 => ?_)
            rcases hu_10 with ⟨rfl, hu_10, rfl⟩ | ⟨rfl, hu_10, rfl⟩
            · skip
              have hu_T := hu_10
              refine g_if_ne 96 dX3_readClause_91 (by decide) (fun _ => ?_) (fun h9 => absurd h9 (by decide))
              refine g_aload_n (i := 0) dX3_readClause_96 rfl rfl ?_
              refine g_get 7 4 dX3_readClause_97 (List.mem_of_getElem? (i := 1) rfl) (fun w h => List.mem_cons_of_mem _ (List.mem_append_left _ (List.mem_append_right _ h))) (cO_reader _ _ _ _) rfl (by decide) rfl ?_
              refine g_bipush (11) rfl dX3_readClause_100 ?_
              refine g_icmp_eq 129 dX3_readClause_102 (by decide) (fun c_12 => ?_) (fun c_12 => ?_)
              · skip
                have h11 : Y.2.1 24 = 11 := c_12
                refine g_iinc (1) dX3_readClause_129 rfl rfl (by decide) ?_
                refine g_goto 77 dX3_readClause_132 (by decide) ?_
                exact g_to _ _ (ih (f, Y.2) ⟨by show f ≤ 4; omega, hJY.1, (by show crcL f Y.2 = X9; rw [← gx, crcL1 eY2 hu_T h11])⟩ (Nat.lt_succ_self f)) rfl ⟨rfl, rfl, (by rw [← i4s f (by omega)]; rfl), trivial⟩
              · skip
                have hn11 : ¬ Y.2.1 24 = 11 := c_12
                refine g_aload_n (i := 0) dX3_readClause_105 rfl rfl ?_
                refine g_get 7 4 dX3_readClause_106 (List.mem_of_getElem? (i := 1) rfl) (fun w h => List.mem_cons_of_mem _ (List.mem_append_left _ (List.mem_append_right _ h))) (cO_reader _ _ _ _) rfl (by decide) rfl ?_
                refine g_bipush (12) rfl dX3_readClause_109 ?_
                refine g_icmp_eq 123 dX3_readClause_111 (by decide) (fun c_13 => ?_) (fun c_13 => ?_)
                · skip
                  have h12b : Y.2.1 24 = 12 := c_13
                  refine g_iconst (1) rfl dX3_readClause_123 ?_
                  refine g_goto 128 dX3_readClause_124 (by decide) ?_
                  refine g_iret dX3_readClause_128 ?_
                  first | (have g9 := h12b; refine Or.inl ⟨rfl, ?_⟩; (rw [eX]); (unfold crc); (first | rw [if_pos hw8, ← eX1] | rw [if_neg hn8, if_pos hw9, ← eX1]); (unfold crcA); (rw [if_pos hw10, ← hX9, ← gx]); (rw [crcL2 eY2 hu_T hn11]); (unfold cend); rw [if_pos g9]; exact ⟨rfl, rfl⟩) | (have g9 := h14b; refine Or.inl ⟨rfl, ?_⟩; (rw [eX]); (unfold crc); (first | rw [if_pos hw8, ← eX1] | rw [if_neg hn8, if_pos hw9, ← eX1]); (unfold crcA); (rw [if_pos hw10, ← hX9, ← gx]); (rw [crcL2 eY2 hu_T hn11]); (unfold cend); rw [if_neg hn12b, if_pos g9]; exact ⟨rfl, rfl⟩) | (have g9 := hn14b; refine Or.inr ⟨rfl, ?_⟩; (rw [eX]); (unfold crc); (first | rw [if_pos hw8, ← eX1] | rw [if_neg hn8, if_pos hw9, ← eX1]); (unfold crcA); (rw [if_pos hw10, ← hX9, ← gx]); (rw [crcL2 eY2 hu_T hn11]); (unfold cend); rw [if_neg hn12b, if_neg g9]; exact ⟨rfl, rfl⟩)
                · skip
                  have hn12b : ¬ Y.2.1 24 = 12 := c_13
                  refine g_aload_n (i := 0) dX3_readClause_114 rfl rfl ?_
                  refine g_get 7 4 dX3_readClause_115 (List.mem_of_getElem? (i := 1) rfl) (fun w h => List.mem_cons_of_mem _ (List.mem_append_left _ (List.mem_append_right _ h))) (cO_reader _ _ _ _) rfl (by decide) rfl ?_
                  refine g_bipush (14) rfl dX3_readClause_118 ?_
                  refine g_icmp_ne 127 dX3_readClause_120 (by decide) (fun c_14 => ?_) (fun c_14 => ?_)
                  · skip
                    have hn14b : ¬ Y.2.1 24 = 14 := c_14
                    refine g_iconst (0) rfl dX3_readClause_127 ?_
                    refine g_iret dX3_readClause_128 ?_
                    first | (have g9 := h12b; refine Or.inl ⟨rfl, ?_⟩; (rw [eX]); (unfold crc); (first | rw [if_pos hw8, ← eX1] | rw [if_neg hn8, if_pos hw9, ← eX1]); (unfold crcA); (rw [if_pos hw10, ← hX9, ← gx]); (rw [crcL2 eY2 hu_T hn11]); (unfold cend); rw [if_pos g9]; exact ⟨rfl, rfl⟩) | (have g9 := h14b; refine Or.inl ⟨rfl, ?_⟩; (rw [eX]); (unfold crc); (first | rw [if_pos hw8, ← eX1] | rw [if_neg hn8, if_pos hw9, ← eX1]); (unfold crcA); (rw [if_pos hw10, ← hX9, ← gx]); (rw [crcL2 eY2 hu_T hn11]); (unfold cend); rw [if_neg hn12b, if_pos g9]; exact ⟨rfl, rfl⟩) | (have g9 := hn14b; refine Or.inr ⟨rfl, ?_⟩; (rw [eX]); (unfold crc); (first | rw [if_pos hw8, ← eX1] | rw [if_neg hn8, if_pos hw9, ← eX1]); (unfold crcA); (rw [if_pos hw10, ← hX9, ← gx]); (rw [crcL2 eY2 hu_T hn11]); (unfold cend); rw [if_neg hn12b, if_neg g9]; exact ⟨rfl, rfl⟩)
                  · skip
                    have h14b : Y.2.1 24 = 14 := c_14
                    refine g_iconst (1) rfl dX3_readClause_123 ?_
                    refine g_goto 128 dX3_readClause_124 (by decide) ?_
                    refine g_iret dX3_readClause_128 ?_
                    first | (have g9 := h12b; refine Or.inl ⟨rfl, ?_⟩; (rw [eX]); (unfold crc); (first | rw [if_pos hw8, ← eX1] | rw [if_neg hn8, if_pos hw9, ← eX1]); (unfold crcA); (rw [if_pos hw10, ← hX9, ← gx]); (rw [crcL2 eY2 hu_T hn11]); (unfold cend); rw [if_pos g9]; exact ⟨rfl, rfl⟩) | (have g9 := h14b; refine Or.inl ⟨rfl, ?_⟩; (rw [eX]); (unfold crc); (first | rw [if_pos hw8, ← eX1] | rw [if_neg hn8, if_pos hw9, ← eX1]); (unfold crcA); (rw [if_pos hw10, ← hX9, ← gx]); (rw [crcL2 eY2 hu_T hn11]); (unfold cend); rw [if_neg hn12b, if_pos g9]; exact ⟨rfl, rfl⟩) | (have g9 := hn14b; refine Or.inr ⟨rfl, ?_⟩; (rw [eX]); (unfold crc); (first | rw [if_pos hw8, ← eX1] | rw [if_neg hn8, if_pos hw9, ← eX1]); (unfold crcA); (rw [if_pos hw10, ← hX9, ← gx]); (rw [crcL2 eY2 hu_T hn11]); (unfold cend); rw [if_neg hn12b, if_neg g9]; exact ⟨rfl, rfl⟩)
            · skip
              have hu_T := hu_10
              refine g_if_ne 96 dX3_readClause_91 (by decide) (fun h9 => absurd h9 (by decide)) (fun _ => ?_)
              refine g_iconst (0) rfl dX3_readClause_94 ?_
              refine g_iret dX3_readClause_95 ?_
              refine Or.inr ⟨rfl, ?_⟩
              rw [eX]
              unfold crc
              first | rw [if_pos hw8, ← eX1] | rw [if_neg hn8, if_pos hw9, ← eX1]
              unfold crcA
              rw [if_pos hw10, ← hX9, ← gx]
              rw [crcL0 eY2 hu_T]
              exact ⟨rfl, rfl⟩
      · skip
        have hn10 : ¬ X1.1 24 = 10 := c_5
        refine g_aload_n (i := 0) dX3_readClause_51 rfl rfl ?_
        refine g_get 7 4 dX3_readClause_52 (List.mem_of_getElem? (i := 1) rfl) (fun w h => List.mem_cons_of_mem _ (List.mem_append_left _ (List.mem_append_right _ h))) (cO_reader _ _ _ _) rfl (by decide) rfl ?_
        refine g_bipush (12) rfl dX3_readClause_55 ?_
        refine g_icmp_eq 69 dX3_readClause_57 (by decide) (fun c_16 => ?_) (fun c_16 => ?_)
        · skip
          have h12a : X1.1 24 = 12 := c_16
          refine g_iconst (1) rfl dX3_readClause_69 ?_
          refine g_goto 74 dX3_readClause_70 (by decide) ?_
          refine g_iret dX3_readClause_74 ?_
          first | (have g9 := h12a; refine Or.inl ⟨rfl, ?_⟩; (rw [eX]); (unfold crc); (first | rw [if_pos hw8, ← eX1] | rw [if_neg hn8, if_pos hw9, ← eX1]); (unfold crcA); (rw [if_neg hn10]); (unfold cend); rw [if_pos g9]; exact ⟨rfl, rfl⟩) | (have g9 := h14a; refine Or.inl ⟨rfl, ?_⟩; (rw [eX]); (unfold crc); (first | rw [if_pos hw8, ← eX1] | rw [if_neg hn8, if_pos hw9, ← eX1]); (unfold crcA); (rw [if_neg hn10]); (unfold cend); rw [if_neg hn12a, if_pos g9]; exact ⟨rfl, rfl⟩) | (have g9 := hn14a; refine Or.inr ⟨rfl, ?_⟩; (rw [eX]); (unfold crc); (first | rw [if_pos hw8, ← eX1] | rw [if_neg hn8, if_pos hw9, ← eX1]); (unfold crcA); (rw [if_neg hn10]); (unfold cend); rw [if_neg hn12a, if_neg g9]; exact ⟨rfl, rfl⟩)
        · skip
          have hn12a : ¬ X1.1 24 = 12 := c_16
          refine g_aload_n (i := 0) dX3_readClause_60 rfl rfl ?_
          refine g_get 7 4 dX3_readClause_61 (List.mem_of_getElem? (i := 1) rfl) (fun w h => List.mem_cons_of_mem _ (List.mem_append_left _ (List.mem_append_right _ h))) (cO_reader _ _ _ _) rfl (by decide) rfl ?_
          refine g_bipush (14) rfl dX3_readClause_64 ?_
          refine g_icmp_ne 73 dX3_readClause_66 (by decide) (fun c_17 => ?_) (fun c_17 => ?_)
          · skip
            have hn14a : ¬ X1.1 24 = 14 := c_17
            refine g_iconst (0) rfl dX3_readClause_73 ?_
            refine g_iret dX3_readClause_74 ?_
            first | (have g9 := h12a; refine Or.inl ⟨rfl, ?_⟩; (rw [eX]); (unfold crc); (first | rw [if_pos hw8, ← eX1] | rw [if_neg hn8, if_pos hw9, ← eX1]); (unfold crcA); (rw [if_neg hn10]); (unfold cend); rw [if_pos g9]; exact ⟨rfl, rfl⟩) | (have g9 := h14a; refine Or.inl ⟨rfl, ?_⟩; (rw [eX]); (unfold crc); (first | rw [if_pos hw8, ← eX1] | rw [if_neg hn8, if_pos hw9, ← eX1]); (unfold crcA); (rw [if_neg hn10]); (unfold cend); rw [if_neg hn12a, if_pos g9]; exact ⟨rfl, rfl⟩) | (have g9 := hn14a; refine Or.inr ⟨rfl, ?_⟩; (rw [eX]); (unfold crc); (first | rw [if_pos hw8, ← eX1] | rw [if_neg hn8, if_pos hw9, ← eX1]); (unfold crcA); (rw [if_neg hn10]); (unfold cend); rw [if_neg hn12a, if_neg g9]; exact ⟨rfl, rfl⟩)
          · skip
            have h14a : X1.1 24 = 14 := c_17
            refine g_iconst (1) rfl dX3_readClause_69 ?_
            refine g_goto 74 dX3_readClause_70 (by decide) ?_
            refine g_iret dX3_readClause_74 ?_
            first | (have g9 := h12a; refine Or.inl ⟨rfl, ?_⟩; (rw [eX]); (unfold crc); (first | rw [if_pos hw8, ← eX1] | rw [if_neg hn8, if_pos hw9, ← eX1]); (unfold crcA); (rw [if_neg hn10]); (unfold cend); rw [if_pos g9]; exact ⟨rfl, rfl⟩) | (have g9 := h14a; refine Or.inl ⟨rfl, ?_⟩; (rw [eX]); (unfold crc); (first | rw [if_pos hw8, ← eX1] | rw [if_neg hn8, if_pos hw9, ← eX1]); (unfold crcA); (rw [if_neg hn10]); (unfold cend); rw [if_neg hn12a, if_pos g9]; exact ⟨rfl, rfl⟩) | (have g9 := hn14a; refine Or.inr ⟨rfl, ?_⟩; (rw [eX]); (unfold crc); (first | rw [if_pos hw8, ← eX1] | rw [if_neg hn8, if_pos hw9, ← eX1]); (unfold crcA); (rw [if_neg hn10]); (unfold cend); rw [if_neg hn12a, if_neg g9]; exact ⟨rfl, rfl⟩)
  · skip
    have hn8 : ¬ T.1 24 = 8 := c_1
    refine g_aload_n (i := 0) dX3_readClause_9 rfl rfl ?_
    refine g_get 7 4 dX3_readClause_10 (List.mem_of_getElem? (i := 1) rfl) (fun w h => List.mem_cons_of_mem _ (List.mem_append_left _ (List.mem_append_right _ h))) (cO_reader _ _ _ _) rfl (by decide) rfl ?_
    refine g_bipush (9) rfl dX3_readClause_13 ?_
    refine g_icmp_eq 20 dX3_readClause_15 (by decide) (fun c_18 => ?_) (fun c_18 => ?_)
    · skip
      have hw9 : T.1 24 = 9 := c_18
      refine g_aload_n (i := 1) dX3_readClause_20 rfl rfl ?_
      refine g_aload_n (i := 0) dX3_readClause_21 rfl rfl ?_
      refine g_get 7 4 dX3_readClause_22 (List.mem_of_getElem? (i := 1) rfl) (fun w h => List.mem_cons_of_mem _ (List.mem_append_left _ (List.mem_append_right _ h))) (cO_reader _ _ _ _) rfl (by decide) rfl ?_
      refine g_bipush (8) rfl dX3_readClause_25 ?_
      refine g_icmp_ne 34 dX3_readClause_27 (by decide) (fun c_19 => ?_) (fun c_19 => ?_)
      · skip
        have hJ0 := crJ_cac (v := 0) hJ (Or.inl wn0)
        obtain ⟨X1, eX1⟩ : ∃ Z : MS, Z = cnx (cac T 0) := ⟨_, rfl⟩
        have hJ1 : crJ X1 := (by rw [eX1]; exact crJ_nx hJ0)
        refine g_iconst (0) rfl dX3_readClause_34 ?_
        refine g_callVf 1 65 gX3_readClause_X2_addClause rfl rfl rfl ⟨Nat.le_of_ble_eq_true rfl, Nat.le_of_ble_eq_true rfl⟩ ⟨Nat.le_of_ble_eq_true rfl, Nat.le_of_ble_eq_true rfl⟩ (by exact Nat.le_of_ble_eq_true rfl) (by decide +kernel) rfl (cO_draft _ _ _ _) rfl dX3_readClause_35 (K_addClause _ D cy a T B hJ.2.1 _) rfl (fun vu_20 wu_20 hu_20 => ?_)
        obtain ⟨rfl, rfl⟩ := hu_20
        refine g_aload_n (i := 0) dX3_readClause_38 rfl rfl ?_
        refine g_callVEf 0 7 (sE_keep adK adV) hE9 gX3_readClause_X3_nextWord rfl rfl rfl ⟨Nat.le_of_ble_eq_true rfl, Nat.le_of_ble_eq_true rfl⟩ ⟨Nat.le_of_ble_eq_true rfl, Nat.le_of_ble_eq_true rfl⟩ (by exact Nat.le_of_ble_eq_true rfl) (by decide +kernel) rfl (cO_reader _ _ _ _) rfl dX3_readClause_39 (K_nextX _ D adK adV cy a (cac T _) B X1 hJ0.1 eX1) rfl (fun vu_21 wu_21 hu_21 => ?_)
        obtain ⟨rfl, rfl⟩ := hu_21
        refine g_aload_n (i := 0) dX3_readClause_42 rfl rfl ?_
        refine g_get 7 4 dX3_readClause_43 (List.mem_of_getElem? (i := 1) rfl) (fun w h => List.mem_cons_of_mem _ (List.mem_append_left _ (List.mem_append_right _ h))) (cO_reader _ _ _ _) rfl (by decide) rfl ?_
        refine g_bipush (10) rfl dX3_readClause_46 ?_
        refine g_icmp_eq 75 dX3_readClause_48 (by decide) (fun c_22 => ?_) (fun c_22 => ?_)
        · skip
          have hw10 : X1.1 24 = 10 := c_22
          refine g_iconst (0) rfl dX3_readClause_75 ?_
          refine g_istore_n (i := 2) dX3_readClause_76 rfl (by decide) ?_
          obtain ⟨X9, hX9⟩ : ∃ Z : Int32 × MS, Z = crcL 4 X1 := ⟨_, rfl⟩
          refine g_whl (σ := Nat × MS) (fun x => x.1) (fun x => x.1 ≤ 4 ∧ crJ x.2 ∧ crcL x.1 x.2 = X9) (fun x => CW cy a x.2 B) (fun x => [(0, .ref (a 203)), (1, .ref (a 212)), (2, .int (nI (4 - x.1)))]) (4, X1) ⟨Nat.le_refl 4, hJ1, hX9.symm⟩ rfl ⟨rfl, rfl, rfl, trivial⟩ (fun x gx ih => ?_)
          obtain ⟨f, U⟩ := x
          obtain ⟨hf4, hJU, gx⟩ := gx
          replace hf4 : f ≤ 4 := hf4
          replace hJU : crJ U := hJU
          replace gx : crcL f U = X9 := gx
          refine g_nrm [(0, .ref (a 203)), (1, .ref (a 212)), (2, .int (nI (4 - f)))] ⟨rfl, rfl, rfl, trivial⟩ ?_
          obtain ⟨Z1, eZ1⟩ : ∃ Z : MS, Z = cnx U := ⟨_, rfl⟩
          have hJZ : crJ Z1 := (by rw [eZ1]; exact crJ_nx hJU)
          obtain ⟨Y, eY⟩ : ∃ Z : Int32 × MS, Z = crt Z1 := ⟨_, rfl⟩
          have hJY := crt_J hJZ
          rw [← eY] at hJY
          have eY2 : Y = crt (cnx U) := (by rw [← eZ1]; exact eY)
          cases f with
          | zero =>
            refine g_iload_n (i := 2) dX3_readClause_77 rfl rfl ?_
            refine g_iconst (4) rfl dX3_readClause_78 ?_
            refine g_icmp_ge 135 dX3_readClause_79 (by decide) (fun c_24 => ?_) (fun c_24 => ?_)
            · skip
              refine g_iconst (0) rfl dX3_readClause_135 ?_
              refine g_iret dX3_readClause_136 ?_
              refine Or.inr ⟨rfl, ?_⟩
              rw [eX]
              unfold crc
              first | rw [if_pos hw8, ← eX1] | rw [if_neg hn8, if_pos hw9, ← eX1]
              unfold crcA
              rw [if_pos hw10, ← hX9, ← gx]
              exact ⟨rfl, rfl⟩
            · skip
              exact absurd (by decide) c_24
          | succ f =>
            refine g_iload_n (i := 2) dX3_readClause_77 rfl rfl ?_
            refine g_iconst (4) rfl dX3_readClause_78 ?_
            refine g_icmp_ge 135 dX3_readClause_79 (by decide) (fun c_25 => ?_) (fun c_25 => ?_)
            · skip
              exact absurd c_25 (nI_ge (b := 4) (by omega) (by decide))
            · skip
              refine g_aload_n (i := 0) dX3_readClause_82 rfl rfl ?_
              refine g_callVEf 0 7 (sE_keep adK adV) hE9 gX3_readClause_X3_nextWord rfl rfl rfl ⟨Nat.le_of_ble_eq_true rfl, Nat.le_of_ble_eq_true rfl⟩ ⟨Nat.le_of_ble_eq_true rfl, Nat.le_of_ble_eq_true rfl⟩ (by exact Nat.le_of_ble_eq_true rfl) (by decide +kernel) rfl (cO_reader _ _ _ _) rfl dX3_readClause_83 (K_nextX _ D adK adV cy a U B Z1 hJU.1 eZ1) rfl (fun vu_26 wu_26 hu_26 => ?_)
              obtain ⟨rfl, rfl⟩ := hu_26
              refine g_aload_n (i := 0) dX3_readClause_86 rfl rfl ?_
              refine g_aload_n (i := 1) dX3_readClause_87 rfl rfl ?_
              refine g_callVEf 1 7 (sE_keep adK adV) hE9 gX3_readClause_X3_readTest rfl rfl rfl ⟨Nat.le_of_ble_eq_true rfl, Nat.le_of_ble_eq_true rfl⟩ ⟨Nat.le_of_ble_eq_true rfl, Nat.le_of_ble_eq_true rfl⟩ (by exact Nat.le_of_ble_eq_true rfl) (by decide +kernel) rfl (cO_reader _ _ _ _) rfl dX3_readClause_88 (K_testX _ D adK adV cy a Z1 B Y hJZ eY) rfl (fun vu_27 wu_27 hu_27 => ?_)
              rcases hu_27 with ⟨rfl, hu_27, rfl⟩ | ⟨rfl, hu_27, rfl⟩
              · skip
                have hu_T := hu_27
                refine g_if_ne 96 dX3_readClause_91 (by decide) (fun _ => ?_) (fun h9 => absurd h9 (by decide))
                refine g_aload_n (i := 0) dX3_readClause_96 rfl rfl ?_
                refine g_get 7 4 dX3_readClause_97 (List.mem_of_getElem? (i := 1) rfl) (fun w h => List.mem_cons_of_mem _ (List.mem_append_left _ (List.mem_append_right _ h))) (cO_reader _ _ _ _) rfl (by decide) rfl ?_
                refine g_bipush (11) rfl dX3_readClause_100 ?_
                refine g_icmp_eq 129 dX3_readClause_102 (by decide) (fun c_29 => ?_) (fun c_29 => ?_)
                · skip
                  have h11 : Y.2.1 24 = 11 := c_29
                  refine g_iinc (1) dX3_readClause_129 rfl rfl (by decide) ?_
                  refine g_goto 77 dX3_readClause_132 (by decide) ?_
                  exact g_to _ _ (ih (f, Y.2) ⟨by show f ≤ 4; omega, hJY.1, (by show crcL f Y.2 = X9; rw [← gx, crcL1 eY2 hu_T h11])⟩ (Nat.lt_succ_self f)) rfl ⟨rfl, rfl, (by rw [← i4s f (by omega)]; rfl), trivial⟩
                · skip
                  have hn11 : ¬ Y.2.1 24 = 11 := c_29
                  refine g_aload_n (i := 0) dX3_readClause_105 rfl rfl ?_
                  refine g_get 7 4 dX3_readClause_106 (List.mem_of_getElem? (i := 1) rfl) (fun w h => List.mem_cons_of_mem _ (List.mem_append_left _ (List.mem_append_right _ h))) (cO_reader _ _ _ _) rfl (by decide) rfl ?_
                  refine g_bipush (12) rfl dX3_readClause_109 ?_
                  refine g_icmp_eq 123 dX3_readClause_111 (by decide) (fun c_30 => ?_) (fun c_30 => ?_)
                  · skip
                    have h12b : Y.2.1 24 = 12 := c_30
                    refine g_iconst (1) rfl dX3_readClause_123 ?_
                    refine g_goto 128 dX3_readClause_124 (by decide) ?_
                    refine g_iret dX3_readClause_128 ?_
                    first | (have g9 := h12b; refine Or.inl ⟨rfl, ?_⟩; (rw [eX]); (unfold crc); (first | rw [if_pos hw8, ← eX1] | rw [if_neg hn8, if_pos hw9, ← eX1]); (unfold crcA); (rw [if_pos hw10, ← hX9, ← gx]); (rw [crcL2 eY2 hu_T hn11]); (unfold cend); rw [if_pos g9]; exact ⟨rfl, rfl⟩) | (have g9 := h14b; refine Or.inl ⟨rfl, ?_⟩; (rw [eX]); (unfold crc); (first | rw [if_pos hw8, ← eX1] | rw [if_neg hn8, if_pos hw9, ← eX1]); (unfold crcA); (rw [if_pos hw10, ← hX9, ← gx]); (rw [crcL2 eY2 hu_T hn11]); (unfold cend); rw [if_neg hn12b, if_pos g9]; exact ⟨rfl, rfl⟩) | (have g9 := hn14b; refine Or.inr ⟨rfl, ?_⟩; (rw [eX]); (unfold crc); (first | rw [if_pos hw8, ← eX1] | rw [if_neg hn8, if_pos hw9, ← eX1]); (unfold crcA); (rw [if_pos hw10, ← hX9, ← gx]); (rw [crcL2 eY2 hu_T hn11]); (unfold cend); rw [if_neg hn12b, if_neg g9]; exact ⟨rfl, rfl⟩)
                  · skip
                    have hn12b : ¬ Y.2.1 24 = 12 := c_30
                    refine g_aload_n (i := 0) dX3_readClause_114 rfl rfl ?_
                    refine g_get 7 4 dX3_readClause_115 (List.mem_of_getElem? (i := 1) rfl) (fun w h => List.mem_cons_of_mem _ (List.mem_append_left _ (List.mem_append_right _ h))) (cO_reader _ _ _ _) rfl (by decide) rfl ?_
                    refine g_bipush (14) rfl dX3_readClause_118 ?_
                    refine g_icmp_ne 127 dX3_readClause_120 (by decide) (fun c_31 => ?_) (fun c_31 => ?_)
                    · skip
                      have hn14b : ¬ Y.2.1 24 = 14 := c_31
                      refine g_iconst (0) rfl dX3_readClause_127 ?_
                      refine g_iret dX3_readClause_128 ?_
                      first | (have g9 := h12b; refine Or.inl ⟨rfl, ?_⟩; (rw [eX]); (unfold crc); (first | rw [if_pos hw8, ← eX1] | rw [if_neg hn8, if_pos hw9, ← eX1]); (unfold crcA); (rw [if_pos hw10, ← hX9, ← gx]); (rw [crcL2 eY2 hu_T hn11]); (unfold cend); rw [if_pos g9]; exact ⟨rfl, rfl⟩) | (have g9 := h14b; refine Or.inl ⟨rfl, ?_⟩; (rw [eX]); (unfold crc); (first | rw [if_pos hw8, ← eX1] | rw [if_neg hn8, if_pos hw9, ← eX1]); (unfold crcA); (rw [if_pos hw10, ← hX9, ← gx]); (rw [crcL2 eY2 hu_T hn11]); (unfold cend); rw [if_neg hn12b, if_pos g9]; exact ⟨rfl, rfl⟩) | (have g9 := hn14b; refine Or.inr ⟨rfl, ?_⟩; (rw [eX]); (unfold crc); (first | rw [if_pos hw8, ← eX1] | rw [if_neg hn8, if_pos hw9, ← eX1]); (unfold crcA); (rw [if_pos hw10, ← hX9, ← gx]); (rw [crcL2 eY2 hu_T hn11]); (unfold cend); rw [if_neg hn12b, if_neg g9]; exact ⟨rfl, rfl⟩)
                    · skip
                      have h14b : Y.2.1 24 = 14 := c_31
                      refine g_iconst (1) rfl dX3_readClause_123 ?_
                      refine g_goto 128 dX3_readClause_124 (by decide) ?_
                      refine g_iret dX3_readClause_128 ?_
                      first | (have g9 := h12b; refine Or.inl ⟨rfl, ?_⟩; (rw [eX]); (unfold crc); (first | rw [if_pos hw8, ← eX1] | rw [if_neg hn8, if_pos hw9, ← eX1]); (unfold crcA); (rw [if_pos hw10, ← hX9, ← gx]); (rw [crcL2 eY2 hu_T hn11]); (unfold cend); rw [if_pos g9]; exact ⟨rfl, rfl⟩) | (have g9 := h14b; refine Or.inl ⟨rfl, ?_⟩; (rw [eX]); (unfold crc); (first | rw [if_pos hw8, ← eX1] | rw [if_neg hn8, if_pos hw9, ← eX1]); (unfold crcA); (rw [if_pos hw10, ← hX9, ← gx]); (rw [crcL2 eY2 hu_T hn11]); (unfold cend); rw [if_neg hn12b, if_pos g9]; exact ⟨rfl, rfl⟩) | (have g9 := hn14b; refine Or.inr ⟨rfl, ?_⟩; (rw [eX]); (unfold crc); (first | rw [if_pos hw8, ← eX1] | rw [if_neg hn8, if_pos hw9, ← eX1]); (unfold crcA); (rw [if_pos hw10, ← hX9, ← gx]); (rw [crcL2 eY2 hu_T hn11]); (unfold cend); rw [if_neg hn12b, if_neg g9]; exact ⟨rfl, rfl⟩)
              · skip
                have hu_T := hu_27
                refine g_if_ne 96 dX3_readClause_91 (by decide) (fun h9 => absurd h9 (by decide)) (fun _ => ?_)
                refine g_iconst (0) rfl dX3_readClause_94 ?_
                refine g_iret dX3_readClause_95 ?_
                refine Or.inr ⟨rfl, ?_⟩
                rw [eX]
                unfold crc
                first | rw [if_pos hw8, ← eX1] | rw [if_neg hn8, if_pos hw9, ← eX1]
                unfold crcA
                rw [if_pos hw10, ← hX9, ← gx]
                rw [crcL0 eY2 hu_T]
                exact ⟨rfl, rfl⟩
        · skip
          have hn10 : ¬ X1.1 24 = 10 := c_22
          refine g_aload_n (i := 0) dX3_readClause_51 rfl rfl ?_
          refine g_get 7 4 dX3_readClause_52 (List.mem_of_getElem? (i := 1) rfl) (fun w h => List.mem_cons_of_mem _ (List.mem_append_left _ (List.mem_append_right _ h))) (cO_reader _ _ _ _) rfl (by decide) rfl ?_
          refine g_bipush (12) rfl dX3_readClause_55 ?_
          refine g_icmp_eq 69 dX3_readClause_57 (by decide) (fun c_33 => ?_) (fun c_33 => ?_)
          · skip
            have h12a : X1.1 24 = 12 := c_33
            refine g_iconst (1) rfl dX3_readClause_69 ?_
            refine g_goto 74 dX3_readClause_70 (by decide) ?_
            refine g_iret dX3_readClause_74 ?_
            first | (have g9 := h12a; refine Or.inl ⟨rfl, ?_⟩; (rw [eX]); (unfold crc); (first | rw [if_pos hw8, ← eX1] | rw [if_neg hn8, if_pos hw9, ← eX1]); (unfold crcA); (rw [if_neg hn10]); (unfold cend); rw [if_pos g9]; exact ⟨rfl, rfl⟩) | (have g9 := h14a; refine Or.inl ⟨rfl, ?_⟩; (rw [eX]); (unfold crc); (first | rw [if_pos hw8, ← eX1] | rw [if_neg hn8, if_pos hw9, ← eX1]); (unfold crcA); (rw [if_neg hn10]); (unfold cend); rw [if_neg hn12a, if_pos g9]; exact ⟨rfl, rfl⟩) | (have g9 := hn14a; refine Or.inr ⟨rfl, ?_⟩; (rw [eX]); (unfold crc); (first | rw [if_pos hw8, ← eX1] | rw [if_neg hn8, if_pos hw9, ← eX1]); (unfold crcA); (rw [if_neg hn10]); (unfold cend); rw [if_neg hn12a, if_neg g9]; exact ⟨rfl, rfl⟩)
          · skip
            have hn12a : ¬ X1.1 24 = 12 := c_33
            refine g_aload_n (i := 0) dX3_readClause_60 rfl rfl ?_
            refine g_get 7 4 dX3_readClause_61 (List.mem_of_getElem? (i := 1) rfl) (fun w h => List.mem_cons_of_mem _ (List.mem_append_left _ (List.mem_append_right _ h))) (cO_reader _ _ _ _) rfl (by decide) rfl ?_
            refine g_bipush (14) rfl dX3_readClause_64 ?_
            refine g_icmp_ne 73 dX3_readClause_66 (by decide) (fun c_34 => ?_) (fun c_34 => ?_)
            · skip
              have hn14a : ¬ X1.1 24 = 14 := c_34
              refine g_iconst (0) rfl dX3_readClause_73 ?_
              refine g_iret dX3_readClause_74 ?_
              first | (have g9 := h12a; refine Or.inl ⟨rfl, ?_⟩; (rw [eX]); (unfold crc); (first | rw [if_pos hw8, ← eX1] | rw [if_neg hn8, if_pos hw9, ← eX1]); (unfold crcA); (rw [if_neg hn10]); (unfold cend); rw [if_pos g9]; exact ⟨rfl, rfl⟩) | (have g9 := h14a; refine Or.inl ⟨rfl, ?_⟩; (rw [eX]); (unfold crc); (first | rw [if_pos hw8, ← eX1] | rw [if_neg hn8, if_pos hw9, ← eX1]); (unfold crcA); (rw [if_neg hn10]); (unfold cend); rw [if_neg hn12a, if_pos g9]; exact ⟨rfl, rfl⟩) | (have g9 := hn14a; refine Or.inr ⟨rfl, ?_⟩; (rw [eX]); (unfold crc); (first | rw [if_pos hw8, ← eX1] | rw [if_neg hn8, if_pos hw9, ← eX1]); (unfold crcA); (rw [if_neg hn10]); (unfold cend); rw [if_neg hn12a, if_neg g9]; exact ⟨rfl, rfl⟩)
            · skip
              have h14a : X1.1 24 = 14 := c_34
              refine g_iconst (1) rfl dX3_readClause_69 ?_
              refine g_goto 74 dX3_readClause_70 (by decide) ?_
              refine g_iret dX3_readClause_74 ?_
              first | (have g9 := h12a; refine Or.inl ⟨rfl, ?_⟩; (rw [eX]); (unfold crc); (first | rw [if_pos hw8, ← eX1] | rw [if_neg hn8, if_pos hw9, ← eX1]); (unfold crcA); (rw [if_neg hn10]); (unfold cend); rw [if_pos g9]; exact ⟨rfl, rfl⟩) | (have g9 := h14a; refine Or.inl ⟨rfl, ?_⟩; (rw [eX]); (unfold crc); (first | rw [if_pos hw8, ← eX1] | rw [if_neg hn8, if_pos hw9, ← eX1]); (unfold crcA); (rw [if_neg hn10]); (unfold cend); rw [if_neg hn12a, if_pos g9]; exact ⟨rfl, rfl⟩) | (have g9 := hn14a; refine Or.inr ⟨rfl, ?_⟩; (rw [eX]); (unfold crc); (first | rw [if_pos hw8, ← eX1] | rw [if_neg hn8, if_pos hw9, ← eX1]); (unfold crcA); (rw [if_neg hn10]); (unfold cend); rw [if_neg hn12a, if_neg g9]; exact ⟨rfl, rfl⟩)
      · skip
        exact absurd c_19 hn8
    · skip
      refine g_iconst (0) rfl dX3_readClause_18 ?_
      refine g_iret dX3_readClause_19 ?_
      refine Or.inr ⟨rfl, ?_⟩
      rw [eX]
      unfold crc
      rw [if_neg (by assumption), if_neg (by assumption)]
      exact ⟨rfl, rfl⟩

def crxL : Nat → MS → Int32 × MS
  | 0, T => (0, T)
  | n + 1, T => if (crc T).1 = 0 then (0, (crc T).2) else if (crc T).2.1 24 = 14 then (1, (crc T).2) else if n = 0 then (0, (crc T).2) else crxL n (cnx (crc T).2)
def crxA (X : MS) : Int32 × MS := if X.1 24 = 14 then (1, X) else crxL 8 X
def crS (T : MS) : MS := sI (sI T 80 0) 23 0
def crx (T : MS) : Int32 × MS := crxA (cnx (crS T))
theorem crxL0 {n : Nat} {T : MS} {Y : Int32 × MS} (e : Y = crc T) (h : Y.1 = 0) : crxL (n + 1) T = (0, Y.2) := by
  subst e
  exact if_pos h
theorem crxL1 {n : Nat} {T : MS} {Y : Int32 × MS} (e : Y = crc T) (h : Y.1 = 1) (h14 : Y.2.1 24 = 14) : crxL (n + 1) T = (1, Y.2) := by
  subst e
  exact (if_neg (by rw [h]; decide)).trans (if_pos h14)
theorem crxL2 {T : MS} {Y : Int32 × MS} (e : Y = crc T) (h : Y.1 = 1) (h14 : ¬ Y.2.1 24 = 14) : crxL (0 + 1) T = (0, Y.2) := by
  subst e
  exact (if_neg (by rw [h]; decide)).trans ((if_neg h14).trans (if_pos rfl))
theorem crxL3 {n : Nat} {T : MS} {Y : Int32 × MS} (e : Y = crc T) (h : Y.1 = 1) (h14 : ¬ Y.2.1 24 = 14) : crxL (n + 1 + 1) T = crxL (n + 1) (cnx Y.2) := by
  subst e
  exact (if_neg (by rw [h]; decide)).trans ((if_neg h14).trans (if_neg (Nat.succ_ne_zero n)))
theorem crxL_J : ∀ (n : Nat) (T : MS), crJ T → crJ (crxL n T).2 ∧ ((crxL n T).1 = 0 ∨ (crxL n T).1 = 1)
  | 0, T, h => ⟨h, Or.inl rfl⟩
  | n + 1, T, h => by
    have hq := crc_J h
    obtain ⟨Y, eY⟩ : ∃ Z, Z = crc T := ⟨_, rfl⟩
    rw [← eY] at hq
    rcases hq.2 with h0 | h1
    · rw [crxL0 eY h0]; exact ⟨hq.1, Or.inl rfl⟩
    · by_cases h14 : Y.2.1 24 = 14
      · rw [crxL1 eY h1 h14]; exact ⟨hq.1, Or.inr rfl⟩
      · cases n with
        | zero => rw [crxL2 eY h1 h14]; exact ⟨hq.1, Or.inl rfl⟩
        | succ n => rw [crxL3 eY h1 h14]; exact crxL_J (n + 1) (cnx Y.2) (crJ_nx hq.1)
theorem crS_tr {T : MS} (hL : ciL T) : trI (crS T) 401 := by
  obtain ⟨n, hn, e⟩ := hL
  exact ⟨n, 0, e, by show (0 : Int32) = nI 0; decide, Nat.zero_le _, hn, by omega⟩
theorem crS_J {T : MS} (hL : ciL T) (hC : ciC T 80) : crJ (cnx (crS T)) := by
  obtain ⟨k1, k2, k3, k4⟩ := cnx_sp (crS_tr hL)
  refine ⟨k1, ?_, k4⟩
  have e80 := k3 80 (by decide) (by decide) (by decide) (by decide)
  obtain ⟨c1, c2, c3, c4⟩ := hC
  refine ⟨⟨0, by decide, e80.trans (by show (0 : Int32) = nI 0; decide)⟩, ?_, ?_, ?_⟩
  · rw [k2]; exact c2
  · rw [k2]; exact c3
  · rw [k2]; exact c4
theorem crx_J {T : MS} (hL : ciL T) (hC : ciC T 80) : crJ (crx T).2 ∧ ((crx T).1 = 0 ∨ (crx T).1 = 1) := by
  have h := crS_J hL hC
  unfold crx
  generalize cnx (crS T) = X at h
  unfold crxA
  split
  · exact ⟨h, Or.inr rfl⟩
  · exact crxL_J 8 X h
theorem i9s (m : Nat) (h : m < 9) : nI (9 - (m + 1)) + 1 = nI (9 - m) := by
  rw [nI_1]
  congr 1
  omega

set_option maxHeartbeats 4000000 in
set_option maxRecDepth 100000 in
/-- readText -/
theorem K_textX (l : Launch) (D : va_G) (adK adV : Nat → Nat) (cy : Nat → ClassId) (a : Nat → Nat) (T : MS) (B : List BL) (X : Int32 × MS) (hL : ciL T) (hC : ciC T 80) (eX : X = crx T) : CtS (sE adK adV) l D clx (tyx cy) yX3_readText wsX3_readText (rmC 9) 0 0 [.ref (a 203), .ref (a 212)] (CW cy a T B) (fun r9 w9 => (r9 = some (.int 1) ∧ X.1 = 1 ∧ w9 = CW cy a X.2 B) ∨ (r9 = some (.int 0) ∧ X.1 = 0 ∧ w9 = CW cy a X.2 B)) := by
  refine g_startS (cc := cX3_readText) (maxL := 3) (ret := (some .boolean)) (by decide) rfl (Nat.le_of_ble_eq_true rfl) (fun v w1 h => by rcases h with ⟨rfl, -, -⟩ | ⟨rfl, -, -⟩ <;> exact ⟨.boolean, rfl, rfl⟩) (fun Γ hlΓ hE9 => ?_)
  subst hlΓ
  obtain ⟨X1, eX1⟩ : ∃ Z : MS, Z = cnx (crS T) := ⟨_, rfl⟩
  have hJ1 : crJ X1 := by rw [eX1]; exact crS_J hL hC
  refine g_aload_n (i := 1) dX3_readText_0 rfl rfl ?_
  refine g_callVf 0 65 gX3_readText_X2_forget rfl rfl rfl ⟨Nat.le_of_ble_eq_true rfl, Nat.le_of_ble_eq_true rfl⟩ ⟨Nat.le_of_ble_eq_true rfl, Nat.le_of_ble_eq_true rfl⟩ (by exact Nat.le_of_ble_eq_true rfl) (by decide +kernel) rfl (cO_draft _ _ _ _) rfl dX3_readText_1 (K_forget _ D cy a T B) rfl (fun vu_1 wu_1 hu_1 => ?_)
  obtain ⟨rfl, rfl⟩ := hu_1
  refine g_aload_n (i := 0) dX3_readText_4 rfl rfl ?_
  refine g_iconst (0) rfl dX3_readText_5 ?_
  refine g_put 7 3 _ tyX3 tyX3_ok nmX3 dX3_readText_6 (List.mem_of_getElem? (i := 1) rfl) (fun w h => List.mem_cons_of_mem _ (List.mem_append_left _ (List.mem_append_right _ h))) (cO_reader _ _ _ _) rfl (by decide) rfl (tyX3_ok 3 (by decide)) rfl rfl (Nat.le_of_ble_eq_true rfl) (cwI_23 _ _ _ _ _) ?_
  refine g_aload_n (i := 0) dX3_readText_9 rfl rfl ?_
  refine g_callVEf 0 7 (sE_keep adK adV) hE9 gX3_readText_X3_nextWord rfl rfl rfl ⟨Nat.le_of_ble_eq_true rfl, Nat.le_of_ble_eq_true rfl⟩ ⟨Nat.le_of_ble_eq_true rfl, Nat.le_of_ble_eq_true rfl⟩ (by exact Nat.le_of_ble_eq_true rfl) (by decide +kernel) rfl (cO_reader _ _ _ _) rfl dX3_readText_10 (K_nextX _ D adK adV cy a (crS T) B X1 (crS_tr hL) eX1) rfl (fun vu_2 wu_2 hu_2 => ?_)
  obtain ⟨rfl, rfl⟩ := hu_2
  refine g_aload_n (i := 0) dX3_readText_13 rfl rfl ?_
  refine g_get 7 4 dX3_readText_14 (List.mem_of_getElem? (i := 2) rfl) (fun w h => List.mem_cons_of_mem _ (List.mem_append_left _ (List.mem_append_right _ h))) (cO_reader _ _ _ _) rfl (by decide) rfl ?_
  refine g_bipush (14) rfl dX3_readText_17 ?_
  refine g_icmp_ne 24 dX3_readText_19 (by decide) (fun c_3 => ?_) (fun c_3 => ?_)
  · skip
    have hnE : ¬ X1.1 24 = 14 := c_3
    refine g_iconst (1) rfl dX3_readText_24 ?_
    refine g_istore_n (i := 2) dX3_readText_25 rfl (by decide) ?_
    obtain ⟨X9, hX9⟩ : ∃ Z : Int32 × MS, Z = crxL 8 X1 := ⟨_, rfl⟩
    refine g_whl (σ := Nat × MS) (fun x => x.1) (fun x => x.1 ≤ 8 ∧ crJ x.2 ∧ crxL x.1 x.2 = X9) (fun x => CW cy a x.2 B) (fun x => [(0, .ref (a 203)), (1, .ref (a 212)), (2, .int (nI (9 - x.1)))]) (8, X1) ⟨Nat.le_refl 8, hJ1, hX9.symm⟩ rfl ⟨rfl, rfl, rfl, trivial⟩ (fun x gx ih => ?_)
    obtain ⟨f, U⟩ := x
    obtain ⟨hf8, hJU, gx⟩ := gx
    replace hf8 : f ≤ 8 := hf8
    replace hJU : crJ U := hJU
    replace gx : crxL f U = X9 := gx
    refine g_nrm [(0, .ref (a 203)), (1, .ref (a 212)), (2, .int (nI (9 - f)))] ⟨rfl, rfl, rfl, trivial⟩ ?_
    obtain ⟨Y, eY⟩ : ∃ Z : Int32 × MS, Z = crc U := ⟨_, rfl⟩
    have hJY := crc_J hJU
    rw [← eY] at hJY
    obtain ⟨Z1, eZ1⟩ : ∃ Z : MS, Z = cnx Y.2 := ⟨_, rfl⟩
    have hJZ : crJ Z1 := (by rw [eZ1]; exact crJ_nx hJY.1)
    rcases f with _ | _ | f
    · skip
      refine g_iload_n (i := 2) dX3_readText_26 rfl rfl ?_
      refine g_bipush (8) rfl dX3_readText_27 ?_
      refine g_icmp_gt 69 dX3_readText_29 (by decide) (fun c_5 => ?_) (fun c_5 => ?_)
      · skip
        refine g_iconst (0) rfl dX3_readText_69 ?_
        refine g_iret dX3_readText_70 ?_
        refine Or.inr ⟨rfl, ?_⟩
        rw [eX]
        unfold crx
        rw [← eX1]
        unfold crxA
        rw [if_neg hnE, ← hX9, ← gx]
        exact ⟨rfl, rfl⟩
      · skip
        exact absurd (by decide) c_5
    · skip
      refine g_iload_n (i := 2) dX3_readText_26 rfl rfl ?_
      refine g_bipush (8) rfl dX3_readText_27 ?_
      refine g_icmp_gt 69 dX3_readText_29 (by decide) (fun c_6 => ?_) (fun c_6 => ?_)
      · skip
        exact absurd c_6 (by decide)
      · skip
        refine g_aload_n (i := 0) dX3_readText_32 rfl rfl ?_
        refine g_aload_n (i := 1) dX3_readText_33 rfl rfl ?_
        refine g_callVEf 1 7 (sE_keep adK adV) hE9 gX3_readText_X3_readClause rfl rfl rfl ⟨Nat.le_of_ble_eq_true rfl, Nat.le_of_ble_eq_true rfl⟩ ⟨Nat.le_of_ble_eq_true rfl, Nat.le_of_ble_eq_true rfl⟩ (by exact Nat.le_of_ble_eq_true rfl) (by decide +kernel) rfl (cO_reader _ _ _ _) rfl dX3_readText_34 (K_clauseX _ D adK adV cy a U B Y hJU eY) rfl (fun vu_7 wu_7 hu_7 => ?_)
        rcases hu_7 with ⟨rfl, hu_7, rfl⟩ | ⟨rfl, hu_7, rfl⟩
        · skip
          have hu_T := hu_7
          refine g_if_ne 42 dX3_readText_37 (by decide) (fun _ => ?_) (fun h9 => absurd h9 (by decide))
          refine g_aload_n (i := 0) dX3_readText_42 rfl rfl ?_
          refine g_get 7 4 dX3_readText_43 (List.mem_of_getElem? (i := 2) rfl) (fun w h => List.mem_cons_of_mem _ (List.mem_append_left _ (List.mem_append_right _ h))) (cO_reader _ _ _ _) rfl (by decide) rfl ?_
          refine g_bipush (14) rfl dX3_readText_46 ?_
          refine g_icmp_ne 53 dX3_readText_48 (by decide) (fun c_9 => ?_) (fun c_9 => ?_)
          · skip
            have hn14 : ¬ Y.2.1 24 = 14 := c_9
            refine g_iload_n (i := 2) dX3_readText_53 rfl rfl ?_
            refine g_bipush (8) rfl dX3_readText_54 ?_
            refine g_icmp_ge 63 dX3_readText_56 (by decide) (fun c_10 => ?_) (fun c_10 => ?_)
            · skip
              refine g_iinc (1) dX3_readText_63 rfl rfl (by decide) ?_
              refine g_goto 26 dX3_readText_66 (by decide) ?_
              first | exact g_to _ _ (ih (0, Y.2) ⟨by show 0 ≤ 8; omega, hJY.1, (by show (0, Y.2) = X9; rw [← gx, crxL2 eY hu_T hn14])⟩ (Nat.lt_succ_self 0)) rfl ⟨rfl, rfl, rfl, trivial⟩ | exact g_to _ _ (ih (f + 1, Z1) ⟨by show f + 1 ≤ 8; omega, hJZ, (by show crxL (f + 1) Z1 = X9; rw [← gx, crxL3 eY hu_T hn14, ← eZ1])⟩ (Nat.lt_succ_self (f + 1))) rfl ⟨rfl, rfl, (by rw [← i9s (f + 1) (by omega)]; rfl), trivial⟩
            · skip
              exact absurd (by decide) c_10
          · skip
            have h14 : Y.2.1 24 = 14 := c_9
            refine g_iconst (1) rfl dX3_readText_51 ?_
            refine g_iret dX3_readText_52 ?_
            refine Or.inl ⟨rfl, ?_⟩
            rw [eX]
            unfold crx
            rw [← eX1]
            unfold crxA
            rw [if_neg hnE, ← hX9, ← gx]
            first | rw [crxL1 eY hu_T h14] | rw [crxL1 (n := 0) eY hu_T h14]
            exact ⟨rfl, rfl⟩
        · skip
          have hu_T := hu_7
          refine g_if_ne 42 dX3_readText_37 (by decide) (fun h9 => absurd h9 (by decide)) (fun _ => ?_)
          refine g_iconst (0) rfl dX3_readText_40 ?_
          refine g_iret dX3_readText_41 ?_
          refine Or.inr ⟨rfl, ?_⟩
          rw [eX]
          unfold crx
          rw [← eX1]
          unfold crxA
          rw [if_neg hnE, ← hX9, ← gx]
          first | rw [crxL0 eY hu_T] | rw [crxL0 (n := 0) eY hu_T]
          exact ⟨rfl, rfl⟩
    · skip
      refine g_iload_n (i := 2) dX3_readText_26 rfl rfl ?_
      refine g_bipush (8) rfl dX3_readText_27 ?_
      refine g_icmp_gt 69 dX3_readText_29 (by decide) (fun c_12 => ?_) (fun c_12 => ?_)
      · skip
        exact absurd c_12 (Int32.not_lt.mpr (nI_le (b := 8) (by omega) (by decide)))
      · skip
        refine g_aload_n (i := 0) dX3_readText_32 rfl rfl ?_
        refine g_aload_n (i := 1) dX3_readText_33 rfl rfl ?_
        refine g_callVEf 1 7 (sE_keep adK adV) hE9 gX3_readText_X3_readClause rfl rfl rfl ⟨Nat.le_of_ble_eq_true rfl, Nat.le_of_ble_eq_true rfl⟩ ⟨Nat.le_of_ble_eq_true rfl, Nat.le_of_ble_eq_true rfl⟩ (by exact Nat.le_of_ble_eq_true rfl) (by decide +kernel) rfl (cO_reader _ _ _ _) rfl dX3_readText_34 (K_clauseX _ D adK adV cy a U B Y hJU eY) rfl (fun vu_13 wu_13 hu_13 => ?_)
        rcases hu_13 with ⟨rfl, hu_13, rfl⟩ | ⟨rfl, hu_13, rfl⟩
        · skip
          have hu_T := hu_13
          refine g_if_ne 42 dX3_readText_37 (by decide) (fun _ => ?_) (fun h9 => absurd h9 (by decide))
          refine g_aload_n (i := 0) dX3_readText_42 rfl rfl ?_
          refine g_get 7 4 dX3_readText_43 (List.mem_of_getElem? (i := 2) rfl) (fun w h => List.mem_cons_of_mem _ (List.mem_append_left _ (List.mem_append_right _ h))) (cO_reader _ _ _ _) rfl (by decide) rfl ?_
          refine g_bipush (14) rfl dX3_readText_46 ?_
          refine g_icmp_ne 53 dX3_readText_48 (by decide) (fun c_15 => ?_) (fun c_15 => ?_)
          · skip
            have hn14 : ¬ Y.2.1 24 = 14 := c_15
            refine g_iload_n (i := 2) dX3_readText_53 rfl rfl ?_
            refine g_bipush (8) rfl dX3_readText_54 ?_
            refine g_icmp_ge 63 dX3_readText_56 (by decide) (fun c_16 => ?_) (fun c_16 => ?_)
            · skip
              exact absurd c_16 (nI_ge (b := 8) (by omega) (by decide))
            · skip
              refine g_aload_n (i := 0) dX3_readText_59 rfl rfl ?_
              refine g_callVEf 0 7 (sE_keep adK adV) hE9 gX3_readText_X3_nextWord rfl rfl rfl ⟨Nat.le_of_ble_eq_true rfl, Nat.le_of_ble_eq_true rfl⟩ ⟨Nat.le_of_ble_eq_true rfl, Nat.le_of_ble_eq_true rfl⟩ (by exact Nat.le_of_ble_eq_true rfl) (by decide +kernel) rfl (cO_reader _ _ _ _) rfl dX3_readText_60 (K_nextX _ D adK adV cy a Y.2 B Z1 hJY.1.1 eZ1) rfl (fun vu_17 wu_17 hu_17 => ?_)
              obtain ⟨rfl, rfl⟩ := hu_17
              refine g_iinc (1) dX3_readText_63 rfl rfl (by decide) ?_
              refine g_goto 26 dX3_readText_66 (by decide) ?_
              first | exact g_to _ _ (ih (0, Y.2) ⟨by show 0 ≤ 8; omega, hJY.1, (by show (0, Y.2) = X9; rw [← gx, crxL2 eY hu_T hn14])⟩ (Nat.lt_succ_self 0)) rfl ⟨rfl, rfl, rfl, trivial⟩ | exact g_to _ _ (ih (f + 1, Z1) ⟨by show f + 1 ≤ 8; omega, hJZ, (by show crxL (f + 1) Z1 = X9; rw [← gx, crxL3 eY hu_T hn14, ← eZ1])⟩ (Nat.lt_succ_self (f + 1))) rfl ⟨rfl, rfl, (by rw [← i9s (f + 1) (by omega)]; rfl), trivial⟩
          · skip
            have h14 : Y.2.1 24 = 14 := c_15
            refine g_iconst (1) rfl dX3_readText_51 ?_
            refine g_iret dX3_readText_52 ?_
            refine Or.inl ⟨rfl, ?_⟩
            rw [eX]
            unfold crx
            rw [← eX1]
            unfold crxA
            rw [if_neg hnE, ← hX9, ← gx]
            first | rw [crxL1 eY hu_T h14] | rw [crxL1 (n := 0) eY hu_T h14]
            exact ⟨rfl, rfl⟩
        · skip
          have hu_T := hu_13
          refine g_if_ne 42 dX3_readText_37 (by decide) (fun h9 => absurd h9 (by decide)) (fun _ => ?_)
          refine g_iconst (0) rfl dX3_readText_40 ?_
          refine g_iret dX3_readText_41 ?_
          refine Or.inr ⟨rfl, ?_⟩
          rw [eX]
          unfold crx
          rw [← eX1]
          unfold crxA
          rw [if_neg hnE, ← hX9, ← gx]
          first | rw [crxL0 eY hu_T] | rw [crxL0 (n := 0) eY hu_T]
          exact ⟨rfl, rfl⟩
  · skip
    refine g_iconst (1) rfl dX3_readText_22 ?_
    refine g_iret dX3_readText_23 ?_
    refine Or.inl ⟨rfl, ?_⟩
    rw [eX]
    unfold crx
    rw [← eX1]
    unfold crxA
    rw [if_pos (by assumption)]
    exact ⟨rfl, rfl⟩

set_option maxHeartbeats 4000000 in
set_option maxRecDepth 100000 in
/-- read -/
theorem K_read (l : Launch) (D : va_G) (adK adV : Nat → Nat) (cy : Nat → ClassId) (a : Nat → Nat) (T : MS) (B : List BL) (X : Int32 × MS) (hL : ciL T) (hC : ciC T 80) (eX : X = crx T) : CtS (sE adK adV) l D clx (tyx cy) yX8_read wsX8_read (rmC 10) 0 0 [.ref (a 200)] (CW cy a T B) (fun r9 w9 => (X.1 = 1 ∧ r9 = some (.long ((swT (cf_endT X.2 1)).1 70).toInt64) ∧ w9 = CW cy (fun n => a (swp n)) (swT (cf_endT X.2 1)) B) ∨ (X.1 = 0 ∧ r9 = some (.long (cf_fd (cf_endT X.2 0) 6).1) ∧ w9 = CW cy a (cf_fd (cf_endT X.2 0) 6).2 B)) := by
  refine g_startS (cc := cX8_read) (maxL := 3) (ret := (some .long)) (by decide) rfl (Nat.le_of_ble_eq_true rfl) (fun v w1 h => by rcases h with ⟨-, rfl, -⟩ | ⟨-, rfl, -⟩ <;> exact rfl) (fun Γ hlΓ hE9 => ?_)
  subst hlΓ
  refine g_aload_n (i := 0) dX8_read_0 rfl rfl ?_
  refine g_get 0 6 dX8_read_1 (List.mem_of_getElem? (i := 1) rfl) (fun w h => List.mem_cons_of_mem _ (List.mem_append_left _ (List.mem_append_left _ (List.mem_append_right _ h)))) (cO_main _ _ _ _) rfl (by decide) rfl ?_
  refine g_aload_n (i := 0) dX8_read_4 rfl rfl ?_
  refine g_get 0 13 dX8_read_5 (List.mem_of_getElem? (i := 2) rfl) (fun w h => List.mem_cons_of_mem _ (List.mem_append_left _ (List.mem_append_left _ (List.mem_append_right _ h)))) (cO_main _ _ _ _) rfl (by decide) rfl ?_
  refine g_callVEf 1 7 (sE_keep adK adV) hE9 gX8_read_X3_readText rfl rfl rfl ⟨Nat.le_of_ble_eq_true rfl, Nat.le_of_ble_eq_true rfl⟩ ⟨Nat.le_of_ble_eq_true rfl, Nat.le_of_ble_eq_true rfl⟩ (by exact Nat.le_of_ble_eq_true rfl) (by decide +kernel) rfl (cO_reader _ _ _ _) rfl dX8_read_8 (K_textX _ D adK adV cy a T B X hL hC eX) rfl (fun vu_1 wu_1 hu_1 => ?_)
  rcases hu_1 with ⟨rfl, hu_1, rfl⟩ | ⟨rfl, hu_1, rfl⟩
  · skip
    have hu_T := hu_1
    refine g_istore_n (i := 1) dX8_read_11 rfl (by decide) ?_
    refine g_aload_n (i := 0) dX8_read_12 rfl rfl ?_
    refine g_get 0 6 dX8_read_13 (List.mem_of_getElem? (i := 1) rfl) (fun w h => List.mem_cons_of_mem _ (List.mem_append_left _ (List.mem_append_left _ (List.mem_append_right _ h)))) (cO_main _ _ _ _) rfl (by decide) rfl ?_
    refine g_iload_n (i := 1) dX8_read_16 rfl rfl ?_
    refine g_callVf 1 7 gX8_read_X3_endText rfl rfl rfl ⟨Nat.le_of_ble_eq_true rfl, Nat.le_of_ble_eq_true rfl⟩ ⟨Nat.le_of_ble_eq_true rfl, Nat.le_of_ble_eq_true rfl⟩ (by exact Nat.le_of_ble_eq_true rfl) (by decide +kernel) rfl (cO_reader _ _ _ _) rfl dX8_read_17 (K_endText _ D cy a _ _ _) rfl (fun vu_2 wu_2 hu_2 => ?_)
    obtain ⟨rfl, rfl⟩ := hu_2
    refine g_iload_n (i := 1) dX8_read_20 rfl rfl ?_
    refine g_if_ne 31 dX8_read_21 (by decide) (fun _ => ?_) (fun h9 => absurd h9 (by decide))
    refine g_aload_n (i := 0) dX8_read_31 rfl rfl ?_
    refine g_get 0 12 dX8_read_32 (List.mem_of_getElem? (i := 3) rfl) (fun w h => List.mem_cons_of_mem _ (List.mem_append_left _ (List.mem_append_left _ (List.mem_append_right _ h)))) (cO_main _ _ _ _) rfl (by decide) rfl ?_
    refine g_astore_n (i := 2) dX8_read_35 rfl (by decide) ?_
    refine g_aload_n (i := 0) dX8_read_36 rfl rfl ?_
    refine g_aload_n (i := 0) dX8_read_37 rfl rfl ?_
    refine g_get 0 13 dX8_read_38 (List.mem_of_getElem? (i := 2) rfl) (fun w h => List.mem_cons_of_mem _ (List.mem_append_left _ (List.mem_append_left _ (List.mem_append_right _ h)))) (cO_main _ _ _ _) rfl (by decide) rfl ?_
    refine g_put 0 12 ((CW cy a (cf_endT X.2 1) B).set 0 (a 200, .inr (8, (CO_main a (cf_endT X.2 1)).set 12 (.ref (a 212))))) tyX8 tyX8_ok nmX8 dX8_read_41 (List.mem_of_getElem? (i := 3) rfl) (fun w h => List.mem_cons_of_mem _ (List.mem_append_left _ (List.mem_append_left _ (List.mem_append_right _ h)))) (cO_main _ _ _ _) rfl (by decide) rfl (tyX8_ok 12 (by decide)) rfl rfl (Nat.le_of_ble_eq_true rfl) rfl ?_
    refine g_aload_n (i := 0) dX8_read_44 rfl rfl ?_
    refine g_aload_n (i := 2) dX8_read_45 rfl rfl ?_
    refine g_put (ci := 8) (fs := (CO_main a (cf_endT X.2 1)).set 12 (.ref (a 212))) 0 13 (((CW cy a (cf_endT X.2 1) B).set 0 (a 200, .inr (8, (CO_main a (cf_endT X.2 1)).set 12 (.ref (a 212))))).set 0 (a 200, .inr (8, ((CO_main a (cf_endT X.2 1)).set 12 (.ref (a 212))).set 13 (.ref (a 202))))) tyX8 tyX8_ok nmX8 dX8_read_46 (List.mem_of_getElem? (i := 2) rfl) (fun w h => List.mem_cons_of_mem _ (List.mem_append_left _ (List.mem_append_left _ (List.mem_append_right _ h)))) rfl rfl (by decide) rfl (tyX8_ok 13 (by decide)) rfl rfl (Nat.le_of_ble_eq_true rfl) rfl ?_
    refine g_perm (CW cy (fun n => a (swp n)) (swT (cf_endT X.2 1)) B) (cw_swap cy a (cf_endT X.2 1) B) ?_
    refine g_aload_n (i := 0) dX8_read_49 rfl rfl ?_
    refine g_get 0 12 dX8_read_50 (List.mem_of_getElem? (i := 3) rfl) (fun w h => List.mem_cons_of_mem _ (List.mem_append_left _ (List.mem_append_left _ (List.mem_append_right _ h)))) (cO_main cy (fun n => a (swp n)) _ _) rfl (by decide) rfl ?_
    refine g_get 59 0 dX8_read_53 (List.mem_of_getElem? (i := 4) rfl) (fun w h => List.mem_cons_of_mem _ (List.mem_append_left _ (List.mem_append_right _ h))) (cO_custom cy (fun n => a (swp n)) _ _) rfl (by decide) rfl ?_
    refine g_i2l dX8_read_56 ?_
    refine g_lret dX8_read_57 ?_
    exact Or.inl ⟨hu_T, rfl, rfl⟩
  · skip
    have hu_T := hu_1
    refine g_istore_n (i := 1) dX8_read_11 rfl (by decide) ?_
    refine g_aload_n (i := 0) dX8_read_12 rfl rfl ?_
    refine g_get 0 6 dX8_read_13 (List.mem_of_getElem? (i := 1) rfl) (fun w h => List.mem_cons_of_mem _ (List.mem_append_left _ (List.mem_append_left _ (List.mem_append_right _ h)))) (cO_main _ _ _ _) rfl (by decide) rfl ?_
    refine g_iload_n (i := 1) dX8_read_16 rfl rfl ?_
    refine g_callVf 1 7 gX8_read_X3_endText rfl rfl rfl ⟨Nat.le_of_ble_eq_true rfl, Nat.le_of_ble_eq_true rfl⟩ ⟨Nat.le_of_ble_eq_true rfl, Nat.le_of_ble_eq_true rfl⟩ (by exact Nat.le_of_ble_eq_true rfl) (by decide +kernel) rfl (cO_reader _ _ _ _) rfl dX8_read_17 (K_endText _ D cy a _ _ _) rfl (fun vu_5 wu_5 hu_5 => ?_)
    obtain ⟨rfl, rfl⟩ := hu_5
    refine g_iload_n (i := 1) dX8_read_20 rfl rfl ?_
    refine g_if_ne 31 dX8_read_21 (by decide) (fun h9 => absurd h9 (by decide)) (fun _ => ?_)
    refine g_aload_n (i := 0) dX8_read_24 rfl rfl ?_
    refine g_bipush (6) rfl dX8_read_25 ?_
    refine g_callVf 1 0 gX8_read_X8_finding rfl rfl rfl ⟨Nat.le_of_ble_eq_true rfl, Nat.le_of_ble_eq_true rfl⟩ ⟨Nat.le_of_ble_eq_true rfl, Nat.le_of_ble_eq_true rfl⟩ (by exact Nat.le_of_ble_eq_true rfl) (by decide +kernel) rfl (cO_main _ _ _ _) rfl dX8_read_27 (K_finding _ D cy a _ _ _ (by unfold vp_in; decide)) rfl (fun vu_7 wu_7 hu_7 => ?_)
    obtain ⟨rfl, rfl⟩ := hu_7
    refine g_lret dX8_read_30 ?_
    exact Or.inr ⟨hu_T, rfl, rfl⟩

