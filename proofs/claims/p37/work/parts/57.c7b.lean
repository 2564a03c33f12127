def cf_settle (T : MS) (h q : Int32) : Int64 × MS := if ctwo h q then (if T.2.2.2 (100 + h.toNatClampNeg) q.toNatClampNeg = 0 then cf_fd T 2 else ((hoR h q 4 T 0 (T.2.2.2 (100 + h.toNatClampNeg) q.toNatClampNeg)).1, cf_lessen (hoR h q 4 T 0 (T.2.2.2 (100 + h.toNatClampNeg) q.toNatClampNeg)).2 h q (T.2.2.2 (100 + h.toNatClampNeg) q.toNatClampNeg - (hoR h q 4 T 0 (T.2.2.2 (100 + h.toNatClampNeg) q.toNatClampNeg)).1))) else cf_fd T 1
set_option maxHeartbeats 4000000 in
set_option maxRecDepth 100000 in
/-- settle -/
theorem K_settle (l : Launch) (D : va_G) (cy : Nat → ClassId) (a : Nat → Nat) (T : MS) (B : List BL) (h q : Int32) : Ct l D clx (tyx cy) yX8_settle wsX8_settle (rmC 3) 0 0 [.ref (a 200), .int h, .int q] (CW cy a T B) (fun r9 w9 => r9 = some (.long (cf_settle T h q).1) ∧ w9 = CW cy a (cf_settle T h q).2 B) := by
  refine g_start (cc := cX8_settle) (maxL := 7) (ret := (some .long)) (by decide) rfl (Nat.le_of_ble_eq_true rfl) (fun v w1 h => by obtain ⟨rfl, -⟩ := h; exact rfl) (fun Γ hlΓ => ?_)
  subst hlΓ
  refine g_iload_n (i := 1) dX8_settle_0 rfl rfl ?_
  refine g_iload_n (i := 2) dX8_settle_1 rfl rfl ?_
  refine g_callSf 2 gX8_settle_X8_areTwoHouses rfl rfl rfl ⟨Nat.le_of_ble_eq_true rfl, Nat.le_of_ble_eq_true rfl⟩ ⟨Nat.le_of_ble_eq_true rfl, Nat.le_of_ble_eq_true rfl⟩ (by exact Nat.le_of_ble_eq_true rfl) (by decide +kernel) rfl dX8_settle_2 (K_areTwo _ D cy a _ _ _ _) rfl (fun vu_1 wu_1 hu_1 => ?_)
  rcases hu_1 with ⟨rfl, hu_1, rfl⟩ | ⟨rfl, hu_1, rfl⟩
  · skip
    refine g_if_ne 14 dX8_settle_5 (by decide) (fun _ => ?_) (fun h9 => absurd h9 (by decide))
    refine g_aload_n (i := 0) dX8_settle_14 rfl rfl ?_
    refine g_get 0 7 dX8_settle_15 (List.mem_of_getElem? (i := 1) rfl) (fun w h => List.mem_cons_of_mem _ (List.mem_append_left _ (List.mem_append_left _ (List.mem_append_right _ h)))) (cO_main _ _ _ _) rfl (by decide) rfl ?_
    refine g_iload_n (i := 1) dX8_settle_18 rfl rfl ?_
    refine g_iload_n (i := 2) dX8_settle_19 rfl rfl ?_
    refine g_callVf 2 9 gX8_settle_X1_debt rfl rfl rfl ⟨Nat.le_of_ble_eq_true rfl, Nat.le_of_ble_eq_true rfl⟩ ⟨Nat.le_of_ble_eq_true rfl, Nat.le_of_ble_eq_true rfl⟩ (by exact Nat.le_of_ble_eq_true rfl) (by decide +kernel) rfl (cO_book _ _ _ _) rfl dX8_settle_20 (K_debt _ D cy a _ _ _ _ (tw_a (by assumption)) (tw_b (by assumption))) rfl (fun vu_3 wu_3 hu_3 => ?_)
    obtain ⟨rfl, rfl⟩ := hu_3
    refine g_lstore_n (i := 3) dX8_settle_23 rfl (by decide) ?_
    refine g_lload_n (i := 3) dX8_settle_24 rfl rfl ?_
    refine g_lconst 0 rfl dX8_settle_25 ?_
    refine g_lcmp_ne 36 dX8_settle_26 dX8_settle_27 (by decide) (fun c_4 => ?_) (fun c_4 => ?_)
    · skip
      refine g_aload_n (i := 0) dX8_settle_36 rfl rfl ?_
      refine g_get 0 9 dX8_settle_37 (List.mem_of_getElem? (i := 2) rfl) (fun w h => List.mem_cons_of_mem _ (List.mem_append_left _ (List.mem_append_left _ (List.mem_append_right _ h)))) (cO_main _ _ _ _) rfl (by decide) rfl ?_
      refine g_iload_n (i := 1) dX8_settle_40 rfl rfl ?_
      refine g_iload_n (i := 2) dX8_settle_41 rfl rfl ?_
      refine g_lload_n (i := 3) dX8_settle_42 rfl rfl ?_
      refine g_callVf 3 29 gX8_settle_X6_handOver rfl rfl rfl ⟨Nat.le_of_ble_eq_true rfl, Nat.le_of_ble_eq_true rfl⟩ ⟨Nat.le_of_ble_eq_true rfl, Nat.le_of_ble_eq_true rfl⟩ (by exact Nat.le_of_ble_eq_true rfl) (by decide +kernel) rfl (cO_purses _ _ _ _) rfl dX8_settle_43 (K_ho _ D cy a _ _ _ _ _ (tw_a (by assumption)) (tw_b (by assumption))) rfl (fun vu_5 wu_5 hu_5 => ?_)
      obtain ⟨rfl, rfl⟩ := hu_5
      refine g_lstore dX8_settle_46 (by decide) ?_
      refine g_aload_n (i := 0) dX8_settle_48 rfl rfl ?_
      refine g_get 0 7 dX8_settle_49 (List.mem_of_getElem? (i := 1) rfl) (fun w h => List.mem_cons_of_mem _ (List.mem_append_left _ (List.mem_append_left _ (List.mem_append_right _ h)))) (cO_main _ _ _ _) rfl (by decide) rfl ?_
      refine g_iload_n (i := 1) dX8_settle_52 rfl rfl ?_
      refine g_iload_n (i := 2) dX8_settle_53 rfl rfl ?_
      refine g_lload_n (i := 3) dX8_settle_54 rfl rfl ?_
      refine g_lload dX8_settle_55 rfl ?_
      refine g_lsub dX8_settle_57 ?_
      refine g_callVf 3 9 gX8_settle_X1_lessen rfl rfl rfl ⟨Nat.le_of_ble_eq_true rfl, Nat.le_of_ble_eq_true rfl⟩ ⟨Nat.le_of_ble_eq_true rfl, Nat.le_of_ble_eq_true rfl⟩ (by exact Nat.le_of_ble_eq_true rfl) (by decide +kernel) rfl (cO_book _ _ _ _) rfl dX8_settle_58 (K_lessen _ D cy a _ _ _ _ (tw_a (by assumption)) (tw_b (by assumption)) _) rfl (fun vu_6 wu_6 hu_6 => ?_)
      obtain ⟨rfl, rfl⟩ := hu_6
      refine g_lload dX8_settle_61 rfl ?_
      refine g_lret dX8_settle_63 ?_
      unfold cf_settle; (repeat' split) <;> first | contradiction | (with_reducible exact ⟨rfl, rfl⟩) | (exfalso; rename_i h9; first | exact absurd h9.1 (by assumption) | exact absurd h9.2 (by assumption) | exact absurd h9.2.1 (by assumption) | exact absurd h9.2.2 (by assumption) | exact absurd h9.2.2.1 (by assumption) | exact absurd h9.2.2.2 (by assumption) | exact h9 ⟨by assumption, by assumption⟩ | exact h9 ⟨by assumption, by assumption, by assumption⟩) | (exfalso; simp_all; done) | (exfalso; simp only [Int32.le_iff_toInt_le, Int32.lt_iff_toInt_lt, Int32.reduceToInt] at *; omega) | exact ⟨rfl, rfl⟩
    · skip
      refine g_aload_n (i := 0) dX8_settle_30 rfl rfl ?_
      refine g_iconst (2) rfl dX8_settle_31 ?_
      refine g_callVf 1 0 gX8_settle_X8_finding rfl rfl rfl ⟨Nat.le_of_ble_eq_true rfl, Nat.le_of_ble_eq_true rfl⟩ ⟨Nat.le_of_ble_eq_true rfl, Nat.le_of_ble_eq_true rfl⟩ (by exact Nat.le_of_ble_eq_true rfl) (by decide +kernel) rfl (cO_main _ _ _ _) rfl dX8_settle_32 (K_finding _ D cy a _ _ _ (by unfold vp_in; decide)) rfl (fun vu_7 wu_7 hu_7 => ?_)
      obtain ⟨rfl, rfl⟩ := hu_7
      refine g_lret dX8_settle_35 ?_
      unfold cf_settle; (repeat' split) <;> first | contradiction | (with_reducible exact ⟨rfl, rfl⟩) | (exfalso; rename_i h9; first | exact absurd h9.1 (by assumption) | exact absurd h9.2 (by assumption) | exact absurd h9.2.1 (by assumption) | exact absurd h9.2.2 (by assumption) | exact absurd h9.2.2.1 (by assumption) | exact absurd h9.2.2.2 (by assumption) | exact h9 ⟨by assumption, by assumption⟩ | exact h9 ⟨by assumption, by assumption, by assumption⟩) | (exfalso; simp_all; done) | (exfalso; simp only [Int32.le_iff_toInt_le, Int32.lt_iff_toInt_lt, Int32.reduceToInt] at *; omega) | exact ⟨rfl, rfl⟩
  · skip
    refine g_if_ne 14 dX8_settle_5 (by decide) (fun h9 => absurd h9 (by decide)) (fun _ => ?_)
    refine g_aload_n (i := 0) dX8_settle_8 rfl rfl ?_
    refine g_iconst (1) rfl dX8_settle_9 ?_
    refine g_callVf 1 0 gX8_settle_X8_finding rfl rfl rfl ⟨Nat.le_of_ble_eq_true rfl, Nat.le_of_ble_eq_true rfl⟩ ⟨Nat.le_of_ble_eq_true rfl, Nat.le_of_ble_eq_true rfl⟩ (by exact Nat.le_of_ble_eq_true rfl) (by decide +kernel) rfl (cO_main _ _ _ _) rfl dX8_settle_10 (K_finding _ D cy a _ _ _ (by unfold vp_in; decide)) rfl (fun vu_9 wu_9 hu_9 => ?_)
    obtain ⟨rfl, rfl⟩ := hu_9
    refine g_lret dX8_settle_13 ?_
    unfold cf_settle; (repeat' split) <;> first | contradiction | (with_reducible exact ⟨rfl, rfl⟩) | (exfalso; rename_i h9; first | exact absurd h9.1 (by assumption) | exact absurd h9.2 (by assumption) | exact absurd h9.2.1 (by assumption) | exact absurd h9.2.2 (by assumption) | exact absurd h9.2.2.1 (by assumption) | exact absurd h9.2.2.2 (by assumption) | exact h9 ⟨by assumption, by assumption⟩ | exact h9 ⟨by assumption, by assumption, by assumption⟩) | (exfalso; simp_all; done) | (exfalso; simp only [Int32.le_iff_toInt_le, Int32.lt_iff_toInt_lt, Int32.reduceToInt] at *; omega) | exact ⟨rfl, rfl⟩

