set_option maxHeartbeats 4000000 in
set_option maxRecDepth 100000 in
/-- part: refused -/
theorem M_partN (l : Launch) (D : va_G) (cy : Nat → ClassId) (a : Nat → Nat) (S : MS) (h sm cr : Int32) (hn : ¬ ((0 ≤ h ∧ h ≤ 9) ∧ (0 ≤ cr ∧ cr ≤ 9) ∧ ¬ h = cr ∧ (0 ≤ sm ∧ sm ≤ 1000000000))) : Ct l D clx (tyx cy) yX9_part wsX9_part (rmD 2) 0 0 [.ref (a 0), .int h, .int sm, .int cr] (MW cy a S) (fun r9 w9 => r9 = some (.long (mf_part S h sm cr).1) ∧ w9 = MW cy a (mf_part S h sm cr).2) := by
  refine g_start (cc := cX9_part) (maxL := 7) (ret := (some .long)) (by decide) rfl (Nat.le_of_ble_eq_true rfl) (fun v w1 h => by obtain ⟨rfl, -⟩ := h; exact rfl) (fun Γ hlΓ => ?_)
  subst hlΓ
  refine g_iload_n (i := 1) dX9_part_0 rfl rfl ?_
  refine g_callSf 1 gX9_part_X9_isHouse rfl rfl rfl ⟨Nat.le_of_ble_eq_true rfl, Nat.le_of_ble_eq_true rfl⟩ ⟨Nat.le_of_ble_eq_true rfl, Nat.le_of_ble_eq_true rfl⟩ (by exact Nat.le_of_ble_eq_true rfl) (by decide +kernel) rfl dX9_part_1 (M_isHouse _ D cy a _ _) rfl (fun vu_1 wu_1 hu_1 => ?_)
  rcases hu_1 with ⟨rfl, hu_1, rfl⟩ | ⟨rfl, hu_1, rfl⟩
  · skip
    refine g_if_eq 30 dX9_part_4 (by decide) (fun h9 => absurd h9 (by decide)) (fun _ => ?_)
    refine g_iload_n (i := 3) dX9_part_7 rfl rfl ?_
    refine g_callSf 1 gX9_part_X9_isHouse rfl rfl rfl ⟨Nat.le_of_ble_eq_true rfl, Nat.le_of_ble_eq_true rfl⟩ ⟨Nat.le_of_ble_eq_true rfl, Nat.le_of_ble_eq_true rfl⟩ (by exact Nat.le_of_ble_eq_true rfl) (by decide +kernel) rfl dX9_part_8 (M_isHouse _ D cy a _ _) rfl (fun vu_3 wu_3 hu_3 => ?_)
    rcases hu_3 with ⟨rfl, hu_3, rfl⟩ | ⟨rfl, hu_3, rfl⟩
    · skip
      refine g_if_eq 30 dX9_part_11 (by decide) (fun h9 => absurd h9 (by decide)) (fun _ => ?_)
      refine g_iload_n (i := 1) dX9_part_14 rfl rfl ?_
      refine g_iload_n (i := 3) dX9_part_15 rfl rfl ?_
      refine g_icmp_eq 30 dX9_part_16 (by decide) (fun c_5 => ?_) (fun c_5 => ?_)
      · skip
        refine g_aload_n (i := 0) dX9_part_30 rfl rfl ?_
        refine g_ldc2 (-1000000000001) (List.mem_of_getElem? (i := 2) rfl) dX9_part_31 ?_
        refine g_callVf 1 0 gX9_part_X9_finding rfl rfl rfl ⟨Nat.le_of_ble_eq_true rfl, Nat.le_of_ble_eq_true rfl⟩ ⟨Nat.le_of_ble_eq_true rfl, Nat.le_of_ble_eq_true rfl⟩ (by exact Nat.le_of_ble_eq_true rfl) (by decide +kernel) rfl rfl rfl dX9_part_34 (M_finding _ D cy a _ _ (by unfold vp_in; decide)) rfl (fun vu_6 wu_6 hu_6 => ?_)
        obtain ⟨rfl, rfl⟩ := hu_6
        refine g_lret dX9_part_37 ?_
        unfold mf_part; rw [if_neg hn]; with_reducible exact ⟨rfl, rfl⟩
      · skip
        refine g_iload_n (i := 2) dX9_part_19 rfl rfl ?_
        refine g_iconst (0) rfl dX9_part_20 ?_
        refine g_ldcw (1000000000) (List.mem_of_getElem? (i := 1) rfl) dX9_part_21 ?_
        refine g_callSf 3 gX9_part_X9_in rfl rfl rfl ⟨Nat.le_of_ble_eq_true rfl, Nat.le_of_ble_eq_true rfl⟩ ⟨Nat.le_of_ble_eq_true rfl, Nat.le_of_ble_eq_true rfl⟩ (by exact Nat.le_of_ble_eq_true rfl) (by decide +kernel) rfl dX9_part_24 (M_in _ D cy a _ _ _ _) rfl (fun vu_7 wu_7 hu_7 => ?_)
        rcases hu_7 with ⟨rfl, hu_7, rfl⟩ | ⟨rfl, hu_7, rfl⟩
        · skip
          refine g_if_ne 38 dX9_part_27 (by decide) (fun _ => ?_) (fun h9 => absurd h9 (by decide))
          exact absurd ⟨by assumption, by assumption, by assumption, by assumption⟩ hn
        · skip
          refine g_if_ne 38 dX9_part_27 (by decide) (fun h9 => absurd h9 (by decide)) (fun _ => ?_)
          refine g_aload_n (i := 0) dX9_part_30 rfl rfl ?_
          refine g_ldc2 (-1000000000001) (List.mem_of_getElem? (i := 2) rfl) dX9_part_31 ?_
          refine g_callVf 1 0 gX9_part_X9_finding rfl rfl rfl ⟨Nat.le_of_ble_eq_true rfl, Nat.le_of_ble_eq_true rfl⟩ ⟨Nat.le_of_ble_eq_true rfl, Nat.le_of_ble_eq_true rfl⟩ (by exact Nat.le_of_ble_eq_true rfl) (by decide +kernel) rfl rfl rfl dX9_part_34 (M_finding _ D cy a _ _ (by unfold vp_in; decide)) rfl (fun vu_11 wu_11 hu_11 => ?_)
          obtain ⟨rfl, rfl⟩ := hu_11
          refine g_lret dX9_part_37 ?_
          unfold mf_part; rw [if_neg hn]; with_reducible exact ⟨rfl, rfl⟩
    · skip
      refine g_if_eq 30 dX9_part_11 (by decide) (fun _ => ?_) (fun h9 => absurd h9 (by decide))
      refine g_aload_n (i := 0) dX9_part_30 rfl rfl ?_
      refine g_ldc2 (-1000000000001) (List.mem_of_getElem? (i := 2) rfl) dX9_part_31 ?_
      refine g_callVf 1 0 gX9_part_X9_finding rfl rfl rfl ⟨Nat.le_of_ble_eq_true rfl, Nat.le_of_ble_eq_true rfl⟩ ⟨Nat.le_of_ble_eq_true rfl, Nat.le_of_ble_eq_true rfl⟩ (by exact Nat.le_of_ble_eq_true rfl) (by decide +kernel) rfl rfl rfl dX9_part_34 (M_finding _ D cy a _ _ (by unfold vp_in; decide)) rfl (fun vu_13 wu_13 hu_13 => ?_)
      obtain ⟨rfl, rfl⟩ := hu_13
      refine g_lret dX9_part_37 ?_
      unfold mf_part; rw [if_neg hn]; with_reducible exact ⟨rfl, rfl⟩
  · skip
    refine g_if_eq 30 dX9_part_4 (by decide) (fun _ => ?_) (fun h9 => absurd h9 (by decide))
    refine g_aload_n (i := 0) dX9_part_30 rfl rfl ?_
    refine g_ldc2 (-1000000000001) (List.mem_of_getElem? (i := 2) rfl) dX9_part_31 ?_
    refine g_callVf 1 0 gX9_part_X9_finding rfl rfl rfl ⟨Nat.le_of_ble_eq_true rfl, Nat.le_of_ble_eq_true rfl⟩ ⟨Nat.le_of_ble_eq_true rfl, Nat.le_of_ble_eq_true rfl⟩ (by exact Nat.le_of_ble_eq_true rfl) (by decide +kernel) rfl rfl rfl dX9_part_34 (M_finding _ D cy a _ _ (by unfold vp_in; decide)) rfl (fun vu_15 wu_15 hu_15 => ?_)
    obtain ⟨rfl, rfl⟩ := hu_15
    refine g_lret dX9_part_37 ?_
    unfold mf_part; rw [if_neg hn]; with_reducible exact ⟨rfl, rfl⟩

theorem M_part2 (l : Launch) (D : va_G) (cy : Nat → ClassId) (a : Nat → Nat) (S : MS) {M : Int} (hR : rinv M S) (h sm cr : Int32) : Ct l D clx (tyx cy) yX9_part wsX9_part (rmD 2) 0 0 [.ref (a 0), .int h, .int sm, .int cr] (MW cy a S) (fun r9 w9 => r9 = some (.long (mf_part S h sm cr).1) ∧ w9 = MW cy a (mf_part S h sm cr).2) := by
  by_cases hn : ((0 ≤ h ∧ h ≤ 9) ∧ (0 ≤ cr ∧ cr ≤ 9) ∧ ¬ h = cr ∧ (0 ≤ sm ∧ sm ≤ 1000000000))
  · exact M_part l D cy a S hR.1 h sm cr (prt_ok hR hn.1 hn.2.2.2)
  · exact M_partN l D cy a S h sm cr hn
