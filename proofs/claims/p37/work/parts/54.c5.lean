def cf_binds (T : MS) (la am hp kd rd : Int32) : Int64 × MS := if ¬ la < 0 ∧ ¬ am < 0 ∧ ¬ hp < 0 ∧ ¬ kd < 0 ∧ 0 ≤ rd then (if cfb T la am hp kd rd = 0 then (0, cf_facts T la am hp kd rd) else (1, cf_facts T la am hp kd rd)) else cf_fd T 1
set_option maxHeartbeats 4000000 in
set_option maxRecDepth 100000 in
/-- binds -/
theorem K_binds (l : Launch) (D : va_G) (cy : Nat → ClassId) (a : Nat → Nat) (T : MS) (B : List BL) (hC : ciC T 70) (la am hp kd rd : Int32) : Ct l D clx (tyx cy) yX8_binds wsX8_binds (rmC 4) 0 0 [.ref (a 200), .int la, .int am, .int hp, .int kd, .int rd] (CW cy a T B) (fun r9 w9 => r9 = some (.long (cf_binds T la am hp kd rd).1) ∧ w9 = CW cy a (cf_binds T la am hp kd rd).2 B) := by
  refine g_start (cc := cX8_binds) (maxL := 6) (ret := (some .long)) (by decide) rfl (Nat.le_of_ble_eq_true rfl) (fun v w1 h => by obtain ⟨rfl, -⟩ := h; exact rfl) (fun Γ hlΓ => ?_)
  subst hlΓ
  refine g_iload_n (i := 1) dX8_binds_0 rfl rfl ?_
  refine g_if_lt 22 dX8_binds_1 (by decide) (fun c_1 => ?_) (fun c_1 => ?_)
  · skip
    refine g_aload_n (i := 0) dX8_binds_22 rfl rfl ?_
    refine g_iconst (1) rfl dX8_binds_23 ?_
    refine g_callVf 1 0 gX8_binds_X8_finding rfl rfl rfl ⟨Nat.le_of_ble_eq_true rfl, Nat.le_of_ble_eq_true rfl⟩ ⟨Nat.le_of_ble_eq_true rfl, Nat.le_of_ble_eq_true rfl⟩ (by exact Nat.le_of_ble_eq_true rfl) (by decide +kernel) rfl (cO_main _ _ _ _) rfl dX8_binds_24 (K_finding _ D cy a _ _ _ (by unfold vp_in; decide)) rfl (fun vu_2 wu_2 hu_2 => ?_)
    obtain ⟨rfl, rfl⟩ := hu_2
    refine g_lret dX8_binds_27 ?_
    unfold cf_binds; (repeat' split) <;> first | contradiction | (with_reducible exact ⟨rfl, rfl⟩) | (exfalso; simp_all; done) | (exfalso; simp_all [Int32.not_lt, Int32.not_le]; done)
  · skip
    refine g_iload_n (i := 2) dX8_binds_4 rfl rfl ?_
    refine g_if_lt 22 dX8_binds_5 (by decide) (fun c_3 => ?_) (fun c_3 => ?_)
    · skip
      refine g_aload_n (i := 0) dX8_binds_22 rfl rfl ?_
      refine g_iconst (1) rfl dX8_binds_23 ?_
      refine g_callVf 1 0 gX8_binds_X8_finding rfl rfl rfl ⟨Nat.le_of_ble_eq_true rfl, Nat.le_of_ble_eq_true rfl⟩ ⟨Nat.le_of_ble_eq_true rfl, Nat.le_of_ble_eq_true rfl⟩ (by exact Nat.le_of_ble_eq_true rfl) (by decide +kernel) rfl (cO_main _ _ _ _) rfl dX8_binds_24 (K_finding _ D cy a _ _ _ (by unfold vp_in; decide)) rfl (fun vu_4 wu_4 hu_4 => ?_)
      obtain ⟨rfl, rfl⟩ := hu_4
      refine g_lret dX8_binds_27 ?_
      unfold cf_binds; (repeat' split) <;> first | contradiction | (with_reducible exact ⟨rfl, rfl⟩) | (exfalso; simp_all; done) | (exfalso; simp_all [Int32.not_lt, Int32.not_le]; done)
    · skip
      refine g_iload_n (i := 3) dX8_binds_8 rfl rfl ?_
      refine g_if_lt 22 dX8_binds_9 (by decide) (fun c_5 => ?_) (fun c_5 => ?_)
      · skip
        refine g_aload_n (i := 0) dX8_binds_22 rfl rfl ?_
        refine g_iconst (1) rfl dX8_binds_23 ?_
        refine g_callVf 1 0 gX8_binds_X8_finding rfl rfl rfl ⟨Nat.le_of_ble_eq_true rfl, Nat.le_of_ble_eq_true rfl⟩ ⟨Nat.le_of_ble_eq_true rfl, Nat.le_of_ble_eq_true rfl⟩ (by exact Nat.le_of_ble_eq_true rfl) (by decide +kernel) rfl (cO_main _ _ _ _) rfl dX8_binds_24 (K_finding _ D cy a _ _ _ (by unfold vp_in; decide)) rfl (fun vu_6 wu_6 hu_6 => ?_)
        obtain ⟨rfl, rfl⟩ := hu_6
        refine g_lret dX8_binds_27 ?_
        unfold cf_binds; (repeat' split) <;> first | contradiction | (with_reducible exact ⟨rfl, rfl⟩) | (exfalso; simp_all; done) | (exfalso; simp_all [Int32.not_lt, Int32.not_le]; done)
      · skip
        refine g_iload dX8_binds_12 rfl ?_
        refine g_if_lt 22 dX8_binds_14 (by decide) (fun c_7 => ?_) (fun c_7 => ?_)
        · skip
          refine g_aload_n (i := 0) dX8_binds_22 rfl rfl ?_
          refine g_iconst (1) rfl dX8_binds_23 ?_
          refine g_callVf 1 0 gX8_binds_X8_finding rfl rfl rfl ⟨Nat.le_of_ble_eq_true rfl, Nat.le_of_ble_eq_true rfl⟩ ⟨Nat.le_of_ble_eq_true rfl, Nat.le_of_ble_eq_true rfl⟩ (by exact Nat.le_of_ble_eq_true rfl) (by decide +kernel) rfl (cO_main _ _ _ _) rfl dX8_binds_24 (K_finding _ D cy a _ _ _ (by unfold vp_in; decide)) rfl (fun vu_8 wu_8 hu_8 => ?_)
          obtain ⟨rfl, rfl⟩ := hu_8
          refine g_lret dX8_binds_27 ?_
          unfold cf_binds; (repeat' split) <;> first | contradiction | (with_reducible exact ⟨rfl, rfl⟩) | (exfalso; simp_all; done) | (exfalso; simp_all [Int32.not_lt, Int32.not_le]; done)
        · skip
          refine g_iload dX8_binds_17 rfl ?_
          refine g_if_ge 28 dX8_binds_19 (by decide) (fun c_9 => ?_) (fun c_9 => ?_)
          · skip
            refine g_aload_n (i := 0) dX8_binds_28 rfl rfl ?_
            refine g_iload_n (i := 1) dX8_binds_29 rfl rfl ?_
            refine g_iload_n (i := 2) dX8_binds_30 rfl rfl ?_
            refine g_iload_n (i := 3) dX8_binds_31 rfl rfl ?_
            refine g_iload dX8_binds_32 rfl ?_
            refine g_iload dX8_binds_34 rfl ?_
            refine g_callVf 5 0 gX8_binds_X8_customBinds rfl rfl rfl ⟨Nat.le_of_ble_eq_true rfl, Nat.le_of_ble_eq_true rfl⟩ ⟨Nat.le_of_ble_eq_true rfl, Nat.le_of_ble_eq_true rfl⟩ (by exact Nat.le_of_ble_eq_true rfl) (by decide +kernel) rfl (cO_main _ _ _ _) rfl dX8_binds_36 (K_customBinds _ D cy a _ _ hC _ _ _ _ _) rfl (fun vu_10 wu_10 hu_10 => ?_)
            obtain ⟨rfl, rfl⟩ := hu_10
            refine g_if_eq 46 dX8_binds_39 (by decide) (fun c_11 => ?_) (fun c_11 => ?_)
            · skip
              refine g_lconst 0 rfl dX8_binds_46 ?_
              refine g_lret dX8_binds_47 ?_
              unfold cf_binds; (repeat' split) <;> first | contradiction | (with_reducible exact ⟨rfl, rfl⟩) | (exfalso; simp_all; done) | (exfalso; simp_all [Int32.not_lt, Int32.not_le]; done)
            · skip
              refine g_lconst 1 rfl dX8_binds_42 ?_
              refine g_goto 47 dX8_binds_43 (by decide) ?_
              refine g_lret dX8_binds_47 ?_
              unfold cf_binds; (repeat' split) <;> first | contradiction | (with_reducible exact ⟨rfl, rfl⟩) | (exfalso; simp_all; done) | (exfalso; simp_all [Int32.not_lt, Int32.not_le]; done)
          · skip
            refine g_aload_n (i := 0) dX8_binds_22 rfl rfl ?_
            refine g_iconst (1) rfl dX8_binds_23 ?_
            refine g_callVf 1 0 gX8_binds_X8_finding rfl rfl rfl ⟨Nat.le_of_ble_eq_true rfl, Nat.le_of_ble_eq_true rfl⟩ ⟨Nat.le_of_ble_eq_true rfl, Nat.le_of_ble_eq_true rfl⟩ (by exact Nat.le_of_ble_eq_true rfl) (by decide +kernel) rfl (cO_main _ _ _ _) rfl dX8_binds_24 (K_finding _ D cy a _ _ _ (by unfold vp_in; decide)) rfl (fun vu_12 wu_12 hu_12 => ?_)
            obtain ⟨rfl, rfl⟩ := hu_12
            refine g_lret dX8_binds_27 ?_
            unfold cf_binds; (repeat' split) <;> first | contradiction | (with_reducible exact ⟨rfl, rfl⟩) | (exfalso; simp_all; done) | (exfalso; simp_all [Int32.not_lt, Int32.not_le]; done)

abbrev cbe (T : MS) (b : BL) (i : Int32) : Int32 := cfb T (b.2.2 9 3 - b.2.2 9 2) (b.2.1 3) i (b.2.1 0) (croad T (bf_end b i))
abbrev cbeT (T : MS) (b : BL) (i : Int32) : MS := cf_facts T (b.2.2 9 3 - b.2.2 9 2) (b.2.1 3) i (b.2.1 0) (croad T (bf_end b i))
set_option maxHeartbeats 4000000 in
set_option maxRecDepth 100000 in
/-- the custom binds an endorser -/
theorem K_bE (l : Launch) (D : va_G) (cy : Nat → ClassId) (a : Nat → Nat) (T : MS) (B : List BL) (b : BL) (bi : Nat) (hb : bi < B.length) (hC : ciC T 70) (hS : ciS T) (i : Int32) (he : vp_in (bf_end b i) 10) : Ct l D clx (tyx cy) yX8_bindsEndorser wsX8_bindsEndorser (rmC 4) 0 0 [.ref (a 200), .ref (b.1 0), .int i] (CW cy a T (B.set bi b)) (fun r9 w9 => r9 = some (.int (cbe T b i)) ∧ w9 = CW cy a (cbeT T b i) (B.set bi b)) := by
  refine g_start (cc := cX8_bindsEndorser) (maxL := 3) (ret := (some .boolean)) (by decide) rfl (Nat.le_of_ble_eq_true rfl) (fun v w1 h => by obtain ⟨rfl, -⟩ := h; exact ⟨.boolean, rfl, cbnz (cfbz hC _ _ _ _ _)⟩) (fun Γ hlΓ => ?_)
  subst hlΓ
  refine g_aload_n (i := 0) dX8_bindsEndorser_0 rfl rfl ?_
  refine g_aload_n (i := 1) dX8_bindsEndorser_1 rfl rfl ?_
  refine g_callVf 0 (71 + (3 * _ + 0)) gX8_bindsEndorser_X0_daysLate rfl rfl rfl ⟨Nat.le_of_ble_eq_true rfl, Nat.le_of_ble_eq_true rfl⟩ ⟨Nat.le_of_ble_eq_true rfl, Nat.le_of_ble_eq_true rfl⟩ (by exact Nat.le_of_ble_eq_true rfl) (by decide +kernel) rfl (cB_get _ 0 (by decide) hb) rfl dX8_bindsEndorser_2 (K_daysLate _ D cy a _ _ _ _ hb) rfl (fun vu_1 wu_1 hu_1 => ?_)
  obtain ⟨rfl, rfl⟩ := hu_1
  refine g_aload_n (i := 1) dX8_bindsEndorser_5 rfl rfl ?_
  refine c_bget 3 dX8_bindsEndorser_6 (List.mem_of_getElem? (i := 1) rfl) (fun w h => List.mem_cons_of_mem _ (List.mem_append_left _ (List.mem_append_left _ (List.mem_append_right _ h)))) hb (by decide) rfl ?_
  refine g_iload_n (i := 2) dX8_bindsEndorser_9 rfl rfl ?_
  refine g_aload_n (i := 1) dX8_bindsEndorser_10 rfl rfl ?_
  refine c_bget 0 dX8_bindsEndorser_11 (List.mem_of_getElem? (i := 2) rfl) (fun w h => List.mem_cons_of_mem _ (List.mem_append_left _ (List.mem_append_left _ (List.mem_append_right _ h)))) hb (by decide) rfl ?_
  refine g_aload_n (i := 0) dX8_bindsEndorser_14 rfl rfl ?_
  refine g_aload_n (i := 1) dX8_bindsEndorser_15 rfl rfl ?_
  refine g_iload_n (i := 2) dX8_bindsEndorser_16 rfl rfl ?_
  refine g_callVf 1 (71 + (3 * _ + 0)) gX8_bindsEndorser_X0_endorserAt rfl rfl rfl ⟨Nat.le_of_ble_eq_true rfl, Nat.le_of_ble_eq_true rfl⟩ ⟨Nat.le_of_ble_eq_true rfl, Nat.le_of_ble_eq_true rfl⟩ (by exact Nat.le_of_ble_eq_true rfl) (by decide +kernel) rfl (cB_get _ 0 (by decide) hb) rfl dX8_bindsEndorser_17 (K_endorserAt _ D cy a _ _ _ _ hb _) rfl (fun vu_2 wu_2 hu_2 => ?_)
  obtain ⟨rfl, rfl⟩ := hu_2
  refine g_callVf 1 0 gX8_bindsEndorser_X8_roadOf rfl rfl rfl ⟨Nat.le_of_ble_eq_true rfl, Nat.le_of_ble_eq_true rfl⟩ ⟨Nat.le_of_ble_eq_true rfl, Nat.le_of_ble_eq_true rfl⟩ (by exact Nat.le_of_ble_eq_true rfl) (by decide +kernel) rfl (cO_main _ _ _ _) rfl dX8_bindsEndorser_20 (K_roadOf _ D cy a _ _ _ he (hS _ (vp_nat he))) rfl (fun vu_3 wu_3 hu_3 => ?_)
  obtain ⟨rfl, rfl⟩ := hu_3
  refine g_callVf 5 0 gX8_bindsEndorser_X8_customBinds rfl rfl rfl ⟨Nat.le_of_ble_eq_true rfl, Nat.le_of_ble_eq_true rfl⟩ ⟨Nat.le_of_ble_eq_true rfl, Nat.le_of_ble_eq_true rfl⟩ (by exact Nat.le_of_ble_eq_true rfl) (by decide +kernel) rfl (cO_main _ _ _ _) rfl dX8_bindsEndorser_23 (K_customBinds _ D cy a _ _ hC _ _ _ _ _) rfl (fun vu_4 wu_4 hu_4 => ?_)
  obtain ⟨rfl, rfl⟩ := hu_4
  refine g_iret dX8_bindsEndorser_26 ?_
  exact ⟨rfl, rfl⟩

theorem ben {b : BL} {i : Int32} (hk : bok b) (h : 0 ≤ i ∧ i < b.2.1 6) : vp_in (bf_end b i) 10 := by
  have h4 := vpr4 h hk.2.2.2.2.1.2
  have h3 : 0 ≤ i ∧ i ≤ 3 := by
    refine ⟨h.1, ?_⟩
    rw [vp_in_iff] at h4
    rw [Int32.le_iff_toInt_le]
    have e3 : (3 : Int32).toInt = 3 := by decide
    omega
  unfold bf_end
  rw [if_pos h3]
  exact hk.2.2.2.2.2 _ (vp_nat h4)
def cf_rcE (T T1 : MS) (B : List BL) (x i d : Int32) : Int64 × MS × List BL := if covB T1 (bat B x) d then ((cf_fd T1 4).1, (cf_fd T1 4).2, B) else (d.toInt64, cf_chB T1 (bat B x) d, B.set x.toNatClampNeg (if i = -1 then bf_become (bat B x) 4 (T.1 14) else bf_ret (bat B x) i))
def cf_recourse (T : MS) (B : List BL) (x i : Int32) : Int64 × MS × List BL := if bcnd T x then (if (bat B x).2.1 5 = 3 then (if i = -1 then cf_rcE T T B x i ((bat B x).2.1 1) else if 0 ≤ i ∧ i < (bat B x).2.1 6 then (if cbe T (bat B x) i = 0 then ((cf_fd (cbeT T (bat B x) i) 5).1, (cf_fd (cbeT T (bat B x) i) 5).2, B) else cf_rcE T (cbeT T (bat B x) i) B x i (bf_end (bat B x) i)) else ((cf_fd T 2).1, (cf_fd T 2).2, B)) else ((cf_fd T 3).1, (cf_fd T 3).2, B)) else ((cf_fd T 1).1, (cf_fd T 1).2, B)
set_option maxHeartbeats 4000000 in
set_option maxRecDepth 100000 in
/-- recourse -/
theorem K_recourse (l : Launch) (D : va_G) (cy : Nat → ClassId) (a : Nat → Nat) (T : MS) (B : List BL) (hI : ciB T B) (hC : ciC T 70) (hS : ciS T) (x i : Int32) : Ct l D clx (tyx cy) yX8_recourse wsX8_recourse (rmC 5) 0 0 [.ref (a 200), .int x, .int i] (CW cy a T B) (fun r9 w9 => r9 = some (.long (cf_recourse T B x i).1) ∧ w9 = CW cy a (cf_recourse T B x i).2.1 (cf_recourse T B x i).2.2) := by
  refine g_start (cc := cX8_recourse) (maxL := 5) (ret := (some .long)) (by decide) rfl (Nat.le_of_ble_eq_true rfl) (fun v w1 h => by obtain ⟨rfl, -⟩ := h; exact rfl) (fun Γ hlΓ => ?_)
  subst hlΓ
  refine g_aload_n (i := 0) dX8_recourse_0 rfl rfl ?_
  refine g_iload_n (i := 1) dX8_recourse_1 rfl rfl ?_
  refine g_callVf 1 0 gX8_recourse_X8_billAt rfl rfl rfl ⟨Nat.le_of_ble_eq_true rfl, Nat.le_of_ble_eq_true rfl⟩ ⟨Nat.le_of_ble_eq_true rfl, Nat.le_of_ble_eq_true rfl⟩ (by exact Nat.le_of_ble_eq_true rfl) (by decide +kernel) rfl (cO_main _ _ _ _) rfl dX8_recourse_2 (K_billAt _ D cy a _ _ _ hI) rfl (fun vu_1 wu_1 hu_1 => ?_)
  obtain ⟨rfl, ⟨rfl, hbn⟩ | ⟨rfl, hbn⟩⟩ := hu_1
  · skip
    refine g_astore_nN (i := 3) dX8_recourse_5 rfl (by decide) ?_
    refine g_aload_nN (i := 3) dX8_recourse_6 rfl rfl ?_
    refine g_ifnonnullN dX8_recourse_7 ?_
    refine g_aload_n (i := 0) dX8_recourse_10 rfl rfl ?_
    refine g_iconst (1) rfl dX8_recourse_11 ?_
    refine g_callVf 1 0 gX8_recourse_X8_finding rfl rfl rfl ⟨Nat.le_of_ble_eq_true rfl, Nat.le_of_ble_eq_true rfl⟩ ⟨Nat.le_of_ble_eq_true rfl, Nat.le_of_ble_eq_true rfl⟩ (by exact Nat.le_of_ble_eq_true rfl) (by decide +kernel) rfl (cO_main _ _ _ _) rfl dX8_recourse_12 (K_finding _ D cy a _ _ _ (by unfold vp_in; decide)) rfl (fun vu_2 wu_2 hu_2 => ?_)
    obtain ⟨rfl, rfl⟩ := hu_2
    refine g_lret dX8_recourse_15 ?_
    unfold cf_recourse; rw [if_neg (by assumption)]; exact ⟨rfl, rfl⟩
  · have hb := bidx hI hbn
    have hbk := bokx hI hbn
    refine g_weq _ (congrArg (CW cy a _) (bset_bat hb).symm) ?_
    refine g_astore_n (i := 3) dX8_recourse_5 rfl (by decide) ?_
    refine g_aload_n (i := 3) dX8_recourse_6 rfl rfl ?_
    refine g_ifnonnull 16 dX8_recourse_7 (by decide) ?_
    refine g_aload_n (i := 3) dX8_recourse_16 rfl rfl ?_
    refine c_bget 5 dX8_recourse_17 (List.mem_of_getElem? (i := 1) rfl) (fun w h => List.mem_cons_of_mem _ (List.mem_append_left _ (List.mem_append_left _ (List.mem_append_left _ (List.mem_append_right _ h))))) hb (by decide) rfl ?_
    refine g_iconst (3) rfl dX8_recourse_20 ?_
    refine g_icmp_eq 30 dX8_recourse_21 (by decide) (fun c_3 => ?_) (fun c_3 => ?_)
    · skip
      refine g_iload_n (i := 2) dX8_recourse_30 rfl rfl ?_
      refine g_iconst (-1) rfl dX8_recourse_31 ?_
      refine g_icmp_eq 49 dX8_recourse_32 (by decide) (fun c_4 => ?_) (fun c_4 => ?_)
      · skip
        subst c_4
        refine g_iload_n (i := 2) dX8_recourse_49 rfl rfl ?_
        refine g_iconst (-1) rfl dX8_recourse_50 ?_
        refine g_icmp_eq 69 dX8_recourse_51 (by decide) (fun _ => ?_) (fun h9 => absurd h9 (by decide))
        refine g_iload_n (i := 2) dX8_recourse_69 rfl rfl ?_
        refine g_iconst (-1) rfl dX8_recourse_70 ?_
        refine g_icmp_ne 81 dX8_recourse_71 (by decide) (fun h9 => absurd h9 (by decide)) (fun _ => ?_)
        refine g_aload_n (i := 3) dX8_recourse_74 rfl rfl ?_
        refine c_bget 1 dX8_recourse_75 (List.mem_of_getElem? (i := 2) rfl) (fun w h => List.mem_cons_of_mem _ (List.mem_append_left _ (List.mem_append_left _ (List.mem_append_left _ (List.mem_append_right _ h))))) hb (by decide) rfl ?_
        refine g_goto 86 dX8_recourse_78 (by decide) ?_
        refine g_istore dX8_recourse_86 (by decide) ?_
        refine g_aload_n (i := 0) dX8_recourse_88 rfl rfl ?_
        refine g_aload_n (i := 3) dX8_recourse_89 rfl rfl ?_
        refine g_iload dX8_recourse_90 rfl ?_
        refine g_callVf 2 0 gX8_recourse_X8_overfills rfl rfl rfl ⟨Nat.le_of_ble_eq_true rfl, Nat.le_of_ble_eq_true rfl⟩ ⟨Nat.le_of_ble_eq_true rfl, Nat.le_of_ble_eq_true rfl⟩ (by exact Nat.le_of_ble_eq_true rfl) (by decide +kernel) rfl (cO_main _ _ _ _) rfl dX8_recourse_92 (K_ovB _ D cy a _ _ _ _ hb _ (by first | exact hbk.1 | exact ben hbk (by assumption)) hbk.2.2.1) rfl (fun vu_7 wu_7 hu_7 => ?_)
        rcases hu_7 with ⟨rfl, hu_7, rfl⟩ | ⟨rfl, hu_7, rfl⟩
        · skip
          refine g_if_eq 104 dX8_recourse_95 (by decide) (fun h9 => absurd h9 (by decide)) (fun _ => ?_)
          refine g_aload_n (i := 0) dX8_recourse_98 rfl rfl ?_
          refine g_iconst (4) rfl dX8_recourse_99 ?_
          refine g_callVf 1 0 gX8_recourse_X8_finding rfl rfl rfl ⟨Nat.le_of_ble_eq_true rfl, Nat.le_of_ble_eq_true rfl⟩ ⟨Nat.le_of_ble_eq_true rfl, Nat.le_of_ble_eq_true rfl⟩ (by exact Nat.le_of_ble_eq_true rfl) (by decide +kernel) rfl (cO_main _ _ _ _) rfl dX8_recourse_100 (K_finding _ D cy a _ _ _ (by unfold vp_in; decide)) rfl (fun vu_9 wu_9 hu_9 => ?_)
          obtain ⟨rfl, rfl⟩ := hu_9
          refine g_lret dX8_recourse_103 ?_
          unfold cf_recourse; rw [if_pos (by assumption), if_pos (by assumption)]; first | (rw [if_pos rfl]; unfold cf_rcE; rw [if_pos (by assumption)]; exact ⟨rfl, congrArg (CW cy a _) (bset_bat hb)⟩) | (rw [if_neg (by assumption), if_pos (by assumption), if_neg (by assumption)]; unfold cf_rcE; rw [if_pos (by assumption)]; exact ⟨rfl, congrArg (CW cy a _) (bset_bat hb)⟩)
        · skip
          refine g_if_eq 104 dX8_recourse_95 (by decide) (fun _ => ?_) (fun h9 => absurd h9 (by decide))
          refine g_aload_n (i := 0) dX8_recourse_104 rfl rfl ?_
          refine g_aload_n (i := 3) dX8_recourse_105 rfl rfl ?_
          refine g_iload dX8_recourse_106 rfl ?_
          refine g_callVf 2 0 gX8_recourse_X8_charge rfl rfl rfl ⟨Nat.le_of_ble_eq_true rfl, Nat.le_of_ble_eq_true rfl⟩ ⟨Nat.le_of_ble_eq_true rfl, Nat.le_of_ble_eq_true rfl⟩ (by exact Nat.le_of_ble_eq_true rfl) (by decide +kernel) rfl (cO_main _ _ _ _) rfl dX8_recourse_108 (K_chB _ D cy a _ _ _ _ hb _ (by first | exact hbk.1 | exact ben hbk (by assumption)) hbk.2.2.1) rfl (fun vu_11 wu_11 hu_11 => ?_)
          obtain ⟨rfl, rfl⟩ := hu_11
          refine g_iload_n (i := 2) dX8_recourse_111 rfl rfl ?_
          refine g_iconst (-1) rfl dX8_recourse_112 ?_
          refine g_icmp_ne 128 dX8_recourse_113 (by decide) (fun h9 => absurd h9 (by decide)) (fun _ => ?_)
          refine g_aload_n (i := 3) dX8_recourse_116 rfl rfl ?_
          refine g_iconst (4) rfl dX8_recourse_117 ?_
          refine g_aload_n (i := 0) dX8_recourse_118 rfl rfl ?_
          refine g_get 0 14 dX8_recourse_119 (List.mem_of_getElem? (i := 3) rfl) (fun w h => List.mem_cons_of_mem _ (List.mem_append_left _ (List.mem_append_left _ (List.mem_append_right _ h)))) (cO_main _ _ _ _) rfl (by decide) rfl ?_
          refine g_callVf 2 (71 + (3 * _ + 0)) gX8_recourse_X0_become rfl rfl rfl ⟨Nat.le_of_ble_eq_true rfl, Nat.le_of_ble_eq_true rfl⟩ ⟨Nat.le_of_ble_eq_true rfl, Nat.le_of_ble_eq_true rfl⟩ (by exact Nat.le_of_ble_eq_true rfl) (by decide +kernel) rfl (cB_get _ 0 (by decide) hb) rfl dX8_recourse_122 (K_become _ D cy a _ _ _ _ hb _ _ (by unfold vp_in; decide)) rfl (fun vu_13 wu_13 hu_13 => ?_)
          obtain ⟨rfl, rfl⟩ := hu_13
          refine g_goto 133 dX8_recourse_125 (by decide) ?_
          refine g_iload dX8_recourse_133 rfl ?_
          refine g_i2l dX8_recourse_135 ?_
          refine g_lret dX8_recourse_136 ?_
          unfold cf_recourse; rw [if_pos (by assumption), if_pos (by assumption)]; first | (rw [if_pos rfl]; unfold cf_rcE; rw [if_neg (by assumption), if_pos rfl]; exact ⟨rfl, rfl⟩) | (rw [if_neg (by assumption), if_pos (by assumption), if_neg (by assumption)]; unfold cf_rcE; rw [if_neg (by assumption), if_neg (by assumption)]; exact ⟨rfl, rfl⟩)
      · skip
        refine g_aload_n (i := 3) dX8_recourse_35 rfl rfl ?_
        refine g_iload_n (i := 2) dX8_recourse_36 rfl rfl ?_
        refine g_callVf 1 (71 + (3 * _ + 0)) gX8_recourse_X0_hasEndorser rfl rfl rfl ⟨Nat.le_of_ble_eq_true rfl, Nat.le_of_ble_eq_true rfl⟩ ⟨Nat.le_of_ble_eq_true rfl, Nat.le_of_ble_eq_true rfl⟩ (by exact Nat.le_of_ble_eq_true rfl) (by decide +kernel) rfl (cB_get _ 0 (by decide) hb) rfl dX8_recourse_37 (K_hasEndorser _ D cy a _ _ _ _ hb _) rfl (fun vu_14 wu_14 hu_14 => ?_)
        rcases hu_14 with ⟨rfl, hu_14, rfl⟩ | ⟨rfl, hu_14, rfl⟩
        · skip
          refine g_if_ne 49 dX8_recourse_40 (by decide) (fun _ => ?_) (fun h9 => absurd h9 (by decide))
          refine g_iload_n (i := 2) dX8_recourse_49 rfl rfl ?_
          refine g_iconst (-1) rfl dX8_recourse_50 ?_
          refine g_icmp_eq 69 dX8_recourse_51 (by decide) (fun c_16 => ?_) (fun c_16 => ?_)
          · skip
            contradiction
          · skip
            refine g_aload_n (i := 0) dX8_recourse_54 rfl rfl ?_
            refine g_aload_n (i := 3) dX8_recourse_55 rfl rfl ?_
            refine g_iload_n (i := 2) dX8_recourse_56 rfl rfl ?_
            refine g_callVf 2 0 gX8_recourse_X8_bindsEndorser rfl rfl rfl ⟨Nat.le_of_ble_eq_true rfl, Nat.le_of_ble_eq_true rfl⟩ ⟨Nat.le_of_ble_eq_true rfl, Nat.le_of_ble_eq_true rfl⟩ (by exact Nat.le_of_ble_eq_true rfl) (by decide +kernel) rfl (cO_main _ _ _ _) rfl dX8_recourse_57 (K_bE _ D cy a _ _ _ _ hb hC hS _ (ben hbk (by assumption))) rfl (fun vu_17 wu_17 hu_17 => ?_)
            obtain ⟨rfl, rfl⟩ := hu_17
            refine g_if_ne 69 dX8_recourse_60 (by decide) (fun c_18 => ?_) (fun c_18 => ?_)
            · skip
              refine g_iload_n (i := 2) dX8_recourse_69 rfl rfl ?_
              refine g_iconst (-1) rfl dX8_recourse_70 ?_
              refine g_icmp_ne 81 dX8_recourse_71 (by decide) (fun c_19 => ?_) (fun c_19 => ?_)
              · skip
                refine g_aload_n (i := 3) dX8_recourse_81 rfl rfl ?_
                refine g_iload_n (i := 2) dX8_recourse_82 rfl rfl ?_
                refine g_callVf 1 (71 + (3 * _ + 0)) gX8_recourse_X0_endorserAt rfl rfl rfl ⟨Nat.le_of_ble_eq_true rfl, Nat.le_of_ble_eq_true rfl⟩ ⟨Nat.le_of_ble_eq_true rfl, Nat.le_of_ble_eq_true rfl⟩ (by exact Nat.le_of_ble_eq_true rfl) (by decide +kernel) rfl (cB_get _ 0 (by decide) hb) rfl dX8_recourse_83 (K_endorserAt _ D cy a _ _ _ _ hb _) rfl (fun vu_20 wu_20 hu_20 => ?_)
                obtain ⟨rfl, rfl⟩ := hu_20
                refine g_istore dX8_recourse_86 (by decide) ?_
                refine g_aload_n (i := 0) dX8_recourse_88 rfl rfl ?_
                refine g_aload_n (i := 3) dX8_recourse_89 rfl rfl ?_
                refine g_iload dX8_recourse_90 rfl ?_
                refine g_callVf 2 0 gX8_recourse_X8_overfills rfl rfl rfl ⟨Nat.le_of_ble_eq_true rfl, Nat.le_of_ble_eq_true rfl⟩ ⟨Nat.le_of_ble_eq_true rfl, Nat.le_of_ble_eq_true rfl⟩ (by exact Nat.le_of_ble_eq_true rfl) (by decide +kernel) rfl (cO_main _ _ _ _) rfl dX8_recourse_92 (K_ovB _ D cy a _ _ _ _ hb _ (by first | exact hbk.1 | exact ben hbk (by assumption)) hbk.2.2.1) rfl (fun vu_21 wu_21 hu_21 => ?_)
                rcases hu_21 with ⟨rfl, hu_21, rfl⟩ | ⟨rfl, hu_21, rfl⟩
                · skip
                  refine g_if_eq 104 dX8_recourse_95 (by decide) (fun h9 => absurd h9 (by decide)) (fun _ => ?_)
                  refine g_aload_n (i := 0) dX8_recourse_98 rfl rfl ?_
                  refine g_iconst (4) rfl dX8_recourse_99 ?_
                  refine g_callVf 1 0 gX8_recourse_X8_finding rfl rfl rfl ⟨Nat.le_of_ble_eq_true rfl, Nat.le_of_ble_eq_true rfl⟩ ⟨Nat.le_of_ble_eq_true rfl, Nat.le_of_ble_eq_true rfl⟩ (by exact Nat.le_of_ble_eq_true rfl) (by decide +kernel) rfl (cO_main _ _ _ _) rfl dX8_recourse_100 (K_finding _ D cy a _ _ _ (by unfold vp_in; decide)) rfl (fun vu_23 wu_23 hu_23 => ?_)
                  obtain ⟨rfl, rfl⟩ := hu_23
                  refine g_lret dX8_recourse_103 ?_
                  unfold cf_recourse; rw [if_pos (by assumption), if_pos (by assumption)]; first | (rw [if_pos rfl]; unfold cf_rcE; rw [if_pos (by assumption)]; exact ⟨rfl, congrArg (CW cy a _) (bset_bat hb)⟩) | (rw [if_neg (by assumption), if_pos (by assumption), if_neg (by assumption)]; unfold cf_rcE; rw [if_pos (by assumption)]; exact ⟨rfl, congrArg (CW cy a _) (bset_bat hb)⟩)
                · skip
                  refine g_if_eq 104 dX8_recourse_95 (by decide) (fun _ => ?_) (fun h9 => absurd h9 (by decide))
                  refine g_aload_n (i := 0) dX8_recourse_104 rfl rfl ?_
                  refine g_aload_n (i := 3) dX8_recourse_105 rfl rfl ?_
                  refine g_iload dX8_recourse_106 rfl ?_
                  refine g_callVf 2 0 gX8_recourse_X8_charge rfl rfl rfl ⟨Nat.le_of_ble_eq_true rfl, Nat.le_of_ble_eq_true rfl⟩ ⟨Nat.le_of_ble_eq_true rfl, Nat.le_of_ble_eq_true rfl⟩ (by exact Nat.le_of_ble_eq_true rfl) (by decide +kernel) rfl (cO_main _ _ _ _) rfl dX8_recourse_108 (K_chB _ D cy a _ _ _ _ hb _ (by first | exact hbk.1 | exact ben hbk (by assumption)) hbk.2.2.1) rfl (fun vu_25 wu_25 hu_25 => ?_)
                  obtain ⟨rfl, rfl⟩ := hu_25
                  refine g_iload_n (i := 2) dX8_recourse_111 rfl rfl ?_
                  refine g_iconst (-1) rfl dX8_recourse_112 ?_
                  refine g_icmp_ne 128 dX8_recourse_113 (by decide) (fun c_26 => ?_) (fun c_26 => ?_)
                  · skip
                    refine g_aload_n (i := 3) dX8_recourse_128 rfl rfl ?_
                    refine g_iload_n (i := 2) dX8_recourse_129 rfl rfl ?_
                    refine g_callVf 1 (71 + (3 * _ + 0)) gX8_recourse_X0_returnTo rfl rfl rfl ⟨Nat.le_of_ble_eq_true rfl, Nat.le_of_ble_eq_true rfl⟩ ⟨Nat.le_of_ble_eq_true rfl, Nat.le_of_ble_eq_true rfl⟩ (by exact Nat.le_of_ble_eq_true rfl) (by decide +kernel) rfl (cB_get _ 0 (by decide) hb) rfl dX8_recourse_130 (K_returnTo _ D cy a _ _ _ _ hb _ hbk.2.2.2.2.1.2) rfl (fun vu_27 wu_27 hu_27 => ?_)
                    obtain ⟨rfl, rfl⟩ := hu_27
                    refine g_iload dX8_recourse_133 rfl ?_
                    refine g_i2l dX8_recourse_135 ?_
                    refine g_lret dX8_recourse_136 ?_
                    unfold cf_recourse; rw [if_pos (by assumption), if_pos (by assumption)]; first | (rw [if_pos rfl]; unfold cf_rcE; rw [if_neg (by assumption), if_pos rfl]; exact ⟨rfl, rfl⟩) | (rw [if_neg (by assumption), if_pos (by assumption), if_neg (by assumption)]; unfold cf_rcE; rw [if_neg (by assumption), if_neg (by assumption)]; exact ⟨rfl, rfl⟩)
                  · skip
                    contradiction
              · skip
                contradiction
            · skip
              refine g_aload_n (i := 0) dX8_recourse_63 rfl rfl ?_
              refine g_iconst (5) rfl dX8_recourse_64 ?_
              refine g_callVf 1 0 gX8_recourse_X8_finding rfl rfl rfl ⟨Nat.le_of_ble_eq_true rfl, Nat.le_of_ble_eq_true rfl⟩ ⟨Nat.le_of_ble_eq_true rfl, Nat.le_of_ble_eq_true rfl⟩ (by exact Nat.le_of_ble_eq_true rfl) (by decide +kernel) rfl (cO_main _ _ _ _) rfl dX8_recourse_65 (K_finding _ D cy a _ _ _ (by unfold vp_in; decide)) rfl (fun vu_28 wu_28 hu_28 => ?_)
              obtain ⟨rfl, rfl⟩ := hu_28
              refine g_lret dX8_recourse_68 ?_
              unfold cf_recourse; rw [if_pos (by assumption), if_pos (by assumption)]; rw [if_neg (by assumption), if_pos (by assumption), if_pos (by assumption)]; exact ⟨rfl, congrArg (CW cy a _) (bset_bat hb)⟩
        · skip
          refine g_if_ne 49 dX8_recourse_40 (by decide) (fun h9 => absurd h9 (by decide)) (fun _ => ?_)
          refine g_aload_n (i := 0) dX8_recourse_43 rfl rfl ?_
          refine g_iconst (2) rfl dX8_recourse_44 ?_
          refine g_callVf 1 0 gX8_recourse_X8_finding rfl rfl rfl ⟨Nat.le_of_ble_eq_true rfl, Nat.le_of_ble_eq_true rfl⟩ ⟨Nat.le_of_ble_eq_true rfl, Nat.le_of_ble_eq_true rfl⟩ (by exact Nat.le_of_ble_eq_true rfl) (by decide +kernel) rfl (cO_main _ _ _ _) rfl dX8_recourse_45 (K_finding _ D cy a _ _ _ (by unfold vp_in; decide)) rfl (fun vu_30 wu_30 hu_30 => ?_)
          obtain ⟨rfl, rfl⟩ := hu_30
          refine g_lret dX8_recourse_48 ?_
          unfold cf_recourse; rw [if_pos (by assumption), if_pos (by assumption)]; rw [if_neg (by assumption), if_neg (by assumption)]; exact ⟨rfl, congrArg (CW cy a _) (bset_bat hb)⟩
    · skip
      refine g_aload_n (i := 0) dX8_recourse_24 rfl rfl ?_
      refine g_iconst (3) rfl dX8_recourse_25 ?_
      refine g_callVf 1 0 gX8_recourse_X8_finding rfl rfl rfl ⟨Nat.le_of_ble_eq_true rfl, Nat.le_of_ble_eq_true rfl⟩ ⟨Nat.le_of_ble_eq_true rfl, Nat.le_of_ble_eq_true rfl⟩ (by exact Nat.le_of_ble_eq_true rfl) (by decide +kernel) rfl (cO_main _ _ _ _) rfl dX8_recourse_26 (K_finding _ D cy a _ _ _ (by unfold vp_in; decide)) rfl (fun vu_31 wu_31 hu_31 => ?_)
      obtain ⟨rfl, rfl⟩ := hu_31
      refine g_lret dX8_recourse_29 ?_
      unfold cf_recourse; rw [if_pos (by assumption), if_neg (by assumption)]; exact ⟨rfl, congrArg (CW cy a _) (bset_bat hb)⟩

set_option maxHeartbeats 4000000 in
set_option maxRecDepth 100000 in
/-- hasRoomFor -/
theorem K_hasRoomFor (l : Launch) (D : va_G) (cy : Nat → ClassId) (a : Nat → Nat) (T : MS) (B : List BL) (n : Int32) : Ct l D clx (tyx cy) yX3_hasRoomFor wsX3_hasRoomFor (rmC 0) 0 0 [.ref (a 203), .int n] (CW cy a T B) (fun r9 w9 => (r9 = some (.int 1) ∧ (T.1 20 + n ≤ 400) ∧ w9 = CW cy a T B) ∨ (r9 = some (.int 0) ∧ ¬ (T.1 20 + n ≤ 400) ∧ w9 = CW cy a T B)) := by
  refine g_start (cc := cX3_hasRoomFor) (maxL := 2) (ret := (some .boolean)) (by decide) rfl (Nat.le_of_ble_eq_true rfl) (fun v w1 h => by rcases h with ⟨rfl, -, -⟩ | ⟨rfl, -, -⟩ <;> exact ⟨.boolean, rfl, rfl⟩) (fun Γ hlΓ => ?_)
  subst hlΓ
  refine g_aload_n (i := 0) dX3_hasRoomFor_0 rfl rfl ?_
  refine g_get 7 0 dX3_hasRoomFor_1 (List.mem_of_getElem? (i := 1) rfl) (fun w h => List.mem_cons_of_mem _ (List.mem_append_right _ h)) (cO_reader _ _ _ _) rfl (by decide) rfl ?_
  refine g_iload_n (i := 1) dX3_hasRoomFor_4 rfl rfl ?_
  refine g_iadd dX3_hasRoomFor_5 ?_
  refine g_sipush (400) rfl dX3_hasRoomFor_6 ?_
  refine g_icmp_gt 16 dX3_hasRoomFor_9 (by decide) (fun c_1 => ?_) (fun c_1 => ?_)
  · skip
    refine g_iconst (0) rfl dX3_hasRoomFor_16 ?_
    refine g_iret dX3_hasRoomFor_17 ?_
    first | exact Or.inl ⟨rfl, Int32.not_lt.mp c_1, rfl⟩ | exact Or.inr ⟨rfl, Int32.not_le.mpr c_1, rfl⟩
  · skip
    refine g_iconst (1) rfl dX3_hasRoomFor_12 ?_
    refine g_goto 17 dX3_hasRoomFor_13 (by decide) ?_
    refine g_iret dX3_hasRoomFor_17 ?_
    first | exact Or.inl ⟨rfl, Int32.not_lt.mp c_1, rfl⟩ | exact Or.inr ⟨rfl, Int32.not_le.mpr c_1, rfl⟩

/-- byte i of eight -/
def cbyte (e : Int64) (i : Nat) : Int32 := ((e.toUInt64 >>> ((8 * nI i).toInt64.toUInt64 &&& Int64.toUInt64 63)).toInt64).toInt32 &&& 255
def apS (T : MS) (e : Int64) (i : Nat) : MS := sI (sA T 22 (T.1 20).toNatClampNeg (cbyte e i)) 20 (T.1 20 + 1)
def apF (T : MS) (e : Int64) : Nat → MS
  | 0 => T
  | i + 1 => apS (apF T e i) e i
theorem apF_len (T : MS) (e : Int64) {L : Nat} (h : T.1 20 = nI L) : ∀ i, (apF T e i).1 20 = nI (L + i)
  | 0 => h
  | i + 1 => by
    show (apF T e i).1 20 + 1 = _
    rw [apF_len T e h i, nI_1]
    rfl
set_option maxHeartbeats 4000000 in
set_option maxRecDepth 100000 in
/-- append -/
theorem K_append (l : Launch) (D : va_G) (cy : Nat → ClassId) (a : Nat → Nat) (T : MS) (B : List BL) (e : Int64) (N L : Nat) (hL9 : T.1 20 = nI L) (hN : L + N ≤ 400) : Ct l D clx (tyx cy) yX3_append wsX3_append (rmC 0) 0 0 [.ref (a 203), .long e, .int (nI N)] (CW cy a T B) (fun r9 w9 => r9 = none ∧ w9 = CW cy a (apF T e N) B) := by
  refine g_start (cc := cX3_append) (maxL := 5) (ret := none) (by decide) rfl (Nat.le_of_ble_eq_true rfl) (fun v w1 h => by obtain ⟨rfl, -⟩ := h; exact rfl) (fun Γ hlΓ => ?_)
  subst hlΓ
  refine g_iconst (0) rfl dX3_append_0 ?_
  refine g_istore dX3_append_1 (by decide) ?_
  refine g_cnt N (fun i => True) (fun i => CW cy a (apF T e i) B) (fun i => [(0, .ref (a 203)), (1, .long e), (3, .int (nI N)), (4, .int (nI i))]) 0 (by first | decide | omega) trivial (by rfl) (by refine ⟨rfl, rfl, rfl, rfl, trivial⟩) ?_ (fun i1 hi1 gi1 ihi1 => ?_)
  · intro gNi1
    refine g_iload dX3_append_3 rfl ?_
    refine g_iload_n (i := 3) dX3_append_5 rfl rfl ?_
    refine g_icmp_ge 56 dX3_append_6 (by decide) (fun c_2 => ?_) (fun c_2 => ?_)
    · skip
      refine g_vret dX3_append_56 ?_
      exact ⟨rfl, rfl⟩
    · skip
      exact absurd (nI_le (Nat.le_refl _) (by first | decide | omega)) c_2
  · skip
    refine g_iload dX3_append_3 rfl ?_
    refine g_iload_n (i := 3) dX3_append_5 rfl rfl ?_
    refine g_icmp_ge 56 dX3_append_6 (by decide) (fun c_3 => ?_) (fun c_3 => ?_)
    · skip
      exact absurd c_3 (nI_ge hi1 (by first | decide | omega))
    · skip
      refine g_aload_n (i := 0) dX3_append_9 rfl rfl ?_
      refine g_get 7 0 dX3_append_10 (List.mem_of_getElem? (i := 1) rfl) (fun w h => List.mem_cons_of_mem _ (List.mem_append_right _ h)) (cO_reader _ _ _ _) rfl (by decide) rfl ?_
      refine g_sipush (400) rfl dX3_append_13 ?_
      refine g_icmp_ge 56 dX3_append_16 (by decide) (fun c_4 => ?_) (fun c_4 => ?_)
      · skip
        exact absurd c_4 (by rw [apF_len T e hL9]; exact nI_ge (b := 400) (by omega) (by decide))
      · skip
        refine g_aload_n (i := 0) dX3_append_19 rfl rfl ?_
        refine g_get 7 2 dX3_append_20 (List.mem_of_getElem? (i := 2) rfl) (fun w h => List.mem_cons_of_mem _ (List.mem_append_right _ h)) (cO_reader _ _ _ _) rfl (by decide) rfl ?_
        refine g_aload_n (i := 0) dX3_append_23 rfl rfl ?_
        refine g_get 7 0 dX3_append_24 (List.mem_of_getElem? (i := 1) rfl) (fun w h => List.mem_cons_of_mem _ (List.mem_append_right _ h)) (cO_reader _ _ _ _) rfl (by decide) rfl ?_
        refine g_lload_n (i := 1) dX3_append_27 rfl rfl ?_
        refine g_bipush (8) rfl dX3_append_28 ?_
        refine g_iload dX3_append_30 rfl ?_
        refine g_imul dX3_append_32 ?_
        refine g_lushr dX3_append_33 ?_
        refine g_l2i dX3_append_34 ?_
        refine g_sipush (255) rfl dX3_append_35 ?_
        refine g_iand dX3_append_38 ?_
        refine c_ast_22 dX3_append_39 (by rw [apF_len T e hL9]; exact vp_in_nI (by omega) (by decide)) ?_
        refine g_aload_n (i := 0) dX3_append_40 rfl rfl ?_
        refine g_dup rfl dX3_append_41 ?_
        refine g_get 7 0 dX3_append_42 (List.mem_of_getElem? (i := 1) rfl) (fun w h => List.mem_cons_of_mem _ (List.mem_append_right _ h)) (cO_reader _ _ _ _) rfl (by decide) rfl ?_
        refine g_iconst (1) rfl dX3_append_45 ?_
        refine g_iadd dX3_append_46 ?_
        refine g_put 7 0 _ tyX3 tyX3_ok nmX3 dX3_append_47 (List.mem_of_getElem? (i := 1) rfl) (fun w h => List.mem_cons_of_mem _ (List.mem_append_right _ h)) (cO_reader _ _ _ _) rfl (by decide) rfl (tyX3_ok 0 (by decide)) rfl rfl (Nat.le_of_ble_eq_true rfl) (cwI_20 _ _ _ _ _) ?_
        refine g_iinc (1) dX3_append_50 rfl rfl (by decide) ?_
        refine g_goto 3 dX3_append_53 (by decide) ?_
        refine g_to _ _ (ihi1 (trivial)) rfl (by refine ⟨(by first | rfl | (rw [← nI_1]; rfl)), (by first | rfl | (rw [← nI_1]; rfl)), (by first | rfl | (rw [← nI_1]; rfl)), (by first | rfl | (rw [← nI_1]; rfl)), trivial⟩)

theorem feed_n {T : MS} {n : Int32} {L N : Nat} (hL : L ≤ 400) (e : T.1 20 = nI L) (eN : n = nI N) (hN : N ≤ 8) (h : T.1 20 + n ≤ 400) : L + N ≤ 400 := by
  rw [e, eN, nI_add, Int32.le_iff_toInt_le, nI_toInt (by omega)] at h
  have : (400 : Int32).toInt = 400 := by decide
  omega
def cf_feed (T : MS) (e : Int64) (n : Int32) : Int64 × MS := if 1 ≤ n ∧ n ≤ 8 then (if T.1 20 + n ≤ 400 then (((apF T e n.toNatClampNeg).1 20).toInt64, apF T e n.toNatClampNeg) else cf_fd T 4) else cf_fd T 1
set_option maxHeartbeats 4000000 in
set_option maxRecDepth 100000 in
/-- feed -/
theorem K_feed (l : Launch) (D : va_G) (cy : Nat → ClassId) (a : Nat → Nat) (T : MS) (B : List BL) (hL : ciL T) (e : Int64) (n : Int32) : Ct l D clx (tyx cy) yX8_feed wsX8_feed (rmC 3) 0 0 [.ref (a 200), .long e, .int n] (CW cy a T B) (fun r9 w9 => r9 = some (.long (cf_feed T e n).1) ∧ w9 = CW cy a (cf_feed T e n).2 B) := by
  refine g_start (cc := cX8_feed) (maxL := 4) (ret := (some .long)) (by decide) rfl (Nat.le_of_ble_eq_true rfl) (fun v w1 h => by obtain ⟨rfl, -⟩ := h; exact rfl) (fun Γ hlΓ => ?_)
  subst hlΓ
  obtain ⟨L9, hL8, hL9⟩ := hL
  refine g_iload_n (i := 3) dX8_feed_0 rfl rfl ?_
  refine g_iconst (1) rfl dX8_feed_1 ?_
  refine g_icmp_lt 11 dX8_feed_2 (by decide) (fun c_1 => ?_) (fun c_1 => ?_)
  · skip
    refine g_aload_n (i := 0) dX8_feed_11 rfl rfl ?_
    refine g_iconst (1) rfl dX8_feed_12 ?_
    refine g_callVf 1 0 gX8_feed_X8_finding rfl rfl rfl ⟨Nat.le_of_ble_eq_true rfl, Nat.le_of_ble_eq_true rfl⟩ ⟨Nat.le_of_ble_eq_true rfl, Nat.le_of_ble_eq_true rfl⟩ (by exact Nat.le_of_ble_eq_true rfl) (by decide +kernel) rfl (cO_main _ _ _ _) rfl dX8_feed_13 (K_finding _ D cy a _ _ _ (by unfold vp_in; decide)) rfl (fun vu_2 wu_2 hu_2 => ?_)
    obtain ⟨rfl, rfl⟩ := hu_2
    refine g_lret dX8_feed_16 ?_
    unfold cf_feed; rw [if_neg (by intro h9; first | exact absurd h9.1 (Int32.not_le.mpr (by assumption)) | exact absurd h9.2 (by assumption))]; exact ⟨rfl, rfl⟩
  · skip
    refine g_iload_n (i := 3) dX8_feed_5 rfl rfl ?_
    refine g_bipush (8) rfl dX8_feed_6 ?_
    refine g_icmp_le 17 dX8_feed_8 (by decide) (fun c_3 => ?_) (fun c_3 => ?_)
    · skip
      have hn9 : 1 ≤ n ∧ n ≤ 8 := ⟨Int32.not_lt.mp (by assumption), by assumption⟩
      obtain ⟨N9, hN9, rfl⟩ := vpN hn9 (by decide)
      have hN8 : N9 ≤ 8 := (by have e9 : (8 : Int32).toInt = 8 := (by decide); omega)
      refine g_aload_n (i := 0) dX8_feed_17 rfl rfl ?_
      refine g_get 0 6 dX8_feed_18 (List.mem_of_getElem? (i := 1) rfl) (fun w h => List.mem_cons_of_mem _ (List.mem_append_left _ (List.mem_append_right _ h))) (cO_main _ _ _ _) rfl (by decide) rfl ?_
      refine g_iload_n (i := 3) dX8_feed_21 rfl rfl ?_
      refine g_callVf 1 7 gX8_feed_X3_hasRoomFor rfl rfl rfl ⟨Nat.le_of_ble_eq_true rfl, Nat.le_of_ble_eq_true rfl⟩ ⟨Nat.le_of_ble_eq_true rfl, Nat.le_of_ble_eq_true rfl⟩ (by exact Nat.le_of_ble_eq_true rfl) (by decide +kernel) rfl (cO_reader _ _ _ _) rfl dX8_feed_22 (K_hasRoomFor _ D cy a _ _ _) rfl (fun vu_4 wu_4 hu_4 => ?_)
      rcases hu_4 with ⟨rfl, hu_4, rfl⟩ | ⟨rfl, hu_4, rfl⟩
      · skip
        refine g_if_ne 34 dX8_feed_25 (by decide) (fun _ => ?_) (fun h9 => absurd h9 (by decide))
        refine g_aload_n (i := 0) dX8_feed_34 rfl rfl ?_
        refine g_get 0 6 dX8_feed_35 (List.mem_of_getElem? (i := 1) rfl) (fun w h => List.mem_cons_of_mem _ (List.mem_append_left _ (List.mem_append_right _ h))) (cO_main _ _ _ _) rfl (by decide) rfl ?_
        refine g_lload_n (i := 1) dX8_feed_38 rfl rfl ?_
        refine g_iload_n (i := 3) dX8_feed_39 rfl rfl ?_
        refine g_callVf 2 7 gX8_feed_X3_append rfl rfl rfl ⟨Nat.le_of_ble_eq_true rfl, Nat.le_of_ble_eq_true rfl⟩ ⟨Nat.le_of_ble_eq_true rfl, Nat.le_of_ble_eq_true rfl⟩ (by exact Nat.le_of_ble_eq_true rfl) (by decide +kernel) rfl (cO_reader _ _ _ _) rfl dX8_feed_40 (K_append _ D cy a _ _ _ _ _ hL9 (feed_n hL8 hL9 rfl hN8 (by assumption))) rfl (fun vu_6 wu_6 hu_6 => ?_)
        obtain ⟨rfl, rfl⟩ := hu_6
        refine g_aload_n (i := 0) dX8_feed_43 rfl rfl ?_
        refine g_get 0 6 dX8_feed_44 (List.mem_of_getElem? (i := 1) rfl) (fun w h => List.mem_cons_of_mem _ (List.mem_append_left _ (List.mem_append_right _ h))) (cO_main _ _ _ _) rfl (by decide) rfl ?_
        refine g_get 7 0 dX8_feed_47 (List.mem_of_getElem? (i := 2) rfl) (fun w h => List.mem_cons_of_mem _ (List.mem_append_right _ h)) (cO_reader _ _ _ _) rfl (by decide) rfl ?_
        refine g_i2l dX8_feed_50 ?_
        refine g_lret dX8_feed_51 ?_
        unfold cf_feed; rw [if_pos hn9, if_pos (by assumption), nI_clamp (by omega)]; exact ⟨rfl, rfl⟩
      · skip
        refine g_if_ne 34 dX8_feed_25 (by decide) (fun h9 => absurd h9 (by decide)) (fun _ => ?_)
        refine g_aload_n (i := 0) dX8_feed_28 rfl rfl ?_
        refine g_iconst (4) rfl dX8_feed_29 ?_
        refine g_callVf 1 0 gX8_feed_X8_finding rfl rfl rfl ⟨Nat.le_of_ble_eq_true rfl, Nat.le_of_ble_eq_true rfl⟩ ⟨Nat.le_of_ble_eq_true rfl, Nat.le_of_ble_eq_true rfl⟩ (by exact Nat.le_of_ble_eq_true rfl) (by decide +kernel) rfl (cO_main _ _ _ _) rfl dX8_feed_30 (K_finding _ D cy a _ _ _ (by unfold vp_in; decide)) rfl (fun vu_8 wu_8 hu_8 => ?_)
        obtain ⟨rfl, rfl⟩ := hu_8
        refine g_lret dX8_feed_33 ?_
        unfold cf_feed; rw [if_pos hn9, if_neg (by assumption)]; exact ⟨rfl, rfl⟩
    · skip
      refine g_aload_n (i := 0) dX8_feed_11 rfl rfl ?_
      refine g_iconst (1) rfl dX8_feed_12 ?_
      refine g_callVf 1 0 gX8_feed_X8_finding rfl rfl rfl ⟨Nat.le_of_ble_eq_true rfl, Nat.le_of_ble_eq_true rfl⟩ ⟨Nat.le_of_ble_eq_true rfl, Nat.le_of_ble_eq_true rfl⟩ (by exact Nat.le_of_ble_eq_true rfl) (by decide +kernel) rfl (cO_main _ _ _ _) rfl dX8_feed_13 (K_finding _ D cy a _ _ _ (by unfold vp_in; decide)) rfl (fun vu_9 wu_9 hu_9 => ?_)
      obtain ⟨rfl, rfl⟩ := hu_9
      refine g_lret dX8_feed_16 ?_
      unfold cf_feed; rw [if_neg (by intro h9; first | exact absurd h9.1 (Int32.not_le.mpr (by assumption)) | exact absurd h9.2 (by assumption))]; exact ⟨rfl, rfl⟩

set_option maxHeartbeats 4000000 in
set_option maxRecDepth 100000 in
/-- fault -/
theorem K_fault (l : Launch) (D : va_G) (cy : Nat → ClassId) (a : Nat → Nat) (T : MS) (B : List BL) : Ct l D clx (tyx cy) yX8_fault wsX8_fault (rmC 3) 0 0 [.ref (a 200)] (CW cy a T B) (fun r9 w9 => r9 = some (.long (((T.1 21).toInt64, T)).1) ∧ w9 = CW cy a (((T.1 21).toInt64, T)).2 B) := by
  refine g_start (cc := cX8_fault) (maxL := 1) (ret := (some .long)) (by decide) rfl (Nat.le_of_ble_eq_true rfl) (fun v w1 h => by obtain ⟨rfl, -⟩ := h; exact rfl) (fun Γ hlΓ => ?_)
  subst hlΓ
  refine g_aload_n (i := 0) dX8_fault_0 rfl rfl ?_
  refine g_get 0 6 dX8_fault_1 (List.mem_of_getElem? (i := 1) rfl) (fun w h => List.mem_cons_of_mem _ (List.mem_append_left _ (List.mem_append_right _ h))) (cO_main _ _ _ _) rfl (by decide) rfl ?_
  refine g_get 7 1 dX8_fault_4 (List.mem_of_getElem? (i := 2) rfl) (fun w h => List.mem_cons_of_mem _ (List.mem_append_right _ h)) (cO_reader _ _ _ _) rfl (by decide) rfl ?_
  refine g_i2l dX8_fault_7 ?_
  refine g_lret dX8_fault_8 ?_
  exact ⟨rfl, rfl⟩

abbrev ctwo (h q : Int32) : Prop := (0 ≤ h ∧ h ≤ 9) ∧ (0 ≤ q ∧ q ≤ 9) ∧ ¬ h = q
theorem tw_a {h q : Int32} (t : ctwo h q) : vp_in h 10 := vpi10 t.1
theorem tw_b {h q : Int32} (t : ctwo h q) : vp_in q 10 := vpi10 t.2.1
def cf_owe (T : MS) (h q v : Int32) : Int64 × MS := if ctwo h q ∧ (1 ≤ v ∧ v ≤ 1000000) then (if 1000000000 < cabs (cwould T h q v.toInt64) then cf_fd T 4 else ((cf_charge T h q v.toInt64).2.2.2 (100 + h.toNatClampNeg) q.toNatClampNeg, cf_charge T h q v.toInt64)) else cf_fd T 1
set_option maxHeartbeats 4000000 in
set_option maxRecDepth 100000 in
/-- owe -/
theorem K_owe (l : Launch) (D : va_G) (cy : Nat → ClassId) (a : Nat → Nat) (T : MS) (B : List BL) (h q v : Int32) : Ct l D clx (tyx cy) yX8_owe wsX8_owe (rmC 3) 0 0 [.ref (a 200), .int h, .int q, .int v] (CW cy a T B) (fun r9 w9 => r9 = some (.long (cf_owe T h q v).1) ∧ w9 = CW cy a (cf_owe T h q v).2 B) := by
  refine g_start (cc := cX8_owe) (maxL := 4) (ret := (some .long)) (by decide) rfl (Nat.le_of_ble_eq_true rfl) (fun v w1 h => by obtain ⟨rfl, -⟩ := h; exact rfl) (fun Γ hlΓ => ?_)
  subst hlΓ
  refine g_iload_n (i := 1) dX8_owe_0 rfl rfl ?_
  refine g_iload_n (i := 2) dX8_owe_1 rfl rfl ?_
  refine g_callSf 2 gX8_owe_X8_areTwoHouses rfl rfl rfl ⟨Nat.le_of_ble_eq_true rfl, Nat.le_of_ble_eq_true rfl⟩ ⟨Nat.le_of_ble_eq_true rfl, Nat.le_of_ble_eq_true rfl⟩ (by exact Nat.le_of_ble_eq_true rfl) (by decide +kernel) rfl dX8_owe_2 (K_areTwo _ D cy a _ _ _ _) rfl (fun vu_1 wu_1 hu_1 => ?_)
  rcases hu_1 with ⟨rfl, hu_1, rfl⟩ | ⟨rfl, hu_1, rfl⟩
  · skip
    refine g_if_eq 19 dX8_owe_5 (by decide) (fun h9 => absurd h9 (by decide)) (fun _ => ?_)
    refine g_iload_n (i := 3) dX8_owe_8 rfl rfl ?_
    refine g_iconst (1) rfl dX8_owe_9 ?_
    refine g_icmp_lt 19 dX8_owe_10 (by decide) (fun c_3 => ?_) (fun c_3 => ?_)
    · skip
      refine g_aload_n (i := 0) dX8_owe_19 rfl rfl ?_
      refine g_iconst (1) rfl dX8_owe_20 ?_
      refine g_callVf 1 0 gX8_owe_X8_finding rfl rfl rfl ⟨Nat.le_of_ble_eq_true rfl, Nat.le_of_ble_eq_true rfl⟩ ⟨Nat.le_of_ble_eq_true rfl, Nat.le_of_ble_eq_true rfl⟩ (by exact Nat.le_of_ble_eq_true rfl) (by decide +kernel) rfl (cO_main _ _ _ _) rfl dX8_owe_21 (K_finding _ D cy a _ _ _ (by unfold vp_in; decide)) rfl (fun vu_4 wu_4 hu_4 => ?_)
      obtain ⟨rfl, rfl⟩ := hu_4
      refine g_lret dX8_owe_24 ?_
      unfold cf_owe; (repeat' split) <;> first | contradiction | (with_reducible exact ⟨rfl, rfl⟩) | (exfalso; rename_i h9; first | exact absurd h9.1 (by assumption) | exact absurd h9.2 (by assumption) | exact absurd h9.2.1 (by assumption) | exact absurd h9.2.2 (by assumption) | exact absurd h9.2.2.1 (by assumption) | exact absurd h9.2.2.2 (by assumption) | exact h9 ⟨by assumption, by assumption⟩ | exact h9 ⟨by assumption, by assumption, by assumption⟩) | (exfalso; simp_all; done) | (exfalso; simp only [Int32.le_iff_toInt_le, Int32.lt_iff_toInt_lt, Int32.reduceToInt] at *; omega) | exact ⟨rfl, rfl⟩
    · skip
      refine g_iload_n (i := 3) dX8_owe_13 rfl rfl ?_
      refine g_ldc (1000000) (List.mem_of_getElem? (i := 1) rfl) dX8_owe_14 ?_
      refine g_icmp_le 25 dX8_owe_16 (by decide) (fun c_5 => ?_) (fun c_5 => ?_)
      · skip
        refine g_aload_n (i := 0) dX8_owe_25 rfl rfl ?_
        refine g_get 0 7 dX8_owe_26 (List.mem_of_getElem? (i := 2) rfl) (fun w h => List.mem_cons_of_mem _ (List.mem_append_left _ (List.mem_append_right _ h))) (cO_main _ _ _ _) rfl (by decide) rfl ?_
        refine g_iload_n (i := 1) dX8_owe_29 rfl rfl ?_
        refine g_iload_n (i := 2) dX8_owe_30 rfl rfl ?_
        refine g_iload_n (i := 3) dX8_owe_31 rfl rfl ?_
        refine g_i2l dX8_owe_32 ?_
        refine g_callVf 3 9 gX8_owe_X1_overfills rfl rfl rfl ⟨Nat.le_of_ble_eq_true rfl, Nat.le_of_ble_eq_true rfl⟩ ⟨Nat.le_of_ble_eq_true rfl, Nat.le_of_ble_eq_true rfl⟩ (by exact Nat.le_of_ble_eq_true rfl) (by decide +kernel) rfl (cO_book _ _ _ _) rfl dX8_owe_33 (K_overfills _ D cy a _ _ _ _ (tw_a (by assumption)) (tw_b (by assumption)) _) rfl (fun vu_6 wu_6 hu_6 => ?_)
        rcases hu_6 with ⟨rfl, hu_6, rfl⟩ | ⟨rfl, hu_6, rfl⟩
        · skip
          refine g_if_eq 45 dX8_owe_36 (by decide) (fun h9 => absurd h9 (by decide)) (fun _ => ?_)
          refine g_aload_n (i := 0) dX8_owe_39 rfl rfl ?_
          refine g_iconst (4) rfl dX8_owe_40 ?_
          refine g_callVf 1 0 gX8_owe_X8_finding rfl rfl rfl ⟨Nat.le_of_ble_eq_true rfl, Nat.le_of_ble_eq_true rfl⟩ ⟨Nat.le_of_ble_eq_true rfl, Nat.le_of_ble_eq_true rfl⟩ (by exact Nat.le_of_ble_eq_true rfl) (by decide +kernel) rfl (cO_main _ _ _ _) rfl dX8_owe_41 (K_finding _ D cy a _ _ _ (by unfold vp_in; decide)) rfl (fun vu_8 wu_8 hu_8 => ?_)
          obtain ⟨rfl, rfl⟩ := hu_8
          refine g_lret dX8_owe_44 ?_
          unfold cf_owe; (repeat' split) <;> first | contradiction | (with_reducible exact ⟨rfl, rfl⟩) | (exfalso; rename_i h9; first | exact absurd h9.1 (by assumption) | exact absurd h9.2 (by assumption) | exact absurd h9.2.1 (by assumption) | exact absurd h9.2.2 (by assumption) | exact absurd h9.2.2.1 (by assumption) | exact absurd h9.2.2.2 (by assumption) | exact h9 ⟨by assumption, by assumption⟩ | exact h9 ⟨by assumption, by assumption, by assumption⟩) | (exfalso; simp_all; done) | (exfalso; simp only [Int32.le_iff_toInt_le, Int32.lt_iff_toInt_lt, Int32.reduceToInt] at *; omega) | exact ⟨rfl, rfl⟩
        · skip
          refine g_if_eq 45 dX8_owe_36 (by decide) (fun _ => ?_) (fun h9 => absurd h9 (by decide))
          refine g_aload_n (i := 0) dX8_owe_45 rfl rfl ?_
          refine g_get 0 7 dX8_owe_46 (List.mem_of_getElem? (i := 2) rfl) (fun w h => List.mem_cons_of_mem _ (List.mem_append_left _ (List.mem_append_right _ h))) (cO_main _ _ _ _) rfl (by decide) rfl ?_
          refine g_iload_n (i := 1) dX8_owe_49 rfl rfl ?_
          refine g_iload_n (i := 2) dX8_owe_50 rfl rfl ?_
          refine g_iload_n (i := 3) dX8_owe_51 rfl rfl ?_
          refine g_i2l dX8_owe_52 ?_
          refine g_callVf 3 9 gX8_owe_X1_charge rfl rfl rfl ⟨Nat.le_of_ble_eq_true rfl, Nat.le_of_ble_eq_true rfl⟩ ⟨Nat.le_of_ble_eq_true rfl, Nat.le_of_ble_eq_true rfl⟩ (by exact Nat.le_of_ble_eq_true rfl) (by decide +kernel) rfl (cO_book _ _ _ _) rfl dX8_owe_53 (K_charge _ D cy a _ _ _ _ (tw_a (by assumption)) (tw_b (by assumption)) _) rfl (fun vu_10 wu_10 hu_10 => ?_)
          obtain ⟨rfl, rfl⟩ := hu_10
          refine g_aload_n (i := 0) dX8_owe_56 rfl rfl ?_
          refine g_get 0 7 dX8_owe_57 (List.mem_of_getElem? (i := 2) rfl) (fun w h => List.mem_cons_of_mem _ (List.mem_append_left _ (List.mem_append_right _ h))) (cO_main _ _ _ _) rfl (by decide) rfl ?_
          refine g_iload_n (i := 1) dX8_owe_60 rfl rfl ?_
          refine g_iload_n (i := 2) dX8_owe_61 rfl rfl ?_
          refine g_callVf 2 9 gX8_owe_X1_debt rfl rfl rfl ⟨Nat.le_of_ble_eq_true rfl, Nat.le_of_ble_eq_true rfl⟩ ⟨Nat.le_of_ble_eq_true rfl, Nat.le_of_ble_eq_true rfl⟩ (by exact Nat.le_of_ble_eq_true rfl) (by decide +kernel) rfl (cO_book _ _ _ _) rfl dX8_owe_62 (K_debt _ D cy a _ _ _ _ (tw_a (by assumption)) (tw_b (by assumption))) rfl (fun vu_11 wu_11 hu_11 => ?_)
          obtain ⟨rfl, rfl⟩ := hu_11
          refine g_lret dX8_owe_65 ?_
          unfold cf_owe; (repeat' split) <;> first | contradiction | (with_reducible exact ⟨rfl, rfl⟩) | (exfalso; rename_i h9; first | exact absurd h9.1 (by assumption) | exact absurd h9.2 (by assumption) | exact absurd h9.2.1 (by assumption) | exact absurd h9.2.2 (by assumption) | exact absurd h9.2.2.1 (by assumption) | exact absurd h9.2.2.2 (by assumption) | exact h9 ⟨by assumption, by assumption⟩ | exact h9 ⟨by assumption, by assumption, by assumption⟩) | (exfalso; simp_all; done) | (exfalso; simp only [Int32.le_iff_toInt_le, Int32.lt_iff_toInt_lt, Int32.reduceToInt] at *; omega) | exact ⟨rfl, rfl⟩
      · skip
        refine g_aload_n (i := 0) dX8_owe_19 rfl rfl ?_
        refine g_iconst (1) rfl dX8_owe_20 ?_
        refine g_callVf 1 0 gX8_owe_X8_finding rfl rfl rfl ⟨Nat.le_of_ble_eq_true rfl, Nat.le_of_ble_eq_true rfl⟩ ⟨Nat.le_of_ble_eq_true rfl, Nat.le_of_ble_eq_true rfl⟩ (by exact Nat.le_of_ble_eq_true rfl) (by decide +kernel) rfl (cO_main _ _ _ _) rfl dX8_owe_21 (K_finding _ D cy a _ _ _ (by unfold vp_in; decide)) rfl (fun vu_12 wu_12 hu_12 => ?_)
        obtain ⟨rfl, rfl⟩ := hu_12
        refine g_lret dX8_owe_24 ?_
        unfold cf_owe; (repeat' split) <;> first | contradiction | (with_reducible exact ⟨rfl, rfl⟩) | (exfalso; rename_i h9; first | exact absurd h9.1 (by assumption) | exact absurd h9.2 (by assumption) | exact absurd h9.2.1 (by assumption) | exact absurd h9.2.2 (by assumption) | exact absurd h9.2.2.1 (by assumption) | exact absurd h9.2.2.2 (by assumption) | exact h9 ⟨by assumption, by assumption⟩ | exact h9 ⟨by assumption, by assumption, by assumption⟩) | (exfalso; simp_all; done) | (exfalso; simp only [Int32.le_iff_toInt_le, Int32.lt_iff_toInt_lt, Int32.reduceToInt] at *; omega) | exact ⟨rfl, rfl⟩
  · skip
    refine g_if_eq 19 dX8_owe_5 (by decide) (fun _ => ?_) (fun h9 => absurd h9 (by decide))
    refine g_aload_n (i := 0) dX8_owe_19 rfl rfl ?_
    refine g_iconst (1) rfl dX8_owe_20 ?_
    refine g_callVf 1 0 gX8_owe_X8_finding rfl rfl rfl ⟨Nat.le_of_ble_eq_true rfl, Nat.le_of_ble_eq_true rfl⟩ ⟨Nat.le_of_ble_eq_true rfl, Nat.le_of_ble_eq_true rfl⟩ (by exact Nat.le_of_ble_eq_true rfl) (by decide +kernel) rfl (cO_main _ _ _ _) rfl dX8_owe_21 (K_finding _ D cy a _ _ _ (by unfold vp_in; decide)) rfl (fun vu_14 wu_14 hu_14 => ?_)
    obtain ⟨rfl, rfl⟩ := hu_14
    refine g_lret dX8_owe_24 ?_
    unfold cf_owe; (repeat' split) <;> first | contradiction | (with_reducible exact ⟨rfl, rfl⟩) | (exfalso; rename_i h9; first | exact absurd h9.1 (by assumption) | exact absurd h9.2 (by assumption) | exact absurd h9.2.1 (by assumption) | exact absurd h9.2.2 (by assumption) | exact absurd h9.2.2.1 (by assumption) | exact absurd h9.2.2.2 (by assumption) | exact h9 ⟨by assumption, by assumption⟩ | exact h9 ⟨by assumption, by assumption, by assumption⟩) | (exfalso; simp_all; done) | (exfalso; simp only [Int32.le_iff_toInt_le, Int32.lt_iff_toInt_lt, Int32.reduceToInt] at *; omega) | exact ⟨rfl, rfl⟩

def cf_owes (T : MS) (h q : Int32) : Int64 × MS := if ctwo h q then (T.2.2.2 (100 + h.toNatClampNeg) q.toNatClampNeg, T) else cf_fd T 1
set_option maxHeartbeats 4000000 in
set_option maxRecDepth 100000 in
/-- owes -/
theorem K_owes (l : Launch) (D : va_G) (cy : Nat → ClassId) (a : Nat → Nat) (T : MS) (B : List BL) (h q : Int32) : Ct l D clx (tyx cy) yX8_owes wsX8_owes (rmC 3) 0 0 [.ref (a 200), .int h, .int q] (CW cy a T B) (fun r9 w9 => r9 = some (.long (cf_owes T h q).1) ∧ w9 = CW cy a (cf_owes T h q).2 B) := by
  refine g_start (cc := cX8_owes) (maxL := 3) (ret := (some .long)) (by decide) rfl (Nat.le_of_ble_eq_true rfl) (fun v w1 h => by obtain ⟨rfl, -⟩ := h; exact rfl) (fun Γ hlΓ => ?_)
  subst hlΓ
  refine g_iload_n (i := 1) dX8_owes_0 rfl rfl ?_
  refine g_iload_n (i := 2) dX8_owes_1 rfl rfl ?_
  refine g_callSf 2 gX8_owes_X8_areTwoHouses rfl rfl rfl ⟨Nat.le_of_ble_eq_true rfl, Nat.le_of_ble_eq_true rfl⟩ ⟨Nat.le_of_ble_eq_true rfl, Nat.le_of_ble_eq_true rfl⟩ (by exact Nat.le_of_ble_eq_true rfl) (by decide +kernel) rfl dX8_owes_2 (K_areTwo _ D cy a _ _ _ _) rfl (fun vu_1 wu_1 hu_1 => ?_)
  rcases hu_1 with ⟨rfl, hu_1, rfl⟩ | ⟨rfl, hu_1, rfl⟩
  · skip
    refine g_if_ne 14 dX8_owes_5 (by decide) (fun _ => ?_) (fun h9 => absurd h9 (by decide))
    refine g_aload_n (i := 0) dX8_owes_14 rfl rfl ?_
    refine g_get 0 7 dX8_owes_15 (List.mem_of_getElem? (i := 1) rfl) (fun w h => List.mem_cons_of_mem _ (List.mem_append_left _ (List.mem_append_right _ h))) (cO_main _ _ _ _) rfl (by decide) rfl ?_
    refine g_iload_n (i := 1) dX8_owes_18 rfl rfl ?_
    refine g_iload_n (i := 2) dX8_owes_19 rfl rfl ?_
    refine g_callVf 2 9 gX8_owes_X1_debt rfl rfl rfl ⟨Nat.le_of_ble_eq_true rfl, Nat.le_of_ble_eq_true rfl⟩ ⟨Nat.le_of_ble_eq_true rfl, Nat.le_of_ble_eq_true rfl⟩ (by exact Nat.le_of_ble_eq_true rfl) (by decide +kernel) rfl (cO_book _ _ _ _) rfl dX8_owes_20 (K_debt _ D cy a _ _ _ _ (tw_a (by assumption)) (tw_b (by assumption))) rfl (fun vu_3 wu_3 hu_3 => ?_)
    obtain ⟨rfl, rfl⟩ := hu_3
    refine g_lret dX8_owes_23 ?_
    unfold cf_owes; (repeat' split) <;> first | contradiction | (with_reducible exact ⟨rfl, rfl⟩) | (exfalso; rename_i h9; first | exact absurd h9.1 (by assumption) | exact absurd h9.2 (by assumption) | exact absurd h9.2.1 (by assumption) | exact absurd h9.2.2 (by assumption) | exact absurd h9.2.2.1 (by assumption) | exact absurd h9.2.2.2 (by assumption) | exact h9 ⟨by assumption, by assumption⟩ | exact h9 ⟨by assumption, by assumption, by assumption⟩) | (exfalso; simp_all; done) | (exfalso; simp only [Int32.le_iff_toInt_le, Int32.lt_iff_toInt_lt, Int32.reduceToInt] at *; omega) | exact ⟨rfl, rfl⟩
  · skip
    refine g_if_ne 14 dX8_owes_5 (by decide) (fun h9 => absurd h9 (by decide)) (fun _ => ?_)
    refine g_aload_n (i := 0) dX8_owes_8 rfl rfl ?_
    refine g_iconst (1) rfl dX8_owes_9 ?_
    refine g_callVf 1 0 gX8_owes_X8_finding rfl rfl rfl ⟨Nat.le_of_ble_eq_true rfl, Nat.le_of_ble_eq_true rfl⟩ ⟨Nat.le_of_ble_eq_true rfl, Nat.le_of_ble_eq_true rfl⟩ (by exact Nat.le_of_ble_eq_true rfl) (by decide +kernel) rfl (cO_main _ _ _ _) rfl dX8_owes_10 (K_finding _ D cy a _ _ _ (by unfold vp_in; decide)) rfl (fun vu_5 wu_5 hu_5 => ?_)
    obtain ⟨rfl, rfl⟩ := hu_5
    refine g_lret dX8_owes_13 ?_
    unfold cf_owes; (repeat' split) <;> first | contradiction | (with_reducible exact ⟨rfl, rfl⟩) | (exfalso; rename_i h9; first | exact absurd h9.1 (by assumption) | exact absurd h9.2 (by assumption) | exact absurd h9.2.1 (by assumption) | exact absurd h9.2.2 (by assumption) | exact absurd h9.2.2.1 (by assumption) | exact absurd h9.2.2.2 (by assumption) | exact h9 ⟨by assumption, by assumption⟩ | exact h9 ⟨by assumption, by assumption, by assumption⟩) | (exfalso; simp_all; done) | (exfalso; simp only [Int32.le_iff_toInt_le, Int32.lt_iff_toInt_lt, Int32.reduceToInt] at *; omega) | exact ⟨rfl, rfl⟩

def cf_net (T : MS) (h : Int32) : Int64 × MS := if 0 ≤ h ∧ h ≤ 9 then (cnetT T h 10, T) else cf_fd T 1
set_option maxHeartbeats 4000000 in
set_option maxRecDepth 100000 in
/-- net -/
theorem K_net (l : Launch) (D : va_G) (cy : Nat → ClassId) (a : Nat → Nat) (T : MS) (B : List BL) (h : Int32) : Ct l D clx (tyx cy) yX8_net wsX8_net (rmC 3) 0 0 [.ref (a 200), .int h] (CW cy a T B) (fun r9 w9 => r9 = some (.long (cf_net T h).1) ∧ w9 = CW cy a (cf_net T h).2 B) := by
  refine g_start (cc := cX8_net) (maxL := 2) (ret := (some .long)) (by decide) rfl (Nat.le_of_ble_eq_true rfl) (fun v w1 h => by obtain ⟨rfl, -⟩ := h; exact rfl) (fun Γ hlΓ => ?_)
  subst hlΓ
  refine g_iload_n (i := 1) dX8_net_0 rfl rfl ?_
  refine g_callSf 1 gX8_net_X8_isHouse rfl rfl rfl ⟨Nat.le_of_ble_eq_true rfl, Nat.le_of_ble_eq_true rfl⟩ ⟨Nat.le_of_ble_eq_true rfl, Nat.le_of_ble_eq_true rfl⟩ (by exact Nat.le_of_ble_eq_true rfl) (by decide +kernel) rfl dX8_net_1 (K_isHouse _ D cy a _ _ _) rfl (fun vu_1 wu_1 hu_1 => ?_)
  rcases hu_1 with ⟨rfl, hu_1, rfl⟩ | ⟨rfl, hu_1, rfl⟩
  · skip
    refine g_if_ne 13 dX8_net_4 (by decide) (fun _ => ?_) (fun h9 => absurd h9 (by decide))
    refine g_aload_n (i := 0) dX8_net_13 rfl rfl ?_
    refine g_get 0 7 dX8_net_14 (List.mem_of_getElem? (i := 1) rfl) (fun w h => List.mem_cons_of_mem _ (List.mem_append_left _ (List.mem_append_right _ h))) (cO_main _ _ _ _) rfl (by decide) rfl ?_
    refine g_iload_n (i := 1) dX8_net_17 rfl rfl ?_
    refine g_callVf 1 9 gX8_net_X1_balance rfl rfl rfl ⟨Nat.le_of_ble_eq_true rfl, Nat.le_of_ble_eq_true rfl⟩ ⟨Nat.le_of_ble_eq_true rfl, Nat.le_of_ble_eq_true rfl⟩ (by exact Nat.le_of_ble_eq_true rfl) (by decide +kernel) rfl (cO_book _ _ _ _) rfl dX8_net_18 (K_balance _ D cy a _ _ _ (by first | assumption | exact vpi10 (by assumption) | exact vp_in_nI (by assumption) (by decide))) rfl (fun vu_3 wu_3 hu_3 => ?_)
    obtain ⟨rfl, rfl⟩ := hu_3
    refine g_lret dX8_net_21 ?_
    unfold cf_net; (repeat' split) <;> first | contradiction | (with_reducible exact ⟨rfl, rfl⟩) | (exfalso; rename_i h9; first | exact absurd h9.1 (by assumption) | exact absurd h9.2 (by assumption) | exact absurd h9.2.1 (by assumption) | exact absurd h9.2.2 (by assumption) | exact absurd h9.2.2.1 (by assumption) | exact absurd h9.2.2.2 (by assumption) | exact h9 ⟨by assumption, by assumption⟩ | exact h9 ⟨by assumption, by assumption, by assumption⟩) | (exfalso; simp_all; done) | (exfalso; simp only [Int32.le_iff_toInt_le, Int32.lt_iff_toInt_lt, Int32.reduceToInt] at *; omega) | exact ⟨rfl, rfl⟩
  · skip
    refine g_if_ne 13 dX8_net_4 (by decide) (fun h9 => absurd h9 (by decide)) (fun _ => ?_)
    refine g_aload_n (i := 0) dX8_net_7 rfl rfl ?_
    refine g_iconst (1) rfl dX8_net_8 ?_
    refine g_callVf 1 0 gX8_net_X8_finding rfl rfl rfl ⟨Nat.le_of_ble_eq_true rfl, Nat.le_of_ble_eq_true rfl⟩ ⟨Nat.le_of_ble_eq_true rfl, Nat.le_of_ble_eq_true rfl⟩ (by exact Nat.le_of_ble_eq_true rfl) (by decide +kernel) rfl (cO_main _ _ _ _) rfl dX8_net_9 (K_finding _ D cy a _ _ _ (by unfold vp_in; decide)) rfl (fun vu_5 wu_5 hu_5 => ?_)
    obtain ⟨rfl, rfl⟩ := hu_5
    refine g_lret dX8_net_12 ?_
    unfold cf_net; (repeat' split) <;> first | contradiction | (with_reducible exact ⟨rfl, rfl⟩) | (exfalso; rename_i h9; first | exact absurd h9.1 (by assumption) | exact absurd h9.2 (by assumption) | exact absurd h9.2.1 (by assumption) | exact absurd h9.2.2 (by assumption) | exact absurd h9.2.2.1 (by assumption) | exact absurd h9.2.2.2 (by assumption) | exact h9 ⟨by assumption, by assumption⟩ | exact h9 ⟨by assumption, by assumption, by assumption⟩) | (exfalso; simp_all; done) | (exfalso; simp only [Int32.le_iff_toInt_le, Int32.lt_iff_toInt_lt, Int32.reduceToInt] at *; omega) | exact ⟨rfl, rfl⟩

def cf_coin (T : MS) (k w f : Int32) : Int64 × MS := if (0 ≤ k ∧ k ≤ 3) ∧ (0 ≤ w ∧ w ≤ 1000) ∧ (0 ≤ f ∧ f ≤ 1000) then (((sA T 55 k.toNatClampNeg (w * f / 1000)).2.2.1 55 k.toNatClampNeg).toInt64, sA T 55 k.toNatClampNeg (w * f / 1000)) else cf_fd T 1
set_option maxHeartbeats 4000000 in
set_option maxRecDepth 100000 in
/-- coin -/
theorem K_coin (l : Launch) (D : va_G) (cy : Nat → ClassId) (a : Nat → Nat) (T : MS) (B : List BL) (k w f : Int32) : Ct l D clx (tyx cy) yX8_coin wsX8_coin (rmC 3) 0 0 [.ref (a 200), .int k, .int w, .int f] (CW cy a T B) (fun r9 w9 => r9 = some (.long (cf_coin T k w f).1) ∧ w9 = CW cy a (cf_coin T k w f).2 B) := by
  refine g_start (cc := cX8_coin) (maxL := 4) (ret := (some .long)) (by decide) rfl (Nat.le_of_ble_eq_true rfl) (fun v w1 h => by obtain ⟨rfl, -⟩ := h; exact rfl) (fun Γ hlΓ => ?_)
  subst hlΓ
  refine g_iload_n (i := 1) dX8_coin_0 rfl rfl ?_
  refine g_callSf 1 gX8_coin_X6_isKind rfl rfl rfl ⟨Nat.le_of_ble_eq_true rfl, Nat.le_of_ble_eq_true rfl⟩ ⟨Nat.le_of_ble_eq_true rfl, Nat.le_of_ble_eq_true rfl⟩ (by exact Nat.le_of_ble_eq_true rfl) (by decide +kernel) rfl dX8_coin_1 (K_isKind _ D cy a _ _ _) rfl (fun vu_1 wu_1 hu_1 => ?_)
  rcases hu_1 with ⟨rfl, hu_1, rfl⟩ | ⟨rfl, hu_1, rfl⟩
  · skip
    refine g_if_eq 21 dX8_coin_4 (by decide) (fun h9 => absurd h9 (by decide)) (fun _ => ?_)
    refine g_iload_n (i := 2) dX8_coin_7 rfl rfl ?_
    refine g_callSf 1 gX8_coin_X6_isMeasure rfl rfl rfl ⟨Nat.le_of_ble_eq_true rfl, Nat.le_of_ble_eq_true rfl⟩ ⟨Nat.le_of_ble_eq_true rfl, Nat.le_of_ble_eq_true rfl⟩ (by exact Nat.le_of_ble_eq_true rfl) (by decide +kernel) rfl dX8_coin_8 (K_isMeasure _ D cy a _ _ _) rfl (fun vu_3 wu_3 hu_3 => ?_)
    rcases hu_3 with ⟨rfl, hu_3, rfl⟩ | ⟨rfl, hu_3, rfl⟩
    · skip
      refine g_if_eq 21 dX8_coin_11 (by decide) (fun h9 => absurd h9 (by decide)) (fun _ => ?_)
      refine g_iload_n (i := 3) dX8_coin_14 rfl rfl ?_
      refine g_callSf 1 gX8_coin_X6_isMeasure rfl rfl rfl ⟨Nat.le_of_ble_eq_true rfl, Nat.le_of_ble_eq_true rfl⟩ ⟨Nat.le_of_ble_eq_true rfl, Nat.le_of_ble_eq_true rfl⟩ (by exact Nat.le_of_ble_eq_true rfl) (by decide +kernel) rfl dX8_coin_15 (K_isMeasure _ D cy a _ _ _) rfl (fun vu_5 wu_5 hu_5 => ?_)
      rcases hu_5 with ⟨rfl, hu_5, rfl⟩ | ⟨rfl, hu_5, rfl⟩
      · skip
        refine g_if_ne 27 dX8_coin_18 (by decide) (fun _ => ?_) (fun h9 => absurd h9 (by decide))
        refine g_aload_n (i := 0) dX8_coin_27 rfl rfl ?_
        refine g_get 0 9 dX8_coin_28 (List.mem_of_getElem? (i := 1) rfl) (fun w h => List.mem_cons_of_mem _ (List.mem_append_left _ (List.mem_append_right _ h))) (cO_main _ _ _ _) rfl (by decide) rfl ?_
        refine g_iload_n (i := 1) dX8_coin_31 rfl rfl ?_
        refine g_iload_n (i := 2) dX8_coin_32 rfl rfl ?_
        refine g_iload_n (i := 3) dX8_coin_33 rfl rfl ?_
        refine g_callVf 3 29 gX8_coin_X6_mint rfl rfl rfl ⟨Nat.le_of_ble_eq_true rfl, Nat.le_of_ble_eq_true rfl⟩ ⟨Nat.le_of_ble_eq_true rfl, Nat.le_of_ble_eq_true rfl⟩ (by exact Nat.le_of_ble_eq_true rfl) (by decide +kernel) rfl (cO_purses _ _ _ _) rfl dX8_coin_34 (K_mint _ D cy a _ _ _ _ _ (by first | assumption | exact vpi4 (by assumption))) rfl (fun vu_7 wu_7 hu_7 => ?_)
        obtain ⟨rfl, rfl⟩ := hu_7
        refine g_aload_n (i := 0) dX8_coin_37 rfl rfl ?_
        refine g_get 0 9 dX8_coin_38 (List.mem_of_getElem? (i := 1) rfl) (fun w h => List.mem_cons_of_mem _ (List.mem_append_left _ (List.mem_append_right _ h))) (cO_main _ _ _ _) rfl (by decide) rfl ?_
        refine g_iload_n (i := 1) dX8_coin_41 rfl rfl ?_
        refine g_callVf 1 29 gX8_coin_X6_worth rfl rfl rfl ⟨Nat.le_of_ble_eq_true rfl, Nat.le_of_ble_eq_true rfl⟩ ⟨Nat.le_of_ble_eq_true rfl, Nat.le_of_ble_eq_true rfl⟩ (by exact Nat.le_of_ble_eq_true rfl) (by decide +kernel) rfl (cO_purses _ _ _ _) rfl dX8_coin_42 (K_worth _ D cy a _ _ _ (by first | assumption | exact vpi4 (by assumption))) rfl (fun vu_8 wu_8 hu_8 => ?_)
        obtain ⟨rfl, rfl⟩ := hu_8
        refine g_i2l dX8_coin_45 ?_
        refine g_lret dX8_coin_46 ?_
        unfold cf_coin; (repeat' split) <;> first | contradiction | (with_reducible exact ⟨rfl, rfl⟩) | (exfalso; rename_i h9; first | exact absurd h9.1 (by assumption) | exact absurd h9.2 (by assumption) | exact absurd h9.2.1 (by assumption) | exact absurd h9.2.2 (by assumption) | exact absurd h9.2.2.1 (by assumption) | exact absurd h9.2.2.2 (by assumption) | exact h9 ⟨by assumption, by assumption⟩ | exact h9 ⟨by assumption, by assumption, by assumption⟩) | (exfalso; simp_all; done) | (exfalso; simp only [Int32.le_iff_toInt_le, Int32.lt_iff_toInt_lt, Int32.reduceToInt] at *; omega) | exact ⟨rfl, rfl⟩
      · skip
        refine g_if_ne 27 dX8_coin_18 (by decide) (fun h9 => absurd h9 (by decide)) (fun _ => ?_)
        refine g_aload_n (i := 0) dX8_coin_21 rfl rfl ?_
        refine g_iconst (1) rfl dX8_coin_22 ?_
        refine g_callVf 1 0 gX8_coin_X8_finding rfl rfl rfl ⟨Nat.le_of_ble_eq_true rfl, Nat.le_of_ble_eq_true rfl⟩ ⟨Nat.le_of_ble_eq_true rfl, Nat.le_of_ble_eq_true rfl⟩ (by exact Nat.le_of_ble_eq_true rfl) (by decide +kernel) rfl (cO_main _ _ _ _) rfl dX8_coin_23 (K_finding _ D cy a _ _ _ (by unfold vp_in; decide)) rfl (fun vu_10 wu_10 hu_10 => ?_)
        obtain ⟨rfl, rfl⟩ := hu_10
        refine g_lret dX8_coin_26 ?_
        unfold cf_coin; (repeat' split) <;> first | contradiction | (with_reducible exact ⟨rfl, rfl⟩) | (exfalso; rename_i h9; first | exact absurd h9.1 (by assumption) | exact absurd h9.2 (by assumption) | exact absurd h9.2.1 (by assumption) | exact absurd h9.2.2 (by assumption) | exact absurd h9.2.2.1 (by assumption) | exact absurd h9.2.2.2 (by assumption) | exact h9 ⟨by assumption, by assumption⟩ | exact h9 ⟨by assumption, by assumption, by assumption⟩) | (exfalso; simp_all; done) | (exfalso; simp only [Int32.le_iff_toInt_le, Int32.lt_iff_toInt_lt, Int32.reduceToInt] at *; omega) | exact ⟨rfl, rfl⟩
    · skip
      refine g_if_eq 21 dX8_coin_11 (by decide) (fun _ => ?_) (fun h9 => absurd h9 (by decide))
      refine g_aload_n (i := 0) dX8_coin_21 rfl rfl ?_
      refine g_iconst (1) rfl dX8_coin_22 ?_
      refine g_callVf 1 0 gX8_coin_X8_finding rfl rfl rfl ⟨Nat.le_of_ble_eq_true rfl, Nat.le_of_ble_eq_true rfl⟩ ⟨Nat.le_of_ble_eq_true rfl, Nat.le_of_ble_eq_true rfl⟩ (by exact Nat.le_of_ble_eq_true rfl) (by decide +kernel) rfl (cO_main _ _ _ _) rfl dX8_coin_23 (K_finding _ D cy a _ _ _ (by unfold vp_in; decide)) rfl (fun vu_12 wu_12 hu_12 => ?_)
      obtain ⟨rfl, rfl⟩ := hu_12
      refine g_lret dX8_coin_26 ?_
      unfold cf_coin; (repeat' split) <;> first | contradiction | (with_reducible exact ⟨rfl, rfl⟩) | (exfalso; rename_i h9; first | exact absurd h9.1 (by assumption) | exact absurd h9.2 (by assumption) | exact absurd h9.2.1 (by assumption) | exact absurd h9.2.2 (by assumption) | exact absurd h9.2.2.1 (by assumption) | exact absurd h9.2.2.2 (by assumption) | exact h9 ⟨by assumption, by assumption⟩ | exact h9 ⟨by assumption, by assumption, by assumption⟩) | (exfalso; simp_all; done) | (exfalso; simp only [Int32.le_iff_toInt_le, Int32.lt_iff_toInt_lt, Int32.reduceToInt] at *; omega) | exact ⟨rfl, rfl⟩
  · skip
    refine g_if_eq 21 dX8_coin_4 (by decide) (fun _ => ?_) (fun h9 => absurd h9 (by decide))
    refine g_aload_n (i := 0) dX8_coin_21 rfl rfl ?_
    refine g_iconst (1) rfl dX8_coin_22 ?_
    refine g_callVf 1 0 gX8_coin_X8_finding rfl rfl rfl ⟨Nat.le_of_ble_eq_true rfl, Nat.le_of_ble_eq_true rfl⟩ ⟨Nat.le_of_ble_eq_true rfl, Nat.le_of_ble_eq_true rfl⟩ (by exact Nat.le_of_ble_eq_true rfl) (by decide +kernel) rfl (cO_main _ _ _ _) rfl dX8_coin_23 (K_finding _ D cy a _ _ _ (by unfold vp_in; decide)) rfl (fun vu_14 wu_14 hu_14 => ?_)
    obtain ⟨rfl, rfl⟩ := hu_14
    refine g_lret dX8_coin_26 ?_
    unfold cf_coin; (repeat' split) <;> first | contradiction | (with_reducible exact ⟨rfl, rfl⟩) | (exfalso; rename_i h9; first | exact absurd h9.1 (by assumption) | exact absurd h9.2 (by assumption) | exact absurd h9.2.1 (by assumption) | exact absurd h9.2.2 (by assumption) | exact absurd h9.2.2.1 (by assumption) | exact absurd h9.2.2.2 (by assumption) | exact h9 ⟨by assumption, by assumption⟩ | exact h9 ⟨by assumption, by assumption, by assumption⟩) | (exfalso; simp_all; done) | (exfalso; simp only [Int32.le_iff_toInt_le, Int32.lt_iff_toInt_lt, Int32.reduceToInt] at *; omega) | exact ⟨rfl, rfl⟩

def cf_purse (T : MS) (h k v : Int32) : Int64 × MS := if (0 ≤ h ∧ h ≤ 9) ∧ (0 ≤ k ∧ k ≤ 3) ∧ (0 ≤ v ∧ v ≤ 1000) then ((T.2.2.1 (110 + h.toNatClampNeg) k.toNatClampNeg).toInt64, sA T (110 + h.toNatClampNeg) k.toNatClampNeg v) else cf_fd T 1
set_option maxHeartbeats 4000000 in
set_option maxRecDepth 100000 in
/-- purse -/
theorem K_purse (l : Launch) (D : va_G) (cy : Nat → ClassId) (a : Nat → Nat) (T : MS) (B : List BL) (h k v : Int32) : Ct l D clx (tyx cy) yX8_purse wsX8_purse (rmC 3) 0 0 [.ref (a 200), .int h, .int k, .int v] (CW cy a T B) (fun r9 w9 => r9 = some (.long (cf_purse T h k v).1) ∧ w9 = CW cy a (cf_purse T h k v).2 B) := by
  refine g_start (cc := cX8_purse) (maxL := 5) (ret := (some .long)) (by decide) rfl (Nat.le_of_ble_eq_true rfl) (fun v w1 h => by obtain ⟨rfl, -⟩ := h; exact rfl) (fun Γ hlΓ => ?_)
  subst hlΓ
  refine g_iload_n (i := 1) dX8_purse_0 rfl rfl ?_
  refine g_callSf 1 gX8_purse_X8_isHouse rfl rfl rfl ⟨Nat.le_of_ble_eq_true rfl, Nat.le_of_ble_eq_true rfl⟩ ⟨Nat.le_of_ble_eq_true rfl, Nat.le_of_ble_eq_true rfl⟩ (by exact Nat.le_of_ble_eq_true rfl) (by decide +kernel) rfl dX8_purse_1 (K_isHouse _ D cy a _ _ _) rfl (fun vu_1 wu_1 hu_1 => ?_)
  rcases hu_1 with ⟨rfl, hu_1, rfl⟩ | ⟨rfl, hu_1, rfl⟩
  · skip
    refine g_if_eq 21 dX8_purse_4 (by decide) (fun h9 => absurd h9 (by decide)) (fun _ => ?_)
    refine g_iload_n (i := 2) dX8_purse_7 rfl rfl ?_
    refine g_callSf 1 gX8_purse_X6_isKind rfl rfl rfl ⟨Nat.le_of_ble_eq_true rfl, Nat.le_of_ble_eq_true rfl⟩ ⟨Nat.le_of_ble_eq_true rfl, Nat.le_of_ble_eq_true rfl⟩ (by exact Nat.le_of_ble_eq_true rfl) (by decide +kernel) rfl dX8_purse_8 (K_isKind _ D cy a _ _ _) rfl (fun vu_3 wu_3 hu_3 => ?_)
    rcases hu_3 with ⟨rfl, hu_3, rfl⟩ | ⟨rfl, hu_3, rfl⟩
    · skip
      refine g_if_eq 21 dX8_purse_11 (by decide) (fun h9 => absurd h9 (by decide)) (fun _ => ?_)
      refine g_iload_n (i := 3) dX8_purse_14 rfl rfl ?_
      refine g_callSf 1 gX8_purse_X6_isMeasure rfl rfl rfl ⟨Nat.le_of_ble_eq_true rfl, Nat.le_of_ble_eq_true rfl⟩ ⟨Nat.le_of_ble_eq_true rfl, Nat.le_of_ble_eq_true rfl⟩ (by exact Nat.le_of_ble_eq_true rfl) (by decide +kernel) rfl dX8_purse_15 (K_isMeasure _ D cy a _ _ _) rfl (fun vu_5 wu_5 hu_5 => ?_)
      rcases hu_5 with ⟨rfl, hu_5, rfl⟩ | ⟨rfl, hu_5, rfl⟩
      · skip
        refine g_if_ne 27 dX8_purse_18 (by decide) (fun _ => ?_) (fun h9 => absurd h9 (by decide))
        refine g_aload_n (i := 0) dX8_purse_27 rfl rfl ?_
        refine g_get 0 9 dX8_purse_28 (List.mem_of_getElem? (i := 1) rfl) (fun w h => List.mem_cons_of_mem _ (List.mem_append_left _ (List.mem_append_right _ h))) (cO_main _ _ _ _) rfl (by decide) rfl ?_
        refine g_iload_n (i := 1) dX8_purse_31 rfl rfl ?_
        refine g_iload_n (i := 2) dX8_purse_32 rfl rfl ?_
        refine g_callVf 2 29 gX8_purse_X6_held rfl rfl rfl ⟨Nat.le_of_ble_eq_true rfl, Nat.le_of_ble_eq_true rfl⟩ ⟨Nat.le_of_ble_eq_true rfl, Nat.le_of_ble_eq_true rfl⟩ (by exact Nat.le_of_ble_eq_true rfl) (by decide +kernel) rfl (cO_purses _ _ _ _) rfl dX8_purse_33 (K_held _ D cy a _ _ _ _ (by first | assumption | exact vpi10 (by assumption) | exact vp_in_nI (by assumption) (by decide)) (by first | assumption | exact vpi4 (by assumption))) rfl (fun vu_7 wu_7 hu_7 => ?_)
        obtain ⟨rfl, rfl⟩ := hu_7
        refine g_istore dX8_purse_36 (by decide) ?_
        refine g_aload_n (i := 0) dX8_purse_38 rfl rfl ?_
        refine g_get 0 9 dX8_purse_39 (List.mem_of_getElem? (i := 1) rfl) (fun w h => List.mem_cons_of_mem _ (List.mem_append_left _ (List.mem_append_right _ h))) (cO_main _ _ _ _) rfl (by decide) rfl ?_
        refine g_iload_n (i := 1) dX8_purse_42 rfl rfl ?_
        refine g_iload_n (i := 2) dX8_purse_43 rfl rfl ?_
        refine g_iload_n (i := 3) dX8_purse_44 rfl rfl ?_
        refine g_callVf 3 29 gX8_purse_X6_put rfl rfl rfl ⟨Nat.le_of_ble_eq_true rfl, Nat.le_of_ble_eq_true rfl⟩ ⟨Nat.le_of_ble_eq_true rfl, Nat.le_of_ble_eq_true rfl⟩ (by exact Nat.le_of_ble_eq_true rfl) (by decide +kernel) rfl (cO_purses _ _ _ _) rfl dX8_purse_45 (K_put _ D cy a _ _ _ _ (by first | assumption | exact vpi10 (by assumption) | exact vp_in_nI (by assumption) (by decide)) (by first | assumption | exact vpi4 (by assumption)) _) rfl (fun vu_8 wu_8 hu_8 => ?_)
        obtain ⟨rfl, rfl⟩ := hu_8
        refine g_iload dX8_purse_48 rfl ?_
        refine g_i2l dX8_purse_50 ?_
        refine g_lret dX8_purse_51 ?_
        unfold cf_purse; (repeat' split) <;> first | contradiction | (with_reducible exact ⟨rfl, rfl⟩) | (exfalso; rename_i h9; first | exact absurd h9.1 (by assumption) | exact absurd h9.2 (by assumption) | exact absurd h9.2.1 (by assumption) | exact absurd h9.2.2 (by assumption) | exact absurd h9.2.2.1 (by assumption) | exact absurd h9.2.2.2 (by assumption) | exact h9 ⟨by assumption, by assumption⟩ | exact h9 ⟨by assumption, by assumption, by assumption⟩) | (exfalso; simp_all; done) | (exfalso; simp only [Int32.le_iff_toInt_le, Int32.lt_iff_toInt_lt, Int32.reduceToInt] at *; omega) | exact ⟨rfl, rfl⟩
      · skip
        refine g_if_ne 27 dX8_purse_18 (by decide) (fun h9 => absurd h9 (by decide)) (fun _ => ?_)
        refine g_aload_n (i := 0) dX8_purse_21 rfl rfl ?_
        refine g_iconst (1) rfl dX8_purse_22 ?_
        refine g_callVf 1 0 gX8_purse_X8_finding rfl rfl rfl ⟨Nat.le_of_ble_eq_true rfl, Nat.le_of_ble_eq_true rfl⟩ ⟨Nat.le_of_ble_eq_true rfl, Nat.le_of_ble_eq_true rfl⟩ (by exact Nat.le_of_ble_eq_true rfl) (by decide +kernel) rfl (cO_main _ _ _ _) rfl dX8_purse_23 (K_finding _ D cy a _ _ _ (by unfold vp_in; decide)) rfl (fun vu_10 wu_10 hu_10 => ?_)
        obtain ⟨rfl, rfl⟩ := hu_10
        refine g_lret dX8_purse_26 ?_
        unfold cf_purse; (repeat' split) <;> first | contradiction | (with_reducible exact ⟨rfl, rfl⟩) | (exfalso; rename_i h9; first | exact absurd h9.1 (by assumption) | exact absurd h9.2 (by assumption) | exact absurd h9.2.1 (by assumption) | exact absurd h9.2.2 (by assumption) | exact absurd h9.2.2.1 (by assumption) | exact absurd h9.2.2.2 (by assumption) | exact h9 ⟨by assumption, by assumption⟩ | exact h9 ⟨by assumption, by assumption, by assumption⟩) | (exfalso; simp_all; done) | (exfalso; simp only [Int32.le_iff_toInt_le, Int32.lt_iff_toInt_lt, Int32.reduceToInt] at *; omega) | exact ⟨rfl, rfl⟩
    · skip
      refine g_if_eq 21 dX8_purse_11 (by decide) (fun _ => ?_) (fun h9 => absurd h9 (by decide))
      refine g_aload_n (i := 0) dX8_purse_21 rfl rfl ?_
      refine g_iconst (1) rfl dX8_purse_22 ?_
      refine g_callVf 1 0 gX8_purse_X8_finding rfl rfl rfl ⟨Nat.le_of_ble_eq_true rfl, Nat.le_of_ble_eq_true rfl⟩ ⟨Nat.le_of_ble_eq_true rfl, Nat.le_of_ble_eq_true rfl⟩ (by exact Nat.le_of_ble_eq_true rfl) (by decide +kernel) rfl (cO_main _ _ _ _) rfl dX8_purse_23 (K_finding _ D cy a _ _ _ (by unfold vp_in; decide)) rfl (fun vu_12 wu_12 hu_12 => ?_)
      obtain ⟨rfl, rfl⟩ := hu_12
      refine g_lret dX8_purse_26 ?_
      unfold cf_purse; (repeat' split) <;> first | contradiction | (with_reducible exact ⟨rfl, rfl⟩) | (exfalso; rename_i h9; first | exact absurd h9.1 (by assumption) | exact absurd h9.2 (by assumption) | exact absurd h9.2.1 (by assumption) | exact absurd h9.2.2 (by assumption) | exact absurd h9.2.2.1 (by assumption) | exact absurd h9.2.2.2 (by assumption) | exact h9 ⟨by assumption, by assumption⟩ | exact h9 ⟨by assumption, by assumption, by assumption⟩) | (exfalso; simp_all; done) | (exfalso; simp only [Int32.le_iff_toInt_le, Int32.lt_iff_toInt_lt, Int32.reduceToInt] at *; omega) | exact ⟨rfl, rfl⟩
  · skip
    refine g_if_eq 21 dX8_purse_4 (by decide) (fun _ => ?_) (fun h9 => absurd h9 (by decide))
    refine g_aload_n (i := 0) dX8_purse_21 rfl rfl ?_
    refine g_iconst (1) rfl dX8_purse_22 ?_
    refine g_callVf 1 0 gX8_purse_X8_finding rfl rfl rfl ⟨Nat.le_of_ble_eq_true rfl, Nat.le_of_ble_eq_true rfl⟩ ⟨Nat.le_of_ble_eq_true rfl, Nat.le_of_ble_eq_true rfl⟩ (by exact Nat.le_of_ble_eq_true rfl) (by decide +kernel) rfl (cO_main _ _ _ _) rfl dX8_purse_23 (K_finding _ D cy a _ _ _ (by unfold vp_in; decide)) rfl (fun vu_14 wu_14 hu_14 => ?_)
    obtain ⟨rfl, rfl⟩ := hu_14
    refine g_lret dX8_purse_26 ?_
    unfold cf_purse; (repeat' split) <;> first | contradiction | (with_reducible exact ⟨rfl, rfl⟩) | (exfalso; rename_i h9; first | exact absurd h9.1 (by assumption) | exact absurd h9.2 (by assumption) | exact absurd h9.2.1 (by assumption) | exact absurd h9.2.2 (by assumption) | exact absurd h9.2.2.1 (by assumption) | exact absurd h9.2.2.2 (by assumption) | exact h9 ⟨by assumption, by assumption⟩ | exact h9 ⟨by assumption, by assumption, by assumption⟩) | (exfalso; simp_all; done) | (exfalso; simp only [Int32.le_iff_toInt_le, Int32.lt_iff_toInt_lt, Int32.reduceToInt] at *; omega) | exact ⟨rfl, rfl⟩

def cf_has (T : MS) (h k : Int32) : Int64 × MS := if (0 ≤ h ∧ h ≤ 9) ∧ (k = -1 ∨ (0 ≤ k ∧ k ≤ 3)) then (if k = -1 then (chasT T h 4, T) else ((T.2.2.1 (110 + h.toNatClampNeg) k.toNatClampNeg).toInt64, T)) else cf_fd T 1
set_option maxHeartbeats 4000000 in
set_option maxRecDepth 100000 in
/-- has -/
theorem K_has (l : Launch) (D : va_G) (cy : Nat → ClassId) (a : Nat → Nat) (T : MS) (B : List BL) (h k : Int32) : Ct l D clx (tyx cy) yX8_has wsX8_has (rmC 3) 0 0 [.ref (a 200), .int h, .int k] (CW cy a T B) (fun r9 w9 => r9 = some (.long (cf_has T h k).1) ∧ w9 = CW cy a (cf_has T h k).2 B) := by
  refine g_start (cc := cX8_has) (maxL := 3) (ret := (some .long)) (by decide) rfl (Nat.le_of_ble_eq_true rfl) (fun v w1 h => by obtain ⟨rfl, -⟩ := h; exact rfl) (fun Γ hlΓ => ?_)
  subst hlΓ
  refine g_iload_n (i := 1) dX8_has_0 rfl rfl ?_
  refine g_callSf 1 gX8_has_X8_isHouse rfl rfl rfl ⟨Nat.le_of_ble_eq_true rfl, Nat.le_of_ble_eq_true rfl⟩ ⟨Nat.le_of_ble_eq_true rfl, Nat.le_of_ble_eq_true rfl⟩ (by exact Nat.le_of_ble_eq_true rfl) (by decide +kernel) rfl dX8_has_1 (K_isHouse _ D cy a _ _ _) rfl (fun vu_1 wu_1 hu_1 => ?_)
  rcases hu_1 with ⟨rfl, hu_1, rfl⟩ | ⟨rfl, hu_1, rfl⟩
  · skip
    refine g_if_eq 19 dX8_has_4 (by decide) (fun h9 => absurd h9 (by decide)) (fun _ => ?_)
    refine g_iload_n (i := 2) dX8_has_7 rfl rfl ?_
    refine g_iconst (-1) rfl dX8_has_8 ?_
    refine g_icmp_eq 25 dX8_has_9 (by decide) (fun c_3 => ?_) (fun c_3 => ?_)
    · skip
      subst c_3
      refine g_iload_n (i := 2) dX8_has_25 rfl rfl ?_
      refine g_iconst (-1) rfl dX8_has_26 ?_
      refine g_icmp_ne 41 dX8_has_27 (by decide) (fun h9 => absurd h9 (by decide)) (fun _ => ?_)
      refine g_aload_n (i := 0) dX8_has_30 rfl rfl ?_
      refine g_get 0 9 dX8_has_31 (List.mem_of_getElem? (i := 1) rfl) (fun w h => List.mem_cons_of_mem _ (List.mem_append_left _ (List.mem_append_right _ h))) (cO_main _ _ _ _) rfl (by decide) rfl ?_
      refine g_iload_n (i := 1) dX8_has_34 rfl rfl ?_
      refine g_callVf 1 29 gX8_has_X6_wealth rfl rfl rfl ⟨Nat.le_of_ble_eq_true rfl, Nat.le_of_ble_eq_true rfl⟩ ⟨Nat.le_of_ble_eq_true rfl, Nat.le_of_ble_eq_true rfl⟩ (by exact Nat.le_of_ble_eq_true rfl) (by decide +kernel) rfl (cO_purses _ _ _ _) rfl dX8_has_35 (K_wealth _ D cy a _ _ _ (by first | assumption | exact vpi10 (by assumption) | exact vp_in_nI (by assumption) (by decide))) rfl (fun vu_5 wu_5 hu_5 => ?_)
      obtain ⟨rfl, rfl⟩ := hu_5
      refine g_goto 51 dX8_has_38 (by decide) ?_
      refine g_lret dX8_has_51 ?_
      unfold cf_has; first | (rw [if_pos ⟨by assumption, Or.inl rfl⟩, if_pos rfl]; exact ⟨rfl, rfl⟩) | (rw [if_pos ⟨by assumption, Or.inr (by assumption)⟩, if_neg (by assumption)]; exact ⟨rfl, rfl⟩) | (rw [if_neg (by intro h9; exact absurd h9.1 (by assumption))]; exact ⟨rfl, rfl⟩) | (rw [if_neg (by intro h9; rcases h9.2 with h8 | h8 <;> contradiction)]; exact ⟨rfl, rfl⟩)
    · skip
      refine g_iload_n (i := 2) dX8_has_12 rfl rfl ?_
      refine g_callSf 1 gX8_has_X6_isKind rfl rfl rfl ⟨Nat.le_of_ble_eq_true rfl, Nat.le_of_ble_eq_true rfl⟩ ⟨Nat.le_of_ble_eq_true rfl, Nat.le_of_ble_eq_true rfl⟩ (by exact Nat.le_of_ble_eq_true rfl) (by decide +kernel) rfl dX8_has_13 (K_isKind _ D cy a _ _ _) rfl (fun vu_6 wu_6 hu_6 => ?_)
      rcases hu_6 with ⟨rfl, hu_6, rfl⟩ | ⟨rfl, hu_6, rfl⟩
      · skip
        refine g_if_ne 25 dX8_has_16 (by decide) (fun _ => ?_) (fun h9 => absurd h9 (by decide))
        refine g_iload_n (i := 2) dX8_has_25 rfl rfl ?_
        refine g_iconst (-1) rfl dX8_has_26 ?_
        refine g_icmp_ne 41 dX8_has_27 (by decide) (fun c_8 => ?_) (fun c_8 => ?_)
        · skip
          refine g_aload_n (i := 0) dX8_has_41 rfl rfl ?_
          refine g_get 0 9 dX8_has_42 (List.mem_of_getElem? (i := 1) rfl) (fun w h => List.mem_cons_of_mem _ (List.mem_append_left _ (List.mem_append_right _ h))) (cO_main _ _ _ _) rfl (by decide) rfl ?_
          refine g_iload_n (i := 1) dX8_has_45 rfl rfl ?_
          refine g_iload_n (i := 2) dX8_has_46 rfl rfl ?_
          refine g_callVf 2 29 gX8_has_X6_held rfl rfl rfl ⟨Nat.le_of_ble_eq_true rfl, Nat.le_of_ble_eq_true rfl⟩ ⟨Nat.le_of_ble_eq_true rfl, Nat.le_of_ble_eq_true rfl⟩ (by exact Nat.le_of_ble_eq_true rfl) (by decide +kernel) rfl (cO_purses _ _ _ _) rfl dX8_has_47 (K_held _ D cy a _ _ _ _ (by first | assumption | exact vpi10 (by assumption) | exact vp_in_nI (by assumption) (by decide)) (by first | assumption | exact vpi4 (by assumption))) rfl (fun vu_9 wu_9 hu_9 => ?_)
          obtain ⟨rfl, rfl⟩ := hu_9
          refine g_i2l dX8_has_50 ?_
          refine g_lret dX8_has_51 ?_
          unfold cf_has; first | (rw [if_pos ⟨by assumption, Or.inl rfl⟩, if_pos rfl]; exact ⟨rfl, rfl⟩) | (rw [if_pos ⟨by assumption, Or.inr (by assumption)⟩, if_neg (by assumption)]; exact ⟨rfl, rfl⟩) | (rw [if_neg (by intro h9; exact absurd h9.1 (by assumption))]; exact ⟨rfl, rfl⟩) | (rw [if_neg (by intro h9; rcases h9.2 with h8 | h8 <;> contradiction)]; exact ⟨rfl, rfl⟩)
        · skip
          contradiction
      · skip
        refine g_if_ne 25 dX8_has_16 (by decide) (fun h9 => absurd h9 (by decide)) (fun _ => ?_)
        refine g_aload_n (i := 0) dX8_has_19 rfl rfl ?_
        refine g_iconst (1) rfl dX8_has_20 ?_
        refine g_callVf 1 0 gX8_has_X8_finding rfl rfl rfl ⟨Nat.le_of_ble_eq_true rfl, Nat.le_of_ble_eq_true rfl⟩ ⟨Nat.le_of_ble_eq_true rfl, Nat.le_of_ble_eq_true rfl⟩ (by exact Nat.le_of_ble_eq_true rfl) (by decide +kernel) rfl (cO_main _ _ _ _) rfl dX8_has_21 (K_finding _ D cy a _ _ _ (by unfold vp_in; decide)) rfl (fun vu_11 wu_11 hu_11 => ?_)
        obtain ⟨rfl, rfl⟩ := hu_11
        refine g_lret dX8_has_24 ?_
        unfold cf_has; first | (rw [if_pos ⟨by assumption, Or.inl rfl⟩, if_pos rfl]; exact ⟨rfl, rfl⟩) | (rw [if_pos ⟨by assumption, Or.inr (by assumption)⟩, if_neg (by assumption)]; exact ⟨rfl, rfl⟩) | (rw [if_neg (by intro h9; exact absurd h9.1 (by assumption))]; exact ⟨rfl, rfl⟩) | (rw [if_neg (by intro h9; rcases h9.2 with h8 | h8 <;> contradiction)]; exact ⟨rfl, rfl⟩)
  · skip
    refine g_if_eq 19 dX8_has_4 (by decide) (fun _ => ?_) (fun h9 => absurd h9 (by decide))
    refine g_aload_n (i := 0) dX8_has_19 rfl rfl ?_
    refine g_iconst (1) rfl dX8_has_20 ?_
    refine g_callVf 1 0 gX8_has_X8_finding rfl rfl rfl ⟨Nat.le_of_ble_eq_true rfl, Nat.le_of_ble_eq_true rfl⟩ ⟨Nat.le_of_ble_eq_true rfl, Nat.le_of_ble_eq_true rfl⟩ (by exact Nat.le_of_ble_eq_true rfl) (by decide +kernel) rfl (cO_main _ _ _ _) rfl dX8_has_21 (K_finding _ D cy a _ _ _ (by unfold vp_in; decide)) rfl (fun vu_13 wu_13 hu_13 => ?_)
    obtain ⟨rfl, rfl⟩ := hu_13
    refine g_lret dX8_has_24 ?_
    unfold cf_has; first | (rw [if_pos ⟨by assumption, Or.inl rfl⟩, if_pos rfl]; exact ⟨rfl, rfl⟩) | (rw [if_pos ⟨by assumption, Or.inr (by assumption)⟩, if_neg (by assumption)]; exact ⟨rfl, rfl⟩) | (rw [if_neg (by intro h9; exact absurd h9.1 (by assumption))]; exact ⟨rfl, rfl⟩) | (rw [if_neg (by intro h9; rcases h9.2 with h8 | h8 <;> contradiction)]; exact ⟨rfl, rfl⟩)

def cf_vote (T : MS) (h t v : Int32) : Int64 × MS := if (0 ≤ h ∧ h ≤ 9) ∧ (0 ≤ t ∧ t ≤ 4) ∧ (¬ v = 0 → (5000 ≤ v ∧ v ≤ 20000)) then ((T.2.2.1 (120 + t.toNatClampNeg) h.toNatClampNeg).toInt64, sA T (120 + t.toNatClampNeg) h.toNatClampNeg v) else cf_fd T 1
set_option maxHeartbeats 4000000 in
set_option maxRecDepth 100000 in
/-- vote -/
theorem K_vote (l : Launch) (D : va_G) (cy : Nat → ClassId) (a : Nat → Nat) (T : MS) (B : List BL) (h t v : Int32) : Ct l D clx (tyx cy) yX8_vote wsX8_vote (rmC 3) 0 0 [.ref (a 200), .int h, .int t, .int v] (CW cy a T B) (fun r9 w9 => r9 = some (.long (cf_vote T h t v).1) ∧ w9 = CW cy a (cf_vote T h t v).2 B) := by
  refine g_start (cc := cX8_vote) (maxL := 4) (ret := (some .long)) (by decide) rfl (Nat.le_of_ble_eq_true rfl) (fun v w1 h => by obtain ⟨rfl, -⟩ := h; exact rfl) (fun Γ hlΓ => ?_)
  subst hlΓ
  refine g_iload_n (i := 1) dX8_vote_0 rfl rfl ?_
  refine g_callSf 1 gX8_vote_X8_isHouse rfl rfl rfl ⟨Nat.le_of_ble_eq_true rfl, Nat.le_of_ble_eq_true rfl⟩ ⟨Nat.le_of_ble_eq_true rfl, Nat.le_of_ble_eq_true rfl⟩ (by exact Nat.le_of_ble_eq_true rfl) (by decide +kernel) rfl dX8_vote_1 (K_isHouse _ D cy a _ _ _) rfl (fun vu_1 wu_1 hu_1 => ?_)
  rcases hu_1 with ⟨rfl, hu_1, rfl⟩ | ⟨rfl, hu_1, rfl⟩
  · skip
    refine g_if_eq 21 dX8_vote_4 (by decide) (fun h9 => absurd h9 (by decide)) (fun _ => ?_)
    refine g_iload_n (i := 2) dX8_vote_7 rfl rfl ?_
    refine g_callSf 1 gX8_vote_X8_isTown rfl rfl rfl ⟨Nat.le_of_ble_eq_true rfl, Nat.le_of_ble_eq_true rfl⟩ ⟨Nat.le_of_ble_eq_true rfl, Nat.le_of_ble_eq_true rfl⟩ (by exact Nat.le_of_ble_eq_true rfl) (by decide +kernel) rfl dX8_vote_8 (K_isTown _ D cy a _ _ _) rfl (fun vu_3 wu_3 hu_3 => ?_)
    rcases hu_3 with ⟨rfl, hu_3, rfl⟩ | ⟨rfl, hu_3, rfl⟩
    · skip
      refine g_if_eq 21 dX8_vote_11 (by decide) (fun h9 => absurd h9 (by decide)) (fun _ => ?_)
      refine g_iload_n (i := 3) dX8_vote_14 rfl rfl ?_
      refine g_callSf 1 gX8_vote_X7_isVote rfl rfl rfl ⟨Nat.le_of_ble_eq_true rfl, Nat.le_of_ble_eq_true rfl⟩ ⟨Nat.le_of_ble_eq_true rfl, Nat.le_of_ble_eq_true rfl⟩ (by exact Nat.le_of_ble_eq_true rfl) (by decide +kernel) rfl dX8_vote_15 (K_isVote _ D cy a _ _ _) rfl (fun vu_5 wu_5 hu_5 => ?_)
      rcases hu_5 with ⟨rfl, hu_5, rfl⟩ | ⟨rfl, hu_5, rfl⟩
      · skip
        refine g_if_ne 27 dX8_vote_18 (by decide) (fun _ => ?_) (fun h9 => absurd h9 (by decide))
        refine g_aload_n (i := 0) dX8_vote_27 rfl rfl ?_
        refine g_get 0 10 dX8_vote_28 (List.mem_of_getElem? (i := 1) rfl) (fun w h => List.mem_cons_of_mem _ (List.mem_append_left _ (List.mem_append_right _ h))) (cO_main _ _ _ _) rfl (by decide) rfl ?_
        refine g_iload_n (i := 1) dX8_vote_31 rfl rfl ?_
        refine g_iload_n (i := 2) dX8_vote_32 rfl rfl ?_
        refine g_iload_n (i := 3) dX8_vote_33 rfl rfl ?_
        refine g_callVf 3 42 gX8_vote_X7_changeVote rfl rfl rfl ⟨Nat.le_of_ble_eq_true rfl, Nat.le_of_ble_eq_true rfl⟩ ⟨Nat.le_of_ble_eq_true rfl, Nat.le_of_ble_eq_true rfl⟩ (by exact Nat.le_of_ble_eq_true rfl) (by decide +kernel) rfl (cO_rates _ _ _ _) rfl dX8_vote_34 (K_changeVote _ D cy a _ _ _ _ _ (by first | assumption | exact vpi10 (by assumption) | exact vp_in_nI (by assumption) (by decide)) (by first | assumption | exact vpi5 (by assumption))) rfl (fun vu_7 wu_7 hu_7 => ?_)
        obtain ⟨rfl, rfl⟩ := hu_7
        refine g_i2l dX8_vote_37 ?_
        refine g_lret dX8_vote_38 ?_
        unfold cf_vote; (repeat' split) <;> first | contradiction | (with_reducible exact ⟨rfl, rfl⟩) | (exfalso; rename_i h9; first | exact absurd h9.1 (by assumption) | exact absurd h9.2.1 (by assumption) | exact absurd h9.2.2 (by assumption) | exact h9 ⟨by assumption, by assumption, by assumption⟩)
      · skip
        refine g_if_ne 27 dX8_vote_18 (by decide) (fun h9 => absurd h9 (by decide)) (fun _ => ?_)
        refine g_aload_n (i := 0) dX8_vote_21 rfl rfl ?_
        refine g_iconst (1) rfl dX8_vote_22 ?_
        refine g_callVf 1 0 gX8_vote_X8_finding rfl rfl rfl ⟨Nat.le_of_ble_eq_true rfl, Nat.le_of_ble_eq_true rfl⟩ ⟨Nat.le_of_ble_eq_true rfl, Nat.le_of_ble_eq_true rfl⟩ (by exact Nat.le_of_ble_eq_true rfl) (by decide +kernel) rfl (cO_main _ _ _ _) rfl dX8_vote_23 (K_finding _ D cy a _ _ _ (by unfold vp_in; decide)) rfl (fun vu_9 wu_9 hu_9 => ?_)
        obtain ⟨rfl, rfl⟩ := hu_9
        refine g_lret dX8_vote_26 ?_
        unfold cf_vote; (repeat' split) <;> first | contradiction | (with_reducible exact ⟨rfl, rfl⟩) | (exfalso; rename_i h9; first | exact absurd h9.1 (by assumption) | exact absurd h9.2.1 (by assumption) | exact absurd h9.2.2 (by assumption) | exact h9 ⟨by assumption, by assumption, by assumption⟩)
    · skip
      refine g_if_eq 21 dX8_vote_11 (by decide) (fun _ => ?_) (fun h9 => absurd h9 (by decide))
      refine g_aload_n (i := 0) dX8_vote_21 rfl rfl ?_
      refine g_iconst (1) rfl dX8_vote_22 ?_
      refine g_callVf 1 0 gX8_vote_X8_finding rfl rfl rfl ⟨Nat.le_of_ble_eq_true rfl, Nat.le_of_ble_eq_true rfl⟩ ⟨Nat.le_of_ble_eq_true rfl, Nat.le_of_ble_eq_true rfl⟩ (by exact Nat.le_of_ble_eq_true rfl) (by decide +kernel) rfl (cO_main _ _ _ _) rfl dX8_vote_23 (K_finding _ D cy a _ _ _ (by unfold vp_in; decide)) rfl (fun vu_11 wu_11 hu_11 => ?_)
      obtain ⟨rfl, rfl⟩ := hu_11
      refine g_lret dX8_vote_26 ?_
      unfold cf_vote; (repeat' split) <;> first | contradiction | (with_reducible exact ⟨rfl, rfl⟩) | (exfalso; rename_i h9; first | exact absurd h9.1 (by assumption) | exact absurd h9.2.1 (by assumption) | exact absurd h9.2.2 (by assumption) | exact h9 ⟨by assumption, by assumption, by assumption⟩)
  · skip
    refine g_if_eq 21 dX8_vote_4 (by decide) (fun _ => ?_) (fun h9 => absurd h9 (by decide))
    refine g_aload_n (i := 0) dX8_vote_21 rfl rfl ?_
    refine g_iconst (1) rfl dX8_vote_22 ?_
    refine g_callVf 1 0 gX8_vote_X8_finding rfl rfl rfl ⟨Nat.le_of_ble_eq_true rfl, Nat.le_of_ble_eq_true rfl⟩ ⟨Nat.le_of_ble_eq_true rfl, Nat.le_of_ble_eq_true rfl⟩ (by exact Nat.le_of_ble_eq_true rfl) (by decide +kernel) rfl (cO_main _ _ _ _) rfl dX8_vote_23 (K_finding _ D cy a _ _ _ (by unfold vp_in; decide)) rfl (fun vu_13 wu_13 hu_13 => ?_)
    obtain ⟨rfl, rfl⟩ := hu_13
    refine g_lret dX8_vote_26 ?_
    unfold cf_vote; (repeat' split) <;> first | contradiction | (with_reducible exact ⟨rfl, rfl⟩) | (exfalso; rename_i h9; first | exact absurd h9.1 (by assumption) | exact absurd h9.2.1 (by assumption) | exact absurd h9.2.2 (by assumption) | exact h9 ⟨by assumption, by assumption, by assumption⟩)

def cf_offer (T : MS) (f t v : Int32) : Int64 × MS := if (0 ≤ f ∧ f ≤ 4) ∧ (0 ≤ t ∧ t ≤ 4) ∧ ¬ f = t ∧ (0 ≤ v ∧ v ≤ 20000) then ((T.2.2.1 (130 + f.toNatClampNeg) t.toNatClampNeg).toInt64, sA T (130 + f.toNatClampNeg) t.toNatClampNeg v) else cf_fd T 1
set_option maxHeartbeats 4000000 in
set_option maxRecDepth 100000 in
/-- offer -/
theorem K_offer (l : Launch) (D : va_G) (cy : Nat → ClassId) (a : Nat → Nat) (T : MS) (B : List BL) (f t v : Int32) : Ct l D clx (tyx cy) yX8_offer wsX8_offer (rmC 3) 0 0 [.ref (a 200), .int f, .int t, .int v] (CW cy a T B) (fun r9 w9 => r9 = some (.long (cf_offer T f t v).1) ∧ w9 = CW cy a (cf_offer T f t v).2 B) := by
  refine g_start (cc := cX8_offer) (maxL := 4) (ret := (some .long)) (by decide) rfl (Nat.le_of_ble_eq_true rfl) (fun v w1 h => by obtain ⟨rfl, -⟩ := h; exact rfl) (fun Γ hlΓ => ?_)
  subst hlΓ
  refine g_iload_n (i := 1) dX8_offer_0 rfl rfl ?_
  refine g_callSf 1 gX8_offer_X8_isTown rfl rfl rfl ⟨Nat.le_of_ble_eq_true rfl, Nat.le_of_ble_eq_true rfl⟩ ⟨Nat.le_of_ble_eq_true rfl, Nat.le_of_ble_eq_true rfl⟩ (by exact Nat.le_of_ble_eq_true rfl) (by decide +kernel) rfl dX8_offer_1 (K_isTown _ D cy a _ _ _) rfl (fun vu_1 wu_1 hu_1 => ?_)
  rcases hu_1 with ⟨rfl, hu_1, rfl⟩ | ⟨rfl, hu_1, rfl⟩
  · skip
    refine g_if_eq 26 dX8_offer_4 (by decide) (fun h9 => absurd h9 (by decide)) (fun _ => ?_)
    refine g_iload_n (i := 2) dX8_offer_7 rfl rfl ?_
    refine g_callSf 1 gX8_offer_X8_isTown rfl rfl rfl ⟨Nat.le_of_ble_eq_true rfl, Nat.le_of_ble_eq_true rfl⟩ ⟨Nat.le_of_ble_eq_true rfl, Nat.le_of_ble_eq_true rfl⟩ (by exact Nat.le_of_ble_eq_true rfl) (by decide +kernel) rfl dX8_offer_8 (K_isTown _ D cy a _ _ _) rfl (fun vu_3 wu_3 hu_3 => ?_)
    rcases hu_3 with ⟨rfl, hu_3, rfl⟩ | ⟨rfl, hu_3, rfl⟩
    · skip
      refine g_if_eq 26 dX8_offer_11 (by decide) (fun h9 => absurd h9 (by decide)) (fun _ => ?_)
      refine g_iload_n (i := 1) dX8_offer_14 rfl rfl ?_
      refine g_iload_n (i := 2) dX8_offer_15 rfl rfl ?_
      refine g_icmp_eq 26 dX8_offer_16 (by decide) (fun c_5 => ?_) (fun c_5 => ?_)
      · skip
        refine g_aload_n (i := 0) dX8_offer_26 rfl rfl ?_
        refine g_iconst (1) rfl dX8_offer_27 ?_
        refine g_callVf 1 0 gX8_offer_X8_finding rfl rfl rfl ⟨Nat.le_of_ble_eq_true rfl, Nat.le_of_ble_eq_true rfl⟩ ⟨Nat.le_of_ble_eq_true rfl, Nat.le_of_ble_eq_true rfl⟩ (by exact Nat.le_of_ble_eq_true rfl) (by decide +kernel) rfl (cO_main _ _ _ _) rfl dX8_offer_28 (K_finding _ D cy a _ _ _ (by unfold vp_in; decide)) rfl (fun vu_6 wu_6 hu_6 => ?_)
        obtain ⟨rfl, rfl⟩ := hu_6
        refine g_lret dX8_offer_31 ?_
        unfold cf_offer; (repeat' split) <;> first | contradiction | (with_reducible exact ⟨rfl, rfl⟩) | (exfalso; rename_i h9; first | exact absurd h9.1 (by assumption) | exact absurd h9.2 (by assumption) | exact absurd h9.2.1 (by assumption) | exact absurd h9.2.2 (by assumption) | exact absurd h9.2.2.1 (by assumption) | exact absurd h9.2.2.2 (by assumption) | exact h9 ⟨by assumption, by assumption⟩ | exact h9 ⟨by assumption, by assumption, by assumption⟩) | (exfalso; simp_all; done) | (exfalso; simp only [Int32.le_iff_toInt_le, Int32.lt_iff_toInt_lt, Int32.reduceToInt] at *; omega) | exact ⟨rfl, rfl⟩
      · skip
        refine g_iload_n (i := 3) dX8_offer_19 rfl rfl ?_
        refine g_callSf 1 gX8_offer_X7_isOffer rfl rfl rfl ⟨Nat.le_of_ble_eq_true rfl, Nat.le_of_ble_eq_true rfl⟩ ⟨Nat.le_of_ble_eq_true rfl, Nat.le_of_ble_eq_true rfl⟩ (by exact Nat.le_of_ble_eq_true rfl) (by decide +kernel) rfl dX8_offer_20 (K_isOffer _ D cy a _ _ _) rfl (fun vu_7 wu_7 hu_7 => ?_)
        rcases hu_7 with ⟨rfl, hu_7, rfl⟩ | ⟨rfl, hu_7, rfl⟩
        · skip
          refine g_if_ne 32 dX8_offer_23 (by decide) (fun _ => ?_) (fun h9 => absurd h9 (by decide))
          refine g_aload_n (i := 0) dX8_offer_32 rfl rfl ?_
          refine g_get 0 10 dX8_offer_33 (List.mem_of_getElem? (i := 1) rfl) (fun w h => List.mem_cons_of_mem _ (List.mem_append_left _ (List.mem_append_right _ h))) (cO_main _ _ _ _) rfl (by decide) rfl ?_
          refine g_iload_n (i := 1) dX8_offer_36 rfl rfl ?_
          refine g_iload_n (i := 2) dX8_offer_37 rfl rfl ?_
          refine g_iload_n (i := 3) dX8_offer_38 rfl rfl ?_
          refine g_callVf 3 42 gX8_offer_X7_changeOffer rfl rfl rfl ⟨Nat.le_of_ble_eq_true rfl, Nat.le_of_ble_eq_true rfl⟩ ⟨Nat.le_of_ble_eq_true rfl, Nat.le_of_ble_eq_true rfl⟩ (by exact Nat.le_of_ble_eq_true rfl) (by decide +kernel) rfl (cO_rates _ _ _ _) rfl dX8_offer_39 (K_changeOffer _ D cy a _ _ _ _ _ (by first | assumption | exact vpi5 (by assumption)) (by first | assumption | exact vpi5 (by assumption))) rfl (fun vu_9 wu_9 hu_9 => ?_)
          obtain ⟨rfl, rfl⟩ := hu_9
          refine g_i2l dX8_offer_42 ?_
          refine g_lret dX8_offer_43 ?_
          unfold cf_offer; (repeat' split) <;> first | contradiction | (with_reducible exact ⟨rfl, rfl⟩) | (exfalso; rename_i h9; first | exact absurd h9.1 (by assumption) | exact absurd h9.2 (by assumption) | exact absurd h9.2.1 (by assumption) | exact absurd h9.2.2 (by assumption) | exact absurd h9.2.2.1 (by assumption) | exact absurd h9.2.2.2 (by assumption) | exact h9 ⟨by assumption, by assumption⟩ | exact h9 ⟨by assumption, by assumption, by assumption⟩) | (exfalso; simp_all; done) | (exfalso; simp only [Int32.le_iff_toInt_le, Int32.lt_iff_toInt_lt, Int32.reduceToInt] at *; omega) | exact ⟨rfl, rfl⟩
        · skip
          refine g_if_ne 32 dX8_offer_23 (by decide) (fun h9 => absurd h9 (by decide)) (fun _ => ?_)
          refine g_aload_n (i := 0) dX8_offer_26 rfl rfl ?_
          refine g_iconst (1) rfl dX8_offer_27 ?_
          refine g_callVf 1 0 gX8_offer_X8_finding rfl rfl rfl ⟨Nat.le_of_ble_eq_true rfl, Nat.le_of_ble_eq_true rfl⟩ ⟨Nat.le_of_ble_eq_true rfl, Nat.le_of_ble_eq_true rfl⟩ (by exact Nat.le_of_ble_eq_true rfl) (by decide +kernel) rfl (cO_main _ _ _ _) rfl dX8_offer_28 (K_finding _ D cy a _ _ _ (by unfold vp_in; decide)) rfl (fun vu_11 wu_11 hu_11 => ?_)
          obtain ⟨rfl, rfl⟩ := hu_11
          refine g_lret dX8_offer_31 ?_
          unfold cf_offer; (repeat' split) <;> first | contradiction | (with_reducible exact ⟨rfl, rfl⟩) | (exfalso; rename_i h9; first | exact absurd h9.1 (by assumption) | exact absurd h9.2 (by assumption) | exact absurd h9.2.1 (by assumption) | exact absurd h9.2.2 (by assumption) | exact absurd h9.2.2.1 (by assumption) | exact absurd h9.2.2.2 (by assumption) | exact h9 ⟨by assumption, by assumption⟩ | exact h9 ⟨by assumption, by assumption, by assumption⟩) | (exfalso; simp_all; done) | (exfalso; simp only [Int32.le_iff_toInt_le, Int32.lt_iff_toInt_lt, Int32.reduceToInt] at *; omega) | exact ⟨rfl, rfl⟩
    · skip
      refine g_if_eq 26 dX8_offer_11 (by decide) (fun _ => ?_) (fun h9 => absurd h9 (by decide))
      refine g_aload_n (i := 0) dX8_offer_26 rfl rfl ?_
      refine g_iconst (1) rfl dX8_offer_27 ?_
      refine g_callVf 1 0 gX8_offer_X8_finding rfl rfl rfl ⟨Nat.le_of_ble_eq_true rfl, Nat.le_of_ble_eq_true rfl⟩ ⟨Nat.le_of_ble_eq_true rfl, Nat.le_of_ble_eq_true rfl⟩ (by exact Nat.le_of_ble_eq_true rfl) (by decide +kernel) rfl (cO_main _ _ _ _) rfl dX8_offer_28 (K_finding _ D cy a _ _ _ (by unfold vp_in; decide)) rfl (fun vu_13 wu_13 hu_13 => ?_)
      obtain ⟨rfl, rfl⟩ := hu_13
      refine g_lret dX8_offer_31 ?_
      unfold cf_offer; (repeat' split) <;> first | contradiction | (with_reducible exact ⟨rfl, rfl⟩) | (exfalso; rename_i h9; first | exact absurd h9.1 (by assumption) | exact absurd h9.2 (by assumption) | exact absurd h9.2.1 (by assumption) | exact absurd h9.2.2 (by assumption) | exact absurd h9.2.2.1 (by assumption) | exact absurd h9.2.2.2 (by assumption) | exact h9 ⟨by assumption, by assumption⟩ | exact h9 ⟨by assumption, by assumption, by assumption⟩) | (exfalso; simp_all; done) | (exfalso; simp only [Int32.le_iff_toInt_le, Int32.lt_iff_toInt_lt, Int32.reduceToInt] at *; omega) | exact ⟨rfl, rfl⟩
  · skip
    refine g_if_eq 26 dX8_offer_4 (by decide) (fun _ => ?_) (fun h9 => absurd h9 (by decide))
    refine g_aload_n (i := 0) dX8_offer_26 rfl rfl ?_
    refine g_iconst (1) rfl dX8_offer_27 ?_
    refine g_callVf 1 0 gX8_offer_X8_finding rfl rfl rfl ⟨Nat.le_of_ble_eq_true rfl, Nat.le_of_ble_eq_true rfl⟩ ⟨Nat.le_of_ble_eq_true rfl, Nat.le_of_ble_eq_true rfl⟩ (by exact Nat.le_of_ble_eq_true rfl) (by decide +kernel) rfl (cO_main _ _ _ _) rfl dX8_offer_28 (K_finding _ D cy a _ _ _ (by unfold vp_in; decide)) rfl (fun vu_15 wu_15 hu_15 => ?_)
    obtain ⟨rfl, rfl⟩ := hu_15
    refine g_lret dX8_offer_31 ?_
    unfold cf_offer; (repeat' split) <;> first | contradiction | (with_reducible exact ⟨rfl, rfl⟩) | (exfalso; rename_i h9; first | exact absurd h9.1 (by assumption) | exact absurd h9.2 (by assumption) | exact absurd h9.2.1 (by assumption) | exact absurd h9.2.2 (by assumption) | exact absurd h9.2.2.1 (by assumption) | exact absurd h9.2.2.2 (by assumption) | exact h9 ⟨by assumption, by assumption⟩ | exact h9 ⟨by assumption, by assumption, by assumption⟩) | (exfalso; simp_all; done) | (exfalso; simp only [Int32.le_iff_toInt_le, Int32.lt_iff_toInt_lt, Int32.reduceToInt] at *; omega) | exact ⟨rfl, rfl⟩

def cf_told (T : MS) (v : Int32) : MS := sI (sA T 5 (T.1 17).toNatClampNeg v) 17 ((sA T 5 (T.1 17).toNatClampNeg v).1 17 + 1)
def cf_tell (T : MS) (v : Int32) : Int64 × MS := if T.1 17 < 30 then (((cf_told T v).1 17).toInt64, cf_told T v) else cf_fd T 4
theorem ctl {T : MS} (h : ciT T) (h2 : T.1 17 < 30) : vp_in (T.1 17) 30 := by
  obtain ⟨n, hn, e⟩ := h
  rw [e] at h2 ⊢
  rw [Int32.lt_iff_toInt_lt, nI_toInt (by omega)] at h2
  have : (30 : Int32).toInt = 30 := by decide
  exact vp_in_nI (by omega) (by decide)
set_option maxHeartbeats 4000000 in
set_option maxRecDepth 100000 in
/-- tell -/
theorem K_tell (l : Launch) (D : va_G) (cy : Nat → ClassId) (a : Nat → Nat) (T : MS) (B : List BL) (hT : ciT T) (v : Int32) : Ct l D clx (tyx cy) yX8_tell wsX8_tell (rmC 3) 0 0 [.ref (a 200), .int v] (CW cy a T B) (fun r9 w9 => r9 = some (.long (cf_tell T v).1) ∧ w9 = CW cy a (cf_tell T v).2 B) := by
  refine g_start (cc := cX8_tell) (maxL := 2) (ret := (some .long)) (by decide) rfl (Nat.le_of_ble_eq_true rfl) (fun v w1 h => by obtain ⟨rfl, -⟩ := h; exact rfl) (fun Γ hlΓ => ?_)
  subst hlΓ
  refine g_aload_n (i := 0) dX8_tell_0 rfl rfl ?_
  refine g_get 0 17 dX8_tell_1 (List.mem_of_getElem? (i := 1) rfl) (fun w h => List.mem_cons_of_mem _ (List.mem_append_right _ h)) (cO_main _ _ _ _) rfl (by decide) rfl ?_
  refine g_bipush (30) rfl dX8_tell_4 ?_
  refine g_icmp_lt 15 dX8_tell_6 (by decide) (fun c_1 => ?_) (fun c_1 => ?_)
  · skip
    refine g_aload_n (i := 0) dX8_tell_15 rfl rfl ?_
    refine g_get 0 5 dX8_tell_16 (List.mem_of_getElem? (i := 2) rfl) (fun w h => List.mem_cons_of_mem _ (List.mem_append_right _ h)) (cO_main _ _ _ _) rfl (by decide) rfl ?_
    refine g_aload_n (i := 0) dX8_tell_19 rfl rfl ?_
    refine g_get 0 17 dX8_tell_20 (List.mem_of_getElem? (i := 1) rfl) (fun w h => List.mem_cons_of_mem _ (List.mem_append_right _ h)) (cO_main _ _ _ _) rfl (by decide) rfl ?_
    refine g_iload_n (i := 1) dX8_tell_23 rfl rfl ?_
    refine c_ast_5 dX8_tell_24 (ctl hT (by assumption)) ?_
    refine g_aload_n (i := 0) dX8_tell_25 rfl rfl ?_
    refine g_dup rfl dX8_tell_26 ?_
    refine g_get 0 17 dX8_tell_27 (List.mem_of_getElem? (i := 1) rfl) (fun w h => List.mem_cons_of_mem _ (List.mem_append_right _ h)) (cO_main _ _ _ _) rfl (by decide) rfl ?_
    refine g_iconst (1) rfl dX8_tell_30 ?_
    refine g_iadd dX8_tell_31 ?_
    refine g_put 0 17 _ tyX8 tyX8_ok nmX8 dX8_tell_32 (List.mem_of_getElem? (i := 1) rfl) (fun w h => List.mem_cons_of_mem _ (List.mem_append_right _ h)) (cO_main _ _ _ _) rfl (by decide) rfl (tyX8_ok 17 (by decide)) rfl rfl (Nat.le_of_ble_eq_true rfl) (cwI_17 _ _ _ _ _) ?_
    refine g_aload_n (i := 0) dX8_tell_35 rfl rfl ?_
    refine g_get 0 17 dX8_tell_36 (List.mem_of_getElem? (i := 1) rfl) (fun w h => List.mem_cons_of_mem _ (List.mem_append_right _ h)) (cO_main _ _ _ _) rfl (by decide) rfl ?_
    refine g_i2l dX8_tell_39 ?_
    refine g_lret dX8_tell_40 ?_
    unfold cf_tell; (repeat' split) <;> first | contradiction | (with_reducible exact ⟨rfl, rfl⟩) | (exfalso; rename_i h9; first | exact absurd h9.1 (by assumption) | exact absurd h9.2 (by assumption) | exact absurd h9.2.1 (by assumption) | exact absurd h9.2.2 (by assumption) | exact absurd h9.2.2.1 (by assumption) | exact absurd h9.2.2.2 (by assumption) | exact h9 ⟨by assumption, by assumption⟩ | exact h9 ⟨by assumption, by assumption, by assumption⟩) | (exfalso; simp_all; done) | (exfalso; simp only [Int32.le_iff_toInt_le, Int32.lt_iff_toInt_lt, Int32.reduceToInt] at *; omega) | exact ⟨rfl, rfl⟩
  · skip
    refine g_aload_n (i := 0) dX8_tell_9 rfl rfl ?_
    refine g_iconst (4) rfl dX8_tell_10 ?_
    refine g_callVf 1 0 gX8_tell_X8_finding rfl rfl rfl ⟨Nat.le_of_ble_eq_true rfl, Nat.le_of_ble_eq_true rfl⟩ ⟨Nat.le_of_ble_eq_true rfl, Nat.le_of_ble_eq_true rfl⟩ (by exact Nat.le_of_ble_eq_true rfl) (by decide +kernel) rfl (cO_main _ _ _ _) rfl dX8_tell_11 (K_finding _ D cy a _ _ _ (by unfold vp_in; decide)) rfl (fun vu_2 wu_2 hu_2 => ?_)
    obtain ⟨rfl, rfl⟩ := hu_2
    refine g_lret dX8_tell_14 ?_
    unfold cf_tell; (repeat' split) <;> first | contradiction | (with_reducible exact ⟨rfl, rfl⟩) | (exfalso; rename_i h9; first | exact absurd h9.1 (by assumption) | exact absurd h9.2 (by assumption) | exact absurd h9.2.1 (by assumption) | exact absurd h9.2.2 (by assumption) | exact absurd h9.2.2.1 (by assumption) | exact absurd h9.2.2.2 (by assumption) | exact h9 ⟨by assumption, by assumption⟩ | exact h9 ⟨by assumption, by assumption, by assumption⟩) | (exfalso; simp_all; done) | (exfalso; simp only [Int32.le_iff_toInt_le, Int32.lt_iff_toInt_lt, Int32.reduceToInt] at *; omega) | exact ⟨rfl, rfl⟩

def cf_count (T : MS) (x : Int32) : Int64 × MS := if x = 0 then ((T.1 14).toInt64, T) else if x = 1 then ((T.1 16).toInt64, T) else if x = 2 then ((T.1 70).toInt64, T) else if x = 3 then (ctot T 100, T) else if x = 4 then ((T.1 17).toInt64, T) else if x = 5 then ((T.1 20).toInt64, T) else cf_fd T 1
set_option maxHeartbeats 4000000 in
set_option maxRecDepth 100000 in
/-- count -/
theorem K_count (l : Launch) (D : va_G) (cy : Nat → ClassId) (a : Nat → Nat) (T : MS) (B : List BL) (x : Int32) : Ct l D clx (tyx cy) yX8_count wsX8_count (rmC 3) 0 0 [.ref (a 200), .int x] (CW cy a T B) (fun r9 w9 => r9 = some (.long (cf_count T x).1) ∧ w9 = CW cy a (cf_count T x).2 B) := by
  refine g_start (cc := cX8_count) (maxL := 2) (ret := (some .long)) (by decide) rfl (Nat.le_of_ble_eq_true rfl) (fun v w1 h => by obtain ⟨rfl, -⟩ := h; exact rfl) (fun Γ hlΓ => ?_)
  subst hlΓ
  refine g_iload_n (i := 1) dX8_count_0 rfl rfl ?_
  rcases tsw6 x with rfl | rfl | rfl | rfl | rfl | rfl | hx
  · skip
    refine g_tabIn 40 dX8_count_1 (by decide) (by decide) rfl (by decide) ?_
    refine g_aload_n (i := 0) dX8_count_40 rfl rfl ?_
    refine g_get 0 14 dX8_count_41 (List.mem_of_getElem? (i := 1) rfl) (fun w h => List.mem_cons_of_mem _ (List.mem_append_left _ (List.mem_append_left _ (List.mem_append_left _ (List.mem_append_right _ h))))) (cO_main _ _ _ _) rfl (by decide) rfl ?_
    refine g_i2l dX8_count_44 ?_
    refine g_lret dX8_count_45 ?_
    unfold cf_count; (repeat' split) <;> first | contradiction | (with_reducible exact ⟨rfl, rfl⟩) | (exfalso; subst_vars; revert hx; decide) | (exfalso; simp_all; done) | exact ⟨rfl, rfl⟩
  · skip
    refine g_tabIn 46 dX8_count_1 (by decide) (by decide) rfl (by decide) ?_
    refine g_aload_n (i := 0) dX8_count_46 rfl rfl ?_
    refine g_get 0 16 dX8_count_47 (List.mem_of_getElem? (i := 2) rfl) (fun w h => List.mem_cons_of_mem _ (List.mem_append_left _ (List.mem_append_left _ (List.mem_append_left _ (List.mem_append_right _ h))))) (cO_main _ _ _ _) rfl (by decide) rfl ?_
    refine g_i2l dX8_count_50 ?_
    refine g_lret dX8_count_51 ?_
    unfold cf_count; (repeat' split) <;> first | contradiction | (with_reducible exact ⟨rfl, rfl⟩) | (exfalso; subst_vars; revert hx; decide) | (exfalso; simp_all; done) | exact ⟨rfl, rfl⟩
  · skip
    refine g_tabIn 52 dX8_count_1 (by decide) (by decide) rfl (by decide) ?_
    refine g_aload_n (i := 0) dX8_count_52 rfl rfl ?_
    refine g_get 0 12 dX8_count_53 (List.mem_of_getElem? (i := 3) rfl) (fun w h => List.mem_cons_of_mem _ (List.mem_append_left _ (List.mem_append_left _ (List.mem_append_left _ (List.mem_append_right _ h))))) (cO_main _ _ _ _) rfl (by decide) rfl ?_
    refine g_get 59 0 dX8_count_56 (List.mem_of_getElem? (i := 4) rfl) (fun w h => List.mem_cons_of_mem _ (List.mem_append_left _ (List.mem_append_left _ (List.mem_append_right _ h)))) (cO_custom _ _ _ _) rfl (by decide) rfl ?_
    refine g_i2l dX8_count_59 ?_
    refine g_lret dX8_count_60 ?_
    unfold cf_count; (repeat' split) <;> first | contradiction | (with_reducible exact ⟨rfl, rfl⟩) | (exfalso; subst_vars; revert hx; decide) | (exfalso; simp_all; done) | exact ⟨rfl, rfl⟩
  · skip
    refine g_tabIn 61 dX8_count_1 (by decide) (by decide) rfl (by decide) ?_
    refine g_aload_n (i := 0) dX8_count_61 rfl rfl ?_
    refine g_get 0 7 dX8_count_62 (List.mem_of_getElem? (i := 5) rfl) (fun w h => List.mem_cons_of_mem _ (List.mem_append_left _ (List.mem_append_left _ (List.mem_append_left _ (List.mem_append_right _ h))))) (cO_main _ _ _ _) rfl (by decide) rfl ?_
    refine g_callVf 0 9 gX8_count_X1_total rfl rfl rfl ⟨Nat.le_of_ble_eq_true rfl, Nat.le_of_ble_eq_true rfl⟩ ⟨Nat.le_of_ble_eq_true rfl, Nat.le_of_ble_eq_true rfl⟩ (by exact Nat.le_of_ble_eq_true rfl) (by decide +kernel) rfl (cO_book _ _ _ _) rfl dX8_count_65 (K_total _ D cy a _ _) rfl (fun vu_1 wu_1 hu_1 => ?_)
    obtain ⟨rfl, rfl⟩ := hu_1
    refine g_lret dX8_count_68 ?_
    unfold cf_count; (repeat' split) <;> first | contradiction | (with_reducible exact ⟨rfl, rfl⟩) | (exfalso; subst_vars; revert hx; decide) | (exfalso; simp_all; done) | exact ⟨rfl, rfl⟩
  · skip
    refine g_tabIn 69 dX8_count_1 (by decide) (by decide) rfl (by decide) ?_
    refine g_aload_n (i := 0) dX8_count_69 rfl rfl ?_
    refine g_get 0 17 dX8_count_70 (List.mem_of_getElem? (i := 6) rfl) (fun w h => List.mem_cons_of_mem _ (List.mem_append_left _ (List.mem_append_left _ (List.mem_append_left _ (List.mem_append_right _ h))))) (cO_main _ _ _ _) rfl (by decide) rfl ?_
    refine g_i2l dX8_count_73 ?_
    refine g_lret dX8_count_74 ?_
    unfold cf_count; (repeat' split) <;> first | contradiction | (with_reducible exact ⟨rfl, rfl⟩) | (exfalso; subst_vars; revert hx; decide) | (exfalso; simp_all; done) | exact ⟨rfl, rfl⟩
  · skip
    refine g_tabIn 75 dX8_count_1 (by decide) (by decide) rfl (by decide) ?_
    refine g_aload_n (i := 0) dX8_count_75 rfl rfl ?_
    refine g_get 0 6 dX8_count_76 (List.mem_of_getElem? (i := 7) rfl) (fun w h => List.mem_cons_of_mem _ (List.mem_append_left _ (List.mem_append_left _ (List.mem_append_left _ (List.mem_append_right _ h))))) (cO_main _ _ _ _) rfl (by decide) rfl ?_
    refine g_get 7 0 dX8_count_79 (List.mem_of_getElem? (i := 8) rfl) (fun w h => List.mem_cons_of_mem _ (List.mem_append_left _ (List.mem_append_right _ h))) (cO_reader _ _ _ _) rfl (by decide) rfl ?_
    refine g_i2l dX8_count_82 ?_
    refine g_lret dX8_count_83 ?_
    unfold cf_count; (repeat' split) <;> first | contradiction | (with_reducible exact ⟨rfl, rfl⟩) | (exfalso; subst_vars; revert hx; decide) | (exfalso; simp_all; done) | exact ⟨rfl, rfl⟩
  · skip
    refine g_tabOut 84 dX8_count_1 hx (by decide) ?_
    refine g_aload_n (i := 0) dX8_count_84 rfl rfl ?_
    refine g_iconst (1) rfl dX8_count_85 ?_
    refine g_callVf 1 0 gX8_count_X8_finding rfl rfl rfl ⟨Nat.le_of_ble_eq_true rfl, Nat.le_of_ble_eq_true rfl⟩ ⟨Nat.le_of_ble_eq_true rfl, Nat.le_of_ble_eq_true rfl⟩ (by exact Nat.le_of_ble_eq_true rfl) (by decide +kernel) rfl (cO_main _ _ _ _) rfl dX8_count_86 (K_finding _ D cy a _ _ _ (by unfold vp_in; decide)) rfl (fun vu_2 wu_2 hu_2 => ?_)
    obtain ⟨rfl, rfl⟩ := hu_2
    refine g_lret dX8_count_89 ?_
    unfold cf_count; (repeat' split) <;> first | contradiction | (with_reducible exact ⟨rfl, rfl⟩) | (exfalso; subst_vars; revert hx; decide) | (exfalso; simp_all; done) | exact ⟨rfl, rfl⟩

def cf_found (T : MS) (q : Int32) : Int64 × MS := if 1 ≤ q ∧ q ≤ 7 then (T.2.2.2 0 q.toNatClampNeg, T) else cf_fd T 1
set_option maxHeartbeats 4000000 in
set_option maxRecDepth 100000 in
/-- found -/
theorem K_found (l : Launch) (D : va_G) (cy : Nat → ClassId) (a : Nat → Nat) (T : MS) (B : List BL) (q : Int32) : Ct l D clx (tyx cy) yX8_found wsX8_found (rmC 3) 0 0 [.ref (a 200), .int q] (CW cy a T B) (fun r9 w9 => r9 = some (.long (cf_found T q).1) ∧ w9 = CW cy a (cf_found T q).2 B) := by
  refine g_start (cc := cX8_found) (maxL := 2) (ret := (some .long)) (by decide) rfl (Nat.le_of_ble_eq_true rfl) (fun v w1 h => by obtain ⟨rfl, -⟩ := h; exact rfl) (fun Γ hlΓ => ?_)
  subst hlΓ
  refine g_iload_n (i := 1) dX8_found_0 rfl rfl ?_
  refine g_iconst (1) rfl dX8_found_1 ?_
  refine g_icmp_lt 11 dX8_found_2 (by decide) (fun c_1 => ?_) (fun c_1 => ?_)
  · skip
    refine g_aload_n (i := 0) dX8_found_11 rfl rfl ?_
    refine g_iconst (1) rfl dX8_found_12 ?_
    refine g_callVf 1 0 gX8_found_X8_finding rfl rfl rfl ⟨Nat.le_of_ble_eq_true rfl, Nat.le_of_ble_eq_true rfl⟩ ⟨Nat.le_of_ble_eq_true rfl, Nat.le_of_ble_eq_true rfl⟩ (by exact Nat.le_of_ble_eq_true rfl) (by decide +kernel) rfl (cO_main _ _ _ _) rfl dX8_found_13 (K_finding _ D cy a _ _ _ (by unfold vp_in; decide)) rfl (fun vu_2 wu_2 hu_2 => ?_)
    obtain ⟨rfl, rfl⟩ := hu_2
    refine g_lret dX8_found_16 ?_
    unfold cf_found; (repeat' split) <;> first | contradiction | (with_reducible exact ⟨rfl, rfl⟩) | (exfalso; rename_i h9; first | exact absurd h9.1 (by assumption) | exact absurd h9.2 (by assumption) | exact absurd h9.2.1 (by assumption) | exact absurd h9.2.2 (by assumption) | exact absurd h9.2.2.1 (by assumption) | exact absurd h9.2.2.2 (by assumption) | exact h9 ⟨by assumption, by assumption⟩ | exact h9 ⟨by assumption, by assumption, by assumption⟩) | (exfalso; simp_all; done) | (exfalso; simp only [Int32.le_iff_toInt_le, Int32.lt_iff_toInt_lt, Int32.reduceToInt] at *; omega) | exact ⟨rfl, rfl⟩
  · skip
    refine g_iload_n (i := 1) dX8_found_5 rfl rfl ?_
    refine g_bipush (7) rfl dX8_found_6 ?_
    refine g_icmp_le 17 dX8_found_8 (by decide) (fun c_3 => ?_) (fun c_3 => ?_)
    · skip
      refine g_aload_n (i := 0) dX8_found_17 rfl rfl ?_
      refine g_get 0 0 dX8_found_18 (List.mem_of_getElem? (i := 1) rfl) (fun w h => List.mem_cons_of_mem _ (List.mem_append_right _ h)) (cO_main _ _ _ _) rfl (by decide) rfl ?_
      refine g_iload_n (i := 1) dX8_found_21 rfl rfl ?_
      refine c_ald_0 dX8_found_22 (vpk ⟨Int32.not_lt.mp (by assumption), by assumption⟩) ?_
      refine g_lret dX8_found_23 ?_
      unfold cf_found; (repeat' split) <;> first | contradiction | (with_reducible exact ⟨rfl, rfl⟩) | (exfalso; rename_i h9; first | exact absurd h9.1 (by assumption) | exact absurd h9.2 (by assumption) | exact absurd h9.2.1 (by assumption) | exact absurd h9.2.2 (by assumption) | exact absurd h9.2.2.1 (by assumption) | exact absurd h9.2.2.2 (by assumption) | exact h9 ⟨by assumption, by assumption⟩ | exact h9 ⟨by assumption, by assumption, by assumption⟩) | (exfalso; simp_all; done) | (exfalso; simp only [Int32.le_iff_toInt_le, Int32.lt_iff_toInt_lt, Int32.reduceToInt] at *; omega) | exact ⟨rfl, rfl⟩
    · skip
      refine g_aload_n (i := 0) dX8_found_11 rfl rfl ?_
      refine g_iconst (1) rfl dX8_found_12 ?_
      refine g_callVf 1 0 gX8_found_X8_finding rfl rfl rfl ⟨Nat.le_of_ble_eq_true rfl, Nat.le_of_ble_eq_true rfl⟩ ⟨Nat.le_of_ble_eq_true rfl, Nat.le_of_ble_eq_true rfl⟩ (by exact Nat.le_of_ble_eq_true rfl) (by decide +kernel) rfl (cO_main _ _ _ _) rfl dX8_found_13 (K_finding _ D cy a _ _ _ (by unfold vp_in; decide)) rfl (fun vu_4 wu_4 hu_4 => ?_)
      obtain ⟨rfl, rfl⟩ := hu_4
      refine g_lret dX8_found_16 ?_
      unfold cf_found; (repeat' split) <;> first | contradiction | (with_reducible exact ⟨rfl, rfl⟩) | (exfalso; rename_i h9; first | exact absurd h9.1 (by assumption) | exact absurd h9.2 (by assumption) | exact absurd h9.2.1 (by assumption) | exact absurd h9.2.2 (by assumption) | exact absurd h9.2.2.1 (by assumption) | exact absurd h9.2.2.2 (by assumption) | exact h9 ⟨by assumption, by assumption⟩ | exact h9 ⟨by assumption, by assumption, by assumption⟩) | (exfalso; simp_all; done) | (exfalso; simp only [Int32.le_iff_toInt_le, Int32.lt_iff_toInt_lt, Int32.reduceToInt] at *; omega) | exact ⟨rfl, rfl⟩

