abbrev bplg (b : BL) (h : Int32) : Prop := b.2.1 0 = 2 ∧ ¬ b.2.1 7 = 0 ∧ b.2.1 2 = h
/-- the pledges of the first i bills -/
def prF (T : MS) (B : List BL) (h : Int32) : Nat → MS
  | 0 => bgF T 10
  | i + 1 => if bplg ((B[i]?).getD bz) h then sB (prF T B h i) 65 (((B[i]?).getD bz).2.1 4).toNatClampNeg ((prF T B h i).2.2.2 65 (((B[i]?).getD bz).2.1 4).toNatClampNeg + (((B[i]?).getD bz).2.1 3).toInt64) else prF T B h i
def clF (T : MS) (h : Int32) : Nat → MS
  | 0 => T
  | i + 1 => cf_claim (clF T h i) i ((clF T h i).2.2.2 (100 + h.toNatClampNeg) i)
theorem prF_1 (T : MS) (B : List BL) (h : Int32) : ∀ i, (prF T B h i).1 = T.1
  | 0 => rfl
  | i + 1 => by
    show (if _ then _ else _ : MS).1 = T.1
    split
    · exact prF_1 T B h i
    · exact prF_1 T B h i
def cf_parT (T : MS) (B : List BL) (h : Int32) : MS := clF (prF T B h B.length) h 10
theorem bati {B : List BL} {i : Nat} (h : i < B.length) : (B[i]?).getD bz ∈ B := by
  rw [List.getElem?_eq_getElem h, Option.getD_some]
  exact List.getElem_mem h
theorem bseti {B : List BL} {i : Nat} (h : i < B.length) : B.set i ((B[i]?).getD bz) = B := by
  rw [List.getElem?_eq_getElem h, Option.getD_some]
  exact List.set_getElem_self h
set_option maxHeartbeats 4000000 in
set_option maxRecDepth 100000 in
/-- part -/
theorem K_part (l : Launch) (D : va_G) (cy : Nat → ClassId) (a : Nat → Nat) (T : MS) (B : List BL) (hI : ciB T B) (h su c : Int32) : Ct l D clx (tyx cy) yX8_part wsX8_part (rmC 4) 0 0 [.ref (a 200), .int h, .int su, .int c] (CW cy a T B) (fun r9 w9 => (¬ (ctwo h c ∧ (0 ≤ su ∧ su ≤ 1000000000)) ∧ r9 = some (.long (cf_fd T 1).1) ∧ w9 = CW cy a (cf_fd T 1).2 B) ∨ ((ctwo h c ∧ (0 ≤ su ∧ su ≤ 1000000000)) ∧ ∃ v1 v2, r9 = some (.long (v1 + v2)) ∧ w9 = CW cy a (cf_parT T B h) B ∧ ((ptot (cf_parT T B h) 65 10 ≤ su.toInt64 ∨ (cf_parT T B h).2.2.2 65 c.toNatClampNeg = 0) → v1 = (cf_parT T B h).2.2.2 65 c.toNatClampNeg) ∧ ((ptot (cf_parT T B h) 66 10 ≤ cbeh (cf_parT T B h) su.toInt64 ∨ (cf_parT T B h).2.2.2 66 c.toNatClampNeg = 0) → v2 = (cf_parT T B h).2.2.2 66 c.toNatClampNeg))) := by
  refine g_start (cc := cX8_part) (maxL := 6) (ret := (some .long)) (by decide) rfl (Nat.le_of_ble_eq_true rfl) (fun v w1 h => by rcases h with ⟨-, rfl, -⟩ | ⟨-, v9, v8, rfl, -⟩ <;> exact rfl) (fun Γ hlΓ => ?_)
  subst hlΓ
  have hB9 := hI.1
  have hB8 := hI.2.1
  refine g_iload_n (i := 1) dX8_part_0 rfl rfl ?_
  refine g_iload_n (i := 3) dX8_part_1 rfl rfl ?_
  refine g_callSf 2 gX8_part_X8_areTwoHouses rfl rfl rfl ⟨Nat.le_of_ble_eq_true rfl, Nat.le_of_ble_eq_true rfl⟩ ⟨Nat.le_of_ble_eq_true rfl, Nat.le_of_ble_eq_true rfl⟩ (by exact Nat.le_of_ble_eq_true rfl) (by decide +kernel) rfl dX8_part_2 (K_areTwo _ D cy a _ _ _ _) rfl (fun vu_1 wu_1 hu_1 => ?_)
  rcases hu_1 with ⟨rfl, hu_1, rfl⟩ | ⟨rfl, hu_1, rfl⟩
  · skip
    refine g_if_eq 19 dX8_part_5 (by decide) (fun h9 => absurd h9 (by decide)) (fun _ => ?_)
    refine g_iload_n (i := 2) dX8_part_8 rfl rfl ?_
    refine g_if_lt 19 dX8_part_9 (by decide) (fun c_3 => ?_) (fun c_3 => ?_)
    · skip
      refine g_aload_n (i := 0) dX8_part_19 rfl rfl ?_
      refine g_iconst (1) rfl dX8_part_20 ?_
      refine g_callVf 1 0 gX8_part_X8_finding rfl rfl rfl ⟨Nat.le_of_ble_eq_true rfl, Nat.le_of_ble_eq_true rfl⟩ ⟨Nat.le_of_ble_eq_true rfl, Nat.le_of_ble_eq_true rfl⟩ (by exact Nat.le_of_ble_eq_true rfl) (by decide +kernel) rfl (cO_main _ _ _ _) rfl dX8_part_21 (K_finding _ D cy a _ _ _ (by unfold vp_in; decide)) rfl (fun vu_4 wu_4 hu_4 => ?_)
      obtain ⟨rfl, rfl⟩ := hu_4
      refine g_lret dX8_part_24 ?_
      exact Or.inl ⟨(by intro h9; first | exact absurd h9.1 (by assumption) | exact absurd h9.2.1 (Int32.not_le.mpr (by assumption)) | exact absurd h9.2.2 (by assumption)), rfl, rfl⟩
    · skip
      refine g_iload_n (i := 2) dX8_part_12 rfl rfl ?_
      refine g_ldcw (1000000000) (List.mem_of_getElem? (i := 1) rfl) dX8_part_13 ?_
      refine g_icmp_le 25 dX8_part_16 (by decide) (fun c_5 => ?_) (fun c_5 => ?_)
      · skip
        refine g_aload_n (i := 0) dX8_part_25 rfl rfl ?_
        refine g_get 0 11 dX8_part_26 (List.mem_of_getElem? (i := 2) rfl) (fun w h => List.mem_cons_of_mem _ (List.mem_append_left _ (List.mem_append_left _ (List.mem_append_left _ (List.mem_append_right _ h))))) (cO_main _ _ _ _) rfl (by decide) rfl ?_
        refine g_callVf 0 56 gX8_part_X4_begin rfl rfl rfl ⟨Nat.le_of_ble_eq_true rfl, Nat.le_of_ble_eq_true rfl⟩ ⟨Nat.le_of_ble_eq_true rfl, Nat.le_of_ble_eq_true rfl⟩ (by exact Nat.le_of_ble_eq_true rfl) (by decide +kernel) rfl (cO_parting _ _ _ _) rfl dX8_part_29 (K_begin _ D cy a _ _) rfl (fun vu_6 wu_6 hu_6 => ?_)
        obtain ⟨rfl, rfl⟩ := hu_6
        refine g_iconst (0) rfl dX8_part_32 ?_
        refine g_istore dX8_part_33 (by decide) ?_
        refine g_cnt B.length (fun i => True) (fun i => CW cy a (prF T B h i) B) (fun i => [(0, .ref (a 200)), (1, .int h), (2, .int su), (3, .int c), (4, .int (nI i))]) 0 (by first | decide | omega) trivial (by rfl) (by refine ⟨rfl, rfl, rfl, rfl, rfl, trivial⟩) ?_ (fun i7 hi7 gi7 ihi7 => ?_)
        · intro gNi7
          refine g_iload dX8_part_35 rfl ?_
          refine g_aload_n (i := 0) dX8_part_37 rfl rfl ?_
          refine g_get 0 16 dX8_part_38 (List.mem_of_getElem? (i := 3) rfl) (fun w h => List.mem_cons_of_mem _ (List.mem_append_left _ (List.mem_append_left _ (List.mem_append_left _ (List.mem_append_right _ h))))) (cO_main _ _ _ _) rfl (by decide) rfl ?_
          refine g_icmp_ge 90 dX8_part_41 (by decide) (fun c_8 => ?_) (fun c_8 => ?_)
          · skip
            refine g_iconst (0) rfl dX8_part_90 ?_
            refine g_istore dX8_part_91 (by decide) ?_
            refine g_cnt 10 (fun i => True) (fun i => CW cy a (clF (prF T B h B.length) h i) B) (fun i => [(0, .ref (a 200)), (1, .int h), (2, .int su), (3, .int c), (4, .int (nI i))]) 0 (by first | decide | omega) trivial (by rfl) (by refine ⟨rfl, rfl, rfl, rfl, rfl, trivial⟩) ?_ (fun i9 hi9 gi9 ihi9 => ?_)
            · intro gNi9
              refine g_iload dX8_part_93 rfl ?_
              refine g_bipush (10) rfl dX8_part_95 ?_
              refine g_icmp_ge 125 dX8_part_97 (by decide) (fun c_10 => ?_) (fun c_10 => ?_)
              · skip
                refine g_aload_n (i := 0) dX8_part_125 rfl rfl ?_
                refine g_get 0 11 dX8_part_126 (List.mem_of_getElem? (i := 2) rfl) (fun w h => List.mem_cons_of_mem _ (List.mem_append_left _ (List.mem_append_left _ (List.mem_append_left _ (List.mem_append_right _ h))))) (cO_main _ _ _ _) rfl (by decide) rfl ?_
                refine g_iload_n (i := 3) dX8_part_129 rfl rfl ?_
                refine g_iload_n (i := 2) dX8_part_130 rfl rfl ?_
                refine g_i2l dX8_part_131 ?_
                refine g_callVf 2 56 gX8_part_X4_shareOf rfl rfl rfl ⟨Nat.le_of_ble_eq_true rfl, Nat.le_of_ble_eq_true rfl⟩ ⟨Nat.le_of_ble_eq_true rfl, Nat.le_of_ble_eq_true rfl⟩ (by exact Nat.le_of_ble_eq_true rfl) (by decide +kernel) rfl (cO_parting _ _ _ _) rfl dX8_part_132 (K_shareOf _ D cy a _ _ _ _ (tw_b (by assumption))) rfl (fun vu_11 wu_11 hu_11 => ?_)
                obtain ⟨s1, s2, rfl, rfl, hs19, hs29⟩ := hu_11
                refine g_lret dX8_part_135 ?_
                exact Or.inr ⟨⟨by assumption, Int32.not_lt.mp (by assumption), by assumption⟩, s1, s2, rfl, rfl, hs19, hs29⟩
              · skip
                exact absurd (nI_le (Nat.le_refl _) (by first | decide | omega)) c_10
            · skip
              refine g_iload dX8_part_93 rfl ?_
              refine g_bipush (10) rfl dX8_part_95 ?_
              refine g_icmp_ge 125 dX8_part_97 (by decide) (fun c_12 => ?_) (fun c_12 => ?_)
              · skip
                exact absurd c_12 (nI_ge hi9 (by first | decide | omega))
              · skip
                refine g_aload_n (i := 0) dX8_part_100 rfl rfl ?_
                refine g_get 0 11 dX8_part_101 (List.mem_of_getElem? (i := 2) rfl) (fun w h => List.mem_cons_of_mem _ (List.mem_append_left _ (List.mem_append_left _ (List.mem_append_left _ (List.mem_append_right _ h))))) (cO_main _ _ _ _) rfl (by decide) rfl ?_
                refine g_iload dX8_part_104 rfl ?_
                refine g_aload_n (i := 0) dX8_part_106 rfl rfl ?_
                refine g_get 0 7 dX8_part_107 (List.mem_of_getElem? (i := 7) rfl) (fun w h => List.mem_cons_of_mem _ (List.mem_append_left _ (List.mem_append_left _ (List.mem_append_left _ (List.mem_append_right _ h))))) (cO_main _ _ _ _) rfl (by decide) rfl ?_
                refine g_iload_n (i := 1) dX8_part_110 rfl rfl ?_
                refine g_iload dX8_part_111 rfl ?_
                refine g_callVf 2 9 gX8_part_X1_debt rfl rfl rfl ⟨Nat.le_of_ble_eq_true rfl, Nat.le_of_ble_eq_true rfl⟩ ⟨Nat.le_of_ble_eq_true rfl, Nat.le_of_ble_eq_true rfl⟩ (by exact Nat.le_of_ble_eq_true rfl) (by decide +kernel) rfl (cO_book _ _ _ _) rfl dX8_part_113 (K_debt _ D cy a _ _ _ _ (tw_a (by assumption)) (vp_in_nI (by assumption) (by decide))) rfl (fun vu_13 wu_13 hu_13 => ?_)
                obtain ⟨rfl, rfl⟩ := hu_13
                rw [nI_clamp (by omega)]
                refine g_callVf 2 56 gX8_part_X4_claim rfl rfl rfl ⟨Nat.le_of_ble_eq_true rfl, Nat.le_of_ble_eq_true rfl⟩ ⟨Nat.le_of_ble_eq_true rfl, Nat.le_of_ble_eq_true rfl⟩ (by exact Nat.le_of_ble_eq_true rfl) (by decide +kernel) rfl (cO_parting _ _ _ _) rfl dX8_part_116 (K_claim _ D cy a _ _ _ _ (by assumption)) rfl (fun vu_14 wu_14 hu_14 => ?_)
                obtain ⟨rfl, rfl⟩ := hu_14
                refine g_iinc (1) dX8_part_119 rfl rfl (by decide) ?_
                refine g_goto 93 dX8_part_122 (by decide) ?_
                refine g_to _ _ (ihi9 (trivial)) rfl (by refine ⟨(by first | rfl | (rw [← nI_1]; rfl)), (by first | rfl | (rw [← nI_1]; rfl)), (by first | rfl | (rw [← nI_1]; rfl)), (by first | rfl | (rw [← nI_1]; rfl)), (by first | rfl | (rw [← nI_1]; rfl)), trivial⟩)
          · skip
            exact absurd (by rw [prF_1, hB9]; exact nI_le (Nat.le_refl _) (by omega)) c_8
        · skip
          refine g_iload dX8_part_35 rfl ?_
          refine g_aload_n (i := 0) dX8_part_37 rfl rfl ?_
          refine g_get 0 16 dX8_part_38 (List.mem_of_getElem? (i := 3) rfl) (fun w h => List.mem_cons_of_mem _ (List.mem_append_left _ (List.mem_append_left _ (List.mem_append_left _ (List.mem_append_right _ h))))) (cO_main _ _ _ _) rfl (by decide) rfl ?_
          refine g_icmp_ge 90 dX8_part_41 (by decide) (fun c_15 => ?_) (fun c_15 => ?_)
          · skip
            exact absurd c_15 (by rw [prF_1, hB9]; exact nI_ge hi7 (by omega))
          · skip
            refine g_aload_n (i := 0) dX8_part_44 rfl rfl ?_
            refine g_get 0 3 dX8_part_45 (List.mem_of_getElem? (i := 4) rfl) (fun w h => List.mem_cons_of_mem _ (List.mem_append_left _ (List.mem_append_left _ (List.mem_append_left _ (List.mem_append_right _ h))))) (cO_main _ _ _ _) rfl (by decide) rfl ?_
            refine g_iload dX8_part_48 rfl ?_
            refine g_aald 4 3 rfl dX8_part_50 (cA_3 _ _ _ _) rfl (vp_in_nI (by omega) (by decide)) ?_
            have e9 : va_rf (bref B (nI i7).toNatClampNeg) = .ref (((B[i7]?).getD bz).1 0) := by unfold bref; rw [nI_clamp (by omega), List.getElem?_eq_getElem (by assumption)]; rfl
            rw [e9]
            have hb : i7 < B.length := (by assumption)
            have hbk := hI.2.2 _ (bati hb)
            refine g_weq _ (congrArg (CW cy a _) (bseti hb).symm) ?_
            refine g_astore dX8_part_51 (by decide) ?_
            refine g_aload dX8_part_53 rfl ?_
            refine g_ifnull dX8_part_55 ?_
            refine g_aload dX8_part_58 rfl ?_
            refine g_iload_n (i := 1) dX8_part_60 rfl rfl ?_
            refine g_callVf 1 (71 + (3 * _ + 0)) gX8_part_X0_pledgedBy rfl rfl rfl ⟨Nat.le_of_ble_eq_true rfl, Nat.le_of_ble_eq_true rfl⟩ ⟨Nat.le_of_ble_eq_true rfl, Nat.le_of_ble_eq_true rfl⟩ (by exact Nat.le_of_ble_eq_true rfl) (by decide +kernel) rfl (cB_get _ 0 (by decide) hb) rfl dX8_part_61 (K_pledgedBy _ D cy a _ _ _ _ hb _) rfl (fun vu_16 wu_16 hu_16 => ?_)
            rcases hu_16 with ⟨rfl, hu_16, rfl⟩ | ⟨rfl, hu_16, rfl⟩
            · skip
              refine g_if_eq 84 dX8_part_64 (by decide) (fun h9 => absurd h9 (by decide)) (fun _ => ?_)
              refine g_aload_n (i := 0) dX8_part_67 rfl rfl ?_
              refine g_get 0 11 dX8_part_68 (List.mem_of_getElem? (i := 2) rfl) (fun w h => List.mem_cons_of_mem _ (List.mem_append_left _ (List.mem_append_left _ (List.mem_append_left _ (List.mem_append_right _ h))))) (cO_main _ _ _ _) rfl (by decide) rfl ?_
              refine g_aload dX8_part_71 rfl ?_
              refine c_bget 4 dX8_part_73 (List.mem_of_getElem? (i := 5) rfl) (fun w h => List.mem_cons_of_mem _ (List.mem_append_left _ (List.mem_append_left _ (List.mem_append_right _ h)))) hb (by decide) rfl ?_
              refine g_aload dX8_part_76 rfl ?_
              refine c_bget 3 dX8_part_78 (List.mem_of_getElem? (i := 6) rfl) (fun w h => List.mem_cons_of_mem _ (List.mem_append_left _ (List.mem_append_left _ (List.mem_append_right _ h)))) hb (by decide) rfl ?_
              refine g_callVf 2 56 gX8_part_X4_pledge rfl rfl rfl ⟨Nat.le_of_ble_eq_true rfl, Nat.le_of_ble_eq_true rfl⟩ ⟨Nat.le_of_ble_eq_true rfl, Nat.le_of_ble_eq_true rfl⟩ (by exact Nat.le_of_ble_eq_true rfl) (by decide +kernel) rfl (cO_parting _ _ _ _) rfl dX8_part_81 (K_pledge _ D cy a _ _ _ _ hbk.2.2.1) rfl (fun vu_18 wu_18 hu_18 => ?_)
              obtain ⟨rfl, rfl⟩ := hu_18
              refine g_iinc (1) dX8_part_84 rfl rfl (by decide) ?_
              refine g_goto 35 dX8_part_87 (by decide) ?_
              first | (refine g_to _ _ (ihi7 trivial) (by show _ = CW cy a (if _ then _ else _) B; rw [if_pos (by assumption), bseti hb]) ⟨rfl, rfl, rfl, rfl, (by rw [← nI_1]; rfl), trivial⟩) | (refine g_to _ _ (ihi7 trivial) (by show _ = CW cy a (if _ then _ else _) B; rw [if_neg (by assumption), bseti hb]) ⟨rfl, rfl, rfl, rfl, (by rw [← nI_1]; rfl), trivial⟩)
            · skip
              refine g_if_eq 84 dX8_part_64 (by decide) (fun _ => ?_) (fun h9 => absurd h9 (by decide))
              refine g_iinc (1) dX8_part_84 rfl rfl (by decide) ?_
              refine g_goto 35 dX8_part_87 (by decide) ?_
              first | (refine g_to _ _ (ihi7 trivial) (by show _ = CW cy a (if _ then _ else _) B; rw [if_pos (by assumption), bseti hb]) ⟨rfl, rfl, rfl, rfl, (by rw [← nI_1]; rfl), trivial⟩) | (refine g_to _ _ (ihi7 trivial) (by show _ = CW cy a (if _ then _ else _) B; rw [if_neg (by assumption), bseti hb]) ⟨rfl, rfl, rfl, rfl, (by rw [← nI_1]; rfl), trivial⟩)
      · skip
        refine g_aload_n (i := 0) dX8_part_19 rfl rfl ?_
        refine g_iconst (1) rfl dX8_part_20 ?_
        refine g_callVf 1 0 gX8_part_X8_finding rfl rfl rfl ⟨Nat.le_of_ble_eq_true rfl, Nat.le_of_ble_eq_true rfl⟩ ⟨Nat.le_of_ble_eq_true rfl, Nat.le_of_ble_eq_true rfl⟩ (by exact Nat.le_of_ble_eq_true rfl) (by decide +kernel) rfl (cO_main _ _ _ _) rfl dX8_part_21 (K_finding _ D cy a _ _ _ (by unfold vp_in; decide)) rfl (fun vu_20 wu_20 hu_20 => ?_)
        obtain ⟨rfl, rfl⟩ := hu_20
        refine g_lret dX8_part_24 ?_
        exact Or.inl ⟨(by intro h9; first | exact absurd h9.1 (by assumption) | exact absurd h9.2.1 (Int32.not_le.mpr (by assumption)) | exact absurd h9.2.2 (by assumption)), rfl, rfl⟩
  · skip
    refine g_if_eq 19 dX8_part_5 (by decide) (fun _ => ?_) (fun h9 => absurd h9 (by decide))
    refine g_aload_n (i := 0) dX8_part_19 rfl rfl ?_
    refine g_iconst (1) rfl dX8_part_20 ?_
    refine g_callVf 1 0 gX8_part_X8_finding rfl rfl rfl ⟨Nat.le_of_ble_eq_true rfl, Nat.le_of_ble_eq_true rfl⟩ ⟨Nat.le_of_ble_eq_true rfl, Nat.le_of_ble_eq_true rfl⟩ (by exact Nat.le_of_ble_eq_true rfl) (by decide +kernel) rfl (cO_main _ _ _ _) rfl dX8_part_21 (K_finding _ D cy a _ _ _ (by unfold vp_in; decide)) rfl (fun vu_22 wu_22 hu_22 => ?_)
    obtain ⟨rfl, rfl⟩ := hu_22
    refine g_lret dX8_part_24 ?_
    exact Or.inl ⟨(by intro h9; first | exact absurd h9.1 (by assumption) | exact absurd h9.2.1 (Int32.not_le.mpr (by assumption)) | exact absurd h9.2.2 (by assumption)), rfl, rfl⟩

