theorem minv_of {S T : MS} (h1 : T.1 = S.1) (h2 : T.2.2.1 = S.2.2.1) (h : minv S) : minv T := by
  unfold minv at *
  rw [h1, h2]
  exact h
/-- gets are 0, claims those of rank 0 -/
def ptF (S : MS) (h : Int32) : Nat → MS
  | 0 => S
  | i + 1 => sB (sB (ptF S h i) 54 i 0) 53 i (mpled (sB (ptF S h i) 54 i 0) h (nI i))
/-- claims are those of rank 1 -/
def ptG (S : MS) (h : Int32) : Nat → MS
  | 0 => S
  | i + 1 => sB (ptG S h i) 53 i ((ptG S h i).2.2.2 15 (10 * h + nI i).toNatClampNeg - mpled (ptG S h i) h (nI i))
theorem ptF_k (S : MS) (h : Int32) : ∀ i, (ptF S h i).1 = S.1 ∧ (ptF S h i).2.2.1 = S.2.2.1
  | 0 => ⟨rfl, rfl⟩
  | i + 1 => ⟨(ptF_k S h i).1, (ptF_k S h i).2⟩
theorem ptG_k (S : MS) (h : Int32) : ∀ i, (ptG S h i).1 = S.1 ∧ (ptG S h i).2.2.1 = S.2.2.1
  | 0 => ⟨rfl, rfl⟩
  | i + 1 => ⟨(ptG_k S h i).1, (ptG_k S h i).2⟩
theorem shG_k (S : MS) : ∀ i, (shG S i).1 = S.1 ∧ (shG S i).2.2.1 = S.2.2.1
  | 0 => ⟨rfl, rfl⟩
  | i + 1 => ⟨(shG_k S i).1, (shG_k S i).2⟩
theorem shP_k (S : MS) (sm al : Int64) : ∀ i, (shP S sm al i).1 = S.1 ∧ (shP S sm al i).2.2.1 = S.2.2.1
  | 0 => ⟨rfl, rfl⟩
  | i + 1 => ⟨(shP_k S sm al i).1, (shP_k S sm al i).2⟩
theorem shR_k : ∀ (j i : Nat) (lf : Int64) (S : MS), (shR j i lf S).1 = S.1 ∧ (shR j i lf S).2.2.1 = S.2.2.1
  | 0, _, _, _ => ⟨rfl, rfl⟩
  | j + 1, i, lf, S => by
    show (if lf ≤ 0 then S else _).1 = S.1 ∧ (if lf ≤ 0 then S else _).2.2.1 = S.2.2.1
    split
    · exact ⟨rfl, rfl⟩
    · split
      · exact shR_k j (i + 1) lf S
      · exact shR_k j (i + 1) (lf - 1) (sB S 54 i (S.2.2.2 54 i + 1))
theorem share_k (S : MS) (sm : Int64) : (mf_share S sm).2.1 = S.1 ∧ (mf_share S sm).2.2.2.1 = S.2.2.1 := by
  unfold mf_share
  split
  · have h1 := shR_k 10 0 (shL S sm (shA S 10) 10) (shP S sm (shA S 10) 10)
    have h2 := shP_k S sm (shA S 10) 10
    exact ⟨h1.1.trans h2.1, h1.2.trans h2.2⟩
  · exact shG_k S 10
def mprt1 (S : MS) (h sm : Int32) : Int64 × MS := mf_share (ptF S h 10) sm.toInt64
def mprt2 (S : MS) (h sm : Int32) : Int64 × MS := mf_share (ptG (mprt1 S h sm).2 h 10) (mprt1 S h sm).1
def mf_part (S : MS) (h sm cr : Int32) : Int64 × MS := if (0 ≤ h ∧ h ≤ 9) ∧ (0 ≤ cr ∧ cr ≤ 9) ∧ ¬ h = cr ∧ (0 ≤ sm ∧ sm ≤ 1000000000) then ((mprt2 S h sm).2.2.2.2 54 cr.toNatClampNeg, (mprt2 S h sm).2) else mf_finding S (-1000000000001)
theorem w_nn {x : Int32} (h : 0 ≤ x) : (0 : Int64) ≤ x.toInt64 := by
  rw [Int32.le_iff_toInt_le] at h
  rw [Int64.le_iff_toInt_le, Int32.toInt_toInt64]
  exact h
theorem ptI1 {S : MS} (hI : minv S) (h : Int32) (i : Nat) : minv (sB (ptF S h i) 54 i 0) := minv_of (S := S) (ptF_k S h i).1 (ptF_k S h i).2 hI
theorem ptI2 {S : MS} (hI : minv S) (h sm : Int32) (i : Nat) : minv (ptG (mprt1 S h sm).2 h i) := by
  have h1 := ptG_k (mprt1 S h sm).2 h i
  have h2 : (mprt1 S h sm).2.1 = (ptF S h 10).1 ∧ (mprt1 S h sm).2.2.2.1 = (ptF S h 10).2.2.1 := (by unfold mprt1; exact share_k _ _)
  have h3 := ptF_k S h 10
  exact minv_of (S := S) (h1.1.trans (h2.1.trans h3.1)) (h1.2.trans (h2.2.trans h3.2)) hI

set_option maxHeartbeats 4000000 in
set_option maxRecDepth 100000 in
/-- part -/
theorem M_part (l : Launch) (D : va_G) (cy : Nat → ClassId) (a : Nat → Nat) (S : MS) (hI : minv S) (h sm cr : Int32) (hL : 0 ≤ (mprt1 S h sm).1) : Ct l D clx (tyx cy) yX9_part wsX9_part (rmD 2) 0 0 [.ref (a 0), .int h, .int sm, .int cr] (MW cy a S) (fun r9 w9 => r9 = some (.long (mf_part S h sm cr).1) ∧ w9 = MW cy a (mf_part S h sm cr).2) := by
  refine g_start (cc := cX9_part) (maxL := 7) (ret := (some .long)) (by decide) rfl (Nat.le_of_ble_eq_true rfl) (fun v w1 h => by obtain ⟨rfl, -⟩ := h; exact rfl) (fun Γ hlΓ => ?_)
  subst hlΓ
  refine g_iload_n (i := 1) dX9_part_0 rfl rfl ?_
  refine g_callSf 1 gX9_part_X9_isHouse rfl rfl rfl ⟨Nat.le_of_ble_eq_true rfl, Nat.le_of_ble_eq_true rfl⟩ ⟨Nat.le_of_ble_eq_true rfl, Nat.le_of_ble_eq_true rfl⟩ (by exact Nat.le_of_ble_eq_true rfl) (by decide +kernel) rfl dX9_part_1 (M_isHouse _ D cy a _ _) rfl (fun vu_1 wu_1 hu_1 => ?_)
  rcases hu_1 with ⟨rfl, hu_1, rfl⟩ | ⟨rfl, hu_1, rfl⟩
  · skip
    refine g_if_eq 30 dX9_part_4 (by decide) (fun h9 => absurd h9 (by decide)) (fun _ => ?_)
    refine g_iload_n (i := 3) dX9_part_7 rfl rfl ?_
    refine g_callSf 1 gX9_part_X9_isHouse rfl rfl rfl ⟨Nat.le_of_ble_eq_true rfl, Nat.le_of_ble_eq_true rfl⟩ ⟨Nat.le_of_ble_eq_true rfl, Nat.le_of_ble_eq_true rfl⟩ (by exact Nat.le_of_ble_eq_true rfl) (by decide +kernel) rfl dX9_part_8 (M_isHouse _ D cy a _ _) rfl (fun vu_3 wu_3 hu_3 => ?_)
    rcases hu_3 with ⟨rfl, hu_3, rfl⟩ | ⟨rfl, hu_3, rfl⟩
    · skip
      refine g_if_eq 30 dX9_part_11 (by decide) (fun h9 => absurd h9 (by decide)) (fun _ => ?_)
      refine g_iload_n (i := 1) dX9_part_14 rfl rfl ?_
      refine g_iload_n (i := 3) dX9_part_15 rfl rfl ?_
      refine g_icmp_eq 30 dX9_part_16 (by decide) (fun c_5 => ?_) (fun c_5 => ?_)
      · skip
        refine g_aload_n (i := 0) dX9_part_30 rfl rfl ?_
        refine g_ldc2 (-1000000000001) (List.mem_of_getElem? (i := 2) rfl) dX9_part_31 ?_
        refine g_callVf 1 0 gX9_part_X9_finding rfl rfl rfl ⟨Nat.le_of_ble_eq_true rfl, Nat.le_of_ble_eq_true rfl⟩ ⟨Nat.le_of_ble_eq_true rfl, Nat.le_of_ble_eq_true rfl⟩ (by exact Nat.le_of_ble_eq_true rfl) (by decide +kernel) rfl rfl rfl dX9_part_34 (M_finding _ D cy a _ _ (by unfold vp_in; decide)) rfl (fun vu_6 wu_6 hu_6 => ?_)
        obtain ⟨rfl, rfl⟩ := hu_6
        refine g_lret dX9_part_37 ?_
        unfold mf_part; rw [if_neg (fun h9 => by first | exact absurd h9.1 (by with_reducible assumption) | exact absurd h9.2.1 (by with_reducible assumption) | exact absurd (by with_reducible assumption) h9.2.2.1 | exact absurd h9.2.2.2 (by with_reducible assumption))]; with_reducible exact ⟨rfl, rfl⟩
      · skip
        refine g_iload_n (i := 2) dX9_part_19 rfl rfl ?_
        refine g_iconst (0) rfl dX9_part_20 ?_
        refine g_ldcw (1000000000) (List.mem_of_getElem? (i := 1) rfl) dX9_part_21 ?_
        refine g_callSf 3 gX9_part_X9_in rfl rfl rfl ⟨Nat.le_of_ble_eq_true rfl, Nat.le_of_ble_eq_true rfl⟩ ⟨Nat.le_of_ble_eq_true rfl, Nat.le_of_ble_eq_true rfl⟩ (by exact Nat.le_of_ble_eq_true rfl) (by decide +kernel) rfl dX9_part_24 (M_in _ D cy a _ _ _ _) rfl (fun vu_7 wu_7 hu_7 => ?_)
        rcases hu_7 with ⟨rfl, hu_7, rfl⟩ | ⟨rfl, hu_7, rfl⟩
        · skip
          refine g_if_ne 38 dX9_part_27 (by decide) (fun _ => ?_) (fun h9 => absurd h9 (by decide))
          refine g_iconst (0) rfl dX9_part_38 ?_
          refine g_istore dX9_part_39 (by decide) ?_
          refine g_cnt 10 (fun i => True) (fun i => MW cy a (ptF S h i)) (fun i => [(0, .ref (a 0)), (1, .int h), (2, .int sm), (3, .int cr), (4, .int (nI i))]) 0 (by first | decide | omega) trivial (by rfl) (by refine ⟨rfl, rfl, rfl, rfl, rfl, trivial⟩) ?_ (fun i9 hi9 gi9 ihi9 => ?_)
          · intro gN
            refine g_iload dX9_part_41 rfl ?_
            refine g_bipush (10) rfl dX9_part_43 ?_
            refine g_icmp_ge 76 dX9_part_45 (by decide) (fun c_10 => ?_) (fun c_10 => ?_)
            · skip
              refine g_aload_n (i := 0) dX9_part_76 rfl rfl ?_
              refine g_iload_n (i := 2) dX9_part_77 rfl rfl ?_
              refine g_i2l dX9_part_78 ?_
              refine g_callVf 1 0 gX9_part_X9_share rfl rfl rfl ⟨Nat.le_of_ble_eq_true rfl, Nat.le_of_ble_eq_true rfl⟩ ⟨Nat.le_of_ble_eq_true rfl, Nat.le_of_ble_eq_true rfl⟩ (by exact Nat.le_of_ble_eq_true rfl) (by decide +kernel) rfl rfl rfl dX9_part_79 (M_share _ D cy a _ _ (w_nn (And.left (b := sm ≤ 1000000000) (by with_reducible assumption)))) rfl (fun vu_11 wu_11 hu_11 => ?_)
              obtain ⟨rfl, rfl⟩ := hu_11
              change G _ _ _ _ _ _ _ _ _ _ _ _ _ _ (MW cy a (mprt1 S h sm).2) _ _ (Value.long (mprt1 S h sm).1 :: [])
              refine g_lstore dX9_part_82 (by decide) ?_
              refine g_iconst (0) rfl dX9_part_84 ?_
              refine g_istore dX9_part_85 (by decide) ?_
              refine g_cnt 10 (fun i => True) (fun i => MW cy a (ptG (mprt1 S h sm).2 h i)) (fun i => [(0, .ref (a 0)), (1, .int h), (2, .int sm), (3, .int cr), (4, .long (mprt1 S h sm).1), (6, .int (nI i))]) 0 (by first | decide | omega) trivial (by rfl) (by refine ⟨rfl, rfl, rfl, rfl, rfl, rfl, trivial⟩) ?_ (fun i12 hi12 gi12 ihi12 => ?_)
              · intro gN
                refine g_iload dX9_part_87 rfl ?_
                refine g_bipush (10) rfl dX9_part_89 ?_
                refine g_icmp_ge 127 dX9_part_91 (by decide) (fun c_13 => ?_) (fun c_13 => ?_)
                · skip
                  refine g_aload_n (i := 0) dX9_part_127 rfl rfl ?_
                  refine g_lload dX9_part_128 rfl ?_
                  refine g_callVf 1 0 gX9_part_X9_share rfl rfl rfl ⟨Nat.le_of_ble_eq_true rfl, Nat.le_of_ble_eq_true rfl⟩ ⟨Nat.le_of_ble_eq_true rfl, Nat.le_of_ble_eq_true rfl⟩ (by exact Nat.le_of_ble_eq_true rfl) (by decide +kernel) rfl rfl rfl dX9_part_130 (M_share _ D cy a _ _ hL) rfl (fun vu_14 wu_14 hu_14 => ?_)
                  obtain ⟨rfl, rfl⟩ := hu_14
                  change G _ _ _ _ _ _ _ _ _ _ _ _ _ _ (MW cy a (mprt2 S h sm).2) _ _ (Value.long (mprt2 S h sm).1 :: [])
                  refine g_lstore dX9_part_133 (by decide) ?_
                  refine g_aload_n (i := 0) dX9_part_135 rfl rfl ?_
                  refine m_get 54 dX9_part_136 (List.mem_of_getElem? (i := 3) rfl) (fun w h => List.mem_cons_of_mem _ (List.mem_append_right _ h)) (by decide) rfl ?_
                  refine g_iload_n (i := 3) dX9_part_139 rfl rfl ?_
                  refine m_lald 54 39 10 dX9_part_140 rfl (vpi10 (by with_reducible assumption)) ?_
                  refine g_lret dX9_part_141 ?_
                  unfold mf_part; rw [if_pos ⟨(by with_reducible assumption), (by with_reducible assumption), (by with_reducible assumption), (by with_reducible assumption)⟩]; with_reducible exact ⟨rfl, rfl⟩
                · skip
                  exact absurd (nI_le (Nat.le_refl _) (by first | decide | omega)) c_13
              · skip
                refine g_iload dX9_part_87 rfl ?_
                refine g_bipush (10) rfl dX9_part_89 ?_
                refine g_icmp_ge 127 dX9_part_91 (by decide) (fun c_15 => ?_) (fun c_15 => ?_)
                · skip
                  exact absurd c_15 (nI_ge hi12 (by first | decide | omega))
                · skip
                  refine g_aload_n (i := 0) dX9_part_94 rfl rfl ?_
                  refine m_get 53 dX9_part_95 (List.mem_of_getElem? (i := 4) rfl) (fun w h => List.mem_cons_of_mem _ (List.mem_append_right _ h)) (by decide) rfl ?_
                  refine g_iload dX9_part_98 rfl ?_
                  refine g_aload_n (i := 0) dX9_part_100 rfl rfl ?_
                  refine m_get 15 dX9_part_101 (List.mem_of_getElem? (i := 5) rfl) (fun w h => List.mem_cons_of_mem _ (List.mem_append_right _ h)) (by decide) rfl ?_
                  refine g_bipush (10) rfl dX9_part_104 ?_
                  refine g_iload_n (i := 1) dX9_part_106 rfl rfl ?_
                  refine g_imul dX9_part_107 ?_
                  refine g_iload dX9_part_108 rfl ?_
                  refine g_iadd dX9_part_110 ?_
                  refine m_lald 15 13 100 dX9_part_111 rfl (ix100 (vpi10 (by with_reducible assumption)) (vp_in_nI (by with_reducible assumption) (by decide))) ?_
                  refine g_aload_n (i := 0) dX9_part_112 rfl rfl ?_
                  refine g_iload_n (i := 1) dX9_part_113 rfl rfl ?_
                  refine g_iload dX9_part_114 rfl ?_
                  refine g_callVf 2 0 gX9_part_X9_pledged rfl rfl rfl ⟨Nat.le_of_ble_eq_true rfl, Nat.le_of_ble_eq_true rfl⟩ ⟨Nat.le_of_ble_eq_true rfl, Nat.le_of_ble_eq_true rfl⟩ (by exact Nat.le_of_ble_eq_true rfl) (by decide +kernel) rfl rfl rfl dX9_part_116 (M_pledged _ D cy a _ (ptI2 hI _ _ _) _ _ (vpi10 (by with_reducible assumption)) (vp_in_nI (by with_reducible assumption) (by decide))) rfl (fun vu_16 wu_16 hu_16 => ?_)
                  obtain ⟨rfl, rfl⟩ := hu_16
                  refine g_lsub dX9_part_119 ?_
                  refine m_lastN 53 38 10 dX9_part_120 rfl (by omega) (by decide) (wsA_53 _ _ _ _ _) ?_
                  refine g_iinc (1) dX9_part_121 rfl rfl (by decide) ?_
                  refine g_goto 87 dX9_part_124 (by decide) ?_
                  refine g_to _ _ (ihi12 (trivial)) rfl (by refine ⟨(by first | rfl | (rw [← nI_1]; rfl) | (rw [← nI_1]; rfl)), (by first | rfl | (rw [← nI_1]; rfl) | (rw [← nI_1]; rfl)), (by first | rfl | (rw [← nI_1]; rfl) | (rw [← nI_1]; rfl)), (by first | rfl | (rw [← nI_1]; rfl) | (rw [← nI_1]; rfl)), (by first | rfl | (rw [← nI_1]; rfl) | (rw [← nI_1]; rfl)), (by first | rfl | (rw [← nI_1]; rfl) | (rw [← nI_1]; rfl)), trivial⟩)
            · skip
              exact absurd (nI_le (Nat.le_refl _) (by first | decide | omega)) c_10
          · skip
            refine g_iload dX9_part_41 rfl ?_
            refine g_bipush (10) rfl dX9_part_43 ?_
            refine g_icmp_ge 76 dX9_part_45 (by decide) (fun c_17 => ?_) (fun c_17 => ?_)
            · skip
              exact absurd c_17 (nI_ge hi9 (by first | decide | omega))
            · skip
              refine g_aload_n (i := 0) dX9_part_48 rfl rfl ?_
              refine m_get 54 dX9_part_49 (List.mem_of_getElem? (i := 3) rfl) (fun w h => List.mem_cons_of_mem _ (List.mem_append_right _ h)) (by decide) rfl ?_
              refine g_iload dX9_part_52 rfl ?_
              refine g_lconst 0 rfl dX9_part_54 ?_
              refine m_lastN 54 39 10 dX9_part_55 rfl (by omega) (by decide) (wsA_54 _ _ _ _ _) ?_
              refine g_aload_n (i := 0) dX9_part_56 rfl rfl ?_
              refine m_get 53 dX9_part_57 (List.mem_of_getElem? (i := 4) rfl) (fun w h => List.mem_cons_of_mem _ (List.mem_append_right _ h)) (by decide) rfl ?_
              refine g_iload dX9_part_60 rfl ?_
              refine g_aload_n (i := 0) dX9_part_62 rfl rfl ?_
              refine g_iload_n (i := 1) dX9_part_63 rfl rfl ?_
              refine g_iload dX9_part_64 rfl ?_
              refine g_callVf 2 0 gX9_part_X9_pledged rfl rfl rfl ⟨Nat.le_of_ble_eq_true rfl, Nat.le_of_ble_eq_true rfl⟩ ⟨Nat.le_of_ble_eq_true rfl, Nat.le_of_ble_eq_true rfl⟩ (by exact Nat.le_of_ble_eq_true rfl) (by decide +kernel) rfl rfl rfl dX9_part_66 (M_pledged _ D cy a _ (ptI1 hI _ _) _ _ (vpi10 (by with_reducible assumption)) (vp_in_nI (by with_reducible assumption) (by decide))) rfl (fun vu_18 wu_18 hu_18 => ?_)
              obtain ⟨rfl, rfl⟩ := hu_18
              refine m_lastN 53 38 10 dX9_part_69 rfl (by omega) (by decide) (wsA_53 _ _ _ _ _) ?_
              refine g_iinc (1) dX9_part_70 rfl rfl (by decide) ?_
              refine g_goto 41 dX9_part_73 (by decide) ?_
              refine g_to _ _ (ihi9 (trivial)) rfl (by refine ⟨(by first | rfl | (rw [← nI_1]; rfl) | (rw [← nI_1]; rfl)), (by first | rfl | (rw [← nI_1]; rfl) | (rw [← nI_1]; rfl)), (by first | rfl | (rw [← nI_1]; rfl) | (rw [← nI_1]; rfl)), (by first | rfl | (rw [← nI_1]; rfl) | (rw [← nI_1]; rfl)), (by first | rfl | (rw [← nI_1]; rfl) | (rw [← nI_1]; rfl)), trivial⟩)
        · skip
          refine g_if_ne 38 dX9_part_27 (by decide) (fun h9 => absurd h9 (by decide)) (fun _ => ?_)
          refine g_aload_n (i := 0) dX9_part_30 rfl rfl ?_
          refine g_ldc2 (-1000000000001) (List.mem_of_getElem? (i := 2) rfl) dX9_part_31 ?_
          refine g_callVf 1 0 gX9_part_X9_finding rfl rfl rfl ⟨Nat.le_of_ble_eq_true rfl, Nat.le_of_ble_eq_true rfl⟩ ⟨Nat.le_of_ble_eq_true rfl, Nat.le_of_ble_eq_true rfl⟩ (by exact Nat.le_of_ble_eq_true rfl) (by decide +kernel) rfl rfl rfl dX9_part_34 (M_finding _ D cy a _ _ (by unfold vp_in; decide)) rfl (fun vu_20 wu_20 hu_20 => ?_)
          obtain ⟨rfl, rfl⟩ := hu_20
          refine g_lret dX9_part_37 ?_
          unfold mf_part; rw [if_neg (fun h9 => by first | exact absurd h9.1 (by with_reducible assumption) | exact absurd h9.2.1 (by with_reducible assumption) | exact absurd (by with_reducible assumption) h9.2.2.1 | exact absurd h9.2.2.2 (by with_reducible assumption))]; with_reducible exact ⟨rfl, rfl⟩
    · skip
      refine g_if_eq 30 dX9_part_11 (by decide) (fun _ => ?_) (fun h9 => absurd h9 (by decide))
      refine g_aload_n (i := 0) dX9_part_30 rfl rfl ?_
      refine g_ldc2 (-1000000000001) (List.mem_of_getElem? (i := 2) rfl) dX9_part_31 ?_
      refine g_callVf 1 0 gX9_part_X9_finding rfl rfl rfl ⟨Nat.le_of_ble_eq_true rfl, Nat.le_of_ble_eq_true rfl⟩ ⟨Nat.le_of_ble_eq_true rfl, Nat.le_of_ble_eq_true rfl⟩ (by exact Nat.le_of_ble_eq_true rfl) (by decide +kernel) rfl rfl rfl dX9_part_34 (M_finding _ D cy a _ _ (by unfold vp_in; decide)) rfl (fun vu_22 wu_22 hu_22 => ?_)
      obtain ⟨rfl, rfl⟩ := hu_22
      refine g_lret dX9_part_37 ?_
      unfold mf_part; rw [if_neg (fun h9 => by first | exact absurd h9.1 (by with_reducible assumption) | exact absurd h9.2.1 (by with_reducible assumption) | exact absurd (by with_reducible assumption) h9.2.2.1 | exact absurd h9.2.2.2 (by with_reducible assumption))]; with_reducible exact ⟨rfl, rfl⟩
  · skip
    refine g_if_eq 30 dX9_part_4 (by decide) (fun _ => ?_) (fun h9 => absurd h9 (by decide))
    refine g_aload_n (i := 0) dX9_part_30 rfl rfl ?_
    refine g_ldc2 (-1000000000001) (List.mem_of_getElem? (i := 2) rfl) dX9_part_31 ?_
    refine g_callVf 1 0 gX9_part_X9_finding rfl rfl rfl ⟨Nat.le_of_ble_eq_true rfl, Nat.le_of_ble_eq_true rfl⟩ ⟨Nat.le_of_ble_eq_true rfl, Nat.le_of_ble_eq_true rfl⟩ (by exact Nat.le_of_ble_eq_true rfl) (by decide +kernel) rfl rfl rfl dX9_part_34 (M_finding _ D cy a _ _ (by unfold vp_in; decide)) rfl (fun vu_24 wu_24 hu_24 => ?_)
    obtain ⟨rfl, rfl⟩ := hu_24
    refine g_lret dX9_part_37 ?_
    unfold mf_part; rw [if_neg (fun h9 => by first | exact absurd h9.1 (by with_reducible assumption) | exact absurd h9.2.1 (by with_reducible assumption) | exact absurd (by with_reducible assumption) h9.2.2.1 | exact absurd h9.2.2.2 (by with_reducible assumption))]; with_reducible exact ⟨rfl, rfl⟩

