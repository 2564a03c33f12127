theorem mgo0 {T : MS} (h36 : T.1 36 = 0) (h39 : T.1 39 = 0) : mf_go T = sI (goI T) 40 0 := by
  have hm : mat T (T.1 39) = -1 := by
    unfold mat
    rw [h36, h39, if_pos (by decide)]
  have hs : T = skR 401 T := skR0 (X := skR 401 T) (f := 401) (by rw [hm]; decide) rfl
  unfold mf_go
  rw [← hs]
  unfold goB
  have hc : goc T = -1 := hm
  rw [if_neg (by rw [hc]; decide)]
set_option maxHeartbeats 4000000 in
set_option maxRecDepth 100000 in
/-- no text -/
theorem M_text0 (l : Launch) (D : va_G) (cy : Nat → ClassId) (a : Nat → Nat) (S : MS) (h40 : S.1 40 = 0) : Ct l D clx (tyx cy) yX9_text wsX9_text (rmD 1) 0 0 [.ref (a 0)] (MW cy a S) (fun r9 w9 => (r9 = some (.int 1) ∧ True ∧ w9 = MW cy a S) ∨ (r9 = some (.int 0) ∧ False ∧ w9 = MW cy a S)) := by
  refine g_start (cc := cX9_text) (maxL := 2) (ret := (some .boolean)) (by decide) rfl (Nat.le_of_ble_eq_true rfl) (fun v w1 h => by rcases h with ⟨rfl, -, -⟩ | ⟨rfl, -, -⟩ <;> exact ⟨.boolean, rfl, rfl⟩) (fun Γ hlΓ => ?_)
  subst hlΓ
  refine g_aload_n (i := 0) dX9_text_0 rfl rfl ?_
  refine m_get 40 dX9_text_1 (List.mem_of_getElem? (i := 1) rfl) (fun w h => List.mem_cons_of_mem _ (List.mem_append_right _ h)) (by decide) rfl ?_
  refine g_if_ne 9 dX9_text_4 (by decide) (fun c_1 => ?_) (fun c_1 => ?_)
  · skip
    exact absurd h40 c_1
  · skip
    refine g_iconst (1) rfl dX9_text_7 ?_
    refine g_iret dX9_text_8 ?_
    exact Or.inl ⟨rfl, trivial, rfl⟩

set_option maxHeartbeats 4000000 in
set_option maxRecDepth 100000 in
/-- read of an empty tape -/
theorem M_read0 (l : Launch) (D : va_G) (cy : Nat → ClassId) (a : Nat → Nat) (S : MS) (hI : minv S) (h36 : S.1 36 = 0) : Ct l D clx (tyx cy) yX9_read wsX9_read (rmD 3) 0 0 [.ref (a 0)] (MW cy a S) (fun r9 w9 => ∃ S9, r9 = some (.long (0 : Int32).toInt64) ∧ w9 = MW cy a S9) := by
  refine g_start (cc := cX9_read) (maxL := 3) (ret := some .long) (by decide) rfl (Nat.le_of_ble_eq_true rfl) (fun v w1 h => by obtain ⟨_, rfl, -⟩ := h; exact rfl) (fun Γ hlΓ => ?_)
  subst hlΓ
  have hT9 : tpI (sI (sI (sL S 37 (-1)) 29 0) 39 0) 401 := ⟨hI, by show 0 ≤ (0 : Int32).toInt; decide, by show (0 : Int32).toInt ≤ (S.1 36).toInt; rw [h36] <;> decide, by show (S.1 36).toInt - (0 : Int32).toInt < 401; rw [h36]; decide⟩
  refine g_aload_n (i := 0) dX9_read_0 rfl rfl ?_
  refine g_ldc2 (-1) (List.mem_of_getElem? (i := 1) rfl) dX9_read_1 ?_
  refine m_putl 37 dX9_read_4 (List.mem_of_getElem? (i := 2) rfl) (fun w h => List.mem_cons_of_mem _ (List.mem_append_right _ h)) (by decide) rfl rfl rfl (wsI_37 _ _ _ _) ?_
  refine g_aload_n (i := 0) dX9_read_7 rfl rfl ?_
  refine g_iconst (0) rfl dX9_read_8 ?_
  refine m_puti 29 dX9_read_9 (List.mem_of_getElem? (i := 3) rfl) (fun w h => List.mem_cons_of_mem _ (List.mem_append_right _ h)) (by decide) rfl rfl rfl (wsI_29 _ _ _ _) ?_
  refine g_aload_n (i := 0) dX9_read_12 rfl rfl ?_
  refine g_iconst (0) rfl dX9_read_13 ?_
  refine m_puti 39 dX9_read_14 (List.mem_of_getElem? (i := 4) rfl) (fun w h => List.mem_cons_of_mem _ (List.mem_append_right _ h)) (by decide) rfl rfl rfl (wsI_39 _ _ _ _) ?_
  refine g_aload_n (i := 0) dX9_read_17 rfl rfl ?_
  refine g_callVf 0 0 gX9_read_X9_go rfl rfl rfl ⟨Nat.le_of_ble_eq_true rfl, Nat.le_of_ble_eq_true rfl⟩ ⟨Nat.le_of_ble_eq_true rfl, Nat.le_of_ble_eq_true rfl⟩ (by exact Nat.le_of_ble_eq_true rfl) (by decide +kernel) rfl rfl rfl dX9_read_18 (M_go _ D cy a _ hT9) rfl (fun vu_1 wu_1 hu_1 => ?_)
  obtain ⟨rfl, rfl⟩ := hu_1
  rw [mgo0 (T := sI (sI (sL S 37 (-1)) 29 0) 39 0) h36 rfl]
  refine g_aload_n (i := 0) dX9_read_21 rfl rfl ?_
  refine g_callVf 0 0 gX9_read_X9_text rfl rfl rfl ⟨Nat.le_of_ble_eq_true rfl, Nat.le_of_ble_eq_true rfl⟩ ⟨Nat.le_of_ble_eq_true rfl, Nat.le_of_ble_eq_true rfl⟩ (by exact Nat.le_of_ble_eq_true rfl) (by decide +kernel) rfl rfl rfl dX9_read_22 (M_text0 _ D cy a _ rfl) rfl (fun vu_2 wu_2 hu_2 => ?_)
  rcases hu_2 with ⟨rfl, hu_2, rfl⟩ | ⟨rfl, hu_2, rfl⟩
  · skip
    refine g_istore_n (i := 1) dX9_read_25 rfl (by decide) ?_
    refine g_aload_n (i := 0) dX9_read_26 rfl rfl ?_
    refine g_iconst (0) rfl dX9_read_27 ?_
    refine m_puti 36 dX9_read_28 (List.mem_of_getElem? (i := 5) rfl) (fun w h => List.mem_cons_of_mem _ (List.mem_append_right _ h)) (by decide) rfl rfl rfl (wsI_36 _ _ _ _) ?_
    refine g_iload_n (i := 1) dX9_read_31 rfl rfl ?_
    refine g_if_ne 43 dX9_read_32 (by decide) (fun _ => ?_) (fun h9 => absurd h9 (by decide))
    refine g_aload_n (i := 0) dX9_read_43 rfl rfl ?_
    refine g_aload_n (i := 0) dX9_read_44 rfl rfl ?_
    refine m_get 29 dX9_read_45 (List.mem_of_getElem? (i := 3) rfl) (fun w h => List.mem_cons_of_mem _ (List.mem_append_right _ h)) (by decide) rfl ?_
    refine m_puti 23 dX9_read_48 (List.mem_of_getElem? (i := 7) rfl) (fun w h => List.mem_cons_of_mem _ (List.mem_append_right _ h)) (by decide) rfl rfl rfl (wsI_23 _ _ _ _) ?_
    refine g_iconst (0) rfl dX9_read_51 ?_
    refine g_istore_n (i := 2) dX9_read_52 rfl (by decide) ?_
    refine g_whl (σ := Nat × MS) (fun x => 8 - x.1) (fun x => x.1 ≤ 8 ∧ x.2.1 23 = 0) (fun x => MW cy a x.2) (fun x => [(0, .ref (a 0)), (2, .int (nI x.1))]) (0, (sI (sI (sI (goI (sI (sI (sL S 37 (-1)) 29 0) 39 0)) 40 0) 36 0) 23 0)) ⟨Nat.zero_le _, rfl⟩ rfl ⟨rfl, rfl, trivial⟩ (fun x gx ih => ?_)
    obtain ⟨i, U⟩ := x
    obtain ⟨hi, hU⟩ := gx
    replace hi : i ≤ 8 := hi
    replace hU : U.1 23 = 0 := hU
    by_cases hlti : i < 8
    · refine g_nrm [(0, .ref (a 0)), (2, .int (nI i))] ⟨rfl, rfl, trivial⟩ ?_
      refine g_iload_n (i := 2) dX9_read_53 rfl rfl ?_
      refine g_bipush (8) rfl dX9_read_54 ?_
      refine g_icmp_ge 89 dX9_read_56 (by decide) (fun c_5 => ?_) (fun c_5 => ?_)
      · skip
        exact absurd c_5 (nI_ge (b := 8) hlti (by decide))
      · skip
        refine g_aload_n (i := 0) dX9_read_59 rfl rfl ?_
        refine m_get 24 dX9_read_60 (List.mem_of_getElem? (i := 8) rfl) (fun w h => List.mem_cons_of_mem _ (List.mem_append_right _ h)) (by decide) rfl ?_
        refine g_iload_n (i := 2) dX9_read_63 rfl rfl ?_
        refine g_aload_n (i := 0) dX9_read_64 rfl rfl ?_
        refine m_get 30 dX9_read_65 (List.mem_of_getElem? (i := 9) rfl) (fun w h => List.mem_cons_of_mem _ (List.mem_append_right _ h)) (by decide) rfl ?_
        refine g_iload_n (i := 2) dX9_read_68 rfl rfl ?_
        refine m_zaldN 30 25 8 dX9_read_69 rfl (by omega) (by decide) ?_
        refine m_zastN 24 20 8 dX9_read_70 rfl (by omega) (by decide) (wsA_24 _ _ _ _ _) ?_
        refine g_aload_n (i := 0) dX9_read_71 rfl rfl ?_
        refine m_get 25 dX9_read_72 (List.mem_of_getElem? (i := 10) rfl) (fun w h => List.mem_cons_of_mem _ (List.mem_append_right _ h)) (by decide) rfl ?_
        refine g_iload_n (i := 2) dX9_read_75 rfl rfl ?_
        refine g_aload_n (i := 0) dX9_read_76 rfl rfl ?_
        refine m_get 31 dX9_read_77 (List.mem_of_getElem? (i := 11) rfl) (fun w h => List.mem_cons_of_mem _ (List.mem_append_right _ h)) (by decide) rfl ?_
        refine g_iload_n (i := 2) dX9_read_80 rfl rfl ?_
        refine m_ialdN 31 26 8 dX9_read_81 rfl (by omega) (by decide) ?_
        refine m_iastN 25 21 8 dX9_read_82 rfl (by omega) (by decide) (wsA_25 _ _ _ _ _) ?_
        refine g_iinc (1) dX9_read_83 rfl rfl (by decide) ?_
        refine g_goto 53 dX9_read_86 (by decide) ?_
        exact g_to _ _ (ih (i + 1, _) ⟨by show i + 1 ≤ 8; omega, by assumption⟩ (by show 8 - (i + 1) < 8 - i; omega)) rfl ⟨rfl, (by rw [← nI_1]; rfl), trivial⟩
    · refine g_nrm [(0, .ref (a 0)), (2, .int (nI i))] ⟨rfl, rfl, trivial⟩ ?_
      refine g_iload_n (i := 2) dX9_read_53 rfl rfl ?_
      refine g_bipush (8) rfl dX9_read_54 ?_
      refine g_icmp_ge 89 dX9_read_56 (by decide) (fun c_6 => ?_) (fun c_6 => ?_)
      · skip
        refine g_iconst (0) rfl dX9_read_89 ?_
        refine g_istore_n (i := 2) dX9_read_90 rfl (by decide) ?_
        refine g_whl (σ := Nat × MS) (fun x => 32 - x.1) (fun x => x.1 ≤ 32 ∧ x.2.1 23 = 0) (fun x => MW cy a x.2) (fun x => [(0, .ref (a 0)), (2, .int (nI x.1))]) (0, U) ⟨Nat.zero_le _, hU⟩ rfl ⟨rfl, rfl, trivial⟩ (fun x gx ih => ?_)
        obtain ⟨j, V⟩ := x
        obtain ⟨hj, hV⟩ := gx
        replace hj : j ≤ 32 := hj
        replace hV : V.1 23 = 0 := hV
        by_cases hltj : j < 32
        · refine g_nrm [(0, .ref (a 0)), (2, .int (nI j))] ⟨rfl, rfl, trivial⟩ ?_
          refine g_iload_n (i := 2) dX9_read_91 rfl rfl ?_
          refine g_bipush (32) rfl dX9_read_92 ?_
          refine g_icmp_ge 139 dX9_read_94 (by decide) (fun c_8 => ?_) (fun c_8 => ?_)
          · skip
            exact absurd c_8 (nI_ge (b := 32) hltj (by decide))
          · skip
            refine g_aload_n (i := 0) dX9_read_97 rfl rfl ?_
            refine m_get 26 dX9_read_98 (List.mem_of_getElem? (i := 12) rfl) (fun w h => List.mem_cons_of_mem _ (List.mem_append_right _ h)) (by decide) rfl ?_
            refine g_iload_n (i := 2) dX9_read_101 rfl rfl ?_
            refine g_aload_n (i := 0) dX9_read_102 rfl rfl ?_
            refine m_get 32 dX9_read_103 (List.mem_of_getElem? (i := 13) rfl) (fun w h => List.mem_cons_of_mem _ (List.mem_append_right _ h)) (by decide) rfl ?_
            refine g_iload_n (i := 2) dX9_read_106 rfl rfl ?_
            refine m_ialdN 32 27 32 dX9_read_107 rfl (by omega) (by decide) ?_
            refine m_iastN 26 22 32 dX9_read_108 rfl (by omega) (by decide) (wsA_26 _ _ _ _ _) ?_
            refine g_aload_n (i := 0) dX9_read_109 rfl rfl ?_
            refine m_get 27 dX9_read_110 (List.mem_of_getElem? (i := 14) rfl) (fun w h => List.mem_cons_of_mem _ (List.mem_append_right _ h)) (by decide) rfl ?_
            refine g_iload_n (i := 2) dX9_read_113 rfl rfl ?_
            refine g_aload_n (i := 0) dX9_read_114 rfl rfl ?_
            refine m_get 33 dX9_read_115 (List.mem_of_getElem? (i := 15) rfl) (fun w h => List.mem_cons_of_mem _ (List.mem_append_right _ h)) (by decide) rfl ?_
            refine g_iload_n (i := 2) dX9_read_118 rfl rfl ?_
            refine m_ialdN 33 28 32 dX9_read_119 rfl (by omega) (by decide) ?_
            refine m_iastN 27 23 32 dX9_read_120 rfl (by omega) (by decide) (wsA_27 _ _ _ _ _) ?_
            refine g_aload_n (i := 0) dX9_read_121 rfl rfl ?_
            refine m_get 28 dX9_read_122 (List.mem_of_getElem? (i := 16) rfl) (fun w h => List.mem_cons_of_mem _ (List.mem_append_right _ h)) (by decide) rfl ?_
            refine g_iload_n (i := 2) dX9_read_125 rfl rfl ?_
            refine g_aload_n (i := 0) dX9_read_126 rfl rfl ?_
            refine m_get 34 dX9_read_127 (List.mem_of_getElem? (i := 17) rfl) (fun w h => List.mem_cons_of_mem _ (List.mem_append_right _ h)) (by decide) rfl ?_
            refine g_iload_n (i := 2) dX9_read_130 rfl rfl ?_
            refine m_ialdN 34 29 32 dX9_read_131 rfl (by omega) (by decide) ?_
            refine m_iastN 28 24 32 dX9_read_132 rfl (by omega) (by decide) (wsA_28 _ _ _ _ _) ?_
            refine g_iinc (1) dX9_read_133 rfl rfl (by decide) ?_
            refine g_goto 91 dX9_read_136 (by decide) ?_
            exact g_to _ _ (ih (j + 1, _) ⟨by show j + 1 ≤ 32; omega, by assumption⟩ (by show 32 - (j + 1) < 32 - j; omega)) rfl ⟨rfl, (by rw [← nI_1]; rfl), trivial⟩
        · refine g_nrm [(0, .ref (a 0)), (2, .int (nI j))] ⟨rfl, rfl, trivial⟩ ?_
          refine g_iload_n (i := 2) dX9_read_91 rfl rfl ?_
          refine g_bipush (32) rfl dX9_read_92 ?_
          refine g_icmp_ge 139 dX9_read_94 (by decide) (fun c_9 => ?_) (fun c_9 => ?_)
          · skip
            refine g_aload_n (i := 0) dX9_read_139 rfl rfl ?_
            refine m_get 23 dX9_read_140 (List.mem_of_getElem? (i := 7) rfl) (fun w h => List.mem_cons_of_mem _ (List.mem_append_right _ h)) (by decide) rfl ?_
            refine g_i2l dX9_read_143 ?_
            refine g_lret dX9_read_144 ?_
            exact ⟨V, congrArg (fun z => some (Value.long z)) (congrArg Int32.toInt64 hV), rfl⟩
          · skip
            exact absurd (nI_le (a := 32) (b := j) (by omega) (by omega)) c_9
      · skip
        exact absurd (nI_le (a := 8) (b := i) (by omega) (by omega)) c_6
  · exact absurd hu_2 id

