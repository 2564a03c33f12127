theorem mrec4 {S : MS} (hI : minv S) {b i : Int32} (hb : vp_in b 40) (h : -1 ≤ i ∧ i ≤ S.2.2.1 11 b.toNatClampNeg - 1) (h0 : 0 ≤ i) : vp_in i 4 := by
  have h2 := hI.2.2.2.2.1 _ (vp_nat hb)
  have h3 := h.2
  rw [Int32.le_iff_toInt_le] at h3 h0
  have e0 : (0 : Int32).toInt = 0 := by decide
  have e1 : (S.2.2.1 11 b.toNatClampNeg - 1).toInt = (S.2.2.1 11 b.toNatClampNeg).toInt - 1 := by
    rw [Int32.toInt_sub]
    have : (1 : Int32).toInt = 1 := by decide
    rw [this]
    apply Int.bmod_eq_of_le <;> omega
  rw [vp_in_iff]
  omega
theorem mendo {S : MS} (hI : minv S) {b i : Int32} (hb : vp_in b 40) (hi : vp_in i 4) : vp_in (S.2.2.1 12 (4 * b + i).toNatClampNeg) 10 := hI.2.2.2.2.2.2.1 _ (vp_nat (ix160 hb hi))

set_option maxHeartbeats 4000000 in
set_option maxRecDepth 100000 in
/-- recourse -/
theorem M_recourse (l : Launch) (D : va_G) (cy : Nat → ClassId) (a : Nat → Nat) (S : MS) (hI : minv S) (b i : Int32) : Ct l D clx (tyx cy) yX9_recourse wsX9_recourse (rmD 3) 0 0 [.ref (a 0), .int b, .int i] (MW cy a S) (fun r9 w9 => r9 = some (.long (mf_recourse S b i).1) ∧ w9 = MW cy a (mf_recourse S b i).2) := by
  refine g_start (cc := cX9_recourse) (maxL := 6) (ret := (some .long)) (by decide) rfl (Nat.le_of_ble_eq_true rfl) (fun v w1 h => by obtain ⟨rfl, -⟩ := h; exact rfl) (fun Γ hlΓ => ?_)
  subst hlΓ
  refine g_aload_n (i := 0) dX9_recourse_0 rfl rfl ?_
  refine g_iload_n (i := 1) dX9_recourse_1 rfl rfl ?_
  refine g_callVf 1 0 gX9_recourse_X9_isBill rfl rfl rfl ⟨Nat.le_of_ble_eq_true rfl, Nat.le_of_ble_eq_true rfl⟩ ⟨Nat.le_of_ble_eq_true rfl, Nat.le_of_ble_eq_true rfl⟩ (by exact Nat.le_of_ble_eq_true rfl) (by decide +kernel) rfl rfl rfl dX9_recourse_2 (M_isBill _ D cy a _ _) rfl (fun vu_1 wu_1 hu_1 => ?_)
  rcases hu_1 with ⟨rfl, hu_1, rfl⟩ | ⟨rfl, hu_1, rfl⟩
  · skip
    refine g_if_ne 16 dX9_recourse_5 (by decide) (fun _ => ?_) (fun h9 => absurd h9 (by decide))
    refine g_aload_n (i := 0) dX9_recourse_16 rfl rfl ?_
    refine m_get 10 dX9_recourse_17 (List.mem_of_getElem? (i := 2) rfl) (fun w h => List.mem_cons_of_mem _ (List.mem_append_right _ h)) (by decide) rfl ?_
    refine g_iload_n (i := 1) dX9_recourse_20 rfl rfl ?_
    refine m_iald 10 8 40 dX9_recourse_21 rfl (mbill hI (by assumption)) ?_
    refine g_iconst (3) rfl dX9_recourse_22 ?_
    refine g_icmp_eq 34 dX9_recourse_23 (by decide) (fun c_3 => ?_) (fun c_3 => ?_)
    · skip
      refine g_iload_n (i := 2) dX9_recourse_34 rfl rfl ?_
      refine g_iconst (-1) rfl dX9_recourse_35 ?_
      refine g_aload_n (i := 0) dX9_recourse_36 rfl rfl ?_
      refine m_get 11 dX9_recourse_37 (List.mem_of_getElem? (i := 4) rfl) (fun w h => List.mem_cons_of_mem _ (List.mem_append_right _ h)) (by decide) rfl ?_
      refine g_iload_n (i := 1) dX9_recourse_40 rfl rfl ?_
      refine m_iald 11 9 40 dX9_recourse_41 rfl (mbill hI (by assumption)) ?_
      refine g_iconst (1) rfl dX9_recourse_42 ?_
      refine g_isub dX9_recourse_43 ?_
      refine g_callSf 3 gX9_recourse_X9_in rfl rfl rfl ⟨Nat.le_of_ble_eq_true rfl, Nat.le_of_ble_eq_true rfl⟩ ⟨Nat.le_of_ble_eq_true rfl, Nat.le_of_ble_eq_true rfl⟩ (by exact Nat.le_of_ble_eq_true rfl) (by decide +kernel) rfl dX9_recourse_44 (M_in _ D cy a _ _ _ _) rfl (fun vu_4 wu_4 hu_4 => ?_)
      rcases hu_4 with ⟨rfl, hu_4, rfl⟩ | ⟨rfl, hu_4, rfl⟩
      · skip
        refine g_if_ne 58 dX9_recourse_47 (by decide) (fun _ => ?_) (fun h9 => absurd h9 (by decide))
        refine g_iload_n (i := 2) dX9_recourse_58 rfl rfl ?_
        refine g_if_ge 71 dX9_recourse_59 (by decide) (fun c_6 => ?_) (fun c_6 => ?_)
        · skip
          have hm9 : mhs S b i = S.2.2.1 12 (4 * b + i).toNatClampNeg := if_pos c_6
          refine g_aload_n (i := 0) dX9_recourse_71 rfl rfl ?_
          refine m_get 12 dX9_recourse_72 (List.mem_of_getElem? (i := 7) rfl) (fun w h => List.mem_cons_of_mem _ (List.mem_append_right _ h)) (by decide) rfl ?_
          refine g_iconst (4) rfl dX9_recourse_75 ?_
          refine g_iload_n (i := 1) dX9_recourse_76 rfl rfl ?_
          refine g_imul dX9_recourse_77 ?_
          refine g_iload_n (i := 2) dX9_recourse_78 rfl rfl ?_
          refine g_iadd dX9_recourse_79 ?_
          refine m_iald 12 10 160 dX9_recourse_80 rfl (ix160 (mbill hI (by assumption)) (mrec4 hI (mbill hI (by assumption)) (by assumption) (by assumption))) ?_
          refine g_istore_n (i := 3) dX9_recourse_81 rfl (by decide) ?_
          refine g_aload_n (i := 0) dX9_recourse_82 rfl rfl ?_
          refine m_get 13 dX9_recourse_83 (List.mem_of_getElem? (i := 8) rfl) (fun w h => List.mem_cons_of_mem _ (List.mem_append_right _ h)) (by decide) rfl ?_
          refine g_iconst (5) rfl dX9_recourse_86 ?_
          refine g_iload_n (i := 1) dX9_recourse_87 rfl rfl ?_
          refine g_imul dX9_recourse_88 ?_
          refine g_iconst (3) rfl dX9_recourse_89 ?_
          refine g_iadd dX9_recourse_90 ?_
          refine m_lald 13 11 200 dX9_recourse_91 rfl (ix200 (mbill hI (by assumption)) (by unfold vp_in; decide)) ?_
          refine g_aload_n (i := 0) dX9_recourse_92 rfl rfl ?_
          refine m_get 13 dX9_recourse_93 (List.mem_of_getElem? (i := 8) rfl) (fun w h => List.mem_cons_of_mem _ (List.mem_append_right _ h)) (by decide) rfl ?_
          refine g_iconst (5) rfl dX9_recourse_96 ?_
          refine g_iload_n (i := 1) dX9_recourse_97 rfl rfl ?_
          refine g_imul dX9_recourse_98 ?_
          refine g_iconst (2) rfl dX9_recourse_99 ?_
          refine g_iadd dX9_recourse_100 ?_
          refine m_lald 13 11 200 dX9_recourse_101 rfl (ix200 (mbill hI (by assumption)) (by unfold vp_in; decide)) ?_
          refine g_lsub dX9_recourse_102 ?_
          refine g_lstore dX9_recourse_103 (by decide) ?_
          refine g_iload_n (i := 2) dX9_recourse_105 rfl rfl ?_
          refine g_if_lt 150 dX9_recourse_106 (by decide) (fun c_7 => ?_) (fun c_7 => ?_)
          · skip
            refine g_aload_n (i := 0) dX9_recourse_150 rfl rfl ?_
            refine g_iload_n (i := 3) dX9_recourse_151 rfl rfl ?_
            refine g_aload_n (i := 0) dX9_recourse_152 rfl rfl ?_
            refine m_get 8 dX9_recourse_153 (List.mem_of_getElem? (i := 14) rfl) (fun w h => List.mem_cons_of_mem _ (List.mem_append_right _ h)) (by decide) rfl ?_
            refine g_iload_n (i := 1) dX9_recourse_156 rfl rfl ?_
            refine m_iald 8 6 40 dX9_recourse_157 rfl (mbill hI (by assumption)) ?_
            refine g_aload_n (i := 0) dX9_recourse_158 rfl rfl ?_
            refine m_get 9 dX9_recourse_159 (List.mem_of_getElem? (i := 9) rfl) (fun w h => List.mem_cons_of_mem _ (List.mem_append_right _ h)) (by decide) rfl ?_
            refine g_iload_n (i := 1) dX9_recourse_162 rfl rfl ?_
            refine m_iald 9 7 40 dX9_recourse_163 rfl (mbill hI (by assumption)) ?_
            refine g_i2l dX9_recourse_164 ?_
            refine g_callVf 3 0 gX9_recourse_X9_isTooMuch rfl rfl rfl ⟨Nat.le_of_ble_eq_true rfl, Nat.le_of_ble_eq_true rfl⟩ ⟨Nat.le_of_ble_eq_true rfl, Nat.le_of_ble_eq_true rfl⟩ (by exact Nat.le_of_ble_eq_true rfl) (by decide +kernel) rfl rfl rfl dX9_recourse_165 (M_isTooMuch _ D cy a _ _ _ _ (by first | with_reducible exact (mhol hI (mbill hI (by assumption))).1 | exact mendo hI (mbill hI (by assumption)) (mrec4 hI (mbill hI (by assumption)) (by assumption) (by assumption))) (mhol hI (mbill hI (by assumption))).2.2.1) rfl (fun vu_8 wu_8 hu_8 => ?_)
            rcases hu_8 with ⟨rfl, hu_8, rfl⟩ | ⟨rfl, hu_8, rfl⟩
            · skip
              refine g_if_eq 179 dX9_recourse_168 (by decide) (fun h9 => absurd h9 (by decide)) (fun _ => ?_)
              refine g_aload_n (i := 0) dX9_recourse_171 rfl rfl ?_
              refine g_ldc2 (-1000000000004) (List.mem_of_getElem? (i := 15) rfl) dX9_recourse_172 ?_
              refine g_callVf 1 0 gX9_recourse_X9_finding rfl rfl rfl ⟨Nat.le_of_ble_eq_true rfl, Nat.le_of_ble_eq_true rfl⟩ ⟨Nat.le_of_ble_eq_true rfl, Nat.le_of_ble_eq_true rfl⟩ (by exact Nat.le_of_ble_eq_true rfl) (by decide +kernel) rfl rfl rfl dX9_recourse_175 (M_finding _ D cy a _ _ (by unfold vp_in; decide)) rfl (fun vu_10 wu_10 hu_10 => ?_)
              obtain ⟨rfl, rfl⟩ := hu_10
              refine g_lret dX9_recourse_178 ?_
              unfold mf_recourse; rw [hm9]; unfold mroad; (repeat' split) <;> first | contradiction | (with_reducible exact ⟨rfl, rfl⟩) | (exfalso; exact absurd (by assumption) (Int32.not_le.mpr (by assumption))) | (exfalso; exact absurd (Int32.not_lt.mp (by assumption)) (by assumption)) | (exfalso; simp_all; done)
            · skip
              refine g_if_eq 179 dX9_recourse_168 (by decide) (fun _ => ?_) (fun h9 => absurd h9 (by decide))
              refine g_aload_n (i := 0) dX9_recourse_179 rfl rfl ?_
              refine g_iload_n (i := 3) dX9_recourse_180 rfl rfl ?_
              refine g_aload_n (i := 0) dX9_recourse_181 rfl rfl ?_
              refine m_get 8 dX9_recourse_182 (List.mem_of_getElem? (i := 14) rfl) (fun w h => List.mem_cons_of_mem _ (List.mem_append_right _ h)) (by decide) rfl ?_
              refine g_iload_n (i := 1) dX9_recourse_185 rfl rfl ?_
              refine m_iald 8 6 40 dX9_recourse_186 rfl (mbill hI (by assumption)) ?_
              refine g_aload_n (i := 0) dX9_recourse_187 rfl rfl ?_
              refine m_get 9 dX9_recourse_188 (List.mem_of_getElem? (i := 9) rfl) (fun w h => List.mem_cons_of_mem _ (List.mem_append_right _ h)) (by decide) rfl ?_
              refine g_iload_n (i := 1) dX9_recourse_191 rfl rfl ?_
              refine m_iald 9 7 40 dX9_recourse_192 rfl (mbill hI (by assumption)) ?_
              refine g_i2l dX9_recourse_193 ?_
              refine g_callVf 3 0 gX9_recourse_X9_comesToOwe rfl rfl rfl ⟨Nat.le_of_ble_eq_true rfl, Nat.le_of_ble_eq_true rfl⟩ ⟨Nat.le_of_ble_eq_true rfl, Nat.le_of_ble_eq_true rfl⟩ (by exact Nat.le_of_ble_eq_true rfl) (by decide +kernel) rfl rfl rfl dX9_recourse_194 (M_comesToOwe _ D cy a _ _ _ _ (by first | with_reducible exact (mhol hI (mbill hI (by assumption))).1 | exact mendo hI (mbill hI (by assumption)) (mrec4 hI (mbill hI (by assumption)) (by assumption) (by assumption))) (mhol hI (mbill hI (by assumption))).2.2.1) rfl (fun vu_12 wu_12 hu_12 => ?_)
              obtain ⟨rfl, rfl⟩ := hu_12
              refine g_iload_n (i := 2) dX9_recourse_197 rfl rfl ?_
              refine g_if_ge 210 dX9_recourse_198 (by decide) (fun c_13 => ?_) (fun c_13 => ?_)
              · skip
                refine g_aload_n (i := 0) dX9_recourse_210 rfl rfl ?_
                refine m_get 8 dX9_recourse_211 (List.mem_of_getElem? (i := 14) rfl) (fun w h => List.mem_cons_of_mem _ (List.mem_append_right _ h)) (by decide) rfl ?_
                refine g_iload_n (i := 1) dX9_recourse_214 rfl rfl ?_
                refine g_iload_n (i := 3) dX9_recourse_215 rfl rfl ?_
                refine m_iast 8 6 40 dX9_recourse_216 rfl (mbill hI (by assumption)) (wsA_8 _ _ _ _ _) ?_
                refine g_aload_n (i := 0) dX9_recourse_217 rfl rfl ?_
                refine m_get 11 dX9_recourse_218 (List.mem_of_getElem? (i := 4) rfl) (fun w h => List.mem_cons_of_mem _ (List.mem_append_right _ h)) (by decide) rfl ?_
                refine g_iload_n (i := 1) dX9_recourse_221 rfl rfl ?_
                refine g_iload_n (i := 2) dX9_recourse_222 rfl rfl ?_
                refine m_iast 11 9 40 dX9_recourse_223 rfl (mbill hI (by assumption)) (wsA_11 _ _ _ _ _) ?_
                refine g_iload_n (i := 3) dX9_recourse_224 rfl rfl ?_
                refine g_i2l dX9_recourse_225 ?_
                refine g_lret dX9_recourse_226 ?_
                unfold mf_recourse; rw [hm9]; unfold mf_rec2 mroad; rw [hm9]; (repeat' split) <;> first | contradiction | (with_reducible exact ⟨rfl, rfl⟩) | (exfalso; exact absurd (by assumption) (Int32.not_le.mpr (by assumption))) | (exfalso; exact absurd (Int32.not_lt.mp (by assumption)) (by assumption)) | (exfalso; simp_all; done)
              · skip
                refine g_aload_n (i := 0) dX9_recourse_201 rfl rfl ?_
                refine g_iload_n (i := 1) dX9_recourse_202 rfl rfl ?_
                refine g_iconst (4) rfl dX9_recourse_203 ?_
                refine g_callVf 2 0 gX9_recourse_X9_becomes rfl rfl rfl ⟨Nat.le_of_ble_eq_true rfl, Nat.le_of_ble_eq_true rfl⟩ ⟨Nat.le_of_ble_eq_true rfl, Nat.le_of_ble_eq_true rfl⟩ (by exact Nat.le_of_ble_eq_true rfl) (by decide +kernel) rfl rfl rfl dX9_recourse_204 (M_becomes _ D cy a _ _ _ (by first | with_reducible assumption | exact mbill hI (by with_reducible assumption) | exact mnew hI (by with_reducible assumption)) (by unfold vp_in; decide)) rfl (fun vu_14 wu_14 hu_14 => ?_)
                obtain ⟨rfl, rfl⟩ := hu_14
                refine g_goto 224 dX9_recourse_207 (by decide) ?_
                refine g_iload_n (i := 3) dX9_recourse_224 rfl rfl ?_
                refine g_i2l dX9_recourse_225 ?_
                refine g_lret dX9_recourse_226 ?_
                unfold mf_recourse; rw [hm9]; unfold mf_rec2 mroad; rw [hm9]; (repeat' split) <;> first | contradiction | (with_reducible exact ⟨rfl, rfl⟩) | (exfalso; exact absurd (by assumption) (Int32.not_le.mpr (by assumption))) | (exfalso; exact absurd (Int32.not_lt.mp (by assumption)) (by assumption)) | (exfalso; simp_all; done)
          · skip
            refine g_aload_n (i := 0) dX9_recourse_109 rfl rfl ?_
            refine g_lload dX9_recourse_110 rfl ?_
            refine g_aload_n (i := 0) dX9_recourse_112 rfl rfl ?_
            refine m_get 9 dX9_recourse_113 (List.mem_of_getElem? (i := 9) rfl) (fun w h => List.mem_cons_of_mem _ (List.mem_append_right _ h)) (by decide) rfl ?_
            refine g_iload_n (i := 1) dX9_recourse_116 rfl rfl ?_
            refine m_iald 9 7 40 dX9_recourse_117 rfl (mbill hI (by assumption)) ?_
            refine g_iload_n (i := 2) dX9_recourse_118 rfl rfl ?_
            refine g_aload_n (i := 0) dX9_recourse_119 rfl rfl ?_
            refine m_get 5 dX9_recourse_120 (List.mem_of_getElem? (i := 10) rfl) (fun w h => List.mem_cons_of_mem _ (List.mem_append_right _ h)) (by decide) rfl ?_
            refine g_iload_n (i := 1) dX9_recourse_123 rfl rfl ?_
            refine m_iald 5 3 40 dX9_recourse_124 rfl (mbill hI (by assumption)) ?_
            refine g_aload_n (i := 0) dX9_recourse_125 rfl rfl ?_
            refine m_get 2 dX9_recourse_126 (List.mem_of_getElem? (i := 11) rfl) (fun w h => List.mem_cons_of_mem _ (List.mem_append_right _ h)) (by decide) rfl ?_
            refine g_aload_n (i := 0) dX9_recourse_129 rfl rfl ?_
            refine m_get 3 dX9_recourse_130 (List.mem_of_getElem? (i := 12) rfl) (fun w h => List.mem_cons_of_mem _ (List.mem_append_right _ h)) (by decide) rfl ?_
            refine g_iload_n (i := 3) dX9_recourse_133 rfl rfl ?_
            refine m_iald 3 2 10 dX9_recourse_134 rfl (by first | with_reducible exact (mhol hI (mbill hI (by assumption))).1 | exact mendo hI (mbill hI (by assumption)) (mrec4 hI (mbill hI (by assumption)) (by assumption) (by assumption))) ?_
            refine m_iald 2 1 5 dX9_recourse_135 rfl (mseat hI (by first | with_reducible exact (mhol hI (mbill hI (by assumption))).1 | exact mendo hI (mbill hI (by assumption)) (mrec4 hI (mbill hI (by assumption)) (by assumption) (by assumption)))) ?_
            refine g_callVf 5 0 gX9_recourse_X9_isBound rfl rfl rfl ⟨Nat.le_of_ble_eq_true rfl, Nat.le_of_ble_eq_true rfl⟩ ⟨Nat.le_of_ble_eq_true rfl, Nat.le_of_ble_eq_true rfl⟩ (by exact Nat.le_of_ble_eq_true rfl) (by decide +kernel) rfl rfl rfl dX9_recourse_136 (M_isBound _ D cy a _ hI _ _ _ _ _) rfl (fun vu_15 wu_15 hu_15 => ?_)
            obtain ⟨rfl, rfl⟩ := hu_15
            refine g_if_ne 150 dX9_recourse_139 (by decide) (fun c_16 => ?_) (fun c_16 => ?_)
            · skip
              refine g_aload_n (i := 0) dX9_recourse_150 rfl rfl ?_
              refine g_iload_n (i := 3) dX9_recourse_151 rfl rfl ?_
              refine g_aload_n (i := 0) dX9_recourse_152 rfl rfl ?_
              refine m_get 8 dX9_recourse_153 (List.mem_of_getElem? (i := 14) rfl) (fun w h => List.mem_cons_of_mem _ (List.mem_append_right _ h)) (by decide) rfl ?_
              refine g_iload_n (i := 1) dX9_recourse_156 rfl rfl ?_
              refine m_iald 8 6 40 dX9_recourse_157 rfl (mbill hI (by assumption)) ?_
              refine g_aload_n (i := 0) dX9_recourse_158 rfl rfl ?_
              refine m_get 9 dX9_recourse_159 (List.mem_of_getElem? (i := 9) rfl) (fun w h => List.mem_cons_of_mem _ (List.mem_append_right _ h)) (by decide) rfl ?_
              refine g_iload_n (i := 1) dX9_recourse_162 rfl rfl ?_
              refine m_iald 9 7 40 dX9_recourse_163 rfl (mbill hI (by assumption)) ?_
              refine g_i2l dX9_recourse_164 ?_
              refine g_callVf 3 0 gX9_recourse_X9_isTooMuch rfl rfl rfl ⟨Nat.le_of_ble_eq_true rfl, Nat.le_of_ble_eq_true rfl⟩ ⟨Nat.le_of_ble_eq_true rfl, Nat.le_of_ble_eq_true rfl⟩ (by exact Nat.le_of_ble_eq_true rfl) (by decide +kernel) rfl rfl rfl dX9_recourse_165 (M_isTooMuch _ D cy a _ _ _ _ (by first | with_reducible exact (mhol hI (mbill hI (by assumption))).1 | exact mendo hI (mbill hI (by assumption)) (mrec4 hI (mbill hI (by assumption)) (by assumption) (by assumption))) (mhol hI (mbill hI (by assumption))).2.2.1) rfl (fun vu_17 wu_17 hu_17 => ?_)
              rcases hu_17 with ⟨rfl, hu_17, rfl⟩ | ⟨rfl, hu_17, rfl⟩
              · skip
                refine g_if_eq 179 dX9_recourse_168 (by decide) (fun h9 => absurd h9 (by decide)) (fun _ => ?_)
                refine g_aload_n (i := 0) dX9_recourse_171 rfl rfl ?_
                refine g_ldc2 (-1000000000004) (List.mem_of_getElem? (i := 15) rfl) dX9_recourse_172 ?_
                refine g_callVf 1 0 gX9_recourse_X9_finding rfl rfl rfl ⟨Nat.le_of_ble_eq_true rfl, Nat.le_of_ble_eq_true rfl⟩ ⟨Nat.le_of_ble_eq_true rfl, Nat.le_of_ble_eq_true rfl⟩ (by exact Nat.le_of_ble_eq_true rfl) (by decide +kernel) rfl rfl rfl dX9_recourse_175 (M_finding _ D cy a _ _ (by unfold vp_in; decide)) rfl (fun vu_19 wu_19 hu_19 => ?_)
                obtain ⟨rfl, rfl⟩ := hu_19
                refine g_lret dX9_recourse_178 ?_
                unfold mf_recourse; rw [hm9]; unfold mroad; (repeat' split) <;> first | contradiction | (with_reducible exact ⟨rfl, rfl⟩) | (exfalso; exact absurd (by assumption) (Int32.not_le.mpr (by assumption))) | (exfalso; exact absurd (Int32.not_lt.mp (by assumption)) (by assumption)) | (exfalso; simp_all; done)
              · skip
                refine g_if_eq 179 dX9_recourse_168 (by decide) (fun _ => ?_) (fun h9 => absurd h9 (by decide))
                refine g_aload_n (i := 0) dX9_recourse_179 rfl rfl ?_
                refine g_iload_n (i := 3) dX9_recourse_180 rfl rfl ?_
                refine g_aload_n (i := 0) dX9_recourse_181 rfl rfl ?_
                refine m_get 8 dX9_recourse_182 (List.mem_of_getElem? (i := 14) rfl) (fun w h => List.mem_cons_of_mem _ (List.mem_append_right _ h)) (by decide) rfl ?_
                refine g_iload_n (i := 1) dX9_recourse_185 rfl rfl ?_
                refine m_iald 8 6 40 dX9_recourse_186 rfl (mbill hI (by assumption)) ?_
                refine g_aload_n (i := 0) dX9_recourse_187 rfl rfl ?_
                refine m_get 9 dX9_recourse_188 (List.mem_of_getElem? (i := 9) rfl) (fun w h => List.mem_cons_of_mem _ (List.mem_append_right _ h)) (by decide) rfl ?_
                refine g_iload_n (i := 1) dX9_recourse_191 rfl rfl ?_
                refine m_iald 9 7 40 dX9_recourse_192 rfl (mbill hI (by assumption)) ?_
                refine g_i2l dX9_recourse_193 ?_
                refine g_callVf 3 0 gX9_recourse_X9_comesToOwe rfl rfl rfl ⟨Nat.le_of_ble_eq_true rfl, Nat.le_of_ble_eq_true rfl⟩ ⟨Nat.le_of_ble_eq_true rfl, Nat.le_of_ble_eq_true rfl⟩ (by exact Nat.le_of_ble_eq_true rfl) (by decide +kernel) rfl rfl rfl dX9_recourse_194 (M_comesToOwe _ D cy a _ _ _ _ (by first | with_reducible exact (mhol hI (mbill hI (by assumption))).1 | exact mendo hI (mbill hI (by assumption)) (mrec4 hI (mbill hI (by assumption)) (by assumption) (by assumption))) (mhol hI (mbill hI (by assumption))).2.2.1) rfl (fun vu_21 wu_21 hu_21 => ?_)
                obtain ⟨rfl, rfl⟩ := hu_21
                refine g_iload_n (i := 2) dX9_recourse_197 rfl rfl ?_
                refine g_if_ge 210 dX9_recourse_198 (by decide) (fun c_22 => ?_) (fun c_22 => ?_)
                · skip
                  refine g_aload_n (i := 0) dX9_recourse_210 rfl rfl ?_
                  refine m_get 8 dX9_recourse_211 (List.mem_of_getElem? (i := 14) rfl) (fun w h => List.mem_cons_of_mem _ (List.mem_append_right _ h)) (by decide) rfl ?_
                  refine g_iload_n (i := 1) dX9_recourse_214 rfl rfl ?_
                  refine g_iload_n (i := 3) dX9_recourse_215 rfl rfl ?_
                  refine m_iast 8 6 40 dX9_recourse_216 rfl (mbill hI (by assumption)) (wsA_8 _ _ _ _ _) ?_
                  refine g_aload_n (i := 0) dX9_recourse_217 rfl rfl ?_
                  refine m_get 11 dX9_recourse_218 (List.mem_of_getElem? (i := 4) rfl) (fun w h => List.mem_cons_of_mem _ (List.mem_append_right _ h)) (by decide) rfl ?_
                  refine g_iload_n (i := 1) dX9_recourse_221 rfl rfl ?_
                  refine g_iload_n (i := 2) dX9_recourse_222 rfl rfl ?_
                  refine m_iast 11 9 40 dX9_recourse_223 rfl (mbill hI (by assumption)) (wsA_11 _ _ _ _ _) ?_
                  refine g_iload_n (i := 3) dX9_recourse_224 rfl rfl ?_
                  refine g_i2l dX9_recourse_225 ?_
                  refine g_lret dX9_recourse_226 ?_
                  unfold mf_recourse; rw [hm9]; unfold mf_rec2 mroad; rw [hm9]; (repeat' split) <;> first | contradiction | (with_reducible exact ⟨rfl, rfl⟩) | (exfalso; exact absurd (by assumption) (Int32.not_le.mpr (by assumption))) | (exfalso; exact absurd (Int32.not_lt.mp (by assumption)) (by assumption)) | (exfalso; simp_all; done)
                · skip
                  refine g_aload_n (i := 0) dX9_recourse_201 rfl rfl ?_
                  refine g_iload_n (i := 1) dX9_recourse_202 rfl rfl ?_
                  refine g_iconst (4) rfl dX9_recourse_203 ?_
                  refine g_callVf 2 0 gX9_recourse_X9_becomes rfl rfl rfl ⟨Nat.le_of_ble_eq_true rfl, Nat.le_of_ble_eq_true rfl⟩ ⟨Nat.le_of_ble_eq_true rfl, Nat.le_of_ble_eq_true rfl⟩ (by exact Nat.le_of_ble_eq_true rfl) (by decide +kernel) rfl rfl rfl dX9_recourse_204 (M_becomes _ D cy a _ _ _ (by first | with_reducible assumption | exact mbill hI (by with_reducible assumption) | exact mnew hI (by with_reducible assumption)) (by unfold vp_in; decide)) rfl (fun vu_23 wu_23 hu_23 => ?_)
                  obtain ⟨rfl, rfl⟩ := hu_23
                  refine g_goto 224 dX9_recourse_207 (by decide) ?_
                  refine g_iload_n (i := 3) dX9_recourse_224 rfl rfl ?_
                  refine g_i2l dX9_recourse_225 ?_
                  refine g_lret dX9_recourse_226 ?_
                  unfold mf_recourse; rw [hm9]; unfold mf_rec2 mroad; rw [hm9]; (repeat' split) <;> first | contradiction | (with_reducible exact ⟨rfl, rfl⟩) | (exfalso; exact absurd (by assumption) (Int32.not_le.mpr (by assumption))) | (exfalso; exact absurd (Int32.not_lt.mp (by assumption)) (by assumption)) | (exfalso; simp_all; done)
            · skip
              refine g_aload_n (i := 0) dX9_recourse_142 rfl rfl ?_
              refine g_ldc2 (-1000000000005) (List.mem_of_getElem? (i := 13) rfl) dX9_recourse_143 ?_
              refine g_callVf 1 0 gX9_recourse_X9_finding rfl rfl rfl ⟨Nat.le_of_ble_eq_true rfl, Nat.le_of_ble_eq_true rfl⟩ ⟨Nat.le_of_ble_eq_true rfl, Nat.le_of_ble_eq_true rfl⟩ (by exact Nat.le_of_ble_eq_true rfl) (by decide +kernel) rfl rfl rfl dX9_recourse_146 (M_finding _ D cy a _ _ (by unfold vp_in; decide)) rfl (fun vu_24 wu_24 hu_24 => ?_)
              obtain ⟨rfl, rfl⟩ := hu_24
              refine g_lret dX9_recourse_149 ?_
              unfold mf_recourse; rw [hm9]; unfold mroad; (repeat' split) <;> first | contradiction | (with_reducible exact ⟨rfl, rfl⟩) | (exfalso; exact absurd (by assumption) (Int32.not_le.mpr (by assumption))) | (exfalso; exact absurd (Int32.not_lt.mp (by assumption)) (by assumption)) | (exfalso; simp_all; done)
        · skip
          have hm9 : mhs S b i = S.2.2.1 6 b.toNatClampNeg := if_neg c_6
          refine g_aload_n (i := 0) dX9_recourse_62 rfl rfl ?_
          refine m_get 6 dX9_recourse_63 (List.mem_of_getElem? (i := 6) rfl) (fun w h => List.mem_cons_of_mem _ (List.mem_append_right _ h)) (by decide) rfl ?_
          refine g_iload_n (i := 1) dX9_recourse_66 rfl rfl ?_
          refine m_iald 6 4 40 dX9_recourse_67 rfl (mbill hI (by assumption)) ?_
          refine g_goto 81 dX9_recourse_68 (by decide) ?_
          refine g_istore_n (i := 3) dX9_recourse_81 rfl (by decide) ?_
          refine g_aload_n (i := 0) dX9_recourse_82 rfl rfl ?_
          refine m_get 13 dX9_recourse_83 (List.mem_of_getElem? (i := 8) rfl) (fun w h => List.mem_cons_of_mem _ (List.mem_append_right _ h)) (by decide) rfl ?_
          refine g_iconst (5) rfl dX9_recourse_86 ?_
          refine g_iload_n (i := 1) dX9_recourse_87 rfl rfl ?_
          refine g_imul dX9_recourse_88 ?_
          refine g_iconst (3) rfl dX9_recourse_89 ?_
          refine g_iadd dX9_recourse_90 ?_
          refine m_lald 13 11 200 dX9_recourse_91 rfl (ix200 (mbill hI (by assumption)) (by unfold vp_in; decide)) ?_
          refine g_aload_n (i := 0) dX9_recourse_92 rfl rfl ?_
          refine m_get 13 dX9_recourse_93 (List.mem_of_getElem? (i := 8) rfl) (fun w h => List.mem_cons_of_mem _ (List.mem_append_right _ h)) (by decide) rfl ?_
          refine g_iconst (5) rfl dX9_recourse_96 ?_
          refine g_iload_n (i := 1) dX9_recourse_97 rfl rfl ?_
          refine g_imul dX9_recourse_98 ?_
          refine g_iconst (2) rfl dX9_recourse_99 ?_
          refine g_iadd dX9_recourse_100 ?_
          refine m_lald 13 11 200 dX9_recourse_101 rfl (ix200 (mbill hI (by assumption)) (by unfold vp_in; decide)) ?_
          refine g_lsub dX9_recourse_102 ?_
          refine g_lstore dX9_recourse_103 (by decide) ?_
          refine g_iload_n (i := 2) dX9_recourse_105 rfl rfl ?_
          refine g_if_lt 150 dX9_recourse_106 (by decide) (fun c_25 => ?_) (fun c_25 => ?_)
          · skip
            refine g_aload_n (i := 0) dX9_recourse_150 rfl rfl ?_
            refine g_iload_n (i := 3) dX9_recourse_151 rfl rfl ?_
            refine g_aload_n (i := 0) dX9_recourse_152 rfl rfl ?_
            refine m_get 8 dX9_recourse_153 (List.mem_of_getElem? (i := 14) rfl) (fun w h => List.mem_cons_of_mem _ (List.mem_append_right _ h)) (by decide) rfl ?_
            refine g_iload_n (i := 1) dX9_recourse_156 rfl rfl ?_
            refine m_iald 8 6 40 dX9_recourse_157 rfl (mbill hI (by assumption)) ?_
            refine g_aload_n (i := 0) dX9_recourse_158 rfl rfl ?_
            refine m_get 9 dX9_recourse_159 (List.mem_of_getElem? (i := 9) rfl) (fun w h => List.mem_cons_of_mem _ (List.mem_append_right _ h)) (by decide) rfl ?_
            refine g_iload_n (i := 1) dX9_recourse_162 rfl rfl ?_
            refine m_iald 9 7 40 dX9_recourse_163 rfl (mbill hI (by assumption)) ?_
            refine g_i2l dX9_recourse_164 ?_
            refine g_callVf 3 0 gX9_recourse_X9_isTooMuch rfl rfl rfl ⟨Nat.le_of_ble_eq_true rfl, Nat.le_of_ble_eq_true rfl⟩ ⟨Nat.le_of_ble_eq_true rfl, Nat.le_of_ble_eq_true rfl⟩ (by exact Nat.le_of_ble_eq_true rfl) (by decide +kernel) rfl rfl rfl dX9_recourse_165 (M_isTooMuch _ D cy a _ _ _ _ (by first | with_reducible exact (mhol hI (mbill hI (by assumption))).1 | exact mendo hI (mbill hI (by assumption)) (mrec4 hI (mbill hI (by assumption)) (by assumption) (by assumption))) (mhol hI (mbill hI (by assumption))).2.2.1) rfl (fun vu_26 wu_26 hu_26 => ?_)
            rcases hu_26 with ⟨rfl, hu_26, rfl⟩ | ⟨rfl, hu_26, rfl⟩
            · skip
              refine g_if_eq 179 dX9_recourse_168 (by decide) (fun h9 => absurd h9 (by decide)) (fun _ => ?_)
              refine g_aload_n (i := 0) dX9_recourse_171 rfl rfl ?_
              refine g_ldc2 (-1000000000004) (List.mem_of_getElem? (i := 15) rfl) dX9_recourse_172 ?_
              refine g_callVf 1 0 gX9_recourse_X9_finding rfl rfl rfl ⟨Nat.le_of_ble_eq_true rfl, Nat.le_of_ble_eq_true rfl⟩ ⟨Nat.le_of_ble_eq_true rfl, Nat.le_of_ble_eq_true rfl⟩ (by exact Nat.le_of_ble_eq_true rfl) (by decide +kernel) rfl rfl rfl dX9_recourse_175 (M_finding _ D cy a _ _ (by unfold vp_in; decide)) rfl (fun vu_28 wu_28 hu_28 => ?_)
              obtain ⟨rfl, rfl⟩ := hu_28
              refine g_lret dX9_recourse_178 ?_
              unfold mf_recourse; rw [hm9]; unfold mroad; (repeat' split) <;> first | contradiction | (with_reducible exact ⟨rfl, rfl⟩) | (exfalso; exact absurd (by assumption) (Int32.not_le.mpr (by assumption))) | (exfalso; exact absurd (Int32.not_lt.mp (by assumption)) (by assumption)) | (exfalso; simp_all; done)
            · skip
              refine g_if_eq 179 dX9_recourse_168 (by decide) (fun _ => ?_) (fun h9 => absurd h9 (by decide))
              refine g_aload_n (i := 0) dX9_recourse_179 rfl rfl ?_
              refine g_iload_n (i := 3) dX9_recourse_180 rfl rfl ?_
              refine g_aload_n (i := 0) dX9_recourse_181 rfl rfl ?_
              refine m_get 8 dX9_recourse_182 (List.mem_of_getElem? (i := 14) rfl) (fun w h => List.mem_cons_of_mem _ (List.mem_append_right _ h)) (by decide) rfl ?_
              refine g_iload_n (i := 1) dX9_recourse_185 rfl rfl ?_
              refine m_iald 8 6 40 dX9_recourse_186 rfl (mbill hI (by assumption)) ?_
              refine g_aload_n (i := 0) dX9_recourse_187 rfl rfl ?_
              refine m_get 9 dX9_recourse_188 (List.mem_of_getElem? (i := 9) rfl) (fun w h => List.mem_cons_of_mem _ (List.mem_append_right _ h)) (by decide) rfl ?_
              refine g_iload_n (i := 1) dX9_recourse_191 rfl rfl ?_
              refine m_iald 9 7 40 dX9_recourse_192 rfl (mbill hI (by assumption)) ?_
              refine g_i2l dX9_recourse_193 ?_
              refine g_callVf 3 0 gX9_recourse_X9_comesToOwe rfl rfl rfl ⟨Nat.le_of_ble_eq_true rfl, Nat.le_of_ble_eq_true rfl⟩ ⟨Nat.le_of_ble_eq_true rfl, Nat.le_of_ble_eq_true rfl⟩ (by exact Nat.le_of_ble_eq_true rfl) (by decide +kernel) rfl rfl rfl dX9_recourse_194 (M_comesToOwe _ D cy a _ _ _ _ (by first | with_reducible exact (mhol hI (mbill hI (by assumption))).1 | exact mendo hI (mbill hI (by assumption)) (mrec4 hI (mbill hI (by assumption)) (by assumption) (by assumption))) (mhol hI (mbill hI (by assumption))).2.2.1) rfl (fun vu_30 wu_30 hu_30 => ?_)
              obtain ⟨rfl, rfl⟩ := hu_30
              refine g_iload_n (i := 2) dX9_recourse_197 rfl rfl ?_
              refine g_if_ge 210 dX9_recourse_198 (by decide) (fun c_31 => ?_) (fun c_31 => ?_)
              · skip
                refine g_aload_n (i := 0) dX9_recourse_210 rfl rfl ?_
                refine m_get 8 dX9_recourse_211 (List.mem_of_getElem? (i := 14) rfl) (fun w h => List.mem_cons_of_mem _ (List.mem_append_right _ h)) (by decide) rfl ?_
                refine g_iload_n (i := 1) dX9_recourse_214 rfl rfl ?_
                refine g_iload_n (i := 3) dX9_recourse_215 rfl rfl ?_
                refine m_iast 8 6 40 dX9_recourse_216 rfl (mbill hI (by assumption)) (wsA_8 _ _ _ _ _) ?_
                refine g_aload_n (i := 0) dX9_recourse_217 rfl rfl ?_
                refine m_get 11 dX9_recourse_218 (List.mem_of_getElem? (i := 4) rfl) (fun w h => List.mem_cons_of_mem _ (List.mem_append_right _ h)) (by decide) rfl ?_
                refine g_iload_n (i := 1) dX9_recourse_221 rfl rfl ?_
                refine g_iload_n (i := 2) dX9_recourse_222 rfl rfl ?_
                refine m_iast 11 9 40 dX9_recourse_223 rfl (mbill hI (by assumption)) (wsA_11 _ _ _ _ _) ?_
                refine g_iload_n (i := 3) dX9_recourse_224 rfl rfl ?_
                refine g_i2l dX9_recourse_225 ?_
                refine g_lret dX9_recourse_226 ?_
                unfold mf_recourse; rw [hm9]; unfold mf_rec2 mroad; rw [hm9]; (repeat' split) <;> first | contradiction | (with_reducible exact ⟨rfl, rfl⟩) | (exfalso; exact absurd (by assumption) (Int32.not_le.mpr (by assumption))) | (exfalso; exact absurd (Int32.not_lt.mp (by assumption)) (by assumption)) | (exfalso; simp_all; done)
              · skip
                refine g_aload_n (i := 0) dX9_recourse_201 rfl rfl ?_
                refine g_iload_n (i := 1) dX9_recourse_202 rfl rfl ?_
                refine g_iconst (4) rfl dX9_recourse_203 ?_
                refine g_callVf 2 0 gX9_recourse_X9_becomes rfl rfl rfl ⟨Nat.le_of_ble_eq_true rfl, Nat.le_of_ble_eq_true rfl⟩ ⟨Nat.le_of_ble_eq_true rfl, Nat.le_of_ble_eq_true rfl⟩ (by exact Nat.le_of_ble_eq_true rfl) (by decide +kernel) rfl rfl rfl dX9_recourse_204 (M_becomes _ D cy a _ _ _ (by first | with_reducible assumption | exact mbill hI (by with_reducible assumption) | exact mnew hI (by with_reducible assumption)) (by unfold vp_in; decide)) rfl (fun vu_32 wu_32 hu_32 => ?_)
                obtain ⟨rfl, rfl⟩ := hu_32
                refine g_goto 224 dX9_recourse_207 (by decide) ?_
                refine g_iload_n (i := 3) dX9_recourse_224 rfl rfl ?_
                refine g_i2l dX9_recourse_225 ?_
                refine g_lret dX9_recourse_226 ?_
                unfold mf_recourse; rw [hm9]; unfold mf_rec2 mroad; rw [hm9]; (repeat' split) <;> first | contradiction | (with_reducible exact ⟨rfl, rfl⟩) | (exfalso; exact absurd (by assumption) (Int32.not_le.mpr (by assumption))) | (exfalso; exact absurd (Int32.not_lt.mp (by assumption)) (by assumption)) | (exfalso; simp_all; done)
          · skip
            refine g_aload_n (i := 0) dX9_recourse_109 rfl rfl ?_
            refine g_lload dX9_recourse_110 rfl ?_
            refine g_aload_n (i := 0) dX9_recourse_112 rfl rfl ?_
            refine m_get 9 dX9_recourse_113 (List.mem_of_getElem? (i := 9) rfl) (fun w h => List.mem_cons_of_mem _ (List.mem_append_right _ h)) (by decide) rfl ?_
            refine g_iload_n (i := 1) dX9_recourse_116 rfl rfl ?_
            refine m_iald 9 7 40 dX9_recourse_117 rfl (mbill hI (by assumption)) ?_
            refine g_iload_n (i := 2) dX9_recourse_118 rfl rfl ?_
            refine g_aload_n (i := 0) dX9_recourse_119 rfl rfl ?_
            refine m_get 5 dX9_recourse_120 (List.mem_of_getElem? (i := 10) rfl) (fun w h => List.mem_cons_of_mem _ (List.mem_append_right _ h)) (by decide) rfl ?_
            refine g_iload_n (i := 1) dX9_recourse_123 rfl rfl ?_
            refine m_iald 5 3 40 dX9_recourse_124 rfl (mbill hI (by assumption)) ?_
            refine g_aload_n (i := 0) dX9_recourse_125 rfl rfl ?_
            refine m_get 2 dX9_recourse_126 (List.mem_of_getElem? (i := 11) rfl) (fun w h => List.mem_cons_of_mem _ (List.mem_append_right _ h)) (by decide) rfl ?_
            refine g_aload_n (i := 0) dX9_recourse_129 rfl rfl ?_
            refine m_get 3 dX9_recourse_130 (List.mem_of_getElem? (i := 12) rfl) (fun w h => List.mem_cons_of_mem _ (List.mem_append_right _ h)) (by decide) rfl ?_
            refine g_iload_n (i := 3) dX9_recourse_133 rfl rfl ?_
            refine m_iald 3 2 10 dX9_recourse_134 rfl (by first | with_reducible exact (mhol hI (mbill hI (by assumption))).1 | exact mendo hI (mbill hI (by assumption)) (mrec4 hI (mbill hI (by assumption)) (by assumption) (by assumption))) ?_
            refine m_iald 2 1 5 dX9_recourse_135 rfl (mseat hI (by first | with_reducible exact (mhol hI (mbill hI (by assumption))).1 | exact mendo hI (mbill hI (by assumption)) (mrec4 hI (mbill hI (by assumption)) (by assumption) (by assumption)))) ?_
            refine g_callVf 5 0 gX9_recourse_X9_isBound rfl rfl rfl ⟨Nat.le_of_ble_eq_true rfl, Nat.le_of_ble_eq_true rfl⟩ ⟨Nat.le_of_ble_eq_true rfl, Nat.le_of_ble_eq_true rfl⟩ (by exact Nat.le_of_ble_eq_true rfl) (by decide +kernel) rfl rfl rfl dX9_recourse_136 (M_isBound _ D cy a _ hI _ _ _ _ _) rfl (fun vu_33 wu_33 hu_33 => ?_)
            obtain ⟨rfl, rfl⟩ := hu_33
            refine g_if_ne 150 dX9_recourse_139 (by decide) (fun c_34 => ?_) (fun c_34 => ?_)
            · skip
              refine g_aload_n (i := 0) dX9_recourse_150 rfl rfl ?_
              refine g_iload_n (i := 3) dX9_recourse_151 rfl rfl ?_
              refine g_aload_n (i := 0) dX9_recourse_152 rfl rfl ?_
              refine m_get 8 dX9_recourse_153 (List.mem_of_getElem? (i := 14) rfl) (fun w h => List.mem_cons_of_mem _ (List.mem_append_right _ h)) (by decide) rfl ?_
              refine g_iload_n (i := 1) dX9_recourse_156 rfl rfl ?_
              refine m_iald 8 6 40 dX9_recourse_157 rfl (mbill hI (by assumption)) ?_
              refine g_aload_n (i := 0) dX9_recourse_158 rfl rfl ?_
              refine m_get 9 dX9_recourse_159 (List.mem_of_getElem? (i := 9) rfl) (fun w h => List.mem_cons_of_mem _ (List.mem_append_right _ h)) (by decide) rfl ?_
              refine g_iload_n (i := 1) dX9_recourse_162 rfl rfl ?_
              refine m_iald 9 7 40 dX9_recourse_163 rfl (mbill hI (by assumption)) ?_
              refine g_i2l dX9_recourse_164 ?_
              refine g_callVf 3 0 gX9_recourse_X9_isTooMuch rfl rfl rfl ⟨Nat.le_of_ble_eq_true rfl, Nat.le_of_ble_eq_true rfl⟩ ⟨Nat.le_of_ble_eq_true rfl, Nat.le_of_ble_eq_true rfl⟩ (by exact Nat.le_of_ble_eq_true rfl) (by decide +kernel) rfl rfl rfl dX9_recourse_165 (M_isTooMuch _ D cy a _ _ _ _ (by first | with_reducible exact (mhol hI (mbill hI (by assumption))).1 | exact mendo hI (mbill hI (by assumption)) (mrec4 hI (mbill hI (by assumption)) (by assumption) (by assumption))) (mhol hI (mbill hI (by assumption))).2.2.1) rfl (fun vu_35 wu_35 hu_35 => ?_)
              rcases hu_35 with ⟨rfl, hu_35, rfl⟩ | ⟨rfl, hu_35, rfl⟩
              · skip
                refine g_if_eq 179 dX9_recourse_168 (by decide) (fun h9 => absurd h9 (by decide)) (fun _ => ?_)
                refine g_aload_n (i := 0) dX9_recourse_171 rfl rfl ?_
                refine g_ldc2 (-1000000000004) (List.mem_of_getElem? (i := 15) rfl) dX9_recourse_172 ?_
                refine g_callVf 1 0 gX9_recourse_X9_finding rfl rfl rfl ⟨Nat.le_of_ble_eq_true rfl, Nat.le_of_ble_eq_true rfl⟩ ⟨Nat.le_of_ble_eq_true rfl, Nat.le_of_ble_eq_true rfl⟩ (by exact Nat.le_of_ble_eq_true rfl) (by decide +kernel) rfl rfl rfl dX9_recourse_175 (M_finding _ D cy a _ _ (by unfold vp_in; decide)) rfl (fun vu_37 wu_37 hu_37 => ?_)
                obtain ⟨rfl, rfl⟩ := hu_37
                refine g_lret dX9_recourse_178 ?_
                unfold mf_recourse; rw [hm9]; unfold mroad; (repeat' split) <;> first | contradiction | (with_reducible exact ⟨rfl, rfl⟩) | (exfalso; exact absurd (by assumption) (Int32.not_le.mpr (by assumption))) | (exfalso; exact absurd (Int32.not_lt.mp (by assumption)) (by assumption)) | (exfalso; simp_all; done)
              · skip
                refine g_if_eq 179 dX9_recourse_168 (by decide) (fun _ => ?_) (fun h9 => absurd h9 (by decide))
                refine g_aload_n (i := 0) dX9_recourse_179 rfl rfl ?_
                refine g_iload_n (i := 3) dX9_recourse_180 rfl rfl ?_
                refine g_aload_n (i := 0) dX9_recourse_181 rfl rfl ?_
                refine m_get 8 dX9_recourse_182 (List.mem_of_getElem? (i := 14) rfl) (fun w h => List.mem_cons_of_mem _ (List.mem_append_right _ h)) (by decide) rfl ?_
                refine g_iload_n (i := 1) dX9_recourse_185 rfl rfl ?_
                refine m_iald 8 6 40 dX9_recourse_186 rfl (mbill hI (by assumption)) ?_
                refine g_aload_n (i := 0) dX9_recourse_187 rfl rfl ?_
                refine m_get 9 dX9_recourse_188 (List.mem_of_getElem? (i := 9) rfl) (fun w h => List.mem_cons_of_mem _ (List.mem_append_right _ h)) (by decide) rfl ?_
                refine g_iload_n (i := 1) dX9_recourse_191 rfl rfl ?_
                refine m_iald 9 7 40 dX9_recourse_192 rfl (mbill hI (by assumption)) ?_
                refine g_i2l dX9_recourse_193 ?_
                refine g_callVf 3 0 gX9_recourse_X9_comesToOwe rfl rfl rfl ⟨Nat.le_of_ble_eq_true rfl, Nat.le_of_ble_eq_true rfl⟩ ⟨Nat.le_of_ble_eq_true rfl, Nat.le_of_ble_eq_true rfl⟩ (by exact Nat.le_of_ble_eq_true rfl) (by decide +kernel) rfl rfl rfl dX9_recourse_194 (M_comesToOwe _ D cy a _ _ _ _ (by first | with_reducible exact (mhol hI (mbill hI (by assumption))).1 | exact mendo hI (mbill hI (by assumption)) (mrec4 hI (mbill hI (by assumption)) (by assumption) (by assumption))) (mhol hI (mbill hI (by assumption))).2.2.1) rfl (fun vu_39 wu_39 hu_39 => ?_)
                obtain ⟨rfl, rfl⟩ := hu_39
                refine g_iload_n (i := 2) dX9_recourse_197 rfl rfl ?_
                refine g_if_ge 210 dX9_recourse_198 (by decide) (fun c_40 => ?_) (fun c_40 => ?_)
                · skip
                  refine g_aload_n (i := 0) dX9_recourse_210 rfl rfl ?_
                  refine m_get 8 dX9_recourse_211 (List.mem_of_getElem? (i := 14) rfl) (fun w h => List.mem_cons_of_mem _ (List.mem_append_right _ h)) (by decide) rfl ?_
                  refine g_iload_n (i := 1) dX9_recourse_214 rfl rfl ?_
                  refine g_iload_n (i := 3) dX9_recourse_215 rfl rfl ?_
                  refine m_iast 8 6 40 dX9_recourse_216 rfl (mbill hI (by assumption)) (wsA_8 _ _ _ _ _) ?_
                  refine g_aload_n (i := 0) dX9_recourse_217 rfl rfl ?_
                  refine m_get 11 dX9_recourse_218 (List.mem_of_getElem? (i := 4) rfl) (fun w h => List.mem_cons_of_mem _ (List.mem_append_right _ h)) (by decide) rfl ?_
                  refine g_iload_n (i := 1) dX9_recourse_221 rfl rfl ?_
                  refine g_iload_n (i := 2) dX9_recourse_222 rfl rfl ?_
                  refine m_iast 11 9 40 dX9_recourse_223 rfl (mbill hI (by assumption)) (wsA_11 _ _ _ _ _) ?_
                  refine g_iload_n (i := 3) dX9_recourse_224 rfl rfl ?_
                  refine g_i2l dX9_recourse_225 ?_
                  refine g_lret dX9_recourse_226 ?_
                  unfold mf_recourse; rw [hm9]; unfold mf_rec2 mroad; rw [hm9]; (repeat' split) <;> first | contradiction | (with_reducible exact ⟨rfl, rfl⟩) | (exfalso; exact absurd (by assumption) (Int32.not_le.mpr (by assumption))) | (exfalso; exact absurd (Int32.not_lt.mp (by assumption)) (by assumption)) | (exfalso; simp_all; done)
                · skip
                  refine g_aload_n (i := 0) dX9_recourse_201 rfl rfl ?_
                  refine g_iload_n (i := 1) dX9_recourse_202 rfl rfl ?_
                  refine g_iconst (4) rfl dX9_recourse_203 ?_
                  refine g_callVf 2 0 gX9_recourse_X9_becomes rfl rfl rfl ⟨Nat.le_of_ble_eq_true rfl, Nat.le_of_ble_eq_true rfl⟩ ⟨Nat.le_of_ble_eq_true rfl, Nat.le_of_ble_eq_true rfl⟩ (by exact Nat.le_of_ble_eq_true rfl) (by decide +kernel) rfl rfl rfl dX9_recourse_204 (M_becomes _ D cy a _ _ _ (by first | with_reducible assumption | exact mbill hI (by with_reducible assumption) | exact mnew hI (by with_reducible assumption)) (by unfold vp_in; decide)) rfl (fun vu_41 wu_41 hu_41 => ?_)
                  obtain ⟨rfl, rfl⟩ := hu_41
                  refine g_goto 224 dX9_recourse_207 (by decide) ?_
                  refine g_iload_n (i := 3) dX9_recourse_224 rfl rfl ?_
                  refine g_i2l dX9_recourse_225 ?_
                  refine g_lret dX9_recourse_226 ?_
                  unfold mf_recourse; rw [hm9]; unfold mf_rec2 mroad; rw [hm9]; (repeat' split) <;> first | contradiction | (with_reducible exact ⟨rfl, rfl⟩) | (exfalso; exact absurd (by assumption) (Int32.not_le.mpr (by assumption))) | (exfalso; exact absurd (Int32.not_lt.mp (by assumption)) (by assumption)) | (exfalso; simp_all; done)
            · skip
              refine g_aload_n (i := 0) dX9_recourse_142 rfl rfl ?_
              refine g_ldc2 (-1000000000005) (List.mem_of_getElem? (i := 13) rfl) dX9_recourse_143 ?_
              refine g_callVf 1 0 gX9_recourse_X9_finding rfl rfl rfl ⟨Nat.le_of_ble_eq_true rfl, Nat.le_of_ble_eq_true rfl⟩ ⟨Nat.le_of_ble_eq_true rfl, Nat.le_of_ble_eq_true rfl⟩ (by exact Nat.le_of_ble_eq_true rfl) (by decide +kernel) rfl rfl rfl dX9_recourse_146 (M_finding _ D cy a _ _ (by unfold vp_in; decide)) rfl (fun vu_42 wu_42 hu_42 => ?_)
              obtain ⟨rfl, rfl⟩ := hu_42
              refine g_lret dX9_recourse_149 ?_
              unfold mf_recourse; rw [hm9]; unfold mroad; (repeat' split) <;> first | contradiction | (with_reducible exact ⟨rfl, rfl⟩) | (exfalso; exact absurd (by assumption) (Int32.not_le.mpr (by assumption))) | (exfalso; exact absurd (Int32.not_lt.mp (by assumption)) (by assumption)) | (exfalso; simp_all; done)
      · skip
        refine g_if_ne 58 dX9_recourse_47 (by decide) (fun h9 => absurd h9 (by decide)) (fun _ => ?_)
        refine g_aload_n (i := 0) dX9_recourse_50 rfl rfl ?_
        refine g_ldc2 (-1000000000002) (List.mem_of_getElem? (i := 5) rfl) dX9_recourse_51 ?_
        refine g_callVf 1 0 gX9_recourse_X9_finding rfl rfl rfl ⟨Nat.le_of_ble_eq_true rfl, Nat.le_of_ble_eq_true rfl⟩ ⟨Nat.le_of_ble_eq_true rfl, Nat.le_of_ble_eq_true rfl⟩ (by exact Nat.le_of_ble_eq_true rfl) (by decide +kernel) rfl rfl rfl dX9_recourse_54 (M_finding _ D cy a _ _ (by unfold vp_in; decide)) rfl (fun vu_44 wu_44 hu_44 => ?_)
        obtain ⟨rfl, rfl⟩ := hu_44
        refine g_lret dX9_recourse_57 ?_
        unfold mf_recourse; (repeat' split) <;> first | contradiction | (with_reducible exact ⟨rfl, rfl⟩) | (exfalso; exact absurd (by assumption) (Int32.not_le.mpr (by assumption))) | (exfalso; exact absurd (Int32.not_lt.mp (by assumption)) (by assumption)) | (exfalso; simp_all; done)
    · skip
      refine g_aload_n (i := 0) dX9_recourse_26 rfl rfl ?_
      refine g_ldc2 (-1000000000003) (List.mem_of_getElem? (i := 3) rfl) dX9_recourse_27 ?_
      refine g_callVf 1 0 gX9_recourse_X9_finding rfl rfl rfl ⟨Nat.le_of_ble_eq_true rfl, Nat.le_of_ble_eq_true rfl⟩ ⟨Nat.le_of_ble_eq_true rfl, Nat.le_of_ble_eq_true rfl⟩ (by exact Nat.le_of_ble_eq_true rfl) (by decide +kernel) rfl rfl rfl dX9_recourse_30 (M_finding _ D cy a _ _ (by unfold vp_in; decide)) rfl (fun vu_45 wu_45 hu_45 => ?_)
      obtain ⟨rfl, rfl⟩ := hu_45
      refine g_lret dX9_recourse_33 ?_
      unfold mf_recourse; (repeat' split) <;> first | contradiction | (with_reducible exact ⟨rfl, rfl⟩) | (exfalso; exact absurd (by assumption) (Int32.not_le.mpr (by assumption))) | (exfalso; exact absurd (Int32.not_lt.mp (by assumption)) (by assumption)) | (exfalso; simp_all; done)
  · skip
    refine g_if_ne 16 dX9_recourse_5 (by decide) (fun h9 => absurd h9 (by decide)) (fun _ => ?_)
    refine g_aload_n (i := 0) dX9_recourse_8 rfl rfl ?_
    refine g_ldc2 (-1000000000001) (List.mem_of_getElem? (i := 1) rfl) dX9_recourse_9 ?_
    refine g_callVf 1 0 gX9_recourse_X9_finding rfl rfl rfl ⟨Nat.le_of_ble_eq_true rfl, Nat.le_of_ble_eq_true rfl⟩ ⟨Nat.le_of_ble_eq_true rfl, Nat.le_of_ble_eq_true rfl⟩ (by exact Nat.le_of_ble_eq_true rfl) (by decide +kernel) rfl rfl rfl dX9_recourse_12 (M_finding _ D cy a _ _ (by unfold vp_in; decide)) rfl (fun vu_47 wu_47 hu_47 => ?_)
    obtain ⟨rfl, rfl⟩ := hu_47
    refine g_lret dX9_recourse_15 ?_
    unfold mf_recourse; (repeat' split) <;> first | contradiction | (with_reducible exact ⟨rfl, rfl⟩) | (exfalso; exact absurd (by assumption) (Int32.not_le.mpr (by assumption))) | (exfalso; exact absurd (Int32.not_lt.mp (by assumption)) (by assumption)) | (exfalso; simp_all; done)

