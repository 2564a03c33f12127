def mnyT (S : MS) (t : Int32) : Nat → Int32
  | 0 => 0
  | i + 1 => mnyT S t i + (if S.2.2.1 18 (5 * nI i + t).toNatClampNeg ≤ 0 then 0 else 1)
def blwC (S : MS) (t : Int32) (h q : Nat) : Int32 := if S.2.2.1 18 (5 * nI q + t).toNatClampNeg ≤ 0 then 0 else if S.2.2.1 18 (5 * nI q + t).toNatClampNeg < S.2.2.1 18 (5 * nI h + t).toNatClampNeg then 1 else if S.2.2.1 18 (5 * nI q + t).toNatClampNeg = S.2.2.1 18 (5 * nI h + t).toNatClampNeg then (if nI h ≤ nI q then 0 else 1) else 0
def blw (S : MS) (t : Int32) (h : Nat) : Nat → Int32
  | 0 => 0
  | i + 1 => blw S t h i + blwC S t h i
abbrev rtHit (S : MS) (t : Int32) (h : Nat) : Prop := ¬ S.2.2.1 18 (5 * nI h + t).toNatClampNeg ≤ 0 ∧ blw S t h 10 = (mnyT S t 10 - 1) / 2
def rtR (S : MS) (t : Int32) : Nat → Nat → Int64 × MS
  | 0, _ => mf_finding S (-1000000000002)
  | j + 1, i => if rtHit S t i then ((S.2.2.1 18 (5 * nI i + t).toNatClampNeg).toInt64, S) else rtR S t j (i + 1)
def mf_rate (S : MS) (t : Int32) : Int64 × MS := if 0 ≤ t ∧ t ≤ 4 then rtR S t 10 0 else mf_finding S (-1000000000001)
theorem rtR1 {S : MS} {t : Int32} {i : Nat} (hi : i < 10) (h : ¬ rtHit S t i) (g : rtR S t (10 - i) i = rtR S t 10 0) : rtR S t (10 - (i + 1)) (i + 1) = rtR S t 10 0 := by
  rw [← g, show 10 - i = (10 - (i + 1)) + 1 by omega]
  exact (if_neg h).symm
theorem rtR2 {S : MS} {t : Int32} {i : Nat} (hi : i < 10) (h : rtHit S t i) (g : rtR S t (10 - i) i = rtR S t 10 0) : ((S.2.2.1 18 (5 * nI i + t).toNatClampNeg).toInt64, S) = rtR S t 10 0 := by
  rw [← g, show 10 - i = (10 - (i + 1)) + 1 by omega]
  exact (if_pos h).symm

set_option maxHeartbeats 4000000 in
set_option maxRecDepth 100000 in
/-- rate -/
theorem M_rate (l : Launch) (D : va_G) (cy : Nat → ClassId) (a : Nat → Nat) (S : MS) (t : Int32) : Ct l D clx (tyx cy) yX9_rate wsX9_rate (rmD 2) 0 0 [.ref (a 0), .int t] (MW cy a S) (fun r9 w9 => r9 = some (.long (mf_rate S t).1) ∧ w9 = MW cy a (mf_rate S t).2) := by
  refine g_start (cc := cX9_rate) (maxL := 8) (ret := (some .long)) (by decide) rfl (Nat.le_of_ble_eq_true rfl) (fun v w1 h => by obtain ⟨rfl, -⟩ := h; exact rfl) (fun Γ hlΓ => ?_)
  subst hlΓ
  refine g_iload_n (i := 1) dX9_rate_0 rfl rfl ?_
  refine g_callSf 1 gX9_rate_X9_isTown rfl rfl rfl ⟨Nat.le_of_ble_eq_true rfl, Nat.le_of_ble_eq_true rfl⟩ ⟨Nat.le_of_ble_eq_true rfl, Nat.le_of_ble_eq_true rfl⟩ (by exact Nat.le_of_ble_eq_true rfl) (by decide +kernel) rfl dX9_rate_1 (M_isTown _ D cy a _ _) rfl (fun vu_1 wu_1 hu_1 => ?_)
  rcases hu_1 with ⟨rfl, hu_1, rfl⟩ | ⟨rfl, hu_1, rfl⟩
  · skip
    refine g_if_ne 15 dX9_rate_4 (by decide) (fun _ => ?_) (fun h9 => absurd h9 (by decide))
    refine g_iconst (0) rfl dX9_rate_15 ?_
    refine g_istore_n (i := 2) dX9_rate_16 rfl (by decide) ?_
    refine g_iconst (0) rfl dX9_rate_17 ?_
    refine g_istore_n (i := 3) dX9_rate_18 rfl (by decide) ?_
    refine g_cnt 10 (fun i => True) (fun i => MW cy a S) (fun i => [(0, .ref (a 0)), (1, .int t), (2, .int (mnyT S t i)), (3, .int (nI i))]) 0 (by first | decide | omega) trivial (by rfl) (by refine ⟨rfl, rfl, rfl, rfl, trivial⟩) ?_ (fun i3 hi3 gi3 ihi3 => ?_)
    · intro gN
      refine g_iload_n (i := 3) dX9_rate_19 rfl rfl ?_
      refine g_bipush (10) rfl dX9_rate_20 ?_
      refine g_icmp_ge 52 dX9_rate_22 (by decide) (fun c_4 => ?_) (fun c_4 => ?_)
      · skip
        refine g_iconst (0) rfl dX9_rate_52 ?_
        refine g_istore_n (i := 3) dX9_rate_53 rfl (by decide) ?_
        refine g_cnt 10 (fun i => rtR S t (10 - i) i = rtR S t 10 0) (fun i => MW cy a S) (fun i => [(0, .ref (a 0)), (1, .int t), (2, .int (mnyT S t 10)), (3, .int (nI i))]) 0 (by first | decide | omega) rfl (by rfl) (by refine ⟨rfl, rfl, rfl, rfl, trivial⟩) ?_ (fun i5 hi5 gi5 ihi5 => ?_)
        · intro gN
          refine g_iload_n (i := 3) dX9_rate_54 rfl rfl ?_
          refine g_bipush (10) rfl dX9_rate_55 ?_
          refine g_icmp_ge 164 dX9_rate_57 (by decide) (fun c_6 => ?_) (fun c_6 => ?_)
          · skip
            refine g_aload_n (i := 0) dX9_rate_164 rfl rfl ?_
            refine g_ldc2 (-1000000000002) (List.mem_of_getElem? (i := 3) rfl) dX9_rate_165 ?_
            refine g_callVf 1 0 gX9_rate_X9_finding rfl rfl rfl ⟨Nat.le_of_ble_eq_true rfl, Nat.le_of_ble_eq_true rfl⟩ ⟨Nat.le_of_ble_eq_true rfl, Nat.le_of_ble_eq_true rfl⟩ (by exact Nat.le_of_ble_eq_true rfl) (by decide +kernel) rfl rfl rfl dX9_rate_168 (M_finding _ D cy a _ _ (by unfold vp_in; decide)) rfl (fun vu_7 wu_7 hu_7 => ?_)
            obtain ⟨rfl, rfl⟩ := hu_7
            refine g_lret dX9_rate_171 ?_
            unfold mf_rate; rw [if_pos (by assumption)]; have gQ : rtR S t (10 - 10) 10 = rtR S t 10 0 := (by assumption); rw [← gQ]; exact ⟨rfl, rfl⟩
          · skip
            exact absurd (nI_le (Nat.le_refl _) (by first | decide | omega)) c_6
        · skip
          refine g_iload_n (i := 3) dX9_rate_54 rfl rfl ?_
          refine g_bipush (10) rfl dX9_rate_55 ?_
          refine g_icmp_ge 164 dX9_rate_57 (by decide) (fun c_8 => ?_) (fun c_8 => ?_)
          · skip
            exact absurd c_8 (nI_ge hi5 (by first | decide | omega))
          · skip
            refine g_aload_n (i := 0) dX9_rate_60 rfl rfl ?_
            refine m_get 18 dX9_rate_61 (List.mem_of_getElem? (i := 2) rfl) (fun w h => List.mem_cons_of_mem _ (List.mem_append_right _ h)) (by decide) rfl ?_
            refine g_iconst (5) rfl dX9_rate_64 ?_
            refine g_iload_n (i := 3) dX9_rate_65 rfl rfl ?_
            refine g_imul dX9_rate_66 ?_
            refine g_iload_n (i := 1) dX9_rate_67 rfl rfl ?_
            refine g_iadd dX9_rate_68 ?_
            refine m_iald 18 16 50 dX9_rate_69 rfl (ix50 (vp_in_nI (by assumption) (by decide)) (vpi5 (by assumption))) ?_
            refine g_istore dX9_rate_70 (by decide) ?_
            refine g_iconst (0) rfl dX9_rate_72 ?_
            refine g_istore dX9_rate_73 (by decide) ?_
            refine g_iconst (0) rfl dX9_rate_75 ?_
            refine g_istore dX9_rate_76 (by decide) ?_
            refine g_cnt 10 (fun i => True) (fun i => MW cy a S) (fun i => [(0, .ref (a 0)), (1, .int t), (2, .int (mnyT S t 10)), (3, .int (nI i5)), (4, .int (S.2.2.1 18 (5 * nI i5 + t).toNatClampNeg)), (5, .int (blw S t i5 i)), (6, .int (nI i))]) 0 (by first | decide | omega) trivial (by rfl) (by refine ⟨rfl, rfl, rfl, rfl, rfl, rfl, rfl, trivial⟩) ?_ (fun i9 hi9 gi9 ihi9 => ?_)
            · intro gN
              refine g_iload dX9_rate_78 rfl ?_
              refine g_bipush (10) rfl dX9_rate_80 ?_
              refine g_icmp_ge 139 dX9_rate_82 (by decide) (fun c_10 => ?_) (fun c_10 => ?_)
              · skip
                refine g_iload dX9_rate_139 rfl ?_
                refine g_if_le 158 dX9_rate_141 (by decide) (fun c_11 => ?_) (fun c_11 => ?_)
                · skip
                  refine g_iinc (1) dX9_rate_158 rfl rfl (by decide) ?_
                  refine g_goto 54 dX9_rate_161 (by decide) ?_
                  refine g_to _ _ (ihi5 (rtR1 hi5 (fun h9 => by first | exact absurd (by assumption) h9.1 | exact absurd h9.2 (by assumption)) gi5)) rfl ⟨rfl, rfl, rfl, (by rw [← nI_1]; rfl), trivial⟩
                · skip
                  refine g_iload dX9_rate_144 rfl ?_
                  refine g_iload_n (i := 2) dX9_rate_146 rfl rfl ?_
                  refine g_iconst (1) rfl dX9_rate_147 ?_
                  refine g_isub dX9_rate_148 ?_
                  refine g_iconst (2) rfl dX9_rate_149 ?_
                  refine g_idiv (by decide) dX9_rate_150 ?_
                  refine g_icmp_ne 158 dX9_rate_151 (by decide) (fun c_12 => ?_) (fun c_12 => ?_)
                  · skip
                    refine g_iinc (1) dX9_rate_158 rfl rfl (by decide) ?_
                    refine g_goto 54 dX9_rate_161 (by decide) ?_
                    refine g_to _ _ (ihi5 (rtR1 hi5 (fun h9 => by first | exact absurd (by assumption) h9.1 | exact absurd h9.2 (by assumption)) gi5)) rfl ⟨rfl, rfl, rfl, (by rw [← nI_1]; rfl), trivial⟩
                  · skip
                    refine g_iload dX9_rate_154 rfl ?_
                    refine g_i2l dX9_rate_156 ?_
                    refine g_lret dX9_rate_157 ?_
                    unfold mf_rate; rw [if_pos (by assumption), ← rtR2 (by assumption) ⟨by assumption, by assumption⟩ (by assumption)]; exact ⟨rfl, rfl⟩
              · skip
                exact absurd (nI_le (Nat.le_refl _) (by first | decide | omega)) c_10
            · skip
              refine g_iload dX9_rate_78 rfl ?_
              refine g_bipush (10) rfl dX9_rate_80 ?_
              refine g_icmp_ge 139 dX9_rate_82 (by decide) (fun c_13 => ?_) (fun c_13 => ?_)
              · skip
                exact absurd c_13 (nI_ge hi9 (by first | decide | omega))
              · skip
                refine g_aload_n (i := 0) dX9_rate_85 rfl rfl ?_
                refine m_get 18 dX9_rate_86 (List.mem_of_getElem? (i := 2) rfl) (fun w h => List.mem_cons_of_mem _ (List.mem_append_right _ h)) (by decide) rfl ?_
                refine g_iconst (5) rfl dX9_rate_89 ?_
                refine g_iload dX9_rate_90 rfl ?_
                refine g_imul dX9_rate_92 ?_
                refine g_iload_n (i := 1) dX9_rate_93 rfl rfl ?_
                refine g_iadd dX9_rate_94 ?_
                refine m_iald 18 16 50 dX9_rate_95 rfl (ix50 (vp_in_nI (by assumption) (by decide)) (vpi5 (by assumption))) ?_
                refine g_istore dX9_rate_96 (by decide) ?_
                refine g_iload dX9_rate_98 rfl ?_
                refine g_iload dX9_rate_100 rfl ?_
                refine g_if_le 129 dX9_rate_102 (by decide) (fun c_14 => ?_) (fun c_14 => ?_)
                · skip
                  refine g_iconst (0) rfl dX9_rate_129 ?_
                  refine g_iadd dX9_rate_130 ?_
                  refine g_istore dX9_rate_131 (by decide) ?_
                  refine g_iinc (1) dX9_rate_133 rfl rfl (by decide) ?_
                  refine g_goto 78 dX9_rate_136 (by decide) ?_
                  refine g_to _ _ (ihi9 trivial) rfl ⟨rfl, rfl, rfl, rfl, rfl, (congrArg (fun z => some (Value.int z)) (by show _ = blw S t _ i9 + blwC S t _ i9; unfold blwC; first | (simp only [reduceIte, *]; done) | rw [if_neg (by assumption), if_neg (by assumption), if_pos (by assumption), if_pos (by assumption)] | rw [if_neg (by assumption), if_neg (by assumption), if_pos (by assumption), if_neg (by assumption)])), (by rw [← nI_1]; rfl), trivial⟩
                · skip
                  refine g_iload dX9_rate_105 rfl ?_
                  refine g_iload dX9_rate_107 rfl ?_
                  refine g_icmp_lt 125 dX9_rate_109 (by decide) (fun c_15 => ?_) (fun c_15 => ?_)
                  · skip
                    refine g_iconst (1) rfl dX9_rate_125 ?_
                    refine g_goto 130 dX9_rate_126 (by decide) ?_
                    refine g_iadd dX9_rate_130 ?_
                    refine g_istore dX9_rate_131 (by decide) ?_
                    refine g_iinc (1) dX9_rate_133 rfl rfl (by decide) ?_
                    refine g_goto 78 dX9_rate_136 (by decide) ?_
                    refine g_to _ _ (ihi9 trivial) rfl ⟨rfl, rfl, rfl, rfl, rfl, (congrArg (fun z => some (Value.int z)) (by show _ = blw S t _ i9 + blwC S t _ i9; unfold blwC; first | (simp only [reduceIte, *]; done) | rw [if_neg (by assumption), if_neg (by assumption), if_pos (by assumption), if_pos (by assumption)] | rw [if_neg (by assumption), if_neg (by assumption), if_pos (by assumption), if_neg (by assumption)])), (by rw [← nI_1]; rfl), trivial⟩
                  · skip
                    refine g_iload dX9_rate_112 rfl ?_
                    refine g_iload dX9_rate_114 rfl ?_
                    refine g_icmp_ne 129 dX9_rate_116 (by decide) (fun c_16 => ?_) (fun c_16 => ?_)
                    · skip
                      refine g_iconst (0) rfl dX9_rate_129 ?_
                      refine g_iadd dX9_rate_130 ?_
                      refine g_istore dX9_rate_131 (by decide) ?_
                      refine g_iinc (1) dX9_rate_133 rfl rfl (by decide) ?_
                      refine g_goto 78 dX9_rate_136 (by decide) ?_
                      refine g_to _ _ (ihi9 trivial) rfl ⟨rfl, rfl, rfl, rfl, rfl, (congrArg (fun z => some (Value.int z)) (by show _ = blw S t _ i9 + blwC S t _ i9; unfold blwC; first | (simp only [reduceIte, *]; done) | rw [if_neg (by assumption), if_neg (by assumption), if_pos (by assumption), if_pos (by assumption)] | rw [if_neg (by assumption), if_neg (by assumption), if_pos (by assumption), if_neg (by assumption)])), (by rw [← nI_1]; rfl), trivial⟩
                    · skip
                      refine g_iload dX9_rate_119 rfl ?_
                      refine g_iload_n (i := 3) dX9_rate_121 rfl rfl ?_
                      refine g_icmp_ge 129 dX9_rate_122 (by decide) (fun c_17 => ?_) (fun c_17 => ?_)
                      · skip
                        refine g_iconst (0) rfl dX9_rate_129 ?_
                        refine g_iadd dX9_rate_130 ?_
                        refine g_istore dX9_rate_131 (by decide) ?_
                        refine g_iinc (1) dX9_rate_133 rfl rfl (by decide) ?_
                        refine g_goto 78 dX9_rate_136 (by decide) ?_
                        refine g_to _ _ (ihi9 trivial) rfl ⟨rfl, rfl, rfl, rfl, rfl, (congrArg (fun z => some (Value.int z)) (by show _ = blw S t _ i9 + blwC S t _ i9; unfold blwC; first | (simp only [reduceIte, *]; done) | rw [if_neg (by assumption), if_neg (by assumption), if_pos (by assumption), if_pos (by assumption)] | rw [if_neg (by assumption), if_neg (by assumption), if_pos (by assumption), if_neg (by assumption)])), (by rw [← nI_1]; rfl), trivial⟩
                      · skip
                        refine g_iconst (1) rfl dX9_rate_125 ?_
                        refine g_goto 130 dX9_rate_126 (by decide) ?_
                        refine g_iadd dX9_rate_130 ?_
                        refine g_istore dX9_rate_131 (by decide) ?_
                        refine g_iinc (1) dX9_rate_133 rfl rfl (by decide) ?_
                        refine g_goto 78 dX9_rate_136 (by decide) ?_
                        refine g_to _ _ (ihi9 trivial) rfl ⟨rfl, rfl, rfl, rfl, rfl, (congrArg (fun z => some (Value.int z)) (by show _ = blw S t _ i9 + blwC S t _ i9; unfold blwC; first | (simp only [reduceIte, *]; done) | rw [if_neg (by assumption), if_neg (by assumption), if_pos (by assumption), if_pos (by assumption)] | rw [if_neg (by assumption), if_neg (by assumption), if_pos (by assumption), if_neg (by assumption)])), (by rw [← nI_1]; rfl), trivial⟩
      · skip
        exact absurd (nI_le (Nat.le_refl _) (by first | decide | omega)) c_4
    · skip
      refine g_iload_n (i := 3) dX9_rate_19 rfl rfl ?_
      refine g_bipush (10) rfl dX9_rate_20 ?_
      refine g_icmp_ge 52 dX9_rate_22 (by decide) (fun c_18 => ?_) (fun c_18 => ?_)
      · skip
        exact absurd c_18 (nI_ge hi3 (by first | decide | omega))
      · skip
        refine g_iload_n (i := 2) dX9_rate_25 rfl rfl ?_
        refine g_aload_n (i := 0) dX9_rate_26 rfl rfl ?_
        refine m_get 18 dX9_rate_27 (List.mem_of_getElem? (i := 2) rfl) (fun w h => List.mem_cons_of_mem _ (List.mem_append_right _ h)) (by decide) rfl ?_
        refine g_iconst (5) rfl dX9_rate_30 ?_
        refine g_iload_n (i := 3) dX9_rate_31 rfl rfl ?_
        refine g_imul dX9_rate_32 ?_
        refine g_iload_n (i := 1) dX9_rate_33 rfl rfl ?_
        refine g_iadd dX9_rate_34 ?_
        refine m_iald 18 16 50 dX9_rate_35 rfl (ix50 (vp_in_nI (by assumption) (by decide)) (vpi5 (by assumption))) ?_
        refine g_if_le 43 dX9_rate_36 (by decide) (fun c_19 => ?_) (fun c_19 => ?_)
        · skip
          refine g_iconst (0) rfl dX9_rate_43 ?_
          refine g_iadd dX9_rate_44 ?_
          refine g_istore_n (i := 2) dX9_rate_45 rfl (by decide) ?_
          refine g_iinc (1) dX9_rate_46 rfl rfl (by decide) ?_
          refine g_goto 19 dX9_rate_49 (by decide) ?_
          refine g_to _ _ (ihi3 trivial) rfl ⟨rfl, rfl, (congrArg (fun z => some (Value.int z)) (by show _ = mnyT S t i3 + (if _ then _ else _); simp only [reduceIte, *])), (by rw [← nI_1]; rfl), trivial⟩
        · skip
          refine g_iconst (1) rfl dX9_rate_39 ?_
          refine g_goto 44 dX9_rate_40 (by decide) ?_
          refine g_iadd dX9_rate_44 ?_
          refine g_istore_n (i := 2) dX9_rate_45 rfl (by decide) ?_
          refine g_iinc (1) dX9_rate_46 rfl rfl (by decide) ?_
          refine g_goto 19 dX9_rate_49 (by decide) ?_
          refine g_to _ _ (ihi3 trivial) rfl ⟨rfl, rfl, (congrArg (fun z => some (Value.int z)) (by show _ = mnyT S t i3 + (if _ then _ else _); simp only [reduceIte, *])), (by rw [← nI_1]; rfl), trivial⟩
  · skip
    refine g_if_ne 15 dX9_rate_4 (by decide) (fun h9 => absurd h9 (by decide)) (fun _ => ?_)
    refine g_aload_n (i := 0) dX9_rate_7 rfl rfl ?_
    refine g_ldc2 (-1000000000001) (List.mem_of_getElem? (i := 1) rfl) dX9_rate_8 ?_
    refine g_callVf 1 0 gX9_rate_X9_finding rfl rfl rfl ⟨Nat.le_of_ble_eq_true rfl, Nat.le_of_ble_eq_true rfl⟩ ⟨Nat.le_of_ble_eq_true rfl, Nat.le_of_ble_eq_true rfl⟩ (by exact Nat.le_of_ble_eq_true rfl) (by decide +kernel) rfl rfl rfl dX9_rate_11 (M_finding _ D cy a _ _ (by unfold vp_in; decide)) rfl (fun vu_21 wu_21 hu_21 => ?_)
    obtain ⟨rfl, rfl⟩ := hu_21
    refine g_lret dX9_rate_14 ?_
    unfold mf_rate; rw [if_neg (by assumption)]; exact ⟨rfl, rfl⟩

