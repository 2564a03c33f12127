/-- how many coins of a kind go over at most; how many go -/
def stm (S : MS) (h q : Int32) (i : Nat) : Int32 := if 1000 - S.2.2.1 17 (4 * q + nI i).toNatClampNeg < S.2.2.1 17 (4 * h + nI i).toNatClampNeg then 1000 - S.2.2.1 17 (4 * q + nI i).toNatClampNeg else S.2.2.1 17 (4 * h + nI i).toNatClampNeg
def stg (S : MS) (h q : Int32) (i v : Nat) (lf : Int64) : Int32 := if (stm S h q i).toInt64 ≤ lf / (nI v).toInt64 then stm S h q i else (lf / (nI v).toInt64).toInt32
def stA (S : MS) (h : Int32) (i : Nat) (g : Int32) : MS := sA S 17 (4 * h + nI i).toNatClampNeg (S.2.2.1 17 (4 * h + nI i).toNatClampNeg - g)
def stB (S : MS) (q : Int32) (i : Nat) (g : Int32) : MS := sA S 17 (4 * q + nI i).toNatClampNeg (S.2.2.1 17 (4 * q + nI i).toNatClampNeg + g)
/-- the kinds of worth v, in order; then the worths from 1000 down -/
def stK (h q : Int32) (v : Nat) (X : MS × Int64) : Nat → MS × Int64
  | 0 => X
  | i + 1 => if (stK h q v X i).1.2.2.1 16 i = nI v then (stB (stA (stK h q v X i).1 h i (stg (stK h q v X i).1 h q i v (stK h q v X i).2)) q i (stg (stK h q v X i).1 h q i v (stK h q v X i).2), (stK h q v X i).2 - (stg (stK h q v X i).1 h q i v (stK h q v X i).2).toInt64 * (nI v).toInt64) else stK h q v X i
def stV (h q : Int32) (X : MS × Int64) : Nat → MS × Int64
  | 0 => X
  | i + 1 => stK h q (1000 - i) (stV h q X i) 4
def mst (S : MS) (h q : Int32) : MS × Int64 := stV h q (S, S.2.2.2 15 (10 * h + q).toNatClampNeg) 1000
def mf_settle (S : MS) (h q : Int32) : Int64 × MS := if (0 ≤ h ∧ h ≤ 9) ∧ (0 ≤ q ∧ q ≤ 9) ∧ ¬ h = q then (if S.2.2.2 15 (10 * h + q).toNatClampNeg = 0 then mf_finding S (-1000000000002) else ((mst S h q).2, sB (mst S h q).1 15 (10 * h + q).toNatClampNeg (mst S h q).2)) else mf_finding S (-1000000000001)
theorem st_ne {v : Nat} (h0 : 0 < v) (h : v ≤ 1000) : ¬ (nI v).toInt64 = 0 := by
  rw [nI_l (by omega)]
  intro e
  have h1 := congrArg Int64.toInt e
  rw [lN_toInt (by omega), show (0 : Int64).toInt = 0 from by decide] at h1
  omega

set_option maxHeartbeats 4000000 in
set_option maxRecDepth 100000 in
/-- settle -/
theorem M_settle (l : Launch) (D : va_G) (cy : Nat → ClassId) (a : Nat → Nat) (S : MS) (h q : Int32) : Ct l D clx (tyx cy) yX9_settle wsX9_settle (rmD 2) 0 0 [.ref (a 0), .int h, .int q] (MW cy a S) (fun r9 w9 => r9 = some (.long (mf_settle S h q).1) ∧ w9 = MW cy a (mf_settle S h q).2) := by
  refine g_start (cc := cX9_settle) (maxL := 8) (ret := (some .long)) (by decide) rfl (Nat.le_of_ble_eq_true rfl) (fun v w1 h => by obtain ⟨rfl, -⟩ := h; exact rfl) (fun Γ hlΓ => ?_)
  subst hlΓ
  refine g_iload_n (i := 1) dX9_settle_0 rfl rfl ?_
  refine g_callSf 1 gX9_settle_X9_isHouse rfl rfl rfl ⟨Nat.le_of_ble_eq_true rfl, Nat.le_of_ble_eq_true rfl⟩ ⟨Nat.le_of_ble_eq_true rfl, Nat.le_of_ble_eq_true rfl⟩ (by exact Nat.le_of_ble_eq_true rfl) (by decide +kernel) rfl dX9_settle_1 (M_isHouse _ D cy a _ _) rfl (fun vu_1 wu_1 hu_1 => ?_)
  rcases hu_1 with ⟨rfl, hu_1, rfl⟩ | ⟨rfl, hu_1, rfl⟩
  · skip
    refine g_if_eq 19 dX9_settle_4 (by decide) (fun h9 => absurd h9 (by decide)) (fun _ => ?_)
    refine g_iload_n (i := 2) dX9_settle_7 rfl rfl ?_
    refine g_callSf 1 gX9_settle_X9_isHouse rfl rfl rfl ⟨Nat.le_of_ble_eq_true rfl, Nat.le_of_ble_eq_true rfl⟩ ⟨Nat.le_of_ble_eq_true rfl, Nat.le_of_ble_eq_true rfl⟩ (by exact Nat.le_of_ble_eq_true rfl) (by decide +kernel) rfl dX9_settle_8 (M_isHouse _ D cy a _ _) rfl (fun vu_3 wu_3 hu_3 => ?_)
    rcases hu_3 with ⟨rfl, hu_3, rfl⟩ | ⟨rfl, hu_3, rfl⟩
    · skip
      refine g_if_eq 19 dX9_settle_11 (by decide) (fun h9 => absurd h9 (by decide)) (fun _ => ?_)
      refine g_iload_n (i := 1) dX9_settle_14 rfl rfl ?_
      refine g_iload_n (i := 2) dX9_settle_15 rfl rfl ?_
      refine g_icmp_ne 27 dX9_settle_16 (by decide) (fun c_5 => ?_) (fun c_5 => ?_)
      · skip
        refine g_aload_n (i := 0) dX9_settle_27 rfl rfl ?_
        refine m_get 15 dX9_settle_28 (List.mem_of_getElem? (i := 2) rfl) (fun w h => List.mem_cons_of_mem _ (List.mem_append_right _ h)) (by decide) rfl ?_
        refine g_bipush (10) rfl dX9_settle_31 ?_
        refine g_iload_n (i := 1) dX9_settle_33 rfl rfl ?_
        refine g_imul dX9_settle_34 ?_
        refine g_iload_n (i := 2) dX9_settle_35 rfl rfl ?_
        refine g_iadd dX9_settle_36 ?_
        refine m_lald 15 13 100 dX9_settle_37 rfl (ix100 (vpi10 (by with_reducible assumption)) (vpi10 (by with_reducible assumption))) ?_
        refine g_lconst 0 rfl dX9_settle_38 ?_
        refine g_lcmp_ne 51 dX9_settle_39 dX9_settle_40 (by decide) (fun c_6 => ?_) (fun c_6 => ?_)
        · skip
          refine g_aload_n (i := 0) dX9_settle_51 rfl rfl ?_
          refine m_get 15 dX9_settle_52 (List.mem_of_getElem? (i := 2) rfl) (fun w h => List.mem_cons_of_mem _ (List.mem_append_right _ h)) (by decide) rfl ?_
          refine g_bipush (10) rfl dX9_settle_55 ?_
          refine g_iload_n (i := 1) dX9_settle_57 rfl rfl ?_
          refine g_imul dX9_settle_58 ?_
          refine g_iload_n (i := 2) dX9_settle_59 rfl rfl ?_
          refine g_iadd dX9_settle_60 ?_
          refine m_lald 15 13 100 dX9_settle_61 rfl (ix100 (vpi10 (by with_reducible assumption)) (vpi10 (by with_reducible assumption))) ?_
          refine g_lstore_n (i := 3) dX9_settle_62 rfl (by decide) ?_
          refine g_sipush (1000) rfl dX9_settle_63 ?_
          refine g_istore dX9_settle_66 (by decide) ?_
          refine g_cnt 1000 (fun i => True) (fun i => MW cy a (stV h q (S, S.2.2.2 15 (10 * h + q).toNatClampNeg) i).1) (fun i => [(0, .ref (a 0)), (1, .int h), (2, .int q), (3, .long (stV h q (S, S.2.2.2 15 (10 * h + q).toNatClampNeg) i).2), (5, .int (nI (1000 - i)))]) 0 (by first | decide | omega) trivial (by rfl) (by refine ⟨rfl, rfl, rfl, rfl, rfl, trivial⟩) ?_ (fun i7 hi7 gi7 ihi7 => ?_)
          · intro gN
            refine g_iload dX9_settle_68 rfl ?_
            refine g_if_le 207 dX9_settle_70 (by decide) (fun c_8 => ?_) (fun c_8 => ?_)
            · skip
              refine g_aload_n (i := 0) dX9_settle_207 rfl rfl ?_
              refine m_get 15 dX9_settle_208 (List.mem_of_getElem? (i := 2) rfl) (fun w h => List.mem_cons_of_mem _ (List.mem_append_right _ h)) (by decide) rfl ?_
              refine g_bipush (10) rfl dX9_settle_211 ?_
              refine g_iload_n (i := 1) dX9_settle_213 rfl rfl ?_
              refine g_imul dX9_settle_214 ?_
              refine g_iload_n (i := 2) dX9_settle_215 rfl rfl ?_
              refine g_iadd dX9_settle_216 ?_
              refine g_lload_n (i := 3) dX9_settle_217 rfl rfl ?_
              refine m_last 15 13 100 dX9_settle_218 rfl (ix100 (vpi10 (by with_reducible assumption)) (vpi10 (by with_reducible assumption))) (wsA_15 _ _ _ _ _) ?_
              refine g_lload_n (i := 3) dX9_settle_219 rfl rfl ?_
              refine g_lret dX9_settle_220 ?_
              unfold mf_settle mst; rw [if_pos ⟨(by with_reducible assumption), (by with_reducible assumption), (by with_reducible assumption)⟩, if_neg (by with_reducible assumption)]; with_reducible exact ⟨rfl, rfl⟩
            · skip
              exact absurd (by decide) c_8
          · skip
            refine g_iload dX9_settle_68 rfl ?_
            refine g_if_le 207 dX9_settle_70 (by decide) (fun c_9 => ?_) (fun c_9 => ?_)
            · skip
              exact absurd c_9 (nI_nle (by omega) (by omega))
            · skip
              refine g_iconst (0) rfl dX9_settle_73 ?_
              refine g_istore dX9_settle_74 (by decide) ?_
              refine g_cnt 4 (fun i => True) (fun i => MW cy a (stK h q (1000 - i7) (stV h q (S, S.2.2.2 15 (10 * h + q).toNatClampNeg) i7) i).1) (fun i => [(0, .ref (a 0)), (1, .int h), (2, .int q), (3, .long (stK h q (1000 - i7) (stV h q (S, S.2.2.2 15 (10 * h + q).toNatClampNeg) i7) i).2), (5, .int (nI (1000 - i7))), (6, .int (nI i))]) 0 (by first | decide | omega) trivial (by rfl) (by refine ⟨rfl, rfl, rfl, rfl, rfl, rfl, trivial⟩) ?_ (fun i10 hi10 gi10 ihi10 => ?_)
              · intro gN
                refine g_iload dX9_settle_76 rfl ?_
                refine g_iconst (4) rfl dX9_settle_78 ?_
                refine g_icmp_ge 201 dX9_settle_79 (by decide) (fun c_11 => ?_) (fun c_11 => ?_)
                · skip
                  refine g_iinc (-1) dX9_settle_201 rfl rfl (by decide) ?_
                  refine g_goto 68 dX9_settle_204 (by decide) ?_
                  refine g_to _ _ (ihi7 trivial) rfl ⟨rfl, rfl, rfl, rfl, (congrArg (fun z => some (Value.int z)) (by rw [show 1000 - i7 = (1000 - (i7 + 1)) + 1 by omega]; exact pk_m1 _)), trivial⟩
                · skip
                  exact absurd (nI_le (Nat.le_refl _) (by first | decide | omega)) c_11
              · skip
                refine g_iload dX9_settle_76 rfl ?_
                refine g_iconst (4) rfl dX9_settle_78 ?_
                refine g_icmp_ge 201 dX9_settle_79 (by decide) (fun c_12 => ?_) (fun c_12 => ?_)
                · skip
                  exact absurd c_12 (nI_ge hi10 (by first | decide | omega))
                · skip
                  refine g_aload_n (i := 0) dX9_settle_82 rfl rfl ?_
                  refine m_get 16 dX9_settle_83 (List.mem_of_getElem? (i := 4) rfl) (fun w h => List.mem_cons_of_mem _ (List.mem_append_right _ h)) (by decide) rfl ?_
                  refine g_iload dX9_settle_86 rfl ?_
                  refine m_ialdN 16 14 4 dX9_settle_88 rfl (by omega) (by decide) ?_
                  refine g_iload dX9_settle_89 rfl ?_
                  refine g_icmp_eq 97 dX9_settle_91 (by decide) (fun c_13 => ?_) (fun c_13 => ?_)
                  · skip
                    refine g_aload_n (i := 0) dX9_settle_97 rfl rfl ?_
                    refine m_get 17 dX9_settle_98 (List.mem_of_getElem? (i := 5) rfl) (fun w h => List.mem_cons_of_mem _ (List.mem_append_right _ h)) (by decide) rfl ?_
                    refine g_iconst (4) rfl dX9_settle_101 ?_
                    refine g_iload_n (i := 1) dX9_settle_102 rfl rfl ?_
                    refine g_imul dX9_settle_103 ?_
                    refine g_iload dX9_settle_104 rfl ?_
                    refine g_iadd dX9_settle_106 ?_
                    refine m_iald 17 15 40 dX9_settle_107 rfl (ix40 (vpi10 (by with_reducible assumption)) (vp_in_nI (by with_reducible assumption) (by decide))) ?_
                    refine g_sipush (1000) rfl dX9_settle_108 ?_
                    refine g_aload_n (i := 0) dX9_settle_111 rfl rfl ?_
                    refine m_get 17 dX9_settle_112 (List.mem_of_getElem? (i := 5) rfl) (fun w h => List.mem_cons_of_mem _ (List.mem_append_right _ h)) (by decide) rfl ?_
                    refine g_iconst (4) rfl dX9_settle_115 ?_
                    refine g_iload_n (i := 2) dX9_settle_116 rfl rfl ?_
                    refine g_imul dX9_settle_117 ?_
                    refine g_iload dX9_settle_118 rfl ?_
                    refine g_iadd dX9_settle_120 ?_
                    refine m_iald 17 15 40 dX9_settle_121 rfl (ix40 (vpi10 (by with_reducible assumption)) (vp_in_nI (by with_reducible assumption) (by decide))) ?_
                    refine g_isub dX9_settle_122 ?_
                    refine g_mmin (List.mem_of_getElem? (i := 6) rfl) (List.mem_of_getElem? (i := 7) rfl) (List.mem_of_getElem? (i := 8) rfl) (List.mem_of_getElem? (i := 9) rfl) (Nat.le_of_ble_eq_true rfl) (by exact Nat.le_of_ble_eq_true rfl) (Nat.le_of_ble_eq_true rfl) (Nat.le_of_ble_eq_true rfl) dX9_settle_123 ?_
                    refine g_istore dX9_settle_126 (by decide) ?_
                    refine g_lload_n (i := 3) dX9_settle_128 rfl rfl ?_
                    refine g_iload dX9_settle_129 rfl ?_
                    refine g_i2l dX9_settle_131 ?_
                    refine g_ldiv (st_ne (by omega) (by omega)) dX9_settle_132 ?_
                    refine g_iload dX9_settle_133 rfl ?_
                    refine g_i2l dX9_settle_135 ?_
                    refine g_lcmp_ge 149 dX9_settle_136 dX9_settle_137 (by decide) (fun c_14 => ?_) (fun c_14 => ?_)
                    · skip
                      refine g_iload dX9_settle_149 rfl ?_
                      refine g_istore dX9_settle_151 (by decide) ?_
                      refine g_aload_n (i := 0) dX9_settle_153 rfl rfl ?_
                      refine m_get 17 dX9_settle_154 (List.mem_of_getElem? (i := 5) rfl) (fun w h => List.mem_cons_of_mem _ (List.mem_append_right _ h)) (by decide) rfl ?_
                      refine g_iconst (4) rfl dX9_settle_157 ?_
                      refine g_iload_n (i := 1) dX9_settle_158 rfl rfl ?_
                      refine g_imul dX9_settle_159 ?_
                      refine g_iload dX9_settle_160 rfl ?_
                      refine g_iadd dX9_settle_162 ?_
                      refine g_dup2_11 rfl rfl dX9_settle_163 ?_
                      refine m_iald 17 15 40 dX9_settle_164 rfl (ix40 (vpi10 (by with_reducible assumption)) (vp_in_nI (by with_reducible assumption) (by decide))) ?_
                      refine g_iload dX9_settle_165 rfl ?_
                      refine g_isub dX9_settle_167 ?_
                      refine m_iast 17 15 40 dX9_settle_168 rfl (ix40 (vpi10 (by with_reducible assumption)) (vp_in_nI (by with_reducible assumption) (by decide))) (wsA_17 _ _ _ _ _) ?_
                      refine g_aload_n (i := 0) dX9_settle_169 rfl rfl ?_
                      refine m_get 17 dX9_settle_170 (List.mem_of_getElem? (i := 5) rfl) (fun w h => List.mem_cons_of_mem _ (List.mem_append_right _ h)) (by decide) rfl ?_
                      refine g_iconst (4) rfl dX9_settle_173 ?_
                      refine g_iload_n (i := 2) dX9_settle_174 rfl rfl ?_
                      refine g_imul dX9_settle_175 ?_
                      refine g_iload dX9_settle_176 rfl ?_
                      refine g_iadd dX9_settle_178 ?_
                      refine g_dup2_11 rfl rfl dX9_settle_179 ?_
                      refine m_iald 17 15 40 dX9_settle_180 rfl (ix40 (vpi10 (by with_reducible assumption)) (vp_in_nI (by with_reducible assumption) (by decide))) ?_
                      refine g_iload dX9_settle_181 rfl ?_
                      refine g_iadd dX9_settle_183 ?_
                      refine m_iast 17 15 40 dX9_settle_184 rfl (ix40 (vpi10 (by with_reducible assumption)) (vp_in_nI (by with_reducible assumption) (by decide))) (wsA_17 _ _ _ _ _) ?_
                      refine g_lload_n (i := 3) dX9_settle_185 rfl rfl ?_
                      refine g_iload dX9_settle_186 rfl ?_
                      refine g_i2l dX9_settle_188 ?_
                      refine g_iload dX9_settle_189 rfl ?_
                      refine g_i2l dX9_settle_191 ?_
                      refine g_lmul dX9_settle_192 ?_
                      refine g_lsub dX9_settle_193 ?_
                      refine g_lstore_n (i := 3) dX9_settle_194 rfl (by decide) ?_
                      refine g_iinc (1) dX9_settle_195 rfl rfl (by decide) ?_
                      refine g_goto 76 dX9_settle_198 (by decide) ?_
                      have eS : stK h q (1000 - i7) (stV h q (S, S.2.2.2 15 (10 * h + q).toNatClampNeg) i7) (i10 + 1) = (if (stK h q (1000 - i7) (stV h q (S, S.2.2.2 15 (10 * h + q).toNatClampNeg) i7) i10).1.2.2.1 16 i10 = nI (1000 - i7) then (stB (stA (stK h q (1000 - i7) (stV h q (S, S.2.2.2 15 (10 * h + q).toNatClampNeg) i7) i10).1 h i10 (stg (stK h q (1000 - i7) (stV h q (S, S.2.2.2 15 (10 * h + q).toNatClampNeg) i7) i10).1 h q i10 (1000 - i7) (stK h q (1000 - i7) (stV h q (S, S.2.2.2 15 (10 * h + q).toNatClampNeg) i7) i10).2)) q i10 (stg (stK h q (1000 - i7) (stV h q (S, S.2.2.2 15 (10 * h + q).toNatClampNeg) i7) i10).1 h q i10 (1000 - i7) (stK h q (1000 - i7) (stV h q (S, S.2.2.2 15 (10 * h + q).toNatClampNeg) i7) i10).2), (stK h q (1000 - i7) (stV h q (S, S.2.2.2 15 (10 * h + q).toNatClampNeg) i7) i10).2 - (stg (stK h q (1000 - i7) (stV h q (S, S.2.2.2 15 (10 * h + q).toNatClampNeg) i7) i10).1 h q i10 (1000 - i7) (stK h q (1000 - i7) (stV h q (S, S.2.2.2 15 (10 * h + q).toNatClampNeg) i7) i10).2).toInt64 * (nI (1000 - i7)).toInt64) else stK h q (1000 - i7) (stV h q (S, S.2.2.2 15 (10 * h + q).toNatClampNeg) i7) i10) := rfl
                      first | rw [if_pos (by with_reducible assumption)] at eS | rw [if_neg (by with_reducible assumption)] at eS
                      have h76 := ihi10 trivial
                      rw [eS] at h76
                      try unfold stg stm at h76
                      try simp only [reduceIte, *] at h76
                      exact g_to _ _ h76 rfl ⟨rfl, rfl, rfl, rfl, rfl, (by rw [← nI_1]; rfl), trivial⟩
                    · skip
                      refine g_lload_n (i := 3) dX9_settle_140 rfl rfl ?_
                      refine g_iload dX9_settle_141 rfl ?_
                      refine g_i2l dX9_settle_143 ?_
                      refine g_ldiv (st_ne (by omega) (by omega)) dX9_settle_144 ?_
                      refine g_l2i dX9_settle_145 ?_
                      refine g_goto 151 dX9_settle_146 (by decide) ?_
                      refine g_istore dX9_settle_151 (by decide) ?_
                      refine g_aload_n (i := 0) dX9_settle_153 rfl rfl ?_
                      refine m_get 17 dX9_settle_154 (List.mem_of_getElem? (i := 5) rfl) (fun w h => List.mem_cons_of_mem _ (List.mem_append_right _ h)) (by decide) rfl ?_
                      refine g_iconst (4) rfl dX9_settle_157 ?_
                      refine g_iload_n (i := 1) dX9_settle_158 rfl rfl ?_
                      refine g_imul dX9_settle_159 ?_
                      refine g_iload dX9_settle_160 rfl ?_
                      refine g_iadd dX9_settle_162 ?_
                      refine g_dup2_11 rfl rfl dX9_settle_163 ?_
                      refine m_iald 17 15 40 dX9_settle_164 rfl (ix40 (vpi10 (by with_reducible assumption)) (vp_in_nI (by with_reducible assumption) (by decide))) ?_
                      refine g_iload dX9_settle_165 rfl ?_
                      refine g_isub dX9_settle_167 ?_
                      refine m_iast 17 15 40 dX9_settle_168 rfl (ix40 (vpi10 (by with_reducible assumption)) (vp_in_nI (by with_reducible assumption) (by decide))) (wsA_17 _ _ _ _ _) ?_
                      refine g_aload_n (i := 0) dX9_settle_169 rfl rfl ?_
                      refine m_get 17 dX9_settle_170 (List.mem_of_getElem? (i := 5) rfl) (fun w h => List.mem_cons_of_mem _ (List.mem_append_right _ h)) (by decide) rfl ?_
                      refine g_iconst (4) rfl dX9_settle_173 ?_
                      refine g_iload_n (i := 2) dX9_settle_174 rfl rfl ?_
                      refine g_imul dX9_settle_175 ?_
                      refine g_iload dX9_settle_176 rfl ?_
                      refine g_iadd dX9_settle_178 ?_
                      refine g_dup2_11 rfl rfl dX9_settle_179 ?_
                      refine m_iald 17 15 40 dX9_settle_180 rfl (ix40 (vpi10 (by with_reducible assumption)) (vp_in_nI (by with_reducible assumption) (by decide))) ?_
                      refine g_iload dX9_settle_181 rfl ?_
                      refine g_iadd dX9_settle_183 ?_
                      refine m_iast 17 15 40 dX9_settle_184 rfl (ix40 (vpi10 (by with_reducible assumption)) (vp_in_nI (by with_reducible assumption) (by decide))) (wsA_17 _ _ _ _ _) ?_
                      refine g_lload_n (i := 3) dX9_settle_185 rfl rfl ?_
                      refine g_iload dX9_settle_186 rfl ?_
                      refine g_i2l dX9_settle_188 ?_
                      refine g_iload dX9_settle_189 rfl ?_
                      refine g_i2l dX9_settle_191 ?_
                      refine g_lmul dX9_settle_192 ?_
                      refine g_lsub dX9_settle_193 ?_
                      refine g_lstore_n (i := 3) dX9_settle_194 rfl (by decide) ?_
                      refine g_iinc (1) dX9_settle_195 rfl rfl (by decide) ?_
                      refine g_goto 76 dX9_settle_198 (by decide) ?_
                      have eS : stK h q (1000 - i7) (stV h q (S, S.2.2.2 15 (10 * h + q).toNatClampNeg) i7) (i10 + 1) = (if (stK h q (1000 - i7) (stV h q (S, S.2.2.2 15 (10 * h + q).toNatClampNeg) i7) i10).1.2.2.1 16 i10 = nI (1000 - i7) then (stB (stA (stK h q (1000 - i7) (stV h q (S, S.2.2.2 15 (10 * h + q).toNatClampNeg) i7) i10).1 h i10 (stg (stK h q (1000 - i7) (stV h q (S, S.2.2.2 15 (10 * h + q).toNatClampNeg) i7) i10).1 h q i10 (1000 - i7) (stK h q (1000 - i7) (stV h q (S, S.2.2.2 15 (10 * h + q).toNatClampNeg) i7) i10).2)) q i10 (stg (stK h q (1000 - i7) (stV h q (S, S.2.2.2 15 (10 * h + q).toNatClampNeg) i7) i10).1 h q i10 (1000 - i7) (stK h q (1000 - i7) (stV h q (S, S.2.2.2 15 (10 * h + q).toNatClampNeg) i7) i10).2), (stK h q (1000 - i7) (stV h q (S, S.2.2.2 15 (10 * h + q).toNatClampNeg) i7) i10).2 - (stg (stK h q (1000 - i7) (stV h q (S, S.2.2.2 15 (10 * h + q).toNatClampNeg) i7) i10).1 h q i10 (1000 - i7) (stK h q (1000 - i7) (stV h q (S, S.2.2.2 15 (10 * h + q).toNatClampNeg) i7) i10).2).toInt64 * (nI (1000 - i7)).toInt64) else stK h q (1000 - i7) (stV h q (S, S.2.2.2 15 (10 * h + q).toNatClampNeg) i7) i10) := rfl
                      first | rw [if_pos (by with_reducible assumption)] at eS | rw [if_neg (by with_reducible assumption)] at eS
                      have h76 := ihi10 trivial
                      rw [eS] at h76
                      try unfold stg stm at h76
                      try simp only [reduceIte, *] at h76
                      exact g_to _ _ h76 rfl ⟨rfl, rfl, rfl, rfl, rfl, (by rw [← nI_1]; rfl), trivial⟩
                  · skip
                    refine g_goto 195 dX9_settle_94 (by decide) ?_
                    refine g_iinc (1) dX9_settle_195 rfl rfl (by decide) ?_
                    refine g_goto 76 dX9_settle_198 (by decide) ?_
                    have eS : stK h q (1000 - i7) (stV h q (S, S.2.2.2 15 (10 * h + q).toNatClampNeg) i7) (i10 + 1) = (if (stK h q (1000 - i7) (stV h q (S, S.2.2.2 15 (10 * h + q).toNatClampNeg) i7) i10).1.2.2.1 16 i10 = nI (1000 - i7) then (stB (stA (stK h q (1000 - i7) (stV h q (S, S.2.2.2 15 (10 * h + q).toNatClampNeg) i7) i10).1 h i10 (stg (stK h q (1000 - i7) (stV h q (S, S.2.2.2 15 (10 * h + q).toNatClampNeg) i7) i10).1 h q i10 (1000 - i7) (stK h q (1000 - i7) (stV h q (S, S.2.2.2 15 (10 * h + q).toNatClampNeg) i7) i10).2)) q i10 (stg (stK h q (1000 - i7) (stV h q (S, S.2.2.2 15 (10 * h + q).toNatClampNeg) i7) i10).1 h q i10 (1000 - i7) (stK h q (1000 - i7) (stV h q (S, S.2.2.2 15 (10 * h + q).toNatClampNeg) i7) i10).2), (stK h q (1000 - i7) (stV h q (S, S.2.2.2 15 (10 * h + q).toNatClampNeg) i7) i10).2 - (stg (stK h q (1000 - i7) (stV h q (S, S.2.2.2 15 (10 * h + q).toNatClampNeg) i7) i10).1 h q i10 (1000 - i7) (stK h q (1000 - i7) (stV h q (S, S.2.2.2 15 (10 * h + q).toNatClampNeg) i7) i10).2).toInt64 * (nI (1000 - i7)).toInt64) else stK h q (1000 - i7) (stV h q (S, S.2.2.2 15 (10 * h + q).toNatClampNeg) i7) i10) := rfl
                    first | rw [if_pos (by with_reducible assumption)] at eS | rw [if_neg (by with_reducible assumption)] at eS
                    have h76 := ihi10 trivial
                    rw [eS] at h76
                    try unfold stg stm at h76
                    try simp only [reduceIte, *] at h76
                    exact g_to _ _ h76 rfl ⟨rfl, rfl, rfl, rfl, rfl, (by rw [← nI_1]; rfl), trivial⟩
        · skip
          refine g_aload_n (i := 0) dX9_settle_43 rfl rfl ?_
          refine g_ldc2 (-1000000000002) (List.mem_of_getElem? (i := 3) rfl) dX9_settle_44 ?_
          refine g_callVf 1 0 gX9_settle_X9_finding rfl rfl rfl ⟨Nat.le_of_ble_eq_true rfl, Nat.le_of_ble_eq_true rfl⟩ ⟨Nat.le_of_ble_eq_true rfl, Nat.le_of_ble_eq_true rfl⟩ (by exact Nat.le_of_ble_eq_true rfl) (by decide +kernel) rfl rfl rfl dX9_settle_47 (M_finding _ D cy a _ _ (by unfold vp_in; decide)) rfl (fun vu_15 wu_15 hu_15 => ?_)
          obtain ⟨rfl, rfl⟩ := hu_15
          refine g_lret dX9_settle_50 ?_
          unfold mf_settle; rw [if_pos ⟨(by with_reducible assumption), (by with_reducible assumption), (by with_reducible assumption)⟩, if_pos (by with_reducible assumption)]; with_reducible exact ⟨rfl, rfl⟩
      · skip
        refine g_aload_n (i := 0) dX9_settle_19 rfl rfl ?_
        refine g_ldc2 (-1000000000001) (List.mem_of_getElem? (i := 1) rfl) dX9_settle_20 ?_
        refine g_callVf 1 0 gX9_settle_X9_finding rfl rfl rfl ⟨Nat.le_of_ble_eq_true rfl, Nat.le_of_ble_eq_true rfl⟩ ⟨Nat.le_of_ble_eq_true rfl, Nat.le_of_ble_eq_true rfl⟩ (by exact Nat.le_of_ble_eq_true rfl) (by decide +kernel) rfl rfl rfl dX9_settle_23 (M_finding _ D cy a _ _ (by unfold vp_in; decide)) rfl (fun vu_16 wu_16 hu_16 => ?_)
        obtain ⟨rfl, rfl⟩ := hu_16
        refine g_lret dX9_settle_26 ?_
        unfold mf_settle; rw [if_neg (fun h9 => by first | exact absurd h9.1 (by with_reducible assumption) | exact absurd h9.2.1 (by with_reducible assumption) | exact absurd (by with_reducible assumption) h9.2.2)]; with_reducible exact ⟨rfl, rfl⟩
    · skip
      refine g_if_eq 19 dX9_settle_11 (by decide) (fun _ => ?_) (fun h9 => absurd h9 (by decide))
      refine g_aload_n (i := 0) dX9_settle_19 rfl rfl ?_
      refine g_ldc2 (-1000000000001) (List.mem_of_getElem? (i := 1) rfl) dX9_settle_20 ?_
      refine g_callVf 1 0 gX9_settle_X9_finding rfl rfl rfl ⟨Nat.le_of_ble_eq_true rfl, Nat.le_of_ble_eq_true rfl⟩ ⟨Nat.le_of_ble_eq_true rfl, Nat.le_of_ble_eq_true rfl⟩ (by exact Nat.le_of_ble_eq_true rfl) (by decide +kernel) rfl rfl rfl dX9_settle_23 (M_finding _ D cy a _ _ (by unfold vp_in; decide)) rfl (fun vu_18 wu_18 hu_18 => ?_)
      obtain ⟨rfl, rfl⟩ := hu_18
      refine g_lret dX9_settle_26 ?_
      unfold mf_settle; rw [if_neg (fun h9 => by first | exact absurd h9.1 (by with_reducible assumption) | exact absurd h9.2.1 (by with_reducible assumption) | exact absurd (by with_reducible assumption) h9.2.2)]; with_reducible exact ⟨rfl, rfl⟩
  · skip
    refine g_if_eq 19 dX9_settle_4 (by decide) (fun _ => ?_) (fun h9 => absurd h9 (by decide))
    refine g_aload_n (i := 0) dX9_settle_19 rfl rfl ?_
    refine g_ldc2 (-1000000000001) (List.mem_of_getElem? (i := 1) rfl) dX9_settle_20 ?_
    refine g_callVf 1 0 gX9_settle_X9_finding rfl rfl rfl ⟨Nat.le_of_ble_eq_true rfl, Nat.le_of_ble_eq_true rfl⟩ ⟨Nat.le_of_ble_eq_true rfl, Nat.le_of_ble_eq_true rfl⟩ (by exact Nat.le_of_ble_eq_true rfl) (by decide +kernel) rfl rfl rfl dX9_settle_23 (M_finding _ D cy a _ _ (by unfold vp_in; decide)) rfl (fun vu_20 wu_20 hu_20 => ?_)
    obtain ⟨rfl, rfl⟩ := hu_20
    refine g_lret dX9_settle_26 ?_
    unfold mf_settle; rw [if_neg (fun h9 => by first | exact absurd h9.1 (by with_reducible assumption) | exact absurd h9.2.1 (by with_reducible assumption) | exact absurd (by with_reducible assumption) h9.2.2)]; with_reducible exact ⟨rfl, rfl⟩

