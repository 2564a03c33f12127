/-- a turn's product and figures are held against the best -/
def mf_best (S : MS) (p c : Int64) : MS := if p ≤ S.2.1 51 then S else sL (sL S 51 p) 52 c
def mlook2 (S : MS) (x y : Int32) : MS := mf_best S ((S.2.2.1 19 (5 * x + y).toNatClampNeg).toInt64 * (S.2.2.1 19 (5 * y + x).toNatClampNeg).toInt64 * 10000 * 10000) (100 + 10 * x.toInt64 + y.toInt64)
def mlook3 (S : MS) (x y z : Int32) : MS := mf_best S ((S.2.2.1 19 (5 * x + y).toNatClampNeg).toInt64 * (S.2.2.1 19 (5 * z + x).toNatClampNeg).toInt64 * (S.2.2.1 19 (5 * y + z).toNatClampNeg).toInt64 * 10000) (10 * (100 + 10 * x.toInt64 + y.toInt64) + z.toInt64)
def mlook4 (S : MS) (x y z u : Int32) : MS := mf_best S ((S.2.2.1 19 (5 * x + y).toNatClampNeg).toInt64 * (S.2.2.1 19 (5 * u + x).toNatClampNeg).toInt64 * (S.2.2.1 19 (5 * y + z).toNatClampNeg).toInt64 * (S.2.2.1 19 (5 * z + u).toNatClampNeg).toInt64) (10 * (10 * (100 + 10 * x.toInt64 + y.toInt64) + z.toInt64) + u.toInt64)
set_option maxHeartbeats 4000000 in
set_option maxRecDepth 100000 in
/-- look at a turn of two -/
theorem M_look2 (l : Launch) (D : va_G) (cy : Nat → ClassId) (a : Nat → Nat) (S : MS) (x y z u : Int32) (hx : vp_in x 5) (hy : vp_in y 5) (hz : z < 0) (hu : u < 0) : Ct l D clx (tyx cy) yX9_look wsX9_look (rmD 0) 0 0 [.ref (a 0), .int x, .int y, .int z, .int u] (MW cy a S) (fun r9 w9 => r9 = none ∧ w9 = MW cy a (mlook2 S x y)) := by
  refine g_start (cc := cX9_look) (maxL := 12) (ret := none) (by decide) rfl (Nat.le_of_ble_eq_true rfl) (fun v w1 h => by obtain ⟨rfl, -⟩ := h; exact rfl) (fun Γ hlΓ => ?_)
  subst hlΓ
  refine g_iload_n (i := 3) dX9_look_0 rfl rfl ?_
  refine g_if_ge 8 dX9_look_1 (by decide) (fun c_1 => ?_) (fun c_1 => ?_)
  · skip
    exact absurd c_1 (Int32.not_le.mpr hz)
  · skip
    refine g_iconst (2) rfl dX9_look_4 ?_
    refine g_goto 18 dX9_look_5 (by decide) ?_
    refine g_istore dX9_look_18 (by decide) ?_
    refine g_iload_n (i := 3) dX9_look_20 rfl rfl ?_
    refine g_if_ge 28 dX9_look_21 (by decide) (fun c_2 => ?_) (fun c_2 => ?_)
    · skip
      exact absurd c_2 (Int32.not_le.mpr hz)
    · skip
      refine g_iload_n (i := 2) dX9_look_24 rfl rfl ?_
      refine g_goto 39 dX9_look_25 (by decide) ?_
      refine g_istore dX9_look_39 (by decide) ?_
      refine g_aload_n (i := 0) dX9_look_41 rfl rfl ?_
      refine m_get 19 dX9_look_42 (List.mem_of_getElem? (i := 1) rfl) (fun w h => List.mem_cons_of_mem _ (List.mem_append_right _ h)) (by decide) rfl ?_
      refine g_iconst (5) rfl dX9_look_45 ?_
      refine g_iload_n (i := 1) dX9_look_46 rfl rfl ?_
      refine g_imul dX9_look_47 ?_
      refine g_iload_n (i := 2) dX9_look_48 rfl rfl ?_
      refine g_iadd dX9_look_49 ?_
      refine m_iald 19 17 25 dX9_look_50 rfl (ix25 hx hy) ?_
      refine g_i2l dX9_look_51 ?_
      refine g_aload_n (i := 0) dX9_look_52 rfl rfl ?_
      refine m_get 19 dX9_look_53 (List.mem_of_getElem? (i := 1) rfl) (fun w h => List.mem_cons_of_mem _ (List.mem_append_right _ h)) (by decide) rfl ?_
      refine g_iconst (5) rfl dX9_look_56 ?_
      refine g_iload dX9_look_57 rfl ?_
      refine g_imul dX9_look_59 ?_
      refine g_iload_n (i := 1) dX9_look_60 rfl rfl ?_
      refine g_iadd dX9_look_61 ?_
      refine m_iald 19 17 25 dX9_look_62 rfl (ix25 hy hx) ?_
      refine g_i2l dX9_look_63 ?_
      refine g_lmul dX9_look_64 ?_
      refine g_lstore dX9_look_65 (by decide) ?_
      refine g_ldc2 (100) (List.mem_of_getElem? (i := 2) rfl) dX9_look_67 ?_
      refine g_ldc2 (10) (List.mem_of_getElem? (i := 3) rfl) dX9_look_70 ?_
      refine g_iload_n (i := 1) dX9_look_73 rfl rfl ?_
      refine g_i2l dX9_look_74 ?_
      refine g_lmul dX9_look_75 ?_
      refine g_ladd dX9_look_76 ?_
      refine g_iload_n (i := 2) dX9_look_77 rfl rfl ?_
      refine g_i2l dX9_look_78 ?_
      refine g_ladd dX9_look_79 ?_
      refine g_lstore dX9_look_80 (by decide) ?_
      refine g_iload_n (i := 3) dX9_look_82 rfl rfl ?_
      refine g_if_lt 113 dX9_look_83 (by decide) (fun c_3 => ?_) (fun c_3 => ?_)
      · skip
        refine g_iload dX9_look_113 rfl ?_
        refine g_if_lt 147 dX9_look_115 (by decide) (fun c_4 => ?_) (fun c_4 => ?_)
        · skip
          refine g_iload dX9_look_147 rfl ?_
          refine g_istore dX9_look_149 (by decide) ?_
          refine g_iload dX9_look_151 rfl ?_
          refine g_iconst (4) rfl dX9_look_153 ?_
          refine g_icmp_ge 171 dX9_look_154 (by decide) (fun h9 => absurd h9 (by decide)) (fun _ => ?_)
          refine g_lload dX9_look_157 rfl ?_
          refine g_ldc2 (10000) (List.mem_of_getElem? (i := 4) rfl) dX9_look_159 ?_
          refine g_lmul dX9_look_162 ?_
          refine g_lstore dX9_look_163 (by decide) ?_
          refine g_iinc (1) dX9_look_165 rfl rfl (by decide) ?_
          refine g_goto 151 dX9_look_168 (by decide) ?_
          refine g_iload dX9_look_151 rfl ?_
          refine g_iconst (4) rfl dX9_look_153 ?_
          refine g_icmp_ge 171 dX9_look_154 (by decide) (fun h9 => absurd h9 (by decide)) (fun _ => ?_)
          refine g_lload dX9_look_157 rfl ?_
          refine g_ldc2 (10000) (List.mem_of_getElem? (i := 4) rfl) dX9_look_159 ?_
          refine g_lmul dX9_look_162 ?_
          refine g_lstore dX9_look_163 (by decide) ?_
          refine g_iinc (1) dX9_look_165 rfl rfl (by decide) ?_
          refine g_goto 151 dX9_look_168 (by decide) ?_
          refine g_iload dX9_look_151 rfl ?_
          refine g_iconst (4) rfl dX9_look_153 ?_
          refine g_icmp_ge 171 dX9_look_154 (by decide) (fun _ => ?_) (fun h9 => absurd h9 (by decide))
          refine g_lload dX9_look_171 rfl ?_
          refine g_aload_n (i := 0) dX9_look_173 rfl rfl ?_
          refine m_get 51 dX9_look_174 (List.mem_of_getElem? (i := 5) rfl) (fun w h => List.mem_cons_of_mem _ (List.mem_append_right _ h)) (by decide) rfl ?_
          refine g_lcmp_le 193 dX9_look_177 dX9_look_178 (by decide) (fun c_8 => ?_) (fun c_8 => ?_)
          · skip
            refine g_vret dX9_look_193 ?_
            unfold mlook2 mf_best; (repeat' split) <;> first | contradiction | (with_reducible exact ⟨rfl, rfl⟩) | exact ⟨rfl, rfl⟩
          · skip
            refine g_aload_n (i := 0) dX9_look_181 rfl rfl ?_
            refine g_lload dX9_look_182 rfl ?_
            refine m_putl 51 dX9_look_184 (List.mem_of_getElem? (i := 5) rfl) (fun w h => List.mem_cons_of_mem _ (List.mem_append_right _ h)) (by decide) rfl rfl rfl (wsI_51 _ _ _ _) ?_
            refine g_aload_n (i := 0) dX9_look_187 rfl rfl ?_
            refine g_lload dX9_look_188 rfl ?_
            refine m_putl 52 dX9_look_190 (List.mem_of_getElem? (i := 6) rfl) (fun w h => List.mem_cons_of_mem _ (List.mem_append_right _ h)) (by decide) rfl rfl rfl (wsI_52 _ _ _ _) ?_
            refine g_vret dX9_look_193 ?_
            unfold mlook2 mf_best; (repeat' split) <;> first | contradiction | (with_reducible exact ⟨rfl, rfl⟩) | exact ⟨rfl, rfl⟩
        · skip
          exact absurd hu c_4
      · skip
        exact absurd hz c_3

set_option maxHeartbeats 4000000 in
set_option maxRecDepth 100000 in
/-- look at a turn of three -/
theorem M_look3 (l : Launch) (D : va_G) (cy : Nat → ClassId) (a : Nat → Nat) (S : MS) (x y z u : Int32) (hx : vp_in x 5) (hy : vp_in y 5) (hz : 0 ≤ z) (hzv : vp_in z 5) (hu : u < 0) : Ct l D clx (tyx cy) yX9_look wsX9_look (rmD 0) 0 0 [.ref (a 0), .int x, .int y, .int z, .int u] (MW cy a S) (fun r9 w9 => r9 = none ∧ w9 = MW cy a (mlook3 S x y z)) := by
  refine g_start (cc := cX9_look) (maxL := 12) (ret := none) (by decide) rfl (Nat.le_of_ble_eq_true rfl) (fun v w1 h => by obtain ⟨rfl, -⟩ := h; exact rfl) (fun Γ hlΓ => ?_)
  subst hlΓ
  refine g_iload_n (i := 3) dX9_look_0 rfl rfl ?_
  refine g_if_ge 8 dX9_look_1 (by decide) (fun c_1 => ?_) (fun c_1 => ?_)
  · skip
    refine g_iload dX9_look_8 rfl ?_
    refine g_if_ge 17 dX9_look_10 (by decide) (fun c_2 => ?_) (fun c_2 => ?_)
    · skip
      exact absurd c_2 (Int32.not_le.mpr hu)
    · skip
      refine g_iconst (3) rfl dX9_look_13 ?_
      refine g_goto 18 dX9_look_14 (by decide) ?_
      refine g_istore dX9_look_18 (by decide) ?_
      refine g_iload_n (i := 3) dX9_look_20 rfl rfl ?_
      refine g_if_ge 28 dX9_look_21 (by decide) (fun c_3 => ?_) (fun c_3 => ?_)
      · skip
        refine g_iload dX9_look_28 rfl ?_
        refine g_if_ge 37 dX9_look_30 (by decide) (fun c_4 => ?_) (fun c_4 => ?_)
        · skip
          exact absurd c_4 (Int32.not_le.mpr hu)
        · skip
          refine g_iload_n (i := 3) dX9_look_33 rfl rfl ?_
          refine g_goto 39 dX9_look_34 (by decide) ?_
          refine g_istore dX9_look_39 (by decide) ?_
          refine g_aload_n (i := 0) dX9_look_41 rfl rfl ?_
          refine m_get 19 dX9_look_42 (List.mem_of_getElem? (i := 1) rfl) (fun w h => List.mem_cons_of_mem _ (List.mem_append_right _ h)) (by decide) rfl ?_
          refine g_iconst (5) rfl dX9_look_45 ?_
          refine g_iload_n (i := 1) dX9_look_46 rfl rfl ?_
          refine g_imul dX9_look_47 ?_
          refine g_iload_n (i := 2) dX9_look_48 rfl rfl ?_
          refine g_iadd dX9_look_49 ?_
          refine m_iald 19 17 25 dX9_look_50 rfl (ix25 hx hy) ?_
          refine g_i2l dX9_look_51 ?_
          refine g_aload_n (i := 0) dX9_look_52 rfl rfl ?_
          refine m_get 19 dX9_look_53 (List.mem_of_getElem? (i := 1) rfl) (fun w h => List.mem_cons_of_mem _ (List.mem_append_right _ h)) (by decide) rfl ?_
          refine g_iconst (5) rfl dX9_look_56 ?_
          refine g_iload dX9_look_57 rfl ?_
          refine g_imul dX9_look_59 ?_
          refine g_iload_n (i := 1) dX9_look_60 rfl rfl ?_
          refine g_iadd dX9_look_61 ?_
          refine m_iald 19 17 25 dX9_look_62 rfl (ix25 hzv hx) ?_
          refine g_i2l dX9_look_63 ?_
          refine g_lmul dX9_look_64 ?_
          refine g_lstore dX9_look_65 (by decide) ?_
          refine g_ldc2 (100) (List.mem_of_getElem? (i := 2) rfl) dX9_look_67 ?_
          refine g_ldc2 (10) (List.mem_of_getElem? (i := 3) rfl) dX9_look_70 ?_
          refine g_iload_n (i := 1) dX9_look_73 rfl rfl ?_
          refine g_i2l dX9_look_74 ?_
          refine g_lmul dX9_look_75 ?_
          refine g_ladd dX9_look_76 ?_
          refine g_iload_n (i := 2) dX9_look_77 rfl rfl ?_
          refine g_i2l dX9_look_78 ?_
          refine g_ladd dX9_look_79 ?_
          refine g_lstore dX9_look_80 (by decide) ?_
          refine g_iload_n (i := 3) dX9_look_82 rfl rfl ?_
          refine g_if_lt 113 dX9_look_83 (by decide) (fun c_5 => ?_) (fun c_5 => ?_)
          · skip
            exact absurd c_5 (Int32.not_lt.mpr hz)
          · skip
            refine g_lload dX9_look_86 rfl ?_
            refine g_aload_n (i := 0) dX9_look_88 rfl rfl ?_
            refine m_get 19 dX9_look_89 (List.mem_of_getElem? (i := 1) rfl) (fun w h => List.mem_cons_of_mem _ (List.mem_append_right _ h)) (by decide) rfl ?_
            refine g_iconst (5) rfl dX9_look_92 ?_
            refine g_iload_n (i := 2) dX9_look_93 rfl rfl ?_
            refine g_imul dX9_look_94 ?_
            refine g_iload_n (i := 3) dX9_look_95 rfl rfl ?_
            refine g_iadd dX9_look_96 ?_
            refine m_iald 19 17 25 dX9_look_97 rfl (ix25 hy hzv) ?_
            refine g_i2l dX9_look_98 ?_
            refine g_lmul dX9_look_99 ?_
            refine g_lstore dX9_look_100 (by decide) ?_
            refine g_ldc2 (10) (List.mem_of_getElem? (i := 3) rfl) dX9_look_102 ?_
            refine g_lload dX9_look_105 rfl ?_
            refine g_lmul dX9_look_107 ?_
            refine g_iload_n (i := 3) dX9_look_108 rfl rfl ?_
            refine g_i2l dX9_look_109 ?_
            refine g_ladd dX9_look_110 ?_
            refine g_lstore dX9_look_111 (by decide) ?_
            refine g_iload dX9_look_113 rfl ?_
            refine g_if_lt 147 dX9_look_115 (by decide) (fun c_6 => ?_) (fun c_6 => ?_)
            · skip
              refine g_iload dX9_look_147 rfl ?_
              refine g_istore dX9_look_149 (by decide) ?_
              refine g_iload dX9_look_151 rfl ?_
              refine g_iconst (4) rfl dX9_look_153 ?_
              refine g_icmp_ge 171 dX9_look_154 (by decide) (fun h9 => absurd h9 (by decide)) (fun _ => ?_)
              refine g_lload dX9_look_157 rfl ?_
              refine g_ldc2 (10000) (List.mem_of_getElem? (i := 4) rfl) dX9_look_159 ?_
              refine g_lmul dX9_look_162 ?_
              refine g_lstore dX9_look_163 (by decide) ?_
              refine g_iinc (1) dX9_look_165 rfl rfl (by decide) ?_
              refine g_goto 151 dX9_look_168 (by decide) ?_
              refine g_iload dX9_look_151 rfl ?_
              refine g_iconst (4) rfl dX9_look_153 ?_
              refine g_icmp_ge 171 dX9_look_154 (by decide) (fun _ => ?_) (fun h9 => absurd h9 (by decide))
              refine g_lload dX9_look_171 rfl ?_
              refine g_aload_n (i := 0) dX9_look_173 rfl rfl ?_
              refine m_get 51 dX9_look_174 (List.mem_of_getElem? (i := 5) rfl) (fun w h => List.mem_cons_of_mem _ (List.mem_append_right _ h)) (by decide) rfl ?_
              refine g_lcmp_le 193 dX9_look_177 dX9_look_178 (by decide) (fun c_9 => ?_) (fun c_9 => ?_)
              · skip
                refine g_vret dX9_look_193 ?_
                unfold mlook3 mf_best; (repeat' split) <;> first | contradiction | (with_reducible exact ⟨rfl, rfl⟩) | exact ⟨rfl, rfl⟩
              · skip
                refine g_aload_n (i := 0) dX9_look_181 rfl rfl ?_
                refine g_lload dX9_look_182 rfl ?_
                refine m_putl 51 dX9_look_184 (List.mem_of_getElem? (i := 5) rfl) (fun w h => List.mem_cons_of_mem _ (List.mem_append_right _ h)) (by decide) rfl rfl rfl (wsI_51 _ _ _ _) ?_
                refine g_aload_n (i := 0) dX9_look_187 rfl rfl ?_
                refine g_lload dX9_look_188 rfl ?_
                refine m_putl 52 dX9_look_190 (List.mem_of_getElem? (i := 6) rfl) (fun w h => List.mem_cons_of_mem _ (List.mem_append_right _ h)) (by decide) rfl rfl rfl (wsI_52 _ _ _ _) ?_
                refine g_vret dX9_look_193 ?_
                unfold mlook3 mf_best; (repeat' split) <;> first | contradiction | (with_reducible exact ⟨rfl, rfl⟩) | exact ⟨rfl, rfl⟩
            · skip
              exact absurd hu c_6
      · skip
        exact absurd hz c_3
  · skip
    exact absurd hz c_1

set_option maxHeartbeats 4000000 in
set_option maxRecDepth 100000 in
/-- look at a turn of four -/
theorem M_look4 (l : Launch) (D : va_G) (cy : Nat → ClassId) (a : Nat → Nat) (S : MS) (x y z u : Int32) (hx : vp_in x 5) (hy : vp_in y 5) (hz : 0 ≤ z) (hzv : vp_in z 5) (hu : 0 ≤ u) (huv : vp_in u 5) : Ct l D clx (tyx cy) yX9_look wsX9_look (rmD 0) 0 0 [.ref (a 0), .int x, .int y, .int z, .int u] (MW cy a S) (fun r9 w9 => r9 = none ∧ w9 = MW cy a (mlook4 S x y z u)) := by
  refine g_start (cc := cX9_look) (maxL := 12) (ret := none) (by decide) rfl (Nat.le_of_ble_eq_true rfl) (fun v w1 h => by obtain ⟨rfl, -⟩ := h; exact rfl) (fun Γ hlΓ => ?_)
  subst hlΓ
  refine g_iload_n (i := 3) dX9_look_0 rfl rfl ?_
  refine g_if_ge 8 dX9_look_1 (by decide) (fun c_1 => ?_) (fun c_1 => ?_)
  · skip
    refine g_iload dX9_look_8 rfl ?_
    refine g_if_ge 17 dX9_look_10 (by decide) (fun c_2 => ?_) (fun c_2 => ?_)
    · skip
      refine g_iconst (4) rfl dX9_look_17 ?_
      refine g_istore dX9_look_18 (by decide) ?_
      refine g_iload_n (i := 3) dX9_look_20 rfl rfl ?_
      refine g_if_ge 28 dX9_look_21 (by decide) (fun c_3 => ?_) (fun c_3 => ?_)
      · skip
        refine g_iload dX9_look_28 rfl ?_
        refine g_if_ge 37 dX9_look_30 (by decide) (fun c_4 => ?_) (fun c_4 => ?_)
        · skip
          refine g_iload dX9_look_37 rfl ?_
          refine g_istore dX9_look_39 (by decide) ?_
          refine g_aload_n (i := 0) dX9_look_41 rfl rfl ?_
          refine m_get 19 dX9_look_42 (List.mem_of_getElem? (i := 1) rfl) (fun w h => List.mem_cons_of_mem _ (List.mem_append_right _ h)) (by decide) rfl ?_
          refine g_iconst (5) rfl dX9_look_45 ?_
          refine g_iload_n (i := 1) dX9_look_46 rfl rfl ?_
          refine g_imul dX9_look_47 ?_
          refine g_iload_n (i := 2) dX9_look_48 rfl rfl ?_
          refine g_iadd dX9_look_49 ?_
          refine m_iald 19 17 25 dX9_look_50 rfl (ix25 hx hy) ?_
          refine g_i2l dX9_look_51 ?_
          refine g_aload_n (i := 0) dX9_look_52 rfl rfl ?_
          refine m_get 19 dX9_look_53 (List.mem_of_getElem? (i := 1) rfl) (fun w h => List.mem_cons_of_mem _ (List.mem_append_right _ h)) (by decide) rfl ?_
          refine g_iconst (5) rfl dX9_look_56 ?_
          refine g_iload dX9_look_57 rfl ?_
          refine g_imul dX9_look_59 ?_
          refine g_iload_n (i := 1) dX9_look_60 rfl rfl ?_
          refine g_iadd dX9_look_61 ?_
          refine m_iald 19 17 25 dX9_look_62 rfl (ix25 huv hx) ?_
          refine g_i2l dX9_look_63 ?_
          refine g_lmul dX9_look_64 ?_
          refine g_lstore dX9_look_65 (by decide) ?_
          refine g_ldc2 (100) (List.mem_of_getElem? (i := 2) rfl) dX9_look_67 ?_
          refine g_ldc2 (10) (List.mem_of_getElem? (i := 3) rfl) dX9_look_70 ?_
          refine g_iload_n (i := 1) dX9_look_73 rfl rfl ?_
          refine g_i2l dX9_look_74 ?_
          refine g_lmul dX9_look_75 ?_
          refine g_ladd dX9_look_76 ?_
          refine g_iload_n (i := 2) dX9_look_77 rfl rfl ?_
          refine g_i2l dX9_look_78 ?_
          refine g_ladd dX9_look_79 ?_
          refine g_lstore dX9_look_80 (by decide) ?_
          refine g_iload_n (i := 3) dX9_look_82 rfl rfl ?_
          refine g_if_lt 113 dX9_look_83 (by decide) (fun c_5 => ?_) (fun c_5 => ?_)
          · skip
            exact absurd c_5 (Int32.not_lt.mpr hz)
          · skip
            refine g_lload dX9_look_86 rfl ?_
            refine g_aload_n (i := 0) dX9_look_88 rfl rfl ?_
            refine m_get 19 dX9_look_89 (List.mem_of_getElem? (i := 1) rfl) (fun w h => List.mem_cons_of_mem _ (List.mem_append_right _ h)) (by decide) rfl ?_
            refine g_iconst (5) rfl dX9_look_92 ?_
            refine g_iload_n (i := 2) dX9_look_93 rfl rfl ?_
            refine g_imul dX9_look_94 ?_
            refine g_iload_n (i := 3) dX9_look_95 rfl rfl ?_
            refine g_iadd dX9_look_96 ?_
            refine m_iald 19 17 25 dX9_look_97 rfl (ix25 hy hzv) ?_
            refine g_i2l dX9_look_98 ?_
            refine g_lmul dX9_look_99 ?_
            refine g_lstore dX9_look_100 (by decide) ?_
            refine g_ldc2 (10) (List.mem_of_getElem? (i := 3) rfl) dX9_look_102 ?_
            refine g_lload dX9_look_105 rfl ?_
            refine g_lmul dX9_look_107 ?_
            refine g_iload_n (i := 3) dX9_look_108 rfl rfl ?_
            refine g_i2l dX9_look_109 ?_
            refine g_ladd dX9_look_110 ?_
            refine g_lstore dX9_look_111 (by decide) ?_
            refine g_iload dX9_look_113 rfl ?_
            refine g_if_lt 147 dX9_look_115 (by decide) (fun c_6 => ?_) (fun c_6 => ?_)
            · skip
              exact absurd c_6 (Int32.not_lt.mpr hu)
            · skip
              refine g_lload dX9_look_118 rfl ?_
              refine g_aload_n (i := 0) dX9_look_120 rfl rfl ?_
              refine m_get 19 dX9_look_121 (List.mem_of_getElem? (i := 1) rfl) (fun w h => List.mem_cons_of_mem _ (List.mem_append_right _ h)) (by decide) rfl ?_
              refine g_iconst (5) rfl dX9_look_124 ?_
              refine g_iload_n (i := 3) dX9_look_125 rfl rfl ?_
              refine g_imul dX9_look_126 ?_
              refine g_iload dX9_look_127 rfl ?_
              refine g_iadd dX9_look_129 ?_
              refine m_iald 19 17 25 dX9_look_130 rfl (ix25 hzv huv) ?_
              refine g_i2l dX9_look_131 ?_
              refine g_lmul dX9_look_132 ?_
              refine g_lstore dX9_look_133 (by decide) ?_
              refine g_ldc2 (10) (List.mem_of_getElem? (i := 3) rfl) dX9_look_135 ?_
              refine g_lload dX9_look_138 rfl ?_
              refine g_lmul dX9_look_140 ?_
              refine g_iload dX9_look_141 rfl ?_
              refine g_i2l dX9_look_143 ?_
              refine g_ladd dX9_look_144 ?_
              refine g_lstore dX9_look_145 (by decide) ?_
              refine g_iload dX9_look_147 rfl ?_
              refine g_istore dX9_look_149 (by decide) ?_
              refine g_iload dX9_look_151 rfl ?_
              refine g_iconst (4) rfl dX9_look_153 ?_
              refine g_icmp_ge 171 dX9_look_154 (by decide) (fun _ => ?_) (fun h9 => absurd h9 (by decide))
              refine g_lload dX9_look_171 rfl ?_
              refine g_aload_n (i := 0) dX9_look_173 rfl rfl ?_
              refine m_get 51 dX9_look_174 (List.mem_of_getElem? (i := 5) rfl) (fun w h => List.mem_cons_of_mem _ (List.mem_append_right _ h)) (by decide) rfl ?_
              refine g_lcmp_le 193 dX9_look_177 dX9_look_178 (by decide) (fun c_8 => ?_) (fun c_8 => ?_)
              · skip
                refine g_vret dX9_look_193 ?_
                unfold mlook4 mf_best; (repeat' split) <;> first | contradiction | (with_reducible exact ⟨rfl, rfl⟩) | exact ⟨rfl, rfl⟩
              · skip
                refine g_aload_n (i := 0) dX9_look_181 rfl rfl ?_
                refine g_lload dX9_look_182 rfl ?_
                refine m_putl 51 dX9_look_184 (List.mem_of_getElem? (i := 5) rfl) (fun w h => List.mem_cons_of_mem _ (List.mem_append_right _ h)) (by decide) rfl rfl rfl (wsI_51 _ _ _ _) ?_
                refine g_aload_n (i := 0) dX9_look_187 rfl rfl ?_
                refine g_lload dX9_look_188 rfl ?_
                refine m_putl 52 dX9_look_190 (List.mem_of_getElem? (i := 6) rfl) (fun w h => List.mem_cons_of_mem _ (List.mem_append_right _ h)) (by decide) rfl rfl rfl (wsI_52 _ _ _ _) ?_
                refine g_vret dX9_look_193 ?_
                unfold mlook4 mf_best; (repeat' split) <;> first | contradiction | (with_reducible exact ⟨rfl, rfl⟩) | exact ⟨rfl, rfl⟩
        · skip
          exact absurd hu c_4
      · skip
        exact absurd hz c_3
    · skip
      exact absurd hu c_2
  · skip
    exact absurd hz c_1

