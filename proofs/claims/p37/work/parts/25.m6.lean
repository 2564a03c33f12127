/-- the value that test q asks for; whether it holds; whether the first j tests of clause c hold -/
def mvalu (S : MS) (q : Nat) (la : Int64) (am hp kd rd : Int32) : Int64 := if S.2.2.1 26 q = 0 then la else if S.2.2.1 26 q = 1 then am.toInt64 else if S.2.2.1 26 q = 2 then hp.toInt64 else if S.2.2.1 26 q = 3 then kd.toInt64 else rd.toInt64
abbrev mtest (S : MS) (q : Nat) (v : Int64) : Prop := if S.2.2.1 27 q = 60 then v < (S.2.2.1 28 q).toInt64 else if S.2.2.1 27 q = 62 then (S.2.2.1 28 q).toInt64 < v else v = (S.2.2.1 28 q).toInt64
def mholds (S : MS) (c : Nat) (la : Int64) (am hp kd rd : Int32) : Nat → Int32
  | 0 => 1
  | j + 1 => if mholds S c la am hp kd rd j = 0 then 0 else if mtest S (4 * c + j) (mvalu S (4 * c + j) la am hp kd rd) then 1 else 0
/-- the custom's verdict from clause i on, j clauses left -/
def mbnd (S : MS) (la : Int64) (am hp kd rd : Int32) : Nat → Nat → Int32
  | 0, _ => 1
  | j + 1, i => if mholds S i la am hp kd rd (S.2.2.1 25 i).toNatClampNeg = 0 then mbnd S la am hp kd rd j (i + 1) else S.2.2.1 24 i
def mbound (S : MS) (la : Int64) (am hp kd rd : Int32) : Int32 := mbnd S la am hp kd rd (S.1 23).toNatClampNeg 0
theorem mbnd1 {S : MS} {la : Int64} {am hp kd rd : Int32} {N i : Nat} (hi : i < N) (h : mholds S i la am hp kd rd (S.2.2.1 25 i).toNatClampNeg = 0) (g : mbnd S la am hp kd rd (N - i) i = mbnd S la am hp kd rd N 0) : mbnd S la am hp kd rd (N - (i + 1)) (i + 1) = mbnd S la am hp kd rd N 0 := by
  rw [← g, show N - i = (N - (i + 1)) + 1 by omega]
  exact (if_pos h).symm
theorem mbnd2 {S : MS} {la : Int64} {am hp kd rd : Int32} {N i : Nat} (hi : i < N) (h : ¬ mholds S i la am hp kd rd (S.2.2.1 25 i).toNatClampNeg = 0) (g : mbnd S la am hp kd rd (N - i) i = mbnd S la am hp kd rd N 0) : S.2.2.1 24 i = mbnd S la am hp kd rd N 0 := by
  rw [← g, show N - i = (N - (i + 1)) + 1 by omega]
  exact (if_neg h).symm
theorem mbnd3 {S : MS} {la : Int64} {am hp kd rd : Int32} {N : Nat} (g : mbnd S la am hp kd rd (N - N) N = mbnd S la am hp kd rd N 0) : (1 : Int32) = mbnd S la am hp kd rd N 0 := by
  rw [← g, Nat.sub_self]
  rfl
theorem mclN {S : MS} (hI : minv S) : ∃ N : Nat, N ≤ 8 ∧ S.1 23 = nI N := by
  obtain ⟨-, -, -, ⟨h1, h2⟩, -⟩ := hI
  obtain ⟨t, ht, e1⟩ := nI_of (x := S.1 23) (by rw [Int32.lt_iff_toInt_lt]; have : (0 : Int32).toInt = 0 := by decide
                                                omega)
  rw [e1, nI_toInt ht] at h2
  exact ⟨t, by omega, e1⟩
theorem mteN {S : MS} (hI : minv S) {c : Nat} (hc : c < 8) : ∃ N : Nat, N ≤ 4 ∧ S.2.2.1 25 c = nI N := by
  obtain ⟨h1, h2, -⟩ := hI.2.2.2.2.2.2.2.2 c hc
  obtain ⟨t, ht, e1⟩ := nI_of (x := S.2.2.1 25 c) (by rw [Int32.lt_iff_toInt_lt, show (0 : Int32).toInt = 0 from by decide]; omega)
  rw [e1, nI_toInt ht] at h2
  exact ⟨t, by omega, e1⟩
theorem mbz {S : MS} (hI : minv S) (la : Int64) (am hp kd rd : Int32) : mbound S la am hp kd rd = 0 ∨ mbound S la am hp kd rd = 1 := by
  obtain ⟨N, hN, e⟩ := mclN hI
  unfold mbound
  rw [e, nI_clamp (by omega)]
  have : ∀ j i : Nat, i + j ≤ 8 → mbnd S la am hp kd rd j i = 0 ∨ mbnd S la am hp kd rd j i = 1 := by
    intro j
    induction j with
    | zero => intro i _; exact Or.inr rfl
    | succ j ih =>
      intro i hi
      show (if _ then _ else _) = _ ∨ (if _ then _ else _) = _
      split
      · exact ih (i + 1) (by omega)
      · exact (hI.2.2.2.2.2.2.2.2 i (by omega)).2.2
  exact this N 0 (by omega)
theorem mbn {x : Int32} (h : x = 0 ∨ x = 1) : narrow .boolean (.int x) = .int x := by
  rcases h with rfl | rfl <;> rfl
theorem nI4 (c : Nat) : 4 * nI c = nI (4 * c) := pk_mul 4 c

set_option maxHeartbeats 4000000 in
set_option maxRecDepth 100000 in
/-- the custom binds -/
theorem M_isBound (l : Launch) (D : va_G) (cy : Nat → ClassId) (a : Nat → Nat) (S : MS) (hI : minv S) (la : Int64) (am hp kd rd : Int32) : Ct l D clx (tyx cy) yX9_isBound wsX9_isBound (rmD 0) 0 0 [.ref (a 0), .long la, .int am, .int hp, .int kd, .int rd] (MW cy a S) (fun r9 w9 => r9 = some (.int (mbound S la am hp kd rd)) ∧ w9 = MW cy a S) := by
  refine g_start (cc := cX9_isBound) (maxL := 12) (ret := (some .boolean)) (by decide) rfl (Nat.le_of_ble_eq_true rfl) (fun v w1 h => by obtain ⟨rfl, -⟩ := h; exact ⟨.boolean, rfl, mbn (mbz hI _ _ _ _ _)⟩) (fun Γ hlΓ => ?_)
  subst hlΓ
  obtain ⟨N9, hN9, eN9⟩ := mclN hI
  refine g_iconst (0) rfl dX9_isBound_0 ?_
  refine g_istore dX9_isBound_1 (by decide) ?_
  refine g_cnt N9 (fun i => mbnd S la am hp kd rd (N9 - i) i = mbnd S la am hp kd rd N9 0) (fun i => MW cy a S) (fun i => [(0, .ref (a 0)), (1, .long la), (3, .int am), (4, .int hp), (5, .int kd), (6, .int rd), (7, .int (nI i))]) 0 (by first | decide | omega) rfl (by rfl) (by refine ⟨rfl, rfl, rfl, rfl, rfl, rfl, rfl, trivial⟩) ?_ (fun i1 hi1 gi1 ihi1 => ?_)
  · intro gN
    refine g_iload dX9_isBound_3 rfl ?_
    refine g_aload_n (i := 0) dX9_isBound_5 rfl rfl ?_
    refine m_get 23 dX9_isBound_6 (List.mem_of_getElem? (i := 1) rfl) (fun w h => List.mem_cons_of_mem _ (List.mem_append_right _ h)) (by decide) rfl ?_
    refine g_icmp_ge 216 dX9_isBound_9 (by decide) (fun c_2 => ?_) (fun c_2 => ?_)
    · skip
      refine g_iconst (1) rfl dX9_isBound_216 ?_
      refine g_iret dX9_isBound_217 ?_
      exact ⟨congrArg (fun z => some (Value.int z)) ((mbnd3 (by assumption)).trans (by unfold mbound; rw [eN9, nI_clamp (by omega)])), rfl⟩
    · skip
      exact absurd (by rw [eN9]; exact nI_le (Nat.le_refl _) (by omega)) c_2
  · skip
    refine g_iload dX9_isBound_3 rfl ?_
    refine g_aload_n (i := 0) dX9_isBound_5 rfl rfl ?_
    refine m_get 23 dX9_isBound_6 (List.mem_of_getElem? (i := 1) rfl) (fun w h => List.mem_cons_of_mem _ (List.mem_append_right _ h)) (by decide) rfl ?_
    refine g_icmp_ge 216 dX9_isBound_9 (by decide) (fun c_3 => ?_) (fun c_3 => ?_)
    · skip
      exact absurd c_3 (by rw [eN9]; exact nI_ge hi1 (by omega))
    · skip
      refine g_iconst (1) rfl dX9_isBound_12 ?_
      refine g_istore dX9_isBound_13 (by decide) ?_
      refine g_iconst (4) rfl dX9_isBound_15 ?_
      refine g_iload dX9_isBound_16 rfl ?_
      refine g_imul dX9_isBound_18 ?_
      refine g_istore dX9_isBound_19 (by decide) ?_
      obtain ⟨T9, hT9, eT9⟩ := mteN hI (c := i1) (by omega)
      refine g_cnt T9 (fun i => True) (fun i => MW cy a S) (fun i => [(0, .ref (a 0)), (1, .long la), (3, .int am), (4, .int hp), (5, .int kd), (6, .int rd), (7, .int (nI i1)), (8, .int (mholds S i1 la am hp kd rd i)), (9, .int (nI (4 * i1 + i)))]) 0 (by omega) trivial rfl ⟨rfl, rfl, rfl, rfl, rfl, rfl, rfl, rfl, (congrArg (fun z => some (Value.int z)) (nI4 i1)), trivial⟩ ?_ (fun i4 hi4 gi4 ihi4 => ?_)
      · intro gN
        refine g_iload dX9_isBound_21 rfl ?_
        refine g_iconst (4) rfl dX9_isBound_23 ?_
        refine g_iload dX9_isBound_24 rfl ?_
        refine g_imul dX9_isBound_26 ?_
        refine g_aload_n (i := 0) dX9_isBound_27 rfl rfl ?_
        refine m_get 25 dX9_isBound_28 (List.mem_of_getElem? (i := 2) rfl) (fun w h => List.mem_cons_of_mem _ (List.mem_append_right _ h)) (by decide) rfl ?_
        refine g_iload dX9_isBound_31 rfl ?_
        refine m_ialdN 25 21 8 dX9_isBound_33 rfl (by omega) (by decide) ?_
        refine g_iadd dX9_isBound_34 ?_
        refine g_icmp_ge 197 dX9_isBound_35 (by decide) (fun c_5 => ?_) (fun c_5 => ?_)
        · skip
          refine g_iload dX9_isBound_197 rfl ?_
          refine g_if_eq 210 dX9_isBound_199 (by decide) (fun c_6 => ?_) (fun c_6 => ?_)
          · skip
            refine g_iinc (1) dX9_isBound_210 rfl rfl (by decide) ?_
            refine g_goto 3 dX9_isBound_213 (by decide) ?_
            refine g_to _ _ (ihi1 (mbnd1 hi1 (by rw [eT9, nI_clamp (by omega)] <;> assumption) gi1)) rfl (by refine ⟨(by first | rfl | (rw [← nI_1]; rfl) | (rw [← nI_1]; rfl)), (by first | rfl | (rw [← nI_1]; rfl) | (rw [← nI_1]; rfl)), (by first | rfl | (rw [← nI_1]; rfl) | (rw [← nI_1]; rfl)), (by first | rfl | (rw [← nI_1]; rfl) | (rw [← nI_1]; rfl)), (by first | rfl | (rw [← nI_1]; rfl) | (rw [← nI_1]; rfl)), (by first | rfl | (rw [← nI_1]; rfl) | (rw [← nI_1]; rfl)), (by first | rfl | (rw [← nI_1]; rfl) | (rw [← nI_1]; rfl)), trivial⟩)
          · skip
            refine g_aload_n (i := 0) dX9_isBound_202 rfl rfl ?_
            refine m_get 24 dX9_isBound_203 (List.mem_of_getElem? (i := 6) rfl) (fun w h => List.mem_cons_of_mem _ (List.mem_append_right _ h)) (by decide) rfl ?_
            refine g_iload dX9_isBound_206 rfl ?_
            refine m_zaldN 24 20 8 dX9_isBound_208 rfl (by omega) (by decide) ?_
            refine g_iret dX9_isBound_209 ?_
            exact ⟨congrArg (fun z => some (Value.int z)) ((mbnd2 (by assumption) (by rw [eT9, nI_clamp (by omega)] <;> assumption) (by assumption)).trans (by unfold mbound; rw [eN9, nI_clamp (by omega)])), rfl⟩
        · skip
          exact absurd (by rw [eT9, nI4, nI_add]; exact nI_le (Nat.le_refl _) (by omega)) c_5
      · skip
        refine g_iload dX9_isBound_21 rfl ?_
        refine g_iconst (4) rfl dX9_isBound_23 ?_
        refine g_iload dX9_isBound_24 rfl ?_
        refine g_imul dX9_isBound_26 ?_
        refine g_aload_n (i := 0) dX9_isBound_27 rfl rfl ?_
        refine m_get 25 dX9_isBound_28 (List.mem_of_getElem? (i := 2) rfl) (fun w h => List.mem_cons_of_mem _ (List.mem_append_right _ h)) (by decide) rfl ?_
        refine g_iload dX9_isBound_31 rfl ?_
        refine m_ialdN 25 21 8 dX9_isBound_33 rfl (by omega) (by decide) ?_
        refine g_iadd dX9_isBound_34 ?_
        refine g_icmp_ge 197 dX9_isBound_35 (by decide) (fun c_7 => ?_) (fun c_7 => ?_)
        · skip
          exact absurd c_7 (by rw [eT9, nI4, nI_add]; exact nI_ge (by omega) (by omega))
        · skip
          refine g_cut 105 (.long (mvalu S (4 * i1 + i4) la am hp kd rd) :: []) ?_ (fun hj_8 => ?_)
          · skip
            refine g_lstore dX9_isBound_105 (by decide) ?_
            refine g_cut 189 (.int (mholds S i1 la am hp kd rd (i4 + 1)) :: []) ?_ (fun hj_9 => ?_)
            · skip
              refine g_istore dX9_isBound_189 (by decide) ?_
              refine g_iinc (1) dX9_isBound_191 rfl rfl (by decide) ?_
              refine g_goto 21 dX9_isBound_194 (by decide) ?_
              refine g_to _ _ (ihi4 trivial) rfl ⟨rfl, rfl, rfl, rfl, rfl, rfl, rfl, (by first | rfl | (show _ = some (Value.int (mholds S _ la am hp kd rd (_ + 1))); rfl)), (by rw [← Nat.add_assoc, ← nI_1]; rfl), trivial⟩
            · skip
              refine g_iload dX9_isBound_107 rfl ?_
              refine g_if_eq 188 dX9_isBound_109 (by decide) (fun c_10 => ?_) (fun c_10 => ?_)
              · skip
                refine g_iconst (0) rfl dX9_isBound_188 ?_
                refine g_ste hj_9 ?_
                first | (simp [mholds, mtest, *]; done) | (simp [mholds, mtest, Int64.not_lt, Int64.not_le, *]; done) | (simp_all [mholds, mtest, Int64.not_lt, Int64.not_le]; done)
              · skip
                refine g_aload_n (i := 0) dX9_isBound_112 rfl rfl ?_
                refine m_get 27 dX9_isBound_113 (List.mem_of_getElem? (i := 4) rfl) (fun w h => List.mem_cons_of_mem _ (List.mem_append_right _ h)) (by decide) rfl ?_
                refine g_iload dX9_isBound_116 rfl ?_
                refine m_ialdN 27 23 32 dX9_isBound_118 rfl (by omega) (by decide) ?_
                refine g_bipush (60) rfl dX9_isBound_119 ?_
                refine g_icmp_ne 141 dX9_isBound_121 (by decide) (fun c_11 => ?_) (fun c_11 => ?_)
                · skip
                  refine g_aload_n (i := 0) dX9_isBound_141 rfl rfl ?_
                  refine m_get 27 dX9_isBound_142 (List.mem_of_getElem? (i := 4) rfl) (fun w h => List.mem_cons_of_mem _ (List.mem_append_right _ h)) (by decide) rfl ?_
                  refine g_iload dX9_isBound_145 rfl ?_
                  refine m_ialdN 27 23 32 dX9_isBound_147 rfl (by omega) (by decide) ?_
                  refine g_bipush (62) rfl dX9_isBound_148 ?_
                  refine g_icmp_ne 170 dX9_isBound_150 (by decide) (fun c_12 => ?_) (fun c_12 => ?_)
                  · skip
                    refine g_lload dX9_isBound_170 rfl ?_
                    refine g_aload_n (i := 0) dX9_isBound_172 rfl rfl ?_
                    refine m_get 28 dX9_isBound_173 (List.mem_of_getElem? (i := 5) rfl) (fun w h => List.mem_cons_of_mem _ (List.mem_append_right _ h)) (by decide) rfl ?_
                    refine g_iload dX9_isBound_176 rfl ?_
                    refine m_ialdN 28 24 32 dX9_isBound_178 rfl (by omega) (by decide) ?_
                    refine g_i2l dX9_isBound_179 ?_
                    refine g_lcmp_ne 188 dX9_isBound_180 dX9_isBound_181 (by decide) (fun c_13 => ?_) (fun c_13 => ?_)
                    · skip
                      refine g_iconst (0) rfl dX9_isBound_188 ?_
                      refine g_ste hj_9 ?_
                      first | (simp [mholds, mtest, *]; done) | (simp [mholds, mtest, Int64.not_lt, Int64.not_le, *]; done) | (simp_all [mholds, mtest, Int64.not_lt, Int64.not_le]; done)
                    · skip
                      refine g_iconst (1) rfl dX9_isBound_184 ?_
                      refine g_goto 189 dX9_isBound_185 (by decide) ?_
                      refine g_ste hj_9 ?_
                      first | (simp [mholds, mtest, *]; done) | (simp [mholds, mtest, Int64.not_lt, Int64.not_le, *]; done) | (simp_all [mholds, mtest, Int64.not_lt, Int64.not_le]; done)
                  · skip
                    refine g_lload dX9_isBound_153 rfl ?_
                    refine g_aload_n (i := 0) dX9_isBound_155 rfl rfl ?_
                    refine m_get 28 dX9_isBound_156 (List.mem_of_getElem? (i := 5) rfl) (fun w h => List.mem_cons_of_mem _ (List.mem_append_right _ h)) (by decide) rfl ?_
                    refine g_iload dX9_isBound_159 rfl ?_
                    refine m_ialdN 28 24 32 dX9_isBound_161 rfl (by omega) (by decide) ?_
                    refine g_i2l dX9_isBound_162 ?_
                    refine g_lcmp_le 188 dX9_isBound_163 dX9_isBound_164 (by decide) (fun c_14 => ?_) (fun c_14 => ?_)
                    · skip
                      refine g_iconst (0) rfl dX9_isBound_188 ?_
                      refine g_ste hj_9 ?_
                      first | (simp [mholds, mtest, *]; done) | (simp [mholds, mtest, Int64.not_lt, Int64.not_le, *]; done) | (simp_all [mholds, mtest, Int64.not_lt, Int64.not_le]; done)
                    · skip
                      refine g_goto 184 dX9_isBound_167 (by decide) ?_
                      refine g_iconst (1) rfl dX9_isBound_184 ?_
                      refine g_goto 189 dX9_isBound_185 (by decide) ?_
                      refine g_ste hj_9 ?_
                      first | (simp [mholds, mtest, *]; done) | (simp [mholds, mtest, Int64.not_lt, Int64.not_le, *]; done) | (simp_all [mholds, mtest, Int64.not_lt, Int64.not_le]; done)
                · skip
                  refine g_lload dX9_isBound_124 rfl ?_
                  refine g_aload_n (i := 0) dX9_isBound_126 rfl rfl ?_
                  refine m_get 28 dX9_isBound_127 (List.mem_of_getElem? (i := 5) rfl) (fun w h => List.mem_cons_of_mem _ (List.mem_append_right _ h)) (by decide) rfl ?_
                  refine g_iload dX9_isBound_130 rfl ?_
                  refine m_ialdN 28 24 32 dX9_isBound_132 rfl (by omega) (by decide) ?_
                  refine g_i2l dX9_isBound_133 ?_
                  refine g_lcmp_ge 188 dX9_isBound_134 dX9_isBound_135 (by decide) (fun c_15 => ?_) (fun c_15 => ?_)
                  · skip
                    refine g_iconst (0) rfl dX9_isBound_188 ?_
                    refine g_ste hj_9 ?_
                    first | (simp [mholds, mtest, *]; done) | (simp [mholds, mtest, Int64.not_lt, Int64.not_le, *]; done) | (simp_all [mholds, mtest, Int64.not_lt, Int64.not_le]; done)
                  · skip
                    refine g_goto 184 dX9_isBound_138 (by decide) ?_
                    refine g_iconst (1) rfl dX9_isBound_184 ?_
                    refine g_goto 189 dX9_isBound_185 (by decide) ?_
                    refine g_ste hj_9 ?_
                    first | (simp [mholds, mtest, *]; done) | (simp [mholds, mtest, Int64.not_lt, Int64.not_le, *]; done) | (simp_all [mholds, mtest, Int64.not_lt, Int64.not_le]; done)
          · skip
            refine g_aload_n (i := 0) dX9_isBound_38 rfl rfl ?_
            refine m_get 26 dX9_isBound_39 (List.mem_of_getElem? (i := 3) rfl) (fun w h => List.mem_cons_of_mem _ (List.mem_append_right _ h)) (by decide) rfl ?_
            refine g_iload dX9_isBound_42 rfl ?_
            refine m_ialdN 26 22 32 dX9_isBound_44 rfl (by omega) (by decide) ?_
            refine g_if_ne 52 dX9_isBound_45 (by decide) (fun c_16 => ?_) (fun c_16 => ?_)
            · skip
              refine g_aload_n (i := 0) dX9_isBound_52 rfl rfl ?_
              refine m_get 26 dX9_isBound_53 (List.mem_of_getElem? (i := 3) rfl) (fun w h => List.mem_cons_of_mem _ (List.mem_append_right _ h)) (by decide) rfl ?_
              refine g_iload dX9_isBound_56 rfl ?_
              refine m_ialdN 26 22 32 dX9_isBound_58 rfl (by omega) (by decide) ?_
              refine g_iconst (1) rfl dX9_isBound_59 ?_
              refine g_icmp_ne 68 dX9_isBound_60 (by decide) (fun c_17 => ?_) (fun c_17 => ?_)
              · skip
                refine g_aload_n (i := 0) dX9_isBound_68 rfl rfl ?_
                refine m_get 26 dX9_isBound_69 (List.mem_of_getElem? (i := 3) rfl) (fun w h => List.mem_cons_of_mem _ (List.mem_append_right _ h)) (by decide) rfl ?_
                refine g_iload dX9_isBound_72 rfl ?_
                refine m_ialdN 26 22 32 dX9_isBound_74 rfl (by omega) (by decide) ?_
                refine g_iconst (2) rfl dX9_isBound_75 ?_
                refine g_icmp_ne 85 dX9_isBound_76 (by decide) (fun c_18 => ?_) (fun c_18 => ?_)
                · skip
                  refine g_aload_n (i := 0) dX9_isBound_85 rfl rfl ?_
                  refine m_get 26 dX9_isBound_86 (List.mem_of_getElem? (i := 3) rfl) (fun w h => List.mem_cons_of_mem _ (List.mem_append_right _ h)) (by decide) rfl ?_
                  refine g_iload dX9_isBound_89 rfl ?_
                  refine m_ialdN 26 22 32 dX9_isBound_91 rfl (by omega) (by decide) ?_
                  refine g_iconst (3) rfl dX9_isBound_92 ?_
                  refine g_icmp_ne 102 dX9_isBound_93 (by decide) (fun c_19 => ?_) (fun c_19 => ?_)
                  · skip
                    refine g_iload dX9_isBound_102 rfl ?_
                    refine g_i2l dX9_isBound_104 ?_
                    refine g_ste hj_8 ?_
                    (unfold mvalu; simp only [if_pos, if_neg, *]) <;> rfl
                  · skip
                    refine g_iload dX9_isBound_96 rfl ?_
                    refine g_i2l dX9_isBound_98 ?_
                    refine g_goto 105 dX9_isBound_99 (by decide) ?_
                    refine g_ste hj_8 ?_
                    (unfold mvalu; simp only [if_pos, if_neg, *]) <;> rfl
                · skip
                  refine g_iload dX9_isBound_79 rfl ?_
                  refine g_i2l dX9_isBound_81 ?_
                  refine g_goto 105 dX9_isBound_82 (by decide) ?_
                  refine g_ste hj_8 ?_
                  (unfold mvalu; simp only [if_pos, if_neg, *]) <;> rfl
              · skip
                refine g_iload_n (i := 3) dX9_isBound_63 rfl rfl ?_
                refine g_i2l dX9_isBound_64 ?_
                refine g_goto 105 dX9_isBound_65 (by decide) ?_
                refine g_ste hj_8 ?_
                (unfold mvalu; simp only [if_pos, if_neg, *]) <;> rfl
            · skip
              refine g_lload_n (i := 1) dX9_isBound_48 rfl rfl ?_
              refine g_goto 105 dX9_isBound_49 (by decide) ?_
              refine g_ste hj_8 ?_
              (unfold mvalu; simp only [if_pos, if_neg, *]) <;> rfl

def mf_binds (S : MS) (la am hp kd rd : Int32) : Int64 × MS := if ¬ la < 0 ∧ ¬ am < 0 ∧ ¬ hp < 0 ∧ ¬ kd < 0 ∧ 0 ≤ rd then (if mbound S la.toInt64 am hp kd rd = 0 then (0, S) else (1, S)) else mf_finding S (-1000000000001)
set_option maxHeartbeats 4000000 in
set_option maxRecDepth 100000 in
/-- binds -/
theorem M_binds (l : Launch) (D : va_G) (cy : Nat → ClassId) (a : Nat → Nat) (S : MS) (hI : minv S) (la am hp kd rd : Int32) : Ct l D clx (tyx cy) yX9_binds wsX9_binds (rmD 1) 0 0 [.ref (a 0), .int la, .int am, .int hp, .int kd, .int rd] (MW cy a S) (fun r9 w9 => r9 = some (.long (mf_binds S la am hp kd rd).1) ∧ w9 = MW cy a (mf_binds S la am hp kd rd).2) := by
  refine g_start (cc := cX9_binds) (maxL := 6) (ret := (some .long)) (by decide) rfl (Nat.le_of_ble_eq_true rfl) (fun v w1 h => by obtain ⟨rfl, -⟩ := h; exact rfl) (fun Γ hlΓ => ?_)
  subst hlΓ
  refine g_iload_n (i := 1) dX9_binds_0 rfl rfl ?_
  refine g_if_lt 22 dX9_binds_1 (by decide) (fun c_1 => ?_) (fun c_1 => ?_)
  · skip
    refine g_aload_n (i := 0) dX9_binds_22 rfl rfl ?_
    refine g_ldc2 (-1000000000001) (List.mem_of_getElem? (i := 1) rfl) dX9_binds_23 ?_
    refine g_callVf 1 0 gX9_binds_X9_finding rfl rfl rfl ⟨Nat.le_of_ble_eq_true rfl, Nat.le_of_ble_eq_true rfl⟩ ⟨Nat.le_of_ble_eq_true rfl, Nat.le_of_ble_eq_true rfl⟩ (by exact Nat.le_of_ble_eq_true rfl) (by decide +kernel) rfl rfl rfl dX9_binds_26 (M_finding _ D cy a _ _ (by unfold vp_in; decide)) rfl (fun vu_2 wu_2 hu_2 => ?_)
    obtain ⟨rfl, rfl⟩ := hu_2
    refine g_lret dX9_binds_29 ?_
    unfold mf_binds; (repeat' split) <;> first | contradiction | (with_reducible exact ⟨rfl, rfl⟩) | (exfalso; simp_all; done) | (exfalso; simp_all [Int32.not_lt, Int32.not_le]; done)
  · skip
    refine g_iload_n (i := 2) dX9_binds_4 rfl rfl ?_
    refine g_if_lt 22 dX9_binds_5 (by decide) (fun c_3 => ?_) (fun c_3 => ?_)
    · skip
      refine g_aload_n (i := 0) dX9_binds_22 rfl rfl ?_
      refine g_ldc2 (-1000000000001) (List.mem_of_getElem? (i := 1) rfl) dX9_binds_23 ?_
      refine g_callVf 1 0 gX9_binds_X9_finding rfl rfl rfl ⟨Nat.le_of_ble_eq_true rfl, Nat.le_of_ble_eq_true rfl⟩ ⟨Nat.le_of_ble_eq_true rfl, Nat.le_of_ble_eq_true rfl⟩ (by exact Nat.le_of_ble_eq_true rfl) (by decide +kernel) rfl rfl rfl dX9_binds_26 (M_finding _ D cy a _ _ (by unfold vp_in; decide)) rfl (fun vu_4 wu_4 hu_4 => ?_)
      obtain ⟨rfl, rfl⟩ := hu_4
      refine g_lret dX9_binds_29 ?_
      unfold mf_binds; (repeat' split) <;> first | contradiction | (with_reducible exact ⟨rfl, rfl⟩) | (exfalso; simp_all; done) | (exfalso; simp_all [Int32.not_lt, Int32.not_le]; done)
    · skip
      refine g_iload_n (i := 3) dX9_binds_8 rfl rfl ?_
      refine g_if_lt 22 dX9_binds_9 (by decide) (fun c_5 => ?_) (fun c_5 => ?_)
      · skip
        refine g_aload_n (i := 0) dX9_binds_22 rfl rfl ?_
        refine g_ldc2 (-1000000000001) (List.mem_of_getElem? (i := 1) rfl) dX9_binds_23 ?_
        refine g_callVf 1 0 gX9_binds_X9_finding rfl rfl rfl ⟨Nat.le_of_ble_eq_true rfl, Nat.le_of_ble_eq_true rfl⟩ ⟨Nat.le_of_ble_eq_true rfl, Nat.le_of_ble_eq_true rfl⟩ (by exact Nat.le_of_ble_eq_true rfl) (by decide +kernel) rfl rfl rfl dX9_binds_26 (M_finding _ D cy a _ _ (by unfold vp_in; decide)) rfl (fun vu_6 wu_6 hu_6 => ?_)
        obtain ⟨rfl, rfl⟩ := hu_6
        refine g_lret dX9_binds_29 ?_
        unfold mf_binds; (repeat' split) <;> first | contradiction | (with_reducible exact ⟨rfl, rfl⟩) | (exfalso; simp_all; done) | (exfalso; simp_all [Int32.not_lt, Int32.not_le]; done)
      · skip
        refine g_iload dX9_binds_12 rfl ?_
        refine g_if_lt 22 dX9_binds_14 (by decide) (fun c_7 => ?_) (fun c_7 => ?_)
        · skip
          refine g_aload_n (i := 0) dX9_binds_22 rfl rfl ?_
          refine g_ldc2 (-1000000000001) (List.mem_of_getElem? (i := 1) rfl) dX9_binds_23 ?_
          refine g_callVf 1 0 gX9_binds_X9_finding rfl rfl rfl ⟨Nat.le_of_ble_eq_true rfl, Nat.le_of_ble_eq_true rfl⟩ ⟨Nat.le_of_ble_eq_true rfl, Nat.le_of_ble_eq_true rfl⟩ (by exact Nat.le_of_ble_eq_true rfl) (by decide +kernel) rfl rfl rfl dX9_binds_26 (M_finding _ D cy a _ _ (by unfold vp_in; decide)) rfl (fun vu_8 wu_8 hu_8 => ?_)
          obtain ⟨rfl, rfl⟩ := hu_8
          refine g_lret dX9_binds_29 ?_
          unfold mf_binds; (repeat' split) <;> first | contradiction | (with_reducible exact ⟨rfl, rfl⟩) | (exfalso; simp_all; done) | (exfalso; simp_all [Int32.not_lt, Int32.not_le]; done)
        · skip
          refine g_iload dX9_binds_17 rfl ?_
          refine g_if_ge 30 dX9_binds_19 (by decide) (fun c_9 => ?_) (fun c_9 => ?_)
          · skip
            refine g_aload_n (i := 0) dX9_binds_30 rfl rfl ?_
            refine g_iload_n (i := 1) dX9_binds_31 rfl rfl ?_
            refine g_i2l dX9_binds_32 ?_
            refine g_iload_n (i := 2) dX9_binds_33 rfl rfl ?_
            refine g_iload_n (i := 3) dX9_binds_34 rfl rfl ?_
            refine g_iload dX9_binds_35 rfl ?_
            refine g_iload dX9_binds_37 rfl ?_
            refine g_callVf 5 0 gX9_binds_X9_isBound rfl rfl rfl ⟨Nat.le_of_ble_eq_true rfl, Nat.le_of_ble_eq_true rfl⟩ ⟨Nat.le_of_ble_eq_true rfl, Nat.le_of_ble_eq_true rfl⟩ (by exact Nat.le_of_ble_eq_true rfl) (by decide +kernel) rfl rfl rfl dX9_binds_39 (M_isBound _ D cy a _ hI _ _ _ _ _) rfl (fun vu_10 wu_10 hu_10 => ?_)
            obtain ⟨rfl, rfl⟩ := hu_10
            refine g_if_eq 49 dX9_binds_42 (by decide) (fun c_11 => ?_) (fun c_11 => ?_)
            · skip
              refine g_lconst 0 rfl dX9_binds_49 ?_
              refine g_lret dX9_binds_50 ?_
              unfold mf_binds; (repeat' split) <;> first | contradiction | (with_reducible exact ⟨rfl, rfl⟩) | (exfalso; simp_all; done) | (exfalso; simp_all [Int32.not_lt, Int32.not_le]; done)
            · skip
              refine g_lconst 1 rfl dX9_binds_45 ?_
              refine g_goto 50 dX9_binds_46 (by decide) ?_
              refine g_lret dX9_binds_50 ?_
              unfold mf_binds; (repeat' split) <;> first | contradiction | (with_reducible exact ⟨rfl, rfl⟩) | (exfalso; simp_all; done) | (exfalso; simp_all [Int32.not_lt, Int32.not_le]; done)
          · skip
            refine g_aload_n (i := 0) dX9_binds_22 rfl rfl ?_
            refine g_ldc2 (-1000000000001) (List.mem_of_getElem? (i := 1) rfl) dX9_binds_23 ?_
            refine g_callVf 1 0 gX9_binds_X9_finding rfl rfl rfl ⟨Nat.le_of_ble_eq_true rfl, Nat.le_of_ble_eq_true rfl⟩ ⟨Nat.le_of_ble_eq_true rfl, Nat.le_of_ble_eq_true rfl⟩ (by exact Nat.le_of_ble_eq_true rfl) (by decide +kernel) rfl rfl rfl dX9_binds_26 (M_finding _ D cy a _ _ (by unfold vp_in; decide)) rfl (fun vu_12 wu_12 hu_12 => ?_)
            obtain ⟨rfl, rfl⟩ := hu_12
            refine g_lret dX9_binds_29 ?_
            unfold mf_binds; (repeat' split) <;> first | contradiction | (with_reducible exact ⟨rfl, rfl⟩) | (exfalso; simp_all; done) | (exfalso; simp_all [Int32.not_lt, Int32.not_le]; done)

/-- against whom: the drawer, or endorser i -/
def mhs (S : MS) (b i : Int32) : Int32 := if 0 ≤ i then S.2.2.1 12 (4 * b + i).toNatClampNeg else S.2.2.1 6 b.toNatClampNeg
def mf_rec2 (S : MS) (b i : Int32) : MS := if 0 ≤ i then sA (sA (mf_ctow S (mhs S b i) (S.2.2.1 8 b.toNatClampNeg) (S.2.2.1 9 b.toNatClampNeg).toInt64) 8 b.toNatClampNeg (mhs S b i)) 11 b.toNatClampNeg i else mf_becomes (mf_ctow S (mhs S b i) (S.2.2.1 8 b.toNatClampNeg) (S.2.2.1 9 b.toNatClampNeg).toInt64) b 4
def mf_recourse (S : MS) (b i : Int32) : Int64 × MS := if (0 ≤ b ∧ b ≤ S.1 4 - 1) then (if S.2.2.1 10 b.toNatClampNeg = 3 then (if -1 ≤ i ∧ i ≤ S.2.2.1 11 b.toNatClampNeg - 1 then (if ¬ i < 0 ∧ mbound S (S.2.2.2 13 (5 * b + 3).toNatClampNeg - S.2.2.2 13 (5 * b + 2).toNatClampNeg) (S.2.2.1 9 b.toNatClampNeg) i (S.2.2.1 5 b.toNatClampNeg) (mroad S (mhs S b i)) = 0 then mf_finding S (-1000000000005) else if (¬ mhs S b i = S.2.2.1 8 b.toNatClampNeg ∧ (1000000000 < mwould S (mhs S b i) (S.2.2.1 8 b.toNatClampNeg) (S.2.2.1 9 b.toNatClampNeg).toInt64 ∨ mwould S (mhs S b i) (S.2.2.1 8 b.toNatClampNeg) (S.2.2.1 9 b.toNatClampNeg).toInt64 < -1000000000)) then mf_finding S (-1000000000004) else ((mhs S b i).toInt64, mf_rec2 S b i)) else mf_finding S (-1000000000002)) else mf_finding S (-1000000000003)) else mf_finding S (-1000000000001)
