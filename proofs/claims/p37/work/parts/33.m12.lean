abbrev lsHit (S : MS) (st sg : Int32) (i : Nat) : Prop := ((st >>> (nI i &&& 31)) &&& 1) = 1 ∧ ¬ S.2.2.2 50 i * sg.toInt64 ≤ 0
/-- the least house of a set whose net is of that side -/
def lsR (S : MS) (st sg : Int32) : Nat → Nat → Int32
  | 0, _ => -1
  | j + 1, i => if lsHit S st sg i then nI i else lsR S st sg j (i + 1)
theorem lsR1 {S : MS} {st sg : Int32} {i : Nat} (hi : i < 10) (h : ¬ lsHit S st sg i) (g : lsR S st sg (10 - i) i = lsR S st sg 10 0) : lsR S st sg (10 - (i + 1)) (i + 1) = lsR S st sg 10 0 := by
  rw [← g, show 10 - i = (10 - (i + 1)) + 1 by omega]
  exact (if_neg h).symm
theorem lsR2 {S : MS} {st sg : Int32} {i : Nat} (hi : i < 10) (h : lsHit S st sg i) (g : lsR S st sg (10 - i) i = lsR S st sg 10 0) : nI i = lsR S st sg 10 0 := by
  rw [← g, show 10 - i = (10 - (i + 1)) + 1 by omega]
  exact (if_pos h).symm
set_option maxHeartbeats 4000000 in
set_option maxRecDepth 100000 in
/-- the least house of a side -/
theorem M_leastOf (l : Launch) (D : va_G) (cy : Nat → ClassId) (a : Nat → Nat) (S : MS) (st sg : Int32) : Ct l D clx (tyx cy) yX9_leastOf wsX9_leastOf (rmD 0) 0 0 [.ref (a 0), .int st, .int sg] (MW cy a S) (fun r9 w9 => r9 = some (.int (lsR S st sg 10 0)) ∧ w9 = MW cy a S) := by
  refine g_start (cc := cX9_leastOf) (maxL := 4) (ret := (some .int)) (by decide) rfl (Nat.le_of_ble_eq_true rfl) (fun v w1 h => by obtain ⟨rfl, -⟩ := h; exact ⟨.int, rfl, rfl⟩) (fun Γ hlΓ => ?_)
  subst hlΓ
  refine g_iconst (0) rfl dX9_leastOf_0 ?_
  refine g_istore_n (i := 3) dX9_leastOf_1 rfl (by decide) ?_
  refine g_cnt 10 (fun i => lsR S st sg (10 - i) i = lsR S st sg 10 0) (fun i => MW cy a S) (fun i => [(0, .ref (a 0)), (1, .int st), (2, .int sg), (3, .int (nI i))]) 0 (by first | decide | omega) rfl (by rfl) (by refine ⟨rfl, rfl, rfl, rfl, trivial⟩) ?_ (fun i1 hi1 gi1 ihi1 => ?_)
  · intro gN
    refine g_iload_n (i := 3) dX9_leastOf_2 rfl rfl ?_
    refine g_bipush (10) rfl dX9_leastOf_3 ?_
    refine g_icmp_ge 39 dX9_leastOf_5 (by decide) (fun c_2 => ?_) (fun c_2 => ?_)
    · skip
      refine g_iconst (-1) rfl dX9_leastOf_39 ?_
      refine g_iret dX9_leastOf_40 ?_
      have gQ : lsR S st sg (10 - 10) 10 = lsR S st sg 10 0 := (by with_reducible assumption)
      exact ⟨congrArg (fun z => some (Value.int z)) gQ, rfl⟩
    · skip
      exact absurd (nI_le (Nat.le_refl _) (by first | decide | omega)) c_2
  · skip
    refine g_iload_n (i := 3) dX9_leastOf_2 rfl rfl ?_
    refine g_bipush (10) rfl dX9_leastOf_3 ?_
    refine g_icmp_ge 39 dX9_leastOf_5 (by decide) (fun c_3 => ?_) (fun c_3 => ?_)
    · skip
      exact absurd c_3 (nI_ge hi1 (by first | decide | omega))
    · skip
      refine g_iload_n (i := 1) dX9_leastOf_8 rfl rfl ?_
      refine g_iload_n (i := 3) dX9_leastOf_9 rfl rfl ?_
      refine g_ishr dX9_leastOf_10 ?_
      refine g_iconst (1) rfl dX9_leastOf_11 ?_
      refine g_iand dX9_leastOf_12 ?_
      refine g_iconst (1) rfl dX9_leastOf_13 ?_
      refine g_icmp_ne 33 dX9_leastOf_14 (by decide) (fun c_4 => ?_) (fun c_4 => ?_)
      · skip
        refine g_iinc (1) dX9_leastOf_33 rfl rfl (by decide) ?_
        refine g_goto 2 dX9_leastOf_36 (by decide) ?_
        refine g_to _ _ (ihi1 (lsR1 hi1 (fun h9 => by first | exact absurd h9.1 (by with_reducible assumption) | exact absurd (by with_reducible assumption) h9.2) gi1)) rfl (by refine ⟨(by first | rfl | (rw [← nI_1]; rfl) | (rw [← nI_1]; rfl)), (by first | rfl | (rw [← nI_1]; rfl) | (rw [← nI_1]; rfl)), (by first | rfl | (rw [← nI_1]; rfl) | (rw [← nI_1]; rfl)), (by first | rfl | (rw [← nI_1]; rfl) | (rw [← nI_1]; rfl)), trivial⟩)
      · skip
        refine g_aload_n (i := 0) dX9_leastOf_17 rfl rfl ?_
        refine m_get 50 dX9_leastOf_18 (List.mem_of_getElem? (i := 1) rfl) (fun w h => List.mem_cons_of_mem _ (List.mem_append_right _ h)) (by decide) rfl ?_
        refine g_iload_n (i := 3) dX9_leastOf_21 rfl rfl ?_
        refine m_laldN 50 37 10 dX9_leastOf_22 rfl (by omega) (by decide) ?_
        refine g_iload_n (i := 2) dX9_leastOf_23 rfl rfl ?_
        refine g_i2l dX9_leastOf_24 ?_
        refine g_lmul dX9_leastOf_25 ?_
        refine g_lconst 0 rfl dX9_leastOf_26 ?_
        refine g_lcmp_le 33 dX9_leastOf_27 dX9_leastOf_28 (by decide) (fun c_5 => ?_) (fun c_5 => ?_)
        · skip
          refine g_iinc (1) dX9_leastOf_33 rfl rfl (by decide) ?_
          refine g_goto 2 dX9_leastOf_36 (by decide) ?_
          refine g_to _ _ (ihi1 (lsR1 hi1 (fun h9 => by first | exact absurd h9.1 (by with_reducible assumption) | exact absurd (by with_reducible assumption) h9.2) gi1)) rfl (by refine ⟨(by first | rfl | (rw [← nI_1]; rfl) | (rw [← nI_1]; rfl)), (by first | rfl | (rw [← nI_1]; rfl) | (rw [← nI_1]; rfl)), (by first | rfl | (rw [← nI_1]; rfl) | (rw [← nI_1]; rfl)), (by first | rfl | (rw [← nI_1]; rfl) | (rw [← nI_1]; rfl)), trivial⟩)
        · skip
          refine g_iload_n (i := 3) dX9_leastOf_31 rfl rfl ?_
          refine g_iret dX9_leastOf_32 ?_
          exact ⟨congrArg (fun z => some (Value.int z)) (lsR2 (by with_reducible assumption) ⟨(by with_reducible assumption), (by with_reducible assumption)⟩ (by with_reducible assumption)), rfl⟩

def mwd (S : MS) (c : Int64) : Int32 × MS := if c = 46309 then (2, S) else if c = 131360 then (3, S) else if c = 249 then (4, S) else if c = 1111 then (5, S) else if c = 237470 then (6, sI S 41 0) else if c = 21568592 then (6, sI S 41 1) else if c = 168850 then (6, sI S 41 2) else if c = 223456 then (6, sI S 41 3) else if c = 365260 then (6, sI S 41 4) else (1, S)
set_option maxHeartbeats 4000000 in
set_option maxRecDepth 100000 in
/-- what a word means -/
theorem M_wordOf (l : Launch) (D : va_G) (cy : Nat → ClassId) (a : Nat → Nat) (S : MS) (c : Int64) : Ct l D clx (tyx cy) yX9_wordOf wsX9_wordOf (rmD 0) 0 0 [.ref (a 0), .long c] (MW cy a S) (fun r9 w9 => r9 = some (.int (mwd S c).1) ∧ w9 = MW cy a (mwd S c).2) := by
  refine g_start (cc := cX9_wordOf) (maxL := 3) (ret := (some .int)) (by decide) rfl (Nat.le_of_ble_eq_true rfl) (fun v w1 h => by obtain ⟨rfl, -⟩ := h; exact ⟨.int, rfl, rfl⟩) (fun Γ hlΓ => ?_)
  subst hlΓ
  refine g_lload_n (i := 1) dX9_wordOf_0 rfl rfl ?_
  refine g_ldc2 (46309) (List.mem_of_getElem? (i := 1) rfl) dX9_wordOf_1 ?_
  refine g_lcmp_ne 10 dX9_wordOf_4 dX9_wordOf_5 (by decide) (fun c_1 => ?_) (fun c_1 => ?_)
  · skip
    refine g_lload_n (i := 1) dX9_wordOf_10 rfl rfl ?_
    refine g_ldc2 (131360) (List.mem_of_getElem? (i := 2) rfl) dX9_wordOf_11 ?_
    refine g_lcmp_ne 20 dX9_wordOf_14 dX9_wordOf_15 (by decide) (fun c_2 => ?_) (fun c_2 => ?_)
    · skip
      refine g_lload_n (i := 1) dX9_wordOf_20 rfl rfl ?_
      refine g_ldc2 (249) (List.mem_of_getElem? (i := 3) rfl) dX9_wordOf_21 ?_
      refine g_lcmp_ne 30 dX9_wordOf_24 dX9_wordOf_25 (by decide) (fun c_3 => ?_) (fun c_3 => ?_)
      · skip
        refine g_lload_n (i := 1) dX9_wordOf_30 rfl rfl ?_
        refine g_ldc2 (1111) (List.mem_of_getElem? (i := 4) rfl) dX9_wordOf_31 ?_
        refine g_lcmp_ne 40 dX9_wordOf_34 dX9_wordOf_35 (by decide) (fun c_4 => ?_) (fun c_4 => ?_)
        · skip
          refine g_lload_n (i := 1) dX9_wordOf_40 rfl rfl ?_
          refine g_ldc2 (237470) (List.mem_of_getElem? (i := 5) rfl) dX9_wordOf_41 ?_
          refine g_lcmp_ne 56 dX9_wordOf_44 dX9_wordOf_45 (by decide) (fun c_5 => ?_) (fun c_5 => ?_)
          · skip
            refine g_lload_n (i := 1) dX9_wordOf_56 rfl rfl ?_
            refine g_ldc2 (21568592) (List.mem_of_getElem? (i := 7) rfl) dX9_wordOf_57 ?_
            refine g_lcmp_ne 72 dX9_wordOf_60 dX9_wordOf_61 (by decide) (fun c_6 => ?_) (fun c_6 => ?_)
            · skip
              refine g_lload_n (i := 1) dX9_wordOf_72 rfl rfl ?_
              refine g_ldc2 (168850) (List.mem_of_getElem? (i := 8) rfl) dX9_wordOf_73 ?_
              refine g_lcmp_ne 88 dX9_wordOf_76 dX9_wordOf_77 (by decide) (fun c_7 => ?_) (fun c_7 => ?_)
              · skip
                refine g_lload_n (i := 1) dX9_wordOf_88 rfl rfl ?_
                refine g_ldc2 (223456) (List.mem_of_getElem? (i := 9) rfl) dX9_wordOf_89 ?_
                refine g_lcmp_ne 104 dX9_wordOf_92 dX9_wordOf_93 (by decide) (fun c_8 => ?_) (fun c_8 => ?_)
                · skip
                  refine g_lload_n (i := 1) dX9_wordOf_104 rfl rfl ?_
                  refine g_ldc2 (365260) (List.mem_of_getElem? (i := 10) rfl) dX9_wordOf_105 ?_
                  refine g_lcmp_ne 120 dX9_wordOf_108 dX9_wordOf_109 (by decide) (fun c_9 => ?_) (fun c_9 => ?_)
                  · skip
                    refine g_iconst (1) rfl dX9_wordOf_120 ?_
                    refine g_iret dX9_wordOf_121 ?_
                    unfold mwd; (repeat' split) <;> first | contradiction | (with_reducible exact ⟨rfl, rfl⟩)
                  · skip
                    refine g_aload_n (i := 0) dX9_wordOf_112 rfl rfl ?_
                    refine g_iconst (4) rfl dX9_wordOf_113 ?_
                    refine m_puti 41 dX9_wordOf_114 (List.mem_of_getElem? (i := 6) rfl) (fun w h => List.mem_cons_of_mem _ (List.mem_append_right _ h)) (by decide) rfl rfl rfl (wsI_41 _ _ _ _) ?_
                    refine g_bipush (6) rfl dX9_wordOf_117 ?_
                    refine g_iret dX9_wordOf_119 ?_
                    unfold mwd; (repeat' split) <;> first | contradiction | (with_reducible exact ⟨rfl, rfl⟩)
                · skip
                  refine g_aload_n (i := 0) dX9_wordOf_96 rfl rfl ?_
                  refine g_iconst (3) rfl dX9_wordOf_97 ?_
                  refine m_puti 41 dX9_wordOf_98 (List.mem_of_getElem? (i := 6) rfl) (fun w h => List.mem_cons_of_mem _ (List.mem_append_right _ h)) (by decide) rfl rfl rfl (wsI_41 _ _ _ _) ?_
                  refine g_bipush (6) rfl dX9_wordOf_101 ?_
                  refine g_iret dX9_wordOf_103 ?_
                  unfold mwd; (repeat' split) <;> first | contradiction | (with_reducible exact ⟨rfl, rfl⟩)
              · skip
                refine g_aload_n (i := 0) dX9_wordOf_80 rfl rfl ?_
                refine g_iconst (2) rfl dX9_wordOf_81 ?_
                refine m_puti 41 dX9_wordOf_82 (List.mem_of_getElem? (i := 6) rfl) (fun w h => List.mem_cons_of_mem _ (List.mem_append_right _ h)) (by decide) rfl rfl rfl (wsI_41 _ _ _ _) ?_
                refine g_bipush (6) rfl dX9_wordOf_85 ?_
                refine g_iret dX9_wordOf_87 ?_
                unfold mwd; (repeat' split) <;> first | contradiction | (with_reducible exact ⟨rfl, rfl⟩)
            · skip
              refine g_aload_n (i := 0) dX9_wordOf_64 rfl rfl ?_
              refine g_iconst (1) rfl dX9_wordOf_65 ?_
              refine m_puti 41 dX9_wordOf_66 (List.mem_of_getElem? (i := 6) rfl) (fun w h => List.mem_cons_of_mem _ (List.mem_append_right _ h)) (by decide) rfl rfl rfl (wsI_41 _ _ _ _) ?_
              refine g_bipush (6) rfl dX9_wordOf_69 ?_
              refine g_iret dX9_wordOf_71 ?_
              unfold mwd; (repeat' split) <;> first | contradiction | (with_reducible exact ⟨rfl, rfl⟩)
          · skip
            refine g_aload_n (i := 0) dX9_wordOf_48 rfl rfl ?_
            refine g_iconst (0) rfl dX9_wordOf_49 ?_
            refine m_puti 41 dX9_wordOf_50 (List.mem_of_getElem? (i := 6) rfl) (fun w h => List.mem_cons_of_mem _ (List.mem_append_right _ h)) (by decide) rfl rfl rfl (wsI_41 _ _ _ _) ?_
            refine g_bipush (6) rfl dX9_wordOf_53 ?_
            refine g_iret dX9_wordOf_55 ?_
            unfold mwd; (repeat' split) <;> first | contradiction | (with_reducible exact ⟨rfl, rfl⟩)
        · skip
          refine g_iconst (5) rfl dX9_wordOf_38 ?_
          refine g_iret dX9_wordOf_39 ?_
          unfold mwd; (repeat' split) <;> first | contradiction | (with_reducible exact ⟨rfl, rfl⟩)
      · skip
        refine g_iconst (4) rfl dX9_wordOf_28 ?_
        refine g_iret dX9_wordOf_29 ?_
        unfold mwd; (repeat' split) <;> first | contradiction | (with_reducible exact ⟨rfl, rfl⟩)
    · skip
      refine g_iconst (3) rfl dX9_wordOf_18 ?_
      refine g_iret dX9_wordOf_19 ?_
      unfold mwd; (repeat' split) <;> first | contradiction | (with_reducible exact ⟨rfl, rfl⟩)
  · skip
    refine g_iconst (2) rfl dX9_wordOf_8 ?_
    refine g_iret dX9_wordOf_9 ?_
    unfold mwd; (repeat' split) <;> first | contradiction | (with_reducible exact ⟨rfl, rfl⟩)

