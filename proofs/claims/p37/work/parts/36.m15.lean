/-- the nets are read; the set of those that aren't 0 -/
def npF (S : MS) : Nat → MS
  | 0 => S
  | i + 1 => sB (npF S i) 50 i (mnetT (npF S i) (nI i) 10)
def npA (S : MS) : Nat → Int32
  | 0 => 0
  | i + 1 => npA S i ||| (if (npF S (i + 1)).2.2.2 50 i = 0 then 0 else ((1 : Int32) <<< (nI i &&& 31)))
theorem npA0 {S : MS} {i : Nat} (h : (npF S (i + 1)).2.2.2 50 i = 0) : npA S i ||| 0 = npA S (i + 1) := congrArg (fun z => npA S i ||| z) (if_pos h).symm
theorem npA1 {S : MS} {i : Nat} (h : ¬ (npF S (i + 1)).2.2.2 50 i = 0) : npA S i ||| ((1 : Int32) <<< (nI i &&& 31)) = npA S (i + 1) := congrArg (fun z => npA S i ||| z) (if_neg h).symm
/-- g is the next group of the set al -/
abbrev fgHit (T : MS) (al : Int32) (g : Nat) : Prop := (nI g &&& (al ^^^ -1)) = 0 ∧ ¬ (nI g &&& (al &&& -al)) = 0 ∧ T.2.2.2 42 g = 0 ∧ T.2.2.1 43 (al ^^^ nI g).toNatClampNeg + 1 = T.2.2.1 43 al.toNatClampNeg
def fgS (T : MS) (g : Nat) : MS := sI (sA T 45 (T.1 44).toNatClampNeg (nI g)) 44 ((sA T 45 (T.1 44).toNatClampNeg (nI g)).1 44 + 1)
/-- the groups of the set al are found one after the other, f at most, and X is what stands then -/
def fgRun : Nat → Int32 → MS → MS → Prop
  | 0, al, T, X => al = 0 ∧ X = T
  | f + 1, al, T, X => (al = 0 ∧ X = T) ∨ (¬ al = 0 ∧ vp_in al 1024 ∧ vp_in (T.1 44) 10 ∧ ∃ g, 1 ≤ g ∧ g < 1024 ∧ fgHit T al g ∧ (∀ j, 1 ≤ j → j < g → ¬ fgHit T al j) ∧ fgRun f (al ^^^ nI g) (fgS T g) X)
theorem fgR0 {f : Nat} {T X : MS} (h : fgRun f 0 T X) : X = T := by
  cases f with
  | zero => exact h.2
  | succ f => rcases h with h | h
              · exact h.2
              · exact absurd rfl h.1
theorem xorv {al : Int32} {g : Nat} (h : vp_in al 1024) (hg : g < 1024) : vp_in (al ^^^ nI g) 1024 := by
  obtain ⟨A, hA, rfl⟩ := vp_in_of h (by decide)
  rw [nx_xor]
  exact vp_in_nI (xor_lt hA hg) (by decide)
/-- the payments of group after group -/
def ppF (T : MS) : Nat → MS
  | 0 => T
  | j + 1 => poR ((ppF T j).2.2.1 45 j) 10 (ppF T j)
theorem poR_44 (st : Int32) : ∀ (f : Nat) (T : MS), (poR st f T).1 44 = T.1 44
  | 0, _ => rfl
  | f + 1, T => by
    show (if poF st T < 0 then T else poR st f (poS st T)).1 44 = T.1 44
    split
    · rfl
    · rw [poR_44 st f (poS st T)]
      rfl
theorem ppF_44 (T : MS) : ∀ j : Nat, (ppF T j).1 44 = T.1 44
  | 0 => rfl
  | j + 1 => (poR_44 _ 10 (ppF T j)).trans (ppF_44 T j)
def mpl0 (S : MS) : MS := sI (sI (moO (smO (npF S 10) 1024) 1023) 44 0) 46 0

set_option maxHeartbeats 4000000 in
set_option maxRecDepth 100000 in
/-- the plan is found -/
theorem M_findPlan (l : Launch) (D : va_G) (cy : Nat → ClassId) (a : Nat → Nat) (S : MS) (X : MS) (N9 : Nat) (hN9 : N9 ≤ 10) (hR : fgRun 10 (npA S 10) (mpl0 S) X) (eN9 : X.1 44 = nI N9) (hO : ∀ j, j < N9 → poOk ((ppF X j).2.2.1 45 j) 10 (ppF X j)) : Ct l D clx (tyx cy) yX9_findPlan wsX9_findPlan (rmD 2) 0 0 [.ref (a 0)] (MW cy a S) (fun r9 w9 => r9 = none ∧ w9 = MW cy a (ppF X N9)) := by
  refine g_start (cc := cX9_findPlan) (maxL := 3) (ret := none) (by decide) rfl (Nat.le_of_ble_eq_true rfl) (fun v w1 h => by obtain ⟨rfl, -⟩ := h; exact rfl) (fun Γ hlΓ => ?_)
  subst hlΓ
  refine g_iconst (0) rfl dX9_findPlan_0 ?_
  refine g_istore_n (i := 1) dX9_findPlan_1 rfl (by decide) ?_
  refine g_iconst (0) rfl dX9_findPlan_2 ?_
  refine g_istore_n (i := 2) dX9_findPlan_3 rfl (by decide) ?_
  refine g_cnt 10 (fun i => True) (fun i => MW cy a (npF S i)) (fun i => [(0, .ref (a 0)), (1, .int (npA S i)), (2, .int (nI i))]) 0 (by first | decide | omega) trivial (by rfl) (by refine ⟨rfl, rfl, rfl, trivial⟩) ?_ (fun i1 hi1 gi1 ihi1 => ?_)
  · intro gN
    refine g_iload_n (i := 2) dX9_findPlan_4 rfl rfl ?_
    refine g_bipush (10) rfl dX9_findPlan_5 ?_
    refine g_icmp_ge 48 dX9_findPlan_7 (by decide) (fun c_2 => ?_) (fun c_2 => ?_)
    · skip
      refine g_aload_n (i := 0) dX9_findPlan_48 rfl rfl ?_
      refine g_callVf 0 0 gX9_findPlan_X9_findMost rfl rfl rfl ⟨Nat.le_of_ble_eq_true rfl, Nat.le_of_ble_eq_true rfl⟩ ⟨Nat.le_of_ble_eq_true rfl, Nat.le_of_ble_eq_true rfl⟩ (by exact Nat.le_of_ble_eq_true rfl) (by decide +kernel) rfl rfl rfl dX9_findPlan_49 (M_findMost _ D cy a _) rfl (fun vu_3 wu_3 hu_3 => ?_)
      obtain ⟨rfl, rfl⟩ := hu_3
      refine g_aload_n (i := 0) dX9_findPlan_52 rfl rfl ?_
      refine g_iconst (0) rfl dX9_findPlan_53 ?_
      refine m_puti 44 dX9_findPlan_54 (List.mem_of_getElem? (i := 2) rfl) (fun w h => List.mem_cons_of_mem _ (List.mem_append_right _ h)) (by decide) rfl rfl rfl (wsI_44 _ _ _ _) ?_
      refine g_aload_n (i := 0) dX9_findPlan_57 rfl rfl ?_
      refine g_iconst (0) rfl dX9_findPlan_58 ?_
      refine m_puti 46 dX9_findPlan_59 (List.mem_of_getElem? (i := 3) rfl) (fun w h => List.mem_cons_of_mem _ (List.mem_append_right _ h)) (by decide) rfl rfl rfl (wsI_46 _ _ _ _) ?_
      refine g_whl (σ := Nat × Int32 × MS) (fun x => x.1) (fun x => fgRun x.1 x.2.1 x.2.2 X) (fun x => MW cy a x.2.2) (fun x => [(0, .ref (a 0)), (1, .int x.2.1)]) (10, npA S 10, mpl0 S) hR rfl ⟨rfl, rfl, trivial⟩ (fun x gx ih => ?_)
      obtain ⟨f, al, T⟩ := x
      replace gx : fgRun f al T X := gx
      refine g_iload_n (i := 1) dX9_findPlan_62 rfl rfl ?_
      refine g_if_eq 148 dX9_findPlan_63 (by decide) (fun c_5 => ?_) (fun c_5 => ?_)
      · skip
        replace c_5 : al = 0 := c_5
        subst c_5
        have gX := fgR0 gx
        subst gX
        refine g_iconst (0) rfl dX9_findPlan_148 ?_
        refine g_istore_n (i := 2) dX9_findPlan_149 rfl (by decide) ?_
        refine g_cnt N9 (fun i => True) (fun i => MW cy a (ppF X i)) (fun i => [(0, .ref (a 0)), (2, .int (nI i))]) 0 (by first | decide | omega) trivial (by rfl) (by refine ⟨rfl, rfl, trivial⟩) ?_ (fun i6 hi6 gi6 ihi6 => ?_)
        · intro gN
          refine g_iload_n (i := 2) dX9_findPlan_150 rfl rfl ?_
          refine g_aload_n (i := 0) dX9_findPlan_151 rfl rfl ?_
          refine m_get 44 dX9_findPlan_152 (List.mem_of_getElem? (i := 2) rfl) (fun w h => List.mem_cons_of_mem _ (List.mem_append_right _ h)) (by decide) rfl ?_
          refine g_icmp_ge 174 dX9_findPlan_155 (by decide) (fun c_7 => ?_) (fun c_7 => ?_)
          · skip
            refine g_vret dX9_findPlan_174 ?_
            with_reducible exact ⟨rfl, rfl⟩
          · skip
            exact absurd (by rw [ppF_44, eN9]; exact nI_le (Nat.le_refl _) (by omega)) c_7
        · skip
          refine g_iload_n (i := 2) dX9_findPlan_150 rfl rfl ?_
          refine g_aload_n (i := 0) dX9_findPlan_151 rfl rfl ?_
          refine m_get 44 dX9_findPlan_152 (List.mem_of_getElem? (i := 2) rfl) (fun w h => List.mem_cons_of_mem _ (List.mem_append_right _ h)) (by decide) rfl ?_
          refine g_icmp_ge 174 dX9_findPlan_155 (by decide) (fun c_8 => ?_) (fun c_8 => ?_)
          · skip
            exact absurd c_8 (by rw [ppF_44, eN9]; exact nI_ge hi6 (by omega))
          · skip
            refine g_aload_n (i := 0) dX9_findPlan_158 rfl rfl ?_
            refine g_aload_n (i := 0) dX9_findPlan_159 rfl rfl ?_
            refine m_get 45 dX9_findPlan_160 (List.mem_of_getElem? (i := 6) rfl) (fun w h => List.mem_cons_of_mem _ (List.mem_append_right _ h)) (by decide) rfl ?_
            refine g_iload_n (i := 2) dX9_findPlan_163 rfl rfl ?_
            refine m_ialdN 45 33 10 dX9_findPlan_164 rfl (by omega) (by decide) ?_
            refine g_callVf 1 0 gX9_findPlan_X9_payOut rfl rfl rfl ⟨Nat.le_of_ble_eq_true rfl, Nat.le_of_ble_eq_true rfl⟩ ⟨Nat.le_of_ble_eq_true rfl, Nat.le_of_ble_eq_true rfl⟩ (by exact Nat.le_of_ble_eq_true rfl) (by decide +kernel) rfl rfl rfl dX9_findPlan_165 (M_payOut _ D cy a _ _ (hO _ (by with_reducible assumption))) rfl (fun vu_9 wu_9 hu_9 => ?_)
            obtain ⟨rfl, rfl⟩ := hu_9
            refine g_iinc (1) dX9_findPlan_168 rfl rfl (by decide) ?_
            refine g_goto 150 dX9_findPlan_171 (by decide) ?_
            refine g_to _ _ (ihi6 (trivial)) rfl (by refine ⟨(by first | rfl | (rw [← nI_1]; rfl) | (rw [← nI_1]; rfl)), (by first | rfl | (rw [← nI_1]; rfl) | (rw [← nI_1]; rfl)), trivial⟩)
      · skip
        replace c_5 : ¬ al = 0 := c_5
        obtain ⟨f, rfl⟩ : ∃ k, f = k + 1 := (by cases f with | zero => exact absurd gx.1 c_5 | succ f => exact ⟨f, rfl⟩)
        obtain ⟨-, hal, hgr, g, hg1, hg2, hgh, hgm, gx⟩ : ¬ al = 0 ∧ vp_in al 1024 ∧ vp_in (T.1 44) 10 ∧ ∃ g, 1 ≤ g ∧ g < 1024 ∧ fgHit T al g ∧ (∀ j, 1 ≤ j → j < g → ¬ fgHit T al j) ∧ fgRun f (al ^^^ nI g) (fgS T g) X := gx.resolve_left (fun h9 => c_5 h9.1)
        refine g_iconst (1) rfl dX9_findPlan_66 ?_
        refine g_istore_n (i := 2) dX9_findPlan_67 rfl (by decide) ?_
        refine g_cnt g (fun i => 1 ≤ i) (fun i => MW cy a T) (fun i => [(0, .ref (a 0)), (1, .int al), (2, .int (nI i))]) 1 hg1 (Nat.le_refl 1) rfl ⟨rfl, rfl, rfl, trivial⟩ ?_ (fun i10 hi10 gi10 ihi10 => ?_)
        · intro gN
          refine g_iload_n (i := 2) dX9_findPlan_68 rfl rfl ?_
          refine g_iload_n (i := 1) dX9_findPlan_69 rfl rfl ?_
          refine g_iconst (-1) rfl dX9_findPlan_70 ?_
          refine g_ixor dX9_findPlan_71 ?_
          refine g_iand dX9_findPlan_72 ?_
          refine g_if_ne 115 dX9_findPlan_73 (by decide) (fun c_11 => ?_) (fun c_11 => ?_)
          · skip
            first | exact absurd hgh.1 (by with_reducible assumption) | exact absurd (by with_reducible assumption) hgh.2.1 | exact absurd hgh.2.2.1 (by with_reducible assumption) | exact absurd hgh.2.2.2 (by with_reducible assumption)
          · skip
            refine g_iload_n (i := 2) dX9_findPlan_76 rfl rfl ?_
            refine g_iload_n (i := 1) dX9_findPlan_77 rfl rfl ?_
            refine g_iload_n (i := 1) dX9_findPlan_78 rfl rfl ?_
            refine g_ineg dX9_findPlan_79 ?_
            refine g_iand dX9_findPlan_80 ?_
            refine g_iand dX9_findPlan_81 ?_
            refine g_if_eq 115 dX9_findPlan_82 (by decide) (fun c_12 => ?_) (fun c_12 => ?_)
            · skip
              first | exact absurd hgh.1 (by with_reducible assumption) | exact absurd (by with_reducible assumption) hgh.2.1 | exact absurd hgh.2.2.1 (by with_reducible assumption) | exact absurd hgh.2.2.2 (by with_reducible assumption)
            · skip
              refine g_aload_n (i := 0) dX9_findPlan_85 rfl rfl ?_
              refine m_get 42 dX9_findPlan_86 (List.mem_of_getElem? (i := 4) rfl) (fun w h => List.mem_cons_of_mem _ (List.mem_append_right _ h)) (by decide) rfl ?_
              refine g_iload_n (i := 2) dX9_findPlan_89 rfl rfl ?_
              refine m_laldN 42 31 1024 dX9_findPlan_90 rfl (by omega) (by decide) ?_
              refine g_lconst 0 rfl dX9_findPlan_91 ?_
              refine g_lcmp_ne 115 dX9_findPlan_92 dX9_findPlan_93 (by decide) (fun c_13 => ?_) (fun c_13 => ?_)
              · skip
                first | exact absurd hgh.1 (by with_reducible assumption) | exact absurd (by with_reducible assumption) hgh.2.1 | exact absurd hgh.2.2.1 (by with_reducible assumption) | exact absurd hgh.2.2.2 (by with_reducible assumption)
              · skip
                refine g_aload_n (i := 0) dX9_findPlan_96 rfl rfl ?_
                refine m_get 43 dX9_findPlan_97 (List.mem_of_getElem? (i := 5) rfl) (fun w h => List.mem_cons_of_mem _ (List.mem_append_right _ h)) (by decide) rfl ?_
                refine g_iload_n (i := 1) dX9_findPlan_100 rfl rfl ?_
                refine g_iload_n (i := 2) dX9_findPlan_101 rfl rfl ?_
                refine g_ixor dX9_findPlan_102 ?_
                refine m_iald 43 32 1024 dX9_findPlan_103 rfl (xorv hal (by omega)) ?_
                refine g_iconst (1) rfl dX9_findPlan_104 ?_
                refine g_iadd dX9_findPlan_105 ?_
                refine g_aload_n (i := 0) dX9_findPlan_106 rfl rfl ?_
                refine m_get 43 dX9_findPlan_107 (List.mem_of_getElem? (i := 5) rfl) (fun w h => List.mem_cons_of_mem _ (List.mem_append_right _ h)) (by decide) rfl ?_
                refine g_iload_n (i := 1) dX9_findPlan_110 rfl rfl ?_
                refine m_iald 43 32 1024 dX9_findPlan_111 rfl hal ?_
                refine g_icmp_eq 121 dX9_findPlan_112 (by decide) (fun c_14 => ?_) (fun c_14 => ?_)
                · skip
                  refine g_aload_n (i := 0) dX9_findPlan_121 rfl rfl ?_
                  refine m_get 45 dX9_findPlan_122 (List.mem_of_getElem? (i := 6) rfl) (fun w h => List.mem_cons_of_mem _ (List.mem_append_right _ h)) (by decide) rfl ?_
                  refine g_aload_n (i := 0) dX9_findPlan_125 rfl rfl ?_
                  refine m_get 44 dX9_findPlan_126 (List.mem_of_getElem? (i := 2) rfl) (fun w h => List.mem_cons_of_mem _ (List.mem_append_right _ h)) (by decide) rfl ?_
                  refine g_iload_n (i := 2) dX9_findPlan_129 rfl rfl ?_
                  refine m_iast 45 33 10 dX9_findPlan_130 rfl hgr (wsA_45 _ _ _ _ _) ?_
                  refine g_aload_n (i := 0) dX9_findPlan_131 rfl rfl ?_
                  refine g_dup rfl dX9_findPlan_132 ?_
                  refine m_get 44 dX9_findPlan_133 (List.mem_of_getElem? (i := 2) rfl) (fun w h => List.mem_cons_of_mem _ (List.mem_append_right _ h)) (by decide) rfl ?_
                  refine g_iconst (1) rfl dX9_findPlan_136 ?_
                  refine g_iadd dX9_findPlan_137 ?_
                  refine m_puti 44 dX9_findPlan_138 (List.mem_of_getElem? (i := 2) rfl) (fun w h => List.mem_cons_of_mem _ (List.mem_append_right _ h)) (by decide) rfl rfl rfl (wsI_44 _ _ _ _) ?_
                  refine g_iload_n (i := 1) dX9_findPlan_141 rfl rfl ?_
                  refine g_iload_n (i := 2) dX9_findPlan_142 rfl rfl ?_
                  refine g_ixor dX9_findPlan_143 ?_
                  refine g_istore_n (i := 1) dX9_findPlan_144 rfl (by decide) ?_
                  refine g_goto 62 dX9_findPlan_145 (by decide) ?_
                  exact g_to _ _ (ih (f, al ^^^ nI g, fgS T g) gx (Nat.lt_succ_self f)) rfl ⟨rfl, rfl, trivial⟩
                · skip
                  first | exact absurd hgh.1 (by with_reducible assumption) | exact absurd (by with_reducible assumption) hgh.2.1 | exact absurd hgh.2.2.1 (by with_reducible assumption) | exact absurd hgh.2.2.2 (by with_reducible assumption)
        · skip
          refine g_iload_n (i := 2) dX9_findPlan_68 rfl rfl ?_
          refine g_iload_n (i := 1) dX9_findPlan_69 rfl rfl ?_
          refine g_iconst (-1) rfl dX9_findPlan_70 ?_
          refine g_ixor dX9_findPlan_71 ?_
          refine g_iand dX9_findPlan_72 ?_
          refine g_if_ne 115 dX9_findPlan_73 (by decide) (fun c_15 => ?_) (fun c_15 => ?_)
          · skip
            refine g_iinc (1) dX9_findPlan_115 rfl rfl (by decide) ?_
            refine g_goto 68 dX9_findPlan_118 (by decide) ?_
            exact g_to _ _ (ihi10 (by omega)) rfl ⟨rfl, rfl, (by rw [← nI_1]; rfl), trivial⟩
          · skip
            refine g_iload_n (i := 2) dX9_findPlan_76 rfl rfl ?_
            refine g_iload_n (i := 1) dX9_findPlan_77 rfl rfl ?_
            refine g_iload_n (i := 1) dX9_findPlan_78 rfl rfl ?_
            refine g_ineg dX9_findPlan_79 ?_
            refine g_iand dX9_findPlan_80 ?_
            refine g_iand dX9_findPlan_81 ?_
            refine g_if_eq 115 dX9_findPlan_82 (by decide) (fun c_16 => ?_) (fun c_16 => ?_)
            · skip
              refine g_iinc (1) dX9_findPlan_115 rfl rfl (by decide) ?_
              refine g_goto 68 dX9_findPlan_118 (by decide) ?_
              exact g_to _ _ (ihi10 (by omega)) rfl ⟨rfl, rfl, (by rw [← nI_1]; rfl), trivial⟩
            · skip
              refine g_aload_n (i := 0) dX9_findPlan_85 rfl rfl ?_
              refine m_get 42 dX9_findPlan_86 (List.mem_of_getElem? (i := 4) rfl) (fun w h => List.mem_cons_of_mem _ (List.mem_append_right _ h)) (by decide) rfl ?_
              refine g_iload_n (i := 2) dX9_findPlan_89 rfl rfl ?_
              refine m_laldN 42 31 1024 dX9_findPlan_90 rfl (by omega) (by decide) ?_
              refine g_lconst 0 rfl dX9_findPlan_91 ?_
              refine g_lcmp_ne 115 dX9_findPlan_92 dX9_findPlan_93 (by decide) (fun c_17 => ?_) (fun c_17 => ?_)
              · skip
                refine g_iinc (1) dX9_findPlan_115 rfl rfl (by decide) ?_
                refine g_goto 68 dX9_findPlan_118 (by decide) ?_
                exact g_to _ _ (ihi10 (by omega)) rfl ⟨rfl, rfl, (by rw [← nI_1]; rfl), trivial⟩
              · skip
                refine g_aload_n (i := 0) dX9_findPlan_96 rfl rfl ?_
                refine m_get 43 dX9_findPlan_97 (List.mem_of_getElem? (i := 5) rfl) (fun w h => List.mem_cons_of_mem _ (List.mem_append_right _ h)) (by decide) rfl ?_
                refine g_iload_n (i := 1) dX9_findPlan_100 rfl rfl ?_
                refine g_iload_n (i := 2) dX9_findPlan_101 rfl rfl ?_
                refine g_ixor dX9_findPlan_102 ?_
                refine m_iald 43 32 1024 dX9_findPlan_103 rfl (xorv hal (by omega)) ?_
                refine g_iconst (1) rfl dX9_findPlan_104 ?_
                refine g_iadd dX9_findPlan_105 ?_
                refine g_aload_n (i := 0) dX9_findPlan_106 rfl rfl ?_
                refine m_get 43 dX9_findPlan_107 (List.mem_of_getElem? (i := 5) rfl) (fun w h => List.mem_cons_of_mem _ (List.mem_append_right _ h)) (by decide) rfl ?_
                refine g_iload_n (i := 1) dX9_findPlan_110 rfl rfl ?_
                refine m_iald 43 32 1024 dX9_findPlan_111 rfl hal ?_
                refine g_icmp_eq 121 dX9_findPlan_112 (by decide) (fun c_18 => ?_) (fun c_18 => ?_)
                · skip
                  exact absurd ⟨(by with_reducible assumption), (by with_reducible assumption), (by with_reducible assumption), (by with_reducible assumption)⟩ (hgm i10 gi10 hi10)
                · skip
                  refine g_iinc (1) dX9_findPlan_115 rfl rfl (by decide) ?_
                  refine g_goto 68 dX9_findPlan_118 (by decide) ?_
                  exact g_to _ _ (ihi10 (by omega)) rfl ⟨rfl, rfl, (by rw [← nI_1]; rfl), trivial⟩
    · skip
      exact absurd (nI_le (Nat.le_refl _) (by first | decide | omega)) c_2
  · skip
    refine g_iload_n (i := 2) dX9_findPlan_4 rfl rfl ?_
    refine g_bipush (10) rfl dX9_findPlan_5 ?_
    refine g_icmp_ge 48 dX9_findPlan_7 (by decide) (fun c_19 => ?_) (fun c_19 => ?_)
    · skip
      exact absurd c_19 (nI_ge hi1 (by first | decide | omega))
    · skip
      refine g_aload_n (i := 0) dX9_findPlan_10 rfl rfl ?_
      refine m_get 50 dX9_findPlan_11 (List.mem_of_getElem? (i := 1) rfl) (fun w h => List.mem_cons_of_mem _ (List.mem_append_right _ h)) (by decide) rfl ?_
      refine g_iload_n (i := 2) dX9_findPlan_14 rfl rfl ?_
      refine g_aload_n (i := 0) dX9_findPlan_15 rfl rfl ?_
      refine g_iload_n (i := 2) dX9_findPlan_16 rfl rfl ?_
      refine g_callVf 1 0 gX9_findPlan_X9_netOf rfl rfl rfl ⟨Nat.le_of_ble_eq_true rfl, Nat.le_of_ble_eq_true rfl⟩ ⟨Nat.le_of_ble_eq_true rfl, Nat.le_of_ble_eq_true rfl⟩ (by exact Nat.le_of_ble_eq_true rfl) (by decide +kernel) rfl rfl rfl dX9_findPlan_17 (M_netOf _ D cy a _ _ (by first | assumption | exact vpi10 (by assumption) | exact vp_in_nI (by assumption) (by decide))) rfl (fun vu_20 wu_20 hu_20 => ?_)
      obtain ⟨rfl, rfl⟩ := hu_20
      refine m_lastN 50 37 10 dX9_findPlan_20 rfl (by omega) (by decide) (wsA_50 _ _ _ _ _) ?_
      refine g_iload_n (i := 1) dX9_findPlan_21 rfl rfl ?_
      refine g_aload_n (i := 0) dX9_findPlan_22 rfl rfl ?_
      refine m_get 50 dX9_findPlan_23 (List.mem_of_getElem? (i := 1) rfl) (fun w h => List.mem_cons_of_mem _ (List.mem_append_right _ h)) (by decide) rfl ?_
      refine g_iload_n (i := 2) dX9_findPlan_26 rfl rfl ?_
      refine m_laldN 50 37 10 dX9_findPlan_27 rfl (by omega) (by decide) ?_
      refine g_lconst 0 rfl dX9_findPlan_28 ?_
      refine g_lcmp_eq 39 dX9_findPlan_29 dX9_findPlan_30 (by decide) (fun c_21 => ?_) (fun c_21 => ?_)
      · skip
        refine g_iconst (0) rfl dX9_findPlan_39 ?_
        refine g_ior dX9_findPlan_40 ?_
        refine g_istore_n (i := 1) dX9_findPlan_41 rfl (by decide) ?_
        refine g_iinc (1) dX9_findPlan_42 rfl rfl (by decide) ?_
        refine g_goto 4 dX9_findPlan_45 (by decide) ?_
        first | exact g_to _ _ (ihi1 trivial) rfl ⟨rfl, (congrArg (fun z => some (Value.int z)) (npA0 (S := S) (i := i1) (by assumption))), (by rw [← nI_1]; rfl), trivial⟩ | exact g_to _ _ (ihi1 trivial) rfl ⟨rfl, (congrArg (fun z => some (Value.int z)) (npA1 (S := S) (i := i1) (by assumption))), (by rw [← nI_1]; rfl), trivial⟩
      · skip
        refine g_iconst (1) rfl dX9_findPlan_33 ?_
        refine g_iload_n (i := 2) dX9_findPlan_34 rfl rfl ?_
        refine g_ishl dX9_findPlan_35 ?_
        refine g_goto 40 dX9_findPlan_36 (by decide) ?_
        refine g_ior dX9_findPlan_40 ?_
        refine g_istore_n (i := 1) dX9_findPlan_41 rfl (by decide) ?_
        refine g_iinc (1) dX9_findPlan_42 rfl rfl (by decide) ?_
        refine g_goto 4 dX9_findPlan_45 (by decide) ?_
        first | exact g_to _ _ (ihi1 trivial) rfl ⟨rfl, (congrArg (fun z => some (Value.int z)) (npA0 (S := S) (i := i1) (by assumption))), (by rw [← nI_1]; rfl), trivial⟩ | exact g_to _ _ (ihi1 trivial) rfl ⟨rfl, (congrArg (fun z => some (Value.int z)) (npA1 (S := S) (i := i1) (by assumption))), (by rw [← nI_1]; rfl), trivial⟩

