/-- the sums over sets, house by house, set by set -/
def smI (T : MS) (i : Nat) : Nat → MS
  | 0 => sB T 42 i 0
  | j + 1 => sB (smI T i j) 42 i ((smI T i j).2.2.2 42 i + (if ((nI i >>> (nI j &&& 31)) &&& 1) = 1 then (smI T i j).2.2.2 50 j else 0))
def smO (S : MS) : Nat → MS
  | 0 => S
  | i + 1 => smI (smO S i) i 10
/-- one group g of the set i is tried; all of them, from g down -/
def moS (i g : Nat) (T : MS) : MS := if (nI g &&& (nI i &&& -nI i)) = 0 then T else if T.2.2.2 42 g = 0 then (if T.2.2.1 43 (nI i ^^^ nI g).toNatClampNeg < 0 then T else if T.2.2.1 43 (nI i ^^^ nI g).toNatClampNeg + 1 ≤ T.2.2.1 43 i then T else sA T 43 i (T.2.2.1 43 (nI i ^^^ nI g).toNatClampNeg + 1)) else T
def moR (i : Nat) : Nat → Nat → MS → MS
  | 0, _, T => T
  | f + 1, g, T => if g = 0 then T else moR i f ((g - 1) &&& i) (moS i g T)
def moO (S : MS) : Nat → MS
  | 0 => sA S 43 0 0
  | i + 1 => moR (i + 1) 1024 (i + 1) (sA (moO S i) 43 (i + 1) (-1))
def mmost (S : MS) : MS := moO (smO S 1024) 1023
theorem smI1 {T : MS} {i j : Nat} (h : ((nI i >>> (nI j &&& 31)) &&& 1) = 1) : sB (smI T i j) 42 i ((smI T i j).2.2.2 42 i + (smI T i j).2.2.2 50 j) = smI T i (j + 1) :=
  congrArg (fun z => sB (smI T i j) 42 i ((smI T i j).2.2.2 42 i + z)) (if_pos h).symm
theorem smI0 {T : MS} {i j : Nat} (h : ¬ ((nI i >>> (nI j &&& 31)) &&& 1) = 1) : sB (smI T i j) 42 i ((smI T i j).2.2.2 42 i + 0) = smI T i (j + 1) :=
  congrArg (fun z => sB (smI T i j) 42 i ((smI T i j).2.2.2 42 i + z)) (if_neg h).symm
theorem moR0 {i f : Nat} {T X : MS} (g : moR i f 0 T = X) : T = X := by
  cases f with
  | zero => exact g
  | succ f => exact g
theorem moR1 {i f g : Nat} {T X : MS} (h0 : 0 < g) (hf : g < f + 1) (e : moR i (f + 1) g T = X) : moR i f ((g - 1) &&& i) (moS i g T) = X := by
  rw [← e]
  exact (if_neg (by omega)).symm
theorem nx_and (a b : Nat) : nI a &&& nI b = nI (a &&& b) := by
  apply Int32.toBitVec_inj.1
  show BitVec.ofNat 32 a &&& BitVec.ofNat 32 b = BitVec.ofNat 32 (a &&& b)
  apply BitVec.eq_of_getLsbD_eq
  intro i hi
  simp [hi]
theorem nx_xor (a b : Nat) : nI a ^^^ nI b = nI (a ^^^ b) := by
  apply Int32.toBitVec_inj.1
  show BitVec.ofNat 32 a ^^^ BitVec.ofNat 32 b = BitVec.ofNat 32 (a ^^^ b)
  apply BitVec.eq_of_getLsbD_eq
  intro i hi
  simp [hi]
theorem xor_lt {p q : Nat} (hp : p < 1024) (hq : q < 1024) : p ^^^ q < 1024 := Nat.xor_lt_two_pow (n := 10) hp hq
theorem pred_nI {g : Nat} (h : 0 < g) : nI g - 1 = nI (g - 1) := by
  obtain ⟨k, rfl⟩ : ∃ k, g = k + 1 := ⟨g - 1, by omega⟩
  exact nI_pred k

set_option maxHeartbeats 4000000 in
set_option maxRecDepth 100000 in
/-- sums and most groups of all sets -/
theorem M_findMost (l : Launch) (D : va_G) (cy : Nat → ClassId) (a : Nat → Nat) (S : MS) : Ct l D clx (tyx cy) yX9_findMost wsX9_findMost (rmD 0) 0 0 [.ref (a 0)] (MW cy a S) (fun r9 w9 => r9 = none ∧ w9 = MW cy a (moO (smO S 1024) 1023)) := by
  refine g_start (cc := cX9_findMost) (maxL := 4) (ret := none) (by decide) rfl (Nat.le_of_ble_eq_true rfl) (fun v w1 h => by obtain ⟨rfl, -⟩ := h; exact rfl) (fun Γ hlΓ => ?_)
  subst hlΓ
  refine g_iconst (0) rfl dX9_findMost_0 ?_
  refine g_istore_n (i := 1) dX9_findMost_1 rfl (by decide) ?_
  refine g_cnt 1024 (fun i => True) (fun i => MW cy a (smO S i)) (fun i => [(0, .ref (a 0)), (1, .int (nI i))]) 0 (by first | decide | omega) trivial (by rfl) (by refine ⟨rfl, rfl, trivial⟩) ?_ (fun i1 hi1 gi1 ihi1 => ?_)
  · intro gN
    refine g_iload_n (i := 1) dX9_findMost_2 rfl rfl ?_
    refine g_sipush (1024) rfl dX9_findMost_3 ?_
    refine g_icmp_ge 64 dX9_findMost_6 (by decide) (fun c_2 => ?_) (fun c_2 => ?_)
    · skip
      refine g_aload_n (i := 0) dX9_findMost_64 rfl rfl ?_
      refine m_get 43 dX9_findMost_65 (List.mem_of_getElem? (i := 3) rfl) (fun w h => List.mem_cons_of_mem _ (List.mem_append_right _ h)) (by decide) rfl ?_
      refine g_iconst (0) rfl dX9_findMost_68 ?_
      refine g_iconst (0) rfl dX9_findMost_69 ?_
      refine m_iast 43 32 1024 dX9_findMost_70 rfl (by unfold vp_in; decide) (wsA_43 _ _ _ _ _) ?_
      refine g_iconst (1) rfl dX9_findMost_71 ?_
      refine g_istore_n (i := 1) dX9_findMost_72 rfl (by decide) ?_
      refine g_cnt 1023 (fun i => True) (fun i => MW cy a (moO (smO S 1024) i)) (fun i => [(0, .ref (a 0)), (1, .int (nI (i + 1)))]) 0 (by decide) trivial rfl ⟨rfl, rfl, trivial⟩ ?_ (fun i3 hi3 gi3 ihi3 => ?_)
      · intro gN
        refine g_iload_n (i := 1) dX9_findMost_73 rfl rfl ?_
        refine g_sipush (1024) rfl dX9_findMost_74 ?_
        refine g_icmp_ge 176 dX9_findMost_77 (by decide) (fun c_4 => ?_) (fun c_4 => ?_)
        · skip
          refine g_vret dX9_findMost_176 ?_
          with_reducible exact ⟨rfl, rfl⟩
        · skip
          exact absurd (nI_le (Nat.le_refl _) (by decide)) c_4
      · skip
        refine g_iload_n (i := 1) dX9_findMost_73 rfl rfl ?_
        refine g_sipush (1024) rfl dX9_findMost_74 ?_
        refine g_icmp_ge 176 dX9_findMost_77 (by decide) (fun c_5 => ?_) (fun c_5 => ?_)
        · skip
          exact absurd c_5 (nI_ge (a := i3 + 1) (b := 1024) (by omega) (by decide))
        · skip
          refine g_aload_n (i := 0) dX9_findMost_80 rfl rfl ?_
          refine m_get 43 dX9_findMost_81 (List.mem_of_getElem? (i := 3) rfl) (fun w h => List.mem_cons_of_mem _ (List.mem_append_right _ h)) (by decide) rfl ?_
          refine g_iload_n (i := 1) dX9_findMost_84 rfl rfl ?_
          refine g_iconst (-1) rfl dX9_findMost_85 ?_
          refine m_iastN 43 32 1024 dX9_findMost_86 rfl (by omega) (by decide) (wsA_43 _ _ _ _ _) ?_
          refine g_iload_n (i := 1) dX9_findMost_87 rfl rfl ?_
          refine g_iload_n (i := 1) dX9_findMost_88 rfl rfl ?_
          refine g_ineg dX9_findMost_89 ?_
          refine g_iand dX9_findMost_90 ?_
          refine g_istore_n (i := 2) dX9_findMost_91 rfl (by decide) ?_
          refine g_iload_n (i := 1) dX9_findMost_92 rfl rfl ?_
          refine g_istore_n (i := 3) dX9_findMost_93 rfl (by decide) ?_
          obtain ⟨X9, hX9⟩ : ∃ X : MS, X = moR (i3 + 1) 1024 (i3 + 1) (sA (moO (smO S 1024) i3) 43 (i3 + 1) (-1)) := ⟨_, rfl⟩
          refine g_whl (σ := Nat × Nat × MS) (fun x => x.1) (fun x => x.2.1 < x.1 ∧ x.2.1 < 1024 ∧ moR (i3 + 1) x.1 x.2.1 x.2.2 = X9) (fun x => MW cy a x.2.2) (fun x => [(0, .ref (a 0)), (1, .int (nI (i3 + 1))), (2, .int (nI (i3 + 1) &&& -nI (i3 + 1))), (3, .int (nI x.2.1))]) (1024, i3 + 1, sA (moO (smO S 1024) i3) 43 (i3 + 1) (-1)) ⟨(by show i3 + 1 < 1024; omega), (by show i3 + 1 < 1024; omega), hX9.symm⟩ rfl ⟨rfl, rfl, rfl, rfl, trivial⟩ (fun x gx ih => ?_)
          obtain ⟨f, g, T⟩ := x
          obtain ⟨hf, hg, gx⟩ := gx
          replace hf : g < f := hf
          replace hg : g < 1024 := hg
          replace gx : moR (i3 + 1) f g T = X9 := gx
          refine g_iload_n (i := 3) dX9_findMost_94 rfl rfl ?_
          refine g_if_le 170 dX9_findMost_95 (by decide) (fun c_7 => ?_) (fun c_7 => ?_)
          · skip
            have e0 : g = 0 := (by rcases Nat.eq_zero_or_pos g with q9 | q9; exact q9; exact absurd (show nI g ≤ 0 from c_7) (nI_nle q9 (by omega)))
            subst e0
            have gX := (moR0 gx).trans hX9
            refine g_iinc (1) dX9_findMost_170 rfl rfl (by decide) ?_
            refine g_goto 73 dX9_findMost_173 (by decide) ?_
            refine g_to _ _ (ihi3 trivial) (congrArg (MW cy a) gX) ⟨rfl, (by rw [← nI_1]; rfl), trivial⟩
          · skip
            have hp : 0 < g := (by rcases Nat.eq_zero_or_pos g with q9 | q9; exact absurd (show nI g ≤ 0 from (by rw [q9]; decide)) c_7; exact q9)
            obtain ⟨f, rfl⟩ : ∃ k, f = k + 1 := ⟨f - 1, by omega⟩
            refine g_iload_n (i := 3) dX9_findMost_98 rfl rfl ?_
            refine g_iload_n (i := 2) dX9_findMost_99 rfl rfl ?_
            refine g_iand dX9_findMost_100 ?_
            refine g_if_eq 161 dX9_findMost_101 (by decide) (fun c_8 => ?_) (fun c_8 => ?_)
            · skip
              refine g_iload_n (i := 3) dX9_findMost_161 rfl rfl ?_
              refine g_iconst (1) rfl dX9_findMost_162 ?_
              refine g_isub dX9_findMost_163 ?_
              refine g_iload_n (i := 1) dX9_findMost_164 rfl rfl ?_
              refine g_iand dX9_findMost_165 ?_
              refine g_istore_n (i := 3) dX9_findMost_166 rfl (by decide) ?_
              refine g_goto 94 dX9_findMost_167 (by decide) ?_
              refine g_to _ _ (ih (f, (g - 1) &&& (i3 + 1), moS (i3 + 1) g T) ⟨Nat.lt_of_le_of_lt Nat.and_le_left (by show g - 1 < f; omega), Nat.lt_of_le_of_lt Nat.and_le_left (by show g - 1 < 1024; omega), moR1 hp hf gx⟩ (Nat.lt_succ_self f)) (congrArg (MW cy a) (by unfold moS; first | rw [if_pos (by with_reducible assumption)] | rw [if_neg (by with_reducible assumption), if_neg (by with_reducible assumption)] | rw [if_neg (by with_reducible assumption), if_pos (by with_reducible assumption), if_pos (by with_reducible assumption)] | rw [if_neg (by with_reducible assumption), if_pos (by with_reducible assumption), if_neg (by with_reducible assumption), if_pos (by with_reducible assumption)] | rw [if_neg (by with_reducible assumption), if_pos (by with_reducible assumption), if_neg (by with_reducible assumption), if_neg (by with_reducible assumption)])) ⟨rfl, rfl, rfl, (congrArg (fun z => some (Value.int z)) (by rw [pred_nI hp, nx_and])), trivial⟩
            · skip
              refine g_aload_n (i := 0) dX9_findMost_104 rfl rfl ?_
              refine m_get 42 dX9_findMost_105 (List.mem_of_getElem? (i := 1) rfl) (fun w h => List.mem_cons_of_mem _ (List.mem_append_right _ h)) (by decide) rfl ?_
              refine g_iload_n (i := 3) dX9_findMost_108 rfl rfl ?_
              refine m_laldN 42 31 1024 dX9_findMost_109 rfl (by omega) (by decide) ?_
              refine g_lconst 0 rfl dX9_findMost_110 ?_
              refine g_lcmp_ne 161 dX9_findMost_111 dX9_findMost_112 (by decide) (fun c_9 => ?_) (fun c_9 => ?_)
              · skip
                refine g_iload_n (i := 3) dX9_findMost_161 rfl rfl ?_
                refine g_iconst (1) rfl dX9_findMost_162 ?_
                refine g_isub dX9_findMost_163 ?_
                refine g_iload_n (i := 1) dX9_findMost_164 rfl rfl ?_
                refine g_iand dX9_findMost_165 ?_
                refine g_istore_n (i := 3) dX9_findMost_166 rfl (by decide) ?_
                refine g_goto 94 dX9_findMost_167 (by decide) ?_
                refine g_to _ _ (ih (f, (g - 1) &&& (i3 + 1), moS (i3 + 1) g T) ⟨Nat.lt_of_le_of_lt Nat.and_le_left (by show g - 1 < f; omega), Nat.lt_of_le_of_lt Nat.and_le_left (by show g - 1 < 1024; omega), moR1 hp hf gx⟩ (Nat.lt_succ_self f)) (congrArg (MW cy a) (by unfold moS; first | rw [if_pos (by with_reducible assumption)] | rw [if_neg (by with_reducible assumption), if_neg (by with_reducible assumption)] | rw [if_neg (by with_reducible assumption), if_pos (by with_reducible assumption), if_pos (by with_reducible assumption)] | rw [if_neg (by with_reducible assumption), if_pos (by with_reducible assumption), if_neg (by with_reducible assumption), if_pos (by with_reducible assumption)] | rw [if_neg (by with_reducible assumption), if_pos (by with_reducible assumption), if_neg (by with_reducible assumption), if_neg (by with_reducible assumption)])) ⟨rfl, rfl, rfl, (congrArg (fun z => some (Value.int z)) (by rw [pred_nI hp, nx_and])), trivial⟩
              · skip
                refine g_aload_n (i := 0) dX9_findMost_115 rfl rfl ?_
                refine m_get 43 dX9_findMost_116 (List.mem_of_getElem? (i := 3) rfl) (fun w h => List.mem_cons_of_mem _ (List.mem_append_right _ h)) (by decide) rfl ?_
                refine g_iload_n (i := 1) dX9_findMost_119 rfl rfl ?_
                refine g_iload_n (i := 3) dX9_findMost_120 rfl rfl ?_
                refine g_ixor dX9_findMost_121 ?_
                refine m_iald 43 32 1024 dX9_findMost_122 rfl (by rw [nx_xor]; exact vp_in_nI (xor_lt (by omega) hg) (by decide)) ?_
                refine g_if_lt 161 dX9_findMost_123 (by decide) (fun c_10 => ?_) (fun c_10 => ?_)
                · skip
                  refine g_iload_n (i := 3) dX9_findMost_161 rfl rfl ?_
                  refine g_iconst (1) rfl dX9_findMost_162 ?_
                  refine g_isub dX9_findMost_163 ?_
                  refine g_iload_n (i := 1) dX9_findMost_164 rfl rfl ?_
                  refine g_iand dX9_findMost_165 ?_
                  refine g_istore_n (i := 3) dX9_findMost_166 rfl (by decide) ?_
                  refine g_goto 94 dX9_findMost_167 (by decide) ?_
                  refine g_to _ _ (ih (f, (g - 1) &&& (i3 + 1), moS (i3 + 1) g T) ⟨Nat.lt_of_le_of_lt Nat.and_le_left (by show g - 1 < f; omega), Nat.lt_of_le_of_lt Nat.and_le_left (by show g - 1 < 1024; omega), moR1 hp hf gx⟩ (Nat.lt_succ_self f)) (congrArg (MW cy a) (by unfold moS; first | rw [if_pos (by with_reducible assumption)] | rw [if_neg (by with_reducible assumption), if_neg (by with_reducible assumption)] | rw [if_neg (by with_reducible assumption), if_pos (by with_reducible assumption), if_pos (by with_reducible assumption)] | rw [if_neg (by with_reducible assumption), if_pos (by with_reducible assumption), if_neg (by with_reducible assumption), if_pos (by with_reducible assumption)] | rw [if_neg (by with_reducible assumption), if_pos (by with_reducible assumption), if_neg (by with_reducible assumption), if_neg (by with_reducible assumption)])) ⟨rfl, rfl, rfl, (congrArg (fun z => some (Value.int z)) (by rw [pred_nI hp, nx_and])), trivial⟩
                · skip
                  refine g_aload_n (i := 0) dX9_findMost_126 rfl rfl ?_
                  refine m_get 43 dX9_findMost_127 (List.mem_of_getElem? (i := 3) rfl) (fun w h => List.mem_cons_of_mem _ (List.mem_append_right _ h)) (by decide) rfl ?_
                  refine g_iload_n (i := 1) dX9_findMost_130 rfl rfl ?_
                  refine g_iload_n (i := 3) dX9_findMost_131 rfl rfl ?_
                  refine g_ixor dX9_findMost_132 ?_
                  refine m_iald 43 32 1024 dX9_findMost_133 rfl (by rw [nx_xor]; exact vp_in_nI (xor_lt (by omega) hg) (by decide)) ?_
                  refine g_iconst (1) rfl dX9_findMost_134 ?_
                  refine g_iadd dX9_findMost_135 ?_
                  refine g_aload_n (i := 0) dX9_findMost_136 rfl rfl ?_
                  refine m_get 43 dX9_findMost_137 (List.mem_of_getElem? (i := 3) rfl) (fun w h => List.mem_cons_of_mem _ (List.mem_append_right _ h)) (by decide) rfl ?_
                  refine g_iload_n (i := 1) dX9_findMost_140 rfl rfl ?_
                  refine m_ialdN 43 32 1024 dX9_findMost_141 rfl (by omega) (by decide) ?_
                  refine g_icmp_le 161 dX9_findMost_142 (by decide) (fun c_11 => ?_) (fun c_11 => ?_)
                  · skip
                    refine g_iload_n (i := 3) dX9_findMost_161 rfl rfl ?_
                    refine g_iconst (1) rfl dX9_findMost_162 ?_
                    refine g_isub dX9_findMost_163 ?_
                    refine g_iload_n (i := 1) dX9_findMost_164 rfl rfl ?_
                    refine g_iand dX9_findMost_165 ?_
                    refine g_istore_n (i := 3) dX9_findMost_166 rfl (by decide) ?_
                    refine g_goto 94 dX9_findMost_167 (by decide) ?_
                    refine g_to _ _ (ih (f, (g - 1) &&& (i3 + 1), moS (i3 + 1) g T) ⟨Nat.lt_of_le_of_lt Nat.and_le_left (by show g - 1 < f; omega), Nat.lt_of_le_of_lt Nat.and_le_left (by show g - 1 < 1024; omega), moR1 hp hf gx⟩ (Nat.lt_succ_self f)) (congrArg (MW cy a) (by unfold moS; first | rw [if_pos (by with_reducible assumption)] | rw [if_neg (by with_reducible assumption), if_neg (by with_reducible assumption)] | rw [if_neg (by with_reducible assumption), if_pos (by with_reducible assumption), if_pos (by with_reducible assumption)] | rw [if_neg (by with_reducible assumption), if_pos (by with_reducible assumption), if_neg (by with_reducible assumption), if_pos (by with_reducible assumption)] | rw [if_neg (by with_reducible assumption), if_pos (by with_reducible assumption), if_neg (by with_reducible assumption), if_neg (by with_reducible assumption)])) ⟨rfl, rfl, rfl, (congrArg (fun z => some (Value.int z)) (by rw [pred_nI hp, nx_and])), trivial⟩
                  · skip
                    refine g_aload_n (i := 0) dX9_findMost_145 rfl rfl ?_
                    refine m_get 43 dX9_findMost_146 (List.mem_of_getElem? (i := 3) rfl) (fun w h => List.mem_cons_of_mem _ (List.mem_append_right _ h)) (by decide) rfl ?_
                    refine g_iload_n (i := 1) dX9_findMost_149 rfl rfl ?_
                    refine g_aload_n (i := 0) dX9_findMost_150 rfl rfl ?_
                    refine m_get 43 dX9_findMost_151 (List.mem_of_getElem? (i := 3) rfl) (fun w h => List.mem_cons_of_mem _ (List.mem_append_right _ h)) (by decide) rfl ?_
                    refine g_iload_n (i := 1) dX9_findMost_154 rfl rfl ?_
                    refine g_iload_n (i := 3) dX9_findMost_155 rfl rfl ?_
                    refine g_ixor dX9_findMost_156 ?_
                    refine m_iald 43 32 1024 dX9_findMost_157 rfl (by rw [nx_xor]; exact vp_in_nI (xor_lt (by omega) hg) (by decide)) ?_
                    refine g_iconst (1) rfl dX9_findMost_158 ?_
                    refine g_iadd dX9_findMost_159 ?_
                    refine m_iastN 43 32 1024 dX9_findMost_160 rfl (by omega) (by decide) (wsA_43 _ _ _ _ _) ?_
                    refine g_iload_n (i := 3) dX9_findMost_161 rfl rfl ?_
                    refine g_iconst (1) rfl dX9_findMost_162 ?_
                    refine g_isub dX9_findMost_163 ?_
                    refine g_iload_n (i := 1) dX9_findMost_164 rfl rfl ?_
                    refine g_iand dX9_findMost_165 ?_
                    refine g_istore_n (i := 3) dX9_findMost_166 rfl (by decide) ?_
                    refine g_goto 94 dX9_findMost_167 (by decide) ?_
                    refine g_to _ _ (ih (f, (g - 1) &&& (i3 + 1), moS (i3 + 1) g T) ⟨Nat.lt_of_le_of_lt Nat.and_le_left (by show g - 1 < f; omega), Nat.lt_of_le_of_lt Nat.and_le_left (by show g - 1 < 1024; omega), moR1 hp hf gx⟩ (Nat.lt_succ_self f)) (congrArg (MW cy a) (by unfold moS; first | rw [if_pos (by with_reducible assumption)] | rw [if_neg (by with_reducible assumption), if_neg (by with_reducible assumption)] | rw [if_neg (by with_reducible assumption), if_pos (by with_reducible assumption), if_pos (by with_reducible assumption)] | rw [if_neg (by with_reducible assumption), if_pos (by with_reducible assumption), if_neg (by with_reducible assumption), if_pos (by with_reducible assumption)] | rw [if_neg (by with_reducible assumption), if_pos (by with_reducible assumption), if_neg (by with_reducible assumption), if_neg (by with_reducible assumption)])) ⟨rfl, rfl, rfl, (congrArg (fun z => some (Value.int z)) (by rw [pred_nI hp, nx_and])), trivial⟩
    · skip
      exact absurd (nI_le (Nat.le_refl _) (by first | decide | omega)) c_2
  · skip
    refine g_iload_n (i := 1) dX9_findMost_2 rfl rfl ?_
    refine g_sipush (1024) rfl dX9_findMost_3 ?_
    refine g_icmp_ge 64 dX9_findMost_6 (by decide) (fun c_12 => ?_) (fun c_12 => ?_)
    · skip
      exact absurd c_12 (nI_ge hi1 (by first | decide | omega))
    · skip
      refine g_aload_n (i := 0) dX9_findMost_9 rfl rfl ?_
      refine m_get 42 dX9_findMost_10 (List.mem_of_getElem? (i := 1) rfl) (fun w h => List.mem_cons_of_mem _ (List.mem_append_right _ h)) (by decide) rfl ?_
      refine g_iload_n (i := 1) dX9_findMost_13 rfl rfl ?_
      refine g_lconst 0 rfl dX9_findMost_14 ?_
      refine m_lastN 42 31 1024 dX9_findMost_15 rfl (by omega) (by decide) (wsA_42 _ _ _ _ _) ?_
      refine g_iconst (0) rfl dX9_findMost_16 ?_
      refine g_istore_n (i := 2) dX9_findMost_17 rfl (by decide) ?_
      refine g_cnt 10 (fun i => True) (fun i => MW cy a (smI (smO S i1) i1 i)) (fun i => [(0, .ref (a 0)), (1, .int (nI i1)), (2, .int (nI i))]) 0 (by first | decide | omega) trivial (by rfl) (by refine ⟨rfl, rfl, rfl, trivial⟩) ?_ (fun i13 hi13 gi13 ihi13 => ?_)
      · intro gN
        refine g_iload_n (i := 2) dX9_findMost_18 rfl rfl ?_
        refine g_bipush (10) rfl dX9_findMost_19 ?_
        refine g_icmp_ge 58 dX9_findMost_21 (by decide) (fun c_14 => ?_) (fun c_14 => ?_)
        · skip
          refine g_iinc (1) dX9_findMost_58 rfl rfl (by decide) ?_
          refine g_goto 2 dX9_findMost_61 (by decide) ?_
          refine g_to _ _ (ihi1 (trivial)) rfl (by refine ⟨(by first | rfl | (rw [← nI_1]; rfl) | (rw [← nI_1]; rfl)), (by first | rfl | (rw [← nI_1]; rfl) | (rw [← nI_1]; rfl)), trivial⟩)
        · skip
          exact absurd (nI_le (Nat.le_refl _) (by first | decide | omega)) c_14
      · skip
        refine g_iload_n (i := 2) dX9_findMost_18 rfl rfl ?_
        refine g_bipush (10) rfl dX9_findMost_19 ?_
        refine g_icmp_ge 58 dX9_findMost_21 (by decide) (fun c_15 => ?_) (fun c_15 => ?_)
        · skip
          exact absurd c_15 (nI_ge hi13 (by first | decide | omega))
        · skip
          refine g_aload_n (i := 0) dX9_findMost_24 rfl rfl ?_
          refine m_get 42 dX9_findMost_25 (List.mem_of_getElem? (i := 1) rfl) (fun w h => List.mem_cons_of_mem _ (List.mem_append_right _ h)) (by decide) rfl ?_
          refine g_iload_n (i := 1) dX9_findMost_28 rfl rfl ?_
          refine g_dup2_11 rfl rfl dX9_findMost_29 ?_
          refine m_laldN 42 31 1024 dX9_findMost_30 rfl (by omega) (by decide) ?_
          refine g_iload_n (i := 1) dX9_findMost_31 rfl rfl ?_
          refine g_iload_n (i := 2) dX9_findMost_32 rfl rfl ?_
          refine g_ishr dX9_findMost_33 ?_
          refine g_iconst (1) rfl dX9_findMost_34 ?_
          refine g_iand dX9_findMost_35 ?_
          refine g_iconst (1) rfl dX9_findMost_36 ?_
          refine g_icmp_ne 49 dX9_findMost_37 (by decide) (fun c_16 => ?_) (fun c_16 => ?_)
          · skip
            refine g_lconst 0 rfl dX9_findMost_49 ?_
            refine g_ladd dX9_findMost_50 ?_
            refine m_lastN 42 31 1024 dX9_findMost_51 rfl (by omega) (by decide) (wsA_42 _ _ _ _ _) ?_
            refine g_iinc (1) dX9_findMost_52 rfl rfl (by decide) ?_
            refine g_goto 18 dX9_findMost_55 (by decide) ?_
            first | exact g_to _ _ (ihi13 trivial) (congrArg (MW cy a) (smI1 (by with_reducible assumption))) ⟨rfl, rfl, (by rw [← nI_1]; rfl), trivial⟩ | exact g_to _ _ (ihi13 trivial) (congrArg (MW cy a) (smI0 (by with_reducible assumption))) ⟨rfl, rfl, (by rw [← nI_1]; rfl), trivial⟩
          · skip
            refine g_aload_n (i := 0) dX9_findMost_40 rfl rfl ?_
            refine m_get 50 dX9_findMost_41 (List.mem_of_getElem? (i := 2) rfl) (fun w h => List.mem_cons_of_mem _ (List.mem_append_right _ h)) (by decide) rfl ?_
            refine g_iload_n (i := 2) dX9_findMost_44 rfl rfl ?_
            refine m_laldN 50 37 10 dX9_findMost_45 rfl (by omega) (by decide) ?_
            refine g_goto 50 dX9_findMost_46 (by decide) ?_
            refine g_ladd dX9_findMost_50 ?_
            refine m_lastN 42 31 1024 dX9_findMost_51 rfl (by omega) (by decide) (wsA_42 _ _ _ _ _) ?_
            refine g_iinc (1) dX9_findMost_52 rfl rfl (by decide) ?_
            refine g_goto 18 dX9_findMost_55 (by decide) ?_
            first | exact g_to _ _ (ihi13 trivial) (congrArg (MW cy a) (smI1 (by with_reducible assumption))) ⟨rfl, rfl, (by rw [← nI_1]; rfl), trivial⟩ | exact g_to _ _ (ihi13 trivial) (congrArg (MW cy a) (smI0 (by with_reducible assumption))) ⟨rfl, rfl, (by rw [← nI_1]; rfl), trivial⟩

