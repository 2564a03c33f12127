/-- who pays, whom, how much -/
abbrev poF (st : Int32) (T : MS) : Int32 := lsR T st (-1) 10 0
abbrev poT (st : Int32) (T : MS) : Int32 := lsR T st 1 10 0
def poV (st : Int32) (T : MS) : Int64 := if T.2.2.2 50 (poT st T).toNatClampNeg < -T.2.2.2 50 (poF st T).toNatClampNeg then T.2.2.2 50 (poT st T).toNatClampNeg else -T.2.2.2 50 (poF st T).toNatClampNeg
def po1 (st : Int32) (T : MS) : MS := sB (sA (sA T 47 (T.1 46).toNatClampNeg (poF st T)) 48 (T.1 46).toNatClampNeg (poT st T)) 49 (T.1 46).toNatClampNeg (poV st T)
def po2 (st : Int32) (T : MS) : MS := sI (po1 st T) 46 ((po1 st T).1 46 + 1)
def po3 (st : Int32) (T : MS) : MS := sB (po2 st T) 50 (poF st T).toNatClampNeg ((po2 st T).2.2.2 50 (poF st T).toNatClampNeg + poV st T)
/-- one payment -/
def poS (st : Int32) (T : MS) : MS := sB (po3 st T) 50 (poT st T).toNatClampNeg ((po3 st T).2.2.2 50 (poT st T).toNatClampNeg - poV st T)
/-- payments go on; they can: there is one to be paid, and room -/
def poR (st : Int32) : Nat → MS → MS
  | 0, T => T
  | f + 1, T => if poF st T < 0 then T else poR st f (poS st T)
def poOk (st : Int32) : Nat → MS → Prop
  | 0, T => poF st T < 0
  | f + 1, T => poF st T < 0 ∨ (vp_in (poT st T) 10 ∧ vp_in (T.1 46) 10 ∧ poOk st f (poS st T))
theorem lsR_in {S : MS} {st sg : Int32} (h : ¬ lsR S st sg 10 0 < 0) : vp_in (lsR S st sg 10 0) 10 := by
  have key : ∀ j i : Nat, i + j ≤ 10 → lsR S st sg j i = -1 ∨ vp_in (lsR S st sg j i) 10 := by
    intro j
    induction j with
    | zero => intro i _; exact Or.inl rfl
    | succ j ih =>
      intro i hi
      show (if lsHit S st sg i then nI i else lsR S st sg j (i + 1)) = -1 ∨ vp_in (if lsHit S st sg i then nI i else lsR S st sg j (i + 1)) 10
      split
      · exact Or.inr (vp_in_nI (by omega) (by decide))
      · exact ih (i + 1) (by omega)
  rcases key 10 0 (by decide) with e | e
  · rw [e] at h
    exact absurd (by decide) h
  · exact e
theorem poR0 {st : Int32} {f : Nat} {T X : MS} (h : poF st T < 0) (e : poR st f T = X) : T = X := by
  cases f with
  | zero => exact e
  | succ f => exact ((if_pos h).symm.trans e)
theorem poR1 {st : Int32} {f : Nat} {T X : MS} (h : ¬ poF st T < 0) (e : poR st (f + 1) T = X) : poR st f (poS st T) = X := (if_neg h).symm.trans e

set_option maxHeartbeats 4000000 in
set_option maxRecDepth 100000 in
/-- the payments within a group -/
theorem M_payOut (l : Launch) (D : va_G) (cy : Nat → ClassId) (a : Nat → Nat) (S : MS) (st : Int32) (hP : poOk st 10 S) : Ct l D clx (tyx cy) yX9_payOut wsX9_payOut (rmD 1) 0 0 [.ref (a 0), .int st] (MW cy a S) (fun r9 w9 => r9 = none ∧ w9 = MW cy a (poR st 10 S)) := by
  refine g_start (cc := cX9_payOut) (maxL := 6) (ret := none) (by decide) rfl (Nat.le_of_ble_eq_true rfl) (fun v w1 h => by obtain ⟨rfl, -⟩ := h; exact rfl) (fun Γ hlΓ => ?_)
  subst hlΓ
  refine g_aload_n (i := 0) dX9_payOut_0 rfl rfl ?_
  refine g_iload_n (i := 1) dX9_payOut_1 rfl rfl ?_
  refine g_iconst (-1) rfl dX9_payOut_2 ?_
  refine g_callVf 2 0 gX9_payOut_X9_leastOf rfl rfl rfl ⟨Nat.le_of_ble_eq_true rfl, Nat.le_of_ble_eq_true rfl⟩ ⟨Nat.le_of_ble_eq_true rfl, Nat.le_of_ble_eq_true rfl⟩ (by exact Nat.le_of_ble_eq_true rfl) (by decide +kernel) rfl rfl rfl dX9_payOut_3 (M_leastOf _ D cy a _ _ _) rfl (fun vu_1 wu_1 hu_1 => ?_)
  obtain ⟨rfl, rfl⟩ := hu_1
  refine g_istore_n (i := 2) dX9_payOut_6 rfl (by decide) ?_
  obtain ⟨X9, hX9⟩ : ∃ X : MS, X = poR st 10 S := ⟨_, rfl⟩
  refine g_whl (σ := Nat × MS) (fun x => x.1) (fun x => poOk st x.1 x.2 ∧ poR st x.1 x.2 = X9) (fun x => MW cy a x.2) (fun x => [(0, .ref (a 0)), (1, .int st), (2, .int (poF st x.2))]) (10, S) ⟨hP, hX9.symm⟩ rfl ⟨rfl, rfl, rfl, trivial⟩ (fun x gx ih => ?_)
  obtain ⟨f, T⟩ := x
  obtain ⟨hk, gx⟩ := gx
  replace hk : poOk st f T := hk
  replace gx : poR st f T = X9 := gx
  refine g_iload_n (i := 2) dX9_payOut_7 rfl rfl ?_
  refine g_if_lt 109 dX9_payOut_8 (by decide) (fun c_3 => ?_) (fun c_3 => ?_)
  · skip
    have gX : T = poR st 10 S := (poR0 c_3 gx).trans hX9
    refine g_vret dX9_payOut_109 ?_
    exact ⟨rfl, congrArg (MW cy a) gX⟩
  · skip
    replace c_3 : ¬ poF st T < 0 := c_3
    have hF := lsR_in c_3
    obtain ⟨f, rfl⟩ : ∃ k, f = k + 1 := (by cases f with | zero => exact absurd hk c_3 | succ f => exact ⟨f, rfl⟩)
    obtain ⟨hT, hM, hk⟩ : vp_in (poT st T) 10 ∧ vp_in (T.1 46) 10 ∧ poOk st f (poS st T) := hk.resolve_left c_3
    refine g_aload_n (i := 0) dX9_payOut_11 rfl rfl ?_
    refine g_iload_n (i := 1) dX9_payOut_12 rfl rfl ?_
    refine g_iconst (1) rfl dX9_payOut_13 ?_
    refine g_callVf 2 0 gX9_payOut_X9_leastOf rfl rfl rfl ⟨Nat.le_of_ble_eq_true rfl, Nat.le_of_ble_eq_true rfl⟩ ⟨Nat.le_of_ble_eq_true rfl, Nat.le_of_ble_eq_true rfl⟩ (by exact Nat.le_of_ble_eq_true rfl) (by decide +kernel) rfl rfl rfl dX9_payOut_14 (M_leastOf _ D cy a _ _ _) rfl (fun vu_4 wu_4 hu_4 => ?_)
    obtain ⟨rfl, rfl⟩ := hu_4
    refine g_istore_n (i := 3) dX9_payOut_17 rfl (by decide) ?_
    refine g_aload_n (i := 0) dX9_payOut_18 rfl rfl ?_
    refine m_get 50 dX9_payOut_19 (List.mem_of_getElem? (i := 1) rfl) (fun w h => List.mem_cons_of_mem _ (List.mem_append_right _ h)) (by decide) rfl ?_
    refine g_iload_n (i := 2) dX9_payOut_22 rfl rfl ?_
    refine m_lald 50 37 10 dX9_payOut_23 rfl hF ?_
    refine g_lneg dX9_payOut_24 ?_
    refine g_aload_n (i := 0) dX9_payOut_25 rfl rfl ?_
    refine m_get 50 dX9_payOut_26 (List.mem_of_getElem? (i := 1) rfl) (fun w h => List.mem_cons_of_mem _ (List.mem_append_right _ h)) (by decide) rfl ?_
    refine g_iload_n (i := 3) dX9_payOut_29 rfl rfl ?_
    refine m_lald 50 37 10 dX9_payOut_30 rfl hT ?_
    refine g_mminL (List.mem_of_getElem? (i := 2) rfl) (List.mem_of_getElem? (i := 3) rfl) (List.mem_of_getElem? (i := 4) rfl) (List.mem_of_getElem? (i := 5) rfl) (Nat.le_of_ble_eq_true rfl) (by exact Nat.le_of_ble_eq_true rfl) (Nat.le_of_ble_eq_true rfl) (Nat.le_of_ble_eq_true rfl) dX9_payOut_31 ?_
    refine g_lstore dX9_payOut_34 (by decide) ?_
    refine g_aload_n (i := 0) dX9_payOut_36 rfl rfl ?_
    refine m_get 47 dX9_payOut_37 (List.mem_of_getElem? (i := 6) rfl) (fun w h => List.mem_cons_of_mem _ (List.mem_append_right _ h)) (by decide) rfl ?_
    refine g_aload_n (i := 0) dX9_payOut_40 rfl rfl ?_
    refine m_get 46 dX9_payOut_41 (List.mem_of_getElem? (i := 7) rfl) (fun w h => List.mem_cons_of_mem _ (List.mem_append_right _ h)) (by decide) rfl ?_
    refine g_iload_n (i := 2) dX9_payOut_44 rfl rfl ?_
    refine m_iast 47 34 10 dX9_payOut_45 rfl hM (wsA_47 _ _ _ _ _) ?_
    refine g_aload_n (i := 0) dX9_payOut_46 rfl rfl ?_
    refine m_get 48 dX9_payOut_47 (List.mem_of_getElem? (i := 8) rfl) (fun w h => List.mem_cons_of_mem _ (List.mem_append_right _ h)) (by decide) rfl ?_
    refine g_aload_n (i := 0) dX9_payOut_50 rfl rfl ?_
    refine m_get 46 dX9_payOut_51 (List.mem_of_getElem? (i := 7) rfl) (fun w h => List.mem_cons_of_mem _ (List.mem_append_right _ h)) (by decide) rfl ?_
    refine g_iload_n (i := 3) dX9_payOut_54 rfl rfl ?_
    refine m_iast 48 35 10 dX9_payOut_55 rfl hM (wsA_48 _ _ _ _ _) ?_
    refine g_aload_n (i := 0) dX9_payOut_56 rfl rfl ?_
    refine m_get 49 dX9_payOut_57 (List.mem_of_getElem? (i := 9) rfl) (fun w h => List.mem_cons_of_mem _ (List.mem_append_right _ h)) (by decide) rfl ?_
    refine g_aload_n (i := 0) dX9_payOut_60 rfl rfl ?_
    refine m_get 46 dX9_payOut_61 (List.mem_of_getElem? (i := 7) rfl) (fun w h => List.mem_cons_of_mem _ (List.mem_append_right _ h)) (by decide) rfl ?_
    refine g_lload dX9_payOut_64 rfl ?_
    refine m_last 49 36 10 dX9_payOut_66 rfl hM (wsA_49 _ _ _ _ _) ?_
    refine g_aload_n (i := 0) dX9_payOut_67 rfl rfl ?_
    refine g_dup rfl dX9_payOut_68 ?_
    refine m_get 46 dX9_payOut_69 (List.mem_of_getElem? (i := 7) rfl) (fun w h => List.mem_cons_of_mem _ (List.mem_append_right _ h)) (by decide) rfl ?_
    refine g_iconst (1) rfl dX9_payOut_72 ?_
    refine g_iadd dX9_payOut_73 ?_
    refine m_puti 46 dX9_payOut_74 (List.mem_of_getElem? (i := 7) rfl) (fun w h => List.mem_cons_of_mem _ (List.mem_append_right _ h)) (by decide) rfl rfl rfl (wsI_46 _ _ _ _) ?_
    refine g_aload_n (i := 0) dX9_payOut_77 rfl rfl ?_
    refine m_get 50 dX9_payOut_78 (List.mem_of_getElem? (i := 1) rfl) (fun w h => List.mem_cons_of_mem _ (List.mem_append_right _ h)) (by decide) rfl ?_
    refine g_iload_n (i := 2) dX9_payOut_81 rfl rfl ?_
    refine g_dup2_11 rfl rfl dX9_payOut_82 ?_
    refine m_lald 50 37 10 dX9_payOut_83 rfl hF ?_
    refine g_lload dX9_payOut_84 rfl ?_
    refine g_ladd dX9_payOut_86 ?_
    refine m_last 50 37 10 dX9_payOut_87 rfl hF (wsA_50 _ _ _ _ _) ?_
    refine g_aload_n (i := 0) dX9_payOut_88 rfl rfl ?_
    refine m_get 50 dX9_payOut_89 (List.mem_of_getElem? (i := 1) rfl) (fun w h => List.mem_cons_of_mem _ (List.mem_append_right _ h)) (by decide) rfl ?_
    refine g_iload_n (i := 3) dX9_payOut_92 rfl rfl ?_
    refine g_dup2_11 rfl rfl dX9_payOut_93 ?_
    refine m_lald 50 37 10 dX9_payOut_94 rfl hT ?_
    refine g_lload dX9_payOut_95 rfl ?_
    refine g_lsub dX9_payOut_97 ?_
    refine m_last 50 37 10 dX9_payOut_98 rfl hT (wsA_50 _ _ _ _ _) ?_
    refine g_aload_n (i := 0) dX9_payOut_99 rfl rfl ?_
    refine g_iload_n (i := 1) dX9_payOut_100 rfl rfl ?_
    refine g_iconst (-1) rfl dX9_payOut_101 ?_
    refine g_callVf 2 0 gX9_payOut_X9_leastOf rfl rfl rfl ⟨Nat.le_of_ble_eq_true rfl, Nat.le_of_ble_eq_true rfl⟩ ⟨Nat.le_of_ble_eq_true rfl, Nat.le_of_ble_eq_true rfl⟩ (by exact Nat.le_of_ble_eq_true rfl) (by decide +kernel) rfl rfl rfl dX9_payOut_102 (M_leastOf _ D cy a _ _ _) rfl (fun vu_5 wu_5 hu_5 => ?_)
    obtain ⟨rfl, rfl⟩ := hu_5
    refine g_istore_n (i := 2) dX9_payOut_105 rfl (by decide) ?_
    refine g_goto 7 dX9_payOut_106 (by decide) ?_
    exact g_to _ _ (ih (f, poS st T) ⟨hk, poR1 (by with_reducible assumption) gx⟩ (Nat.lt_succ_self f)) rfl ⟨rfl, rfl, rfl, trivial⟩

