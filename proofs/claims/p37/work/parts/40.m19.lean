def skR : Nat → MS → MS
  | 0, T => T
  | f + 1, T => if mat T (T.1 39) = 32 then skR f (sI T 39 (T.1 39 + 1)) else T
theorem skR0 {f : Nat} {T X : MS} (h : ¬ mat T (T.1 39) = 32) (e : skR f T = X) : T = X := by
  cases f with
  | zero => exact e
  | succ f => exact (if_neg h).symm.trans e
theorem skR1 {f : Nat} {T X : MS} (h : mat T (T.1 39) = 32) (e : skR (f + 1) T = X) : skR f (sI T 39 (T.1 39 + 1)) = X := (if_pos h).symm.trans e
abbrev isFig (T : MS) : Prop := 48 ≤ mat T (T.1 39) ∧ mat T (T.1 39) ≤ 57
def fgv (T : MS) : Int32 := if T.1 41 ≤ 999999 then 10 * T.1 41 + mat T (T.1 39) - 48 else T.1 41
def fgN (T : MS) : MS := sI (sI T 41 (fgv T)) 39 ((sI T 41 (fgv T)).1 39 + 1)
def fgR : Nat → MS → MS
  | 0, T => T
  | f + 1, T => if isFig T then fgR f (fgN T) else T
theorem fgR0' {f : Nat} {T X : MS} (h : ¬ isFig T) (e : fgR f T = X) : T = X := by
  cases f with
  | zero => exact e
  | succ f => exact (if_neg h).symm.trans e
theorem fgR1' {f : Nat} {T X : MS} (h : isFig T) (e : fgR (f + 1) T = X) : fgR f (fgN T) = X := (if_pos h).symm.trans e
def fgE (T : MS) : MS := sI T 40 (if T.1 41 ≤ 999999 then 7 else 1)
def sgW (c : Int32) : Int32 := if c = 60 then c else if c = 61 then c else if c = 62 then c else if c = 59 then c else 1
theorem sgW0 {c : Int32} (h : c = 60) : sgW c = c := if_pos h
theorem sgW1 {c : Int32} (h0 : ¬ c = 60) (h : c = 61) : sgW c = c := (if_neg h0).trans (if_pos h)
theorem sgW2 {c : Int32} (h0 : ¬ c = 60) (h1 : ¬ c = 61) (h : c = 62) : sgW c = c := (if_neg h0).trans ((if_neg h1).trans (if_pos h))
theorem sgW3 {c : Int32} (h0 : ¬ c = 60) (h1 : ¬ c = 61) (h2 : ¬ c = 62) (h : c = 59) : sgW c = c := (if_neg h0).trans ((if_neg h1).trans ((if_neg h2).trans (if_pos h)))
theorem sgW4 {c : Int32} (h0 : ¬ c = 60) (h1 : ¬ c = 61) (h2 : ¬ c = 62) (h : ¬ c = 59) : sgW c = 1 := (if_neg h0).trans ((if_neg h1).trans ((if_neg h2).trans (if_neg h)))
def sgE (T : MS) : MS := sI (sI T 40 (sgW (mat T (T.1 39)))) 39 ((sI T 40 (sgW (mat T (T.1 39)))).1 39 + 1)
abbrev goI (T : MS) : MS := sI (sI T 38 (T.1 39)) 41 0
abbrev goc (T : MS) : Int32 := mat (goI T) ((goI T).1 39)
def goB (T : MS) : MS := if 0 ≤ goc T then (if 97 ≤ goc T ∧ goc T ≤ 122 then mf_letters (goI T) else if 48 ≤ goc T ∧ goc T ≤ 57 then fgE (fgR 401 (goI T)) else sgE (goI T)) else sI (goI T) 40 0
def mf_go (S : MS) : MS := goB (skR 401 S)
theorem tp_401 {T : MS} {f : Nat} (h : tpI T f) (hf : f ≤ 401) : tpI T 401 := ⟨h.1, h.2.1, h.2.2.1, by have := h.2.2.2; omega⟩
theorem tp_go {T : MS} {f : Nat} (h : tpI T f) : tpI (goI T) f := h
theorem tp_fg {T : MS} {f : Nat} (h : tpI T (f + 1)) (hn : ¬ T.1 36 ≤ T.1 39) : tpI (fgN T) f := tp_step (T := sI T 41 (fgv T)) h hn

set_option maxHeartbeats 4000000 in
set_option maxRecDepth 100000 in
/-- the next word -/
theorem M_go (l : Launch) (D : va_G) (cy : Nat → ClassId) (a : Nat → Nat) (S : MS) (hT : tpI S 401) : Ct l D clx (tyx cy) yX9_go wsX9_go (rmD 2) 0 0 [.ref (a 0)] (MW cy a S) (fun r9 w9 => r9 = none ∧ w9 = MW cy a (mf_go S)) := by
  refine g_start (cc := cX9_go) (maxL := 2) (ret := none) (by decide) rfl (Nat.le_of_ble_eq_true rfl) (fun v w1 h => by obtain ⟨rfl, -⟩ := h; exact rfl) (fun Γ hlΓ => ?_)
  subst hlΓ
  obtain ⟨X9, hX9⟩ : ∃ X : MS, X = skR 401 S := ⟨_, rfl⟩
  refine g_whl (σ := Nat × MS) (fun x => x.1) (fun x => tpI x.2 x.1 ∧ x.1 ≤ 401 ∧ skR x.1 x.2 = X9) (fun x => MW cy a x.2) (fun x => [(0, .ref (a 0))]) (401, S) ⟨hT, Nat.le_refl 401, hX9.symm⟩ rfl ⟨rfl, trivial⟩ (fun x gx ih => ?_)
  obtain ⟨f, T⟩ := x
  obtain ⟨hk, hf, gx⟩ := gx
  replace hk : tpI T f := hk
  replace hf : f ≤ 401 := hf
  replace gx : skR f T = X9 := gx
  have hn := tp_nn hk
  refine g_aload_n (i := 0) dX9_go_0 rfl rfl ?_
  refine g_aload_n (i := 0) dX9_go_1 rfl rfl ?_
  refine m_get 39 dX9_go_2 (List.mem_of_getElem? (i := 1) rfl) (fun w h => List.mem_cons_of_mem _ (List.mem_append_right _ h)) (by decide) rfl ?_
  refine g_callVf 1 0 gX9_go_X9_at rfl rfl rfl ⟨Nat.le_of_ble_eq_true rfl, Nat.le_of_ble_eq_true rfl⟩ ⟨Nat.le_of_ble_eq_true rfl, Nat.le_of_ble_eq_true rfl⟩ (by exact Nat.le_of_ble_eq_true rfl) (by decide +kernel) rfl rfl rfl dX9_go_5 (M_at _ D cy a _ (by exact hk.1) _ (by exact hn)) rfl (fun vu_2 wu_2 hu_2 => ?_)
  obtain ⟨rfl, rfl⟩ := hu_2
  refine g_bipush (32) rfl dX9_go_8 ?_
  refine g_icmp_ne 26 dX9_go_10 (by decide) (fun c_3 => ?_) (fun c_3 => ?_)
  · skip
    have gK : T = skR 401 S := (skR0 c_3 gx).trans hX9
    refine g_aload_n (i := 0) dX9_go_26 rfl rfl ?_
    refine g_aload_n (i := 0) dX9_go_27 rfl rfl ?_
    refine m_get 39 dX9_go_28 (List.mem_of_getElem? (i := 1) rfl) (fun w h => List.mem_cons_of_mem _ (List.mem_append_right _ h)) (by decide) rfl ?_
    refine m_puti 38 dX9_go_31 (List.mem_of_getElem? (i := 2) rfl) (fun w h => List.mem_cons_of_mem _ (List.mem_append_right _ h)) (by decide) rfl rfl rfl (wsI_38 _ _ _ _) ?_
    refine g_aload_n (i := 0) dX9_go_34 rfl rfl ?_
    refine g_iconst (0) rfl dX9_go_35 ?_
    refine m_puti 41 dX9_go_36 (List.mem_of_getElem? (i := 3) rfl) (fun w h => List.mem_cons_of_mem _ (List.mem_append_right _ h)) (by decide) rfl rfl rfl (wsI_41 _ _ _ _) ?_
    refine g_aload_n (i := 0) dX9_go_39 rfl rfl ?_
    refine g_aload_n (i := 0) dX9_go_40 rfl rfl ?_
    refine m_get 39 dX9_go_41 (List.mem_of_getElem? (i := 1) rfl) (fun w h => List.mem_cons_of_mem _ (List.mem_append_right _ h)) (by decide) rfl ?_
    refine g_callVf 1 0 gX9_go_X9_at rfl rfl rfl ⟨Nat.le_of_ble_eq_true rfl, Nat.le_of_ble_eq_true rfl⟩ ⟨Nat.le_of_ble_eq_true rfl, Nat.le_of_ble_eq_true rfl⟩ (by exact Nat.le_of_ble_eq_true rfl) (by decide +kernel) rfl rfl rfl dX9_go_44 (M_at _ D cy a _ (by exact hk.1) _ (by exact hn)) rfl (fun vu_4 wu_4 hu_4 => ?_)
    obtain ⟨rfl, rfl⟩ := hu_4
    refine g_istore_n (i := 1) dX9_go_47 rfl (by decide) ?_
    refine g_iload_n (i := 1) dX9_go_48 rfl rfl ?_
    refine g_if_ge 60 dX9_go_49 (by decide) (fun c_5 => ?_) (fun c_5 => ?_)
    · skip
      refine g_iload_n (i := 1) dX9_go_60 rfl rfl ?_
      refine g_callSf 1 gX9_go_X9_isLetter rfl rfl rfl ⟨Nat.le_of_ble_eq_true rfl, Nat.le_of_ble_eq_true rfl⟩ ⟨Nat.le_of_ble_eq_true rfl, Nat.le_of_ble_eq_true rfl⟩ (by exact Nat.le_of_ble_eq_true rfl) (by decide +kernel) rfl dX9_go_61 (M_isLetter _ D cy a _ _) rfl (fun vu_6 wu_6 hu_6 => ?_)
      rcases hu_6 with ⟨rfl, hu_6, rfl⟩ | ⟨rfl, hu_6, rfl⟩
      · skip
        refine g_if_eq 74 dX9_go_64 (by decide) (fun h9 => absurd h9 (by decide)) (fun _ => ?_)
        refine g_aload_n (i := 0) dX9_go_67 rfl rfl ?_
        refine g_callVf 0 0 gX9_go_X9_letters rfl rfl rfl ⟨Nat.le_of_ble_eq_true rfl, Nat.le_of_ble_eq_true rfl⟩ ⟨Nat.le_of_ble_eq_true rfl, Nat.le_of_ble_eq_true rfl⟩ (by exact Nat.le_of_ble_eq_true rfl) (by decide +kernel) rfl rfl rfl dX9_go_68 (M_letters _ D cy a _ (tp_401 (tp_go hk) hf)) rfl (fun vu_8 wu_8 hu_8 => ?_)
        obtain ⟨rfl, rfl⟩ := hu_8
        refine g_goto 212 dX9_go_71 (by decide) ?_
        refine g_vret dX9_go_212 ?_
        first | (unfold mf_go; rw [← gK]; unfold goB; rw [if_neg (by with_reducible assumption)]; with_reducible exact ⟨rfl, rfl⟩) | (unfold mf_go; rw [← gK]; unfold goB; rw [if_pos (by with_reducible assumption), if_pos (by with_reducible assumption)]; with_reducible exact ⟨rfl, rfl⟩) | (unfold mf_go; rw [← gK]; unfold goB; rw [if_pos hc1, if_neg hc2, if_pos hc3, ← (fgR0' (by with_reducible assumption) gy).trans hY9]; unfold fgE; first | (rw [if_pos (by with_reducible assumption)]; with_reducible exact ⟨rfl, rfl⟩) | (rw [if_neg (by with_reducible assumption)]; with_reducible exact ⟨rfl, rfl⟩)) | (unfold mf_go; rw [← gK]; unfold goB; rw [if_pos (by with_reducible assumption), if_neg (by with_reducible assumption), if_neg (by with_reducible assumption)]; unfold sgE; first | (rw [sgW0 (by with_reducible assumption)]; with_reducible exact ⟨rfl, rfl⟩) | (rw [sgW1 (by with_reducible assumption) (by with_reducible assumption)]; with_reducible exact ⟨rfl, rfl⟩) | (rw [sgW2 (by with_reducible assumption) (by with_reducible assumption) (by with_reducible assumption)]; with_reducible exact ⟨rfl, rfl⟩) | (rw [sgW3 (by with_reducible assumption) (by with_reducible assumption) (by with_reducible assumption) (by with_reducible assumption)]; with_reducible exact ⟨rfl, rfl⟩) | (rw [sgW4 (by with_reducible assumption) (by with_reducible assumption) (by with_reducible assumption) (by with_reducible assumption)]; with_reducible exact ⟨rfl, rfl⟩))
      · skip
        refine g_if_eq 74 dX9_go_64 (by decide) (fun _ => ?_) (fun h9 => absurd h9 (by decide))
        refine g_iload_n (i := 1) dX9_go_74 rfl rfl ?_
        refine g_callSf 1 gX9_go_X9_isFigure rfl rfl rfl ⟨Nat.le_of_ble_eq_true rfl, Nat.le_of_ble_eq_true rfl⟩ ⟨Nat.le_of_ble_eq_true rfl, Nat.le_of_ble_eq_true rfl⟩ (by exact Nat.le_of_ble_eq_true rfl) (by decide +kernel) rfl dX9_go_75 (M_isFigure _ D cy a _ _) rfl (fun vu_10 wu_10 hu_10 => ?_)
        rcases hu_10 with ⟨rfl, hu_10, rfl⟩ | ⟨rfl, hu_10, rfl⟩
        · skip
          refine g_if_eq 169 dX9_go_78 (by decide) (fun h9 => absurd h9 (by decide)) (fun _ => ?_)
          obtain ⟨Y9, hY9⟩ : ∃ Y : MS, Y = fgR 401 (goI T) := ⟨_, rfl⟩
          have hc1 : 0 ≤ goc T := (by with_reducible assumption)
          have hc2 : ¬ (97 ≤ goc T ∧ goc T ≤ 122) := (by with_reducible assumption)
          have hc3 : 48 ≤ goc T ∧ goc T ≤ 57 := (by with_reducible assumption)
          refine g_whl (σ := Nat × MS) (fun x => x.1) (fun x => tpI x.2 x.1 ∧ fgR x.1 x.2 = Y9) (fun x => MW cy a x.2) (fun x => [(0, .ref (a 0))]) (401, goI T) ⟨tp_401 (tp_go hk) hf, hY9.symm⟩ rfl ⟨rfl, trivial⟩ (fun x gy ih => ?_)
          obtain ⟨f2, U⟩ := x
          obtain ⟨hk, gy⟩ := gy
          replace hk : tpI U f2 := hk
          replace gy : fgR f2 U = Y9 := gy
          have hn := tp_nn hk
          refine g_aload_n (i := 0) dX9_go_81 rfl rfl ?_
          refine g_aload_n (i := 0) dX9_go_82 rfl rfl ?_
          refine m_get 39 dX9_go_83 (List.mem_of_getElem? (i := 1) rfl) (fun w h => List.mem_cons_of_mem _ (List.mem_append_right _ h)) (by decide) rfl ?_
          refine g_callVf 1 0 gX9_go_X9_at rfl rfl rfl ⟨Nat.le_of_ble_eq_true rfl, Nat.le_of_ble_eq_true rfl⟩ ⟨Nat.le_of_ble_eq_true rfl, Nat.le_of_ble_eq_true rfl⟩ (by exact Nat.le_of_ble_eq_true rfl) (by decide +kernel) rfl rfl rfl dX9_go_86 (M_at _ D cy a _ (by exact hk.1) _ (by exact hn)) rfl (fun vu_13 wu_13 hu_13 => ?_)
          obtain ⟨rfl, rfl⟩ := hu_13
          refine g_callSf 1 gX9_go_X9_isFigure rfl rfl rfl ⟨Nat.le_of_ble_eq_true rfl, Nat.le_of_ble_eq_true rfl⟩ ⟨Nat.le_of_ble_eq_true rfl, Nat.le_of_ble_eq_true rfl⟩ (by exact Nat.le_of_ble_eq_true rfl) (by decide +kernel) rfl dX9_go_89 (M_isFigure _ D cy a _ _) rfl (fun vu_14 wu_14 hu_14 => ?_)
          rcases hu_14 with ⟨rfl, hu_14, rfl⟩ | ⟨rfl, hu_14, rfl⟩
          · skip
            refine g_if_eq 147 dX9_go_92 (by decide) (fun h9 => absurd h9 (by decide)) (fun _ => ?_)
            refine g_aload_n (i := 0) dX9_go_95 rfl rfl ?_
            refine g_aload_n (i := 0) dX9_go_96 rfl rfl ?_
            refine m_get 41 dX9_go_97 (List.mem_of_getElem? (i := 3) rfl) (fun w h => List.mem_cons_of_mem _ (List.mem_append_right _ h)) (by decide) rfl ?_
            refine g_ldc (999999) (List.mem_of_getElem? (i := 5) rfl) dX9_go_100 ?_
            refine g_icmp_le 112 dX9_go_102 (by decide) (fun c_16 => ?_) (fun c_16 => ?_)
            · skip
              refine g_bipush (10) rfl dX9_go_112 ?_
              refine g_aload_n (i := 0) dX9_go_114 rfl rfl ?_
              refine m_get 41 dX9_go_115 (List.mem_of_getElem? (i := 3) rfl) (fun w h => List.mem_cons_of_mem _ (List.mem_append_right _ h)) (by decide) rfl ?_
              refine g_imul dX9_go_118 ?_
              refine g_aload_n (i := 0) dX9_go_119 rfl rfl ?_
              refine g_aload_n (i := 0) dX9_go_120 rfl rfl ?_
              refine m_get 39 dX9_go_121 (List.mem_of_getElem? (i := 1) rfl) (fun w h => List.mem_cons_of_mem _ (List.mem_append_right _ h)) (by decide) rfl ?_
              refine g_callVf 1 0 gX9_go_X9_at rfl rfl rfl ⟨Nat.le_of_ble_eq_true rfl, Nat.le_of_ble_eq_true rfl⟩ ⟨Nat.le_of_ble_eq_true rfl, Nat.le_of_ble_eq_true rfl⟩ (by exact Nat.le_of_ble_eq_true rfl) (by decide +kernel) rfl rfl rfl dX9_go_124 (M_at _ D cy a _ (by exact hk.1) _ (by exact hn)) rfl (fun vu_17 wu_17 hu_17 => ?_)
              obtain ⟨rfl, rfl⟩ := hu_17
              refine g_iadd dX9_go_127 ?_
              refine g_bipush (48) rfl dX9_go_128 ?_
              refine g_isub dX9_go_130 ?_
              refine m_puti 41 dX9_go_131 (List.mem_of_getElem? (i := 3) rfl) (fun w h => List.mem_cons_of_mem _ (List.mem_append_right _ h)) (by decide) rfl rfl rfl (wsI_41 _ _ _ _) ?_
              refine g_aload_n (i := 0) dX9_go_134 rfl rfl ?_
              refine g_dup rfl dX9_go_135 ?_
              refine m_get 39 dX9_go_136 (List.mem_of_getElem? (i := 1) rfl) (fun w h => List.mem_cons_of_mem _ (List.mem_append_right _ h)) (by decide) rfl ?_
              refine g_iconst (1) rfl dX9_go_139 ?_
              refine g_iadd dX9_go_140 ?_
              refine m_puti 39 dX9_go_141 (List.mem_of_getElem? (i := 1) rfl) (fun w h => List.mem_cons_of_mem _ (List.mem_append_right _ h)) (by decide) rfl rfl rfl (wsI_39 _ _ _ _) ?_
              refine g_goto 81 dX9_go_144 (by decide) ?_
              obtain ⟨f2, rfl⟩ := tp_pos hk
              exact g_to _ _ (ih (f2, fgN U) ⟨tp_fg hk (mat_lt (lo := 48) (by decide) (And.left (b := mat U (U.1 39) ≤ 57) (by with_reducible assumption))), fgR1' (by with_reducible assumption) gy⟩ (Nat.lt_succ_self f2)) (congrArg (MW cy a) (by unfold fgN fgv; first | rw [if_pos (by with_reducible assumption)] | rw [if_neg (by with_reducible assumption)])) ⟨rfl, trivial⟩
            · skip
              refine g_aload_n (i := 0) dX9_go_105 rfl rfl ?_
              refine m_get 41 dX9_go_106 (List.mem_of_getElem? (i := 3) rfl) (fun w h => List.mem_cons_of_mem _ (List.mem_append_right _ h)) (by decide) rfl ?_
              refine g_goto 131 dX9_go_109 (by decide) ?_
              refine m_puti 41 dX9_go_131 (List.mem_of_getElem? (i := 3) rfl) (fun w h => List.mem_cons_of_mem _ (List.mem_append_right _ h)) (by decide) rfl rfl rfl (wsI_41 _ _ _ _) ?_
              refine g_aload_n (i := 0) dX9_go_134 rfl rfl ?_
              refine g_dup rfl dX9_go_135 ?_
              refine m_get 39 dX9_go_136 (List.mem_of_getElem? (i := 1) rfl) (fun w h => List.mem_cons_of_mem _ (List.mem_append_right _ h)) (by decide) rfl ?_
              refine g_iconst (1) rfl dX9_go_139 ?_
              refine g_iadd dX9_go_140 ?_
              refine m_puti 39 dX9_go_141 (List.mem_of_getElem? (i := 1) rfl) (fun w h => List.mem_cons_of_mem _ (List.mem_append_right _ h)) (by decide) rfl rfl rfl (wsI_39 _ _ _ _) ?_
              refine g_goto 81 dX9_go_144 (by decide) ?_
              obtain ⟨f2, rfl⟩ := tp_pos hk
              exact g_to _ _ (ih (f2, fgN U) ⟨tp_fg hk (mat_lt (lo := 48) (by decide) (And.left (b := mat U (U.1 39) ≤ 57) (by with_reducible assumption))), fgR1' (by with_reducible assumption) gy⟩ (Nat.lt_succ_self f2)) (congrArg (MW cy a) (by unfold fgN fgv; first | rw [if_pos (by with_reducible assumption)] | rw [if_neg (by with_reducible assumption)])) ⟨rfl, trivial⟩
          · skip
            refine g_if_eq 147 dX9_go_92 (by decide) (fun _ => ?_) (fun h9 => absurd h9 (by decide))
            refine g_aload_n (i := 0) dX9_go_147 rfl rfl ?_
            refine g_aload_n (i := 0) dX9_go_148 rfl rfl ?_
            refine m_get 41 dX9_go_149 (List.mem_of_getElem? (i := 3) rfl) (fun w h => List.mem_cons_of_mem _ (List.mem_append_right _ h)) (by decide) rfl ?_
            refine g_ldc (999999) (List.mem_of_getElem? (i := 5) rfl) dX9_go_152 ?_
            refine g_icmp_le 161 dX9_go_154 (by decide) (fun c_19 => ?_) (fun c_19 => ?_)
            · skip
              refine g_bipush (7) rfl dX9_go_161 ?_
              refine m_puti 40 dX9_go_163 (List.mem_of_getElem? (i := 4) rfl) (fun w h => List.mem_cons_of_mem _ (List.mem_append_right _ h)) (by decide) rfl rfl rfl (wsI_40 _ _ _ _) ?_
              refine g_goto 212 dX9_go_166 (by decide) ?_
              refine g_vret dX9_go_212 ?_
              first | (unfold mf_go; rw [← gK]; unfold goB; rw [if_neg (by with_reducible assumption)]; with_reducible exact ⟨rfl, rfl⟩) | (unfold mf_go; rw [← gK]; unfold goB; rw [if_pos (by with_reducible assumption), if_pos (by with_reducible assumption)]; with_reducible exact ⟨rfl, rfl⟩) | (unfold mf_go; rw [← gK]; unfold goB; rw [if_pos hc1, if_neg hc2, if_pos hc3, ← (fgR0' (by with_reducible assumption) gy).trans hY9]; unfold fgE; first | (rw [if_pos (by with_reducible assumption)]; with_reducible exact ⟨rfl, rfl⟩) | (rw [if_neg (by with_reducible assumption)]; with_reducible exact ⟨rfl, rfl⟩)) | (unfold mf_go; rw [← gK]; unfold goB; rw [if_pos (by with_reducible assumption), if_neg (by with_reducible assumption), if_neg (by with_reducible assumption)]; unfold sgE; first | (rw [sgW0 (by with_reducible assumption)]; with_reducible exact ⟨rfl, rfl⟩) | (rw [sgW1 (by with_reducible assumption) (by with_reducible assumption)]; with_reducible exact ⟨rfl, rfl⟩) | (rw [sgW2 (by with_reducible assumption) (by with_reducible assumption) (by with_reducible assumption)]; with_reducible exact ⟨rfl, rfl⟩) | (rw [sgW3 (by with_reducible assumption) (by with_reducible assumption) (by with_reducible assumption) (by with_reducible assumption)]; with_reducible exact ⟨rfl, rfl⟩) | (rw [sgW4 (by with_reducible assumption) (by with_reducible assumption) (by with_reducible assumption) (by with_reducible assumption)]; with_reducible exact ⟨rfl, rfl⟩))
            · skip
              refine g_iconst (1) rfl dX9_go_157 ?_
              refine g_goto 163 dX9_go_158 (by decide) ?_
              refine m_puti 40 dX9_go_163 (List.mem_of_getElem? (i := 4) rfl) (fun w h => List.mem_cons_of_mem _ (List.mem_append_right _ h)) (by decide) rfl rfl rfl (wsI_40 _ _ _ _) ?_
              refine g_goto 212 dX9_go_166 (by decide) ?_
              refine g_vret dX9_go_212 ?_
              first | (unfold mf_go; rw [← gK]; unfold goB; rw [if_neg (by with_reducible assumption)]; with_reducible exact ⟨rfl, rfl⟩) | (unfold mf_go; rw [← gK]; unfold goB; rw [if_pos (by with_reducible assumption), if_pos (by with_reducible assumption)]; with_reducible exact ⟨rfl, rfl⟩) | (unfold mf_go; rw [← gK]; unfold goB; rw [if_pos hc1, if_neg hc2, if_pos hc3, ← (fgR0' (by with_reducible assumption) gy).trans hY9]; unfold fgE; first | (rw [if_pos (by with_reducible assumption)]; with_reducible exact ⟨rfl, rfl⟩) | (rw [if_neg (by with_reducible assumption)]; with_reducible exact ⟨rfl, rfl⟩)) | (unfold mf_go; rw [← gK]; unfold goB; rw [if_pos (by with_reducible assumption), if_neg (by with_reducible assumption), if_neg (by with_reducible assumption)]; unfold sgE; first | (rw [sgW0 (by with_reducible assumption)]; with_reducible exact ⟨rfl, rfl⟩) | (rw [sgW1 (by with_reducible assumption) (by with_reducible assumption)]; with_reducible exact ⟨rfl, rfl⟩) | (rw [sgW2 (by with_reducible assumption) (by with_reducible assumption) (by with_reducible assumption)]; with_reducible exact ⟨rfl, rfl⟩) | (rw [sgW3 (by with_reducible assumption) (by with_reducible assumption) (by with_reducible assumption) (by with_reducible assumption)]; with_reducible exact ⟨rfl, rfl⟩) | (rw [sgW4 (by with_reducible assumption) (by with_reducible assumption) (by with_reducible assumption) (by with_reducible assumption)]; with_reducible exact ⟨rfl, rfl⟩))
        · skip
          refine g_if_eq 169 dX9_go_78 (by decide) (fun _ => ?_) (fun h9 => absurd h9 (by decide))
          refine g_aload_n (i := 0) dX9_go_169 rfl rfl ?_
          refine g_iload_n (i := 1) dX9_go_170 rfl rfl ?_
          refine g_bipush (60) rfl dX9_go_171 ?_
          refine g_icmp_eq 194 dX9_go_173 (by decide) (fun c_21 => ?_) (fun c_21 => ?_)
          · skip
            refine g_iload_n (i := 1) dX9_go_194 rfl rfl ?_
            refine g_goto 199 dX9_go_195 (by decide) ?_
            refine m_puti 40 dX9_go_199 (List.mem_of_getElem? (i := 4) rfl) (fun w h => List.mem_cons_of_mem _ (List.mem_append_right _ h)) (by decide) rfl rfl rfl (wsI_40 _ _ _ _) ?_
            refine g_aload_n (i := 0) dX9_go_202 rfl rfl ?_
            refine g_dup rfl dX9_go_203 ?_
            refine m_get 39 dX9_go_204 (List.mem_of_getElem? (i := 1) rfl) (fun w h => List.mem_cons_of_mem _ (List.mem_append_right _ h)) (by decide) rfl ?_
            refine g_iconst (1) rfl dX9_go_207 ?_
            refine g_iadd dX9_go_208 ?_
            refine m_puti 39 dX9_go_209 (List.mem_of_getElem? (i := 1) rfl) (fun w h => List.mem_cons_of_mem _ (List.mem_append_right _ h)) (by decide) rfl rfl rfl (wsI_39 _ _ _ _) ?_
            refine g_vret dX9_go_212 ?_
            first | (unfold mf_go; rw [← gK]; unfold goB; rw [if_neg (by with_reducible assumption)]; with_reducible exact ⟨rfl, rfl⟩) | (unfold mf_go; rw [← gK]; unfold goB; rw [if_pos (by with_reducible assumption), if_pos (by with_reducible assumption)]; with_reducible exact ⟨rfl, rfl⟩) | (unfold mf_go; rw [← gK]; unfold goB; rw [if_pos hc1, if_neg hc2, if_pos hc3, ← (fgR0' (by with_reducible assumption) gy).trans hY9]; unfold fgE; first | (rw [if_pos (by with_reducible assumption)]; with_reducible exact ⟨rfl, rfl⟩) | (rw [if_neg (by with_reducible assumption)]; with_reducible exact ⟨rfl, rfl⟩)) | (unfold mf_go; rw [← gK]; unfold goB; rw [if_pos (by with_reducible assumption), if_neg (by with_reducible assumption), if_neg (by with_reducible assumption)]; unfold sgE; first | (rw [sgW0 (by with_reducible assumption)]; with_reducible exact ⟨rfl, rfl⟩) | (rw [sgW1 (by with_reducible assumption) (by with_reducible assumption)]; with_reducible exact ⟨rfl, rfl⟩) | (rw [sgW2 (by with_reducible assumption) (by with_reducible assumption) (by with_reducible assumption)]; with_reducible exact ⟨rfl, rfl⟩) | (rw [sgW3 (by with_reducible assumption) (by with_reducible assumption) (by with_reducible assumption) (by with_reducible assumption)]; with_reducible exact ⟨rfl, rfl⟩) | (rw [sgW4 (by with_reducible assumption) (by with_reducible assumption) (by with_reducible assumption) (by with_reducible assumption)]; with_reducible exact ⟨rfl, rfl⟩))
          · skip
            refine g_iload_n (i := 1) dX9_go_176 rfl rfl ?_
            refine g_bipush (61) rfl dX9_go_177 ?_
            refine g_icmp_eq 194 dX9_go_179 (by decide) (fun c_22 => ?_) (fun c_22 => ?_)
            · skip
              refine g_iload_n (i := 1) dX9_go_194 rfl rfl ?_
              refine g_goto 199 dX9_go_195 (by decide) ?_
              refine m_puti 40 dX9_go_199 (List.mem_of_getElem? (i := 4) rfl) (fun w h => List.mem_cons_of_mem _ (List.mem_append_right _ h)) (by decide) rfl rfl rfl (wsI_40 _ _ _ _) ?_
              refine g_aload_n (i := 0) dX9_go_202 rfl rfl ?_
              refine g_dup rfl dX9_go_203 ?_
              refine m_get 39 dX9_go_204 (List.mem_of_getElem? (i := 1) rfl) (fun w h => List.mem_cons_of_mem _ (List.mem_append_right _ h)) (by decide) rfl ?_
              refine g_iconst (1) rfl dX9_go_207 ?_
              refine g_iadd dX9_go_208 ?_
              refine m_puti 39 dX9_go_209 (List.mem_of_getElem? (i := 1) rfl) (fun w h => List.mem_cons_of_mem _ (List.mem_append_right _ h)) (by decide) rfl rfl rfl (wsI_39 _ _ _ _) ?_
              refine g_vret dX9_go_212 ?_
              first | (unfold mf_go; rw [← gK]; unfold goB; rw [if_neg (by with_reducible assumption)]; with_reducible exact ⟨rfl, rfl⟩) | (unfold mf_go; rw [← gK]; unfold goB; rw [if_pos (by with_reducible assumption), if_pos (by with_reducible assumption)]; with_reducible exact ⟨rfl, rfl⟩) | (unfold mf_go; rw [← gK]; unfold goB; rw [if_pos hc1, if_neg hc2, if_pos hc3, ← (fgR0' (by with_reducible assumption) gy).trans hY9]; unfold fgE; first | (rw [if_pos (by with_reducible assumption)]; with_reducible exact ⟨rfl, rfl⟩) | (rw [if_neg (by with_reducible assumption)]; with_reducible exact ⟨rfl, rfl⟩)) | (unfold mf_go; rw [← gK]; unfold goB; rw [if_pos (by with_reducible assumption), if_neg (by with_reducible assumption), if_neg (by with_reducible assumption)]; unfold sgE; first | (rw [sgW0 (by with_reducible assumption)]; with_reducible exact ⟨rfl, rfl⟩) | (rw [sgW1 (by with_reducible assumption) (by with_reducible assumption)]; with_reducible exact ⟨rfl, rfl⟩) | (rw [sgW2 (by with_reducible assumption) (by with_reducible assumption) (by with_reducible assumption)]; with_reducible exact ⟨rfl, rfl⟩) | (rw [sgW3 (by with_reducible assumption) (by with_reducible assumption) (by with_reducible assumption) (by with_reducible assumption)]; with_reducible exact ⟨rfl, rfl⟩) | (rw [sgW4 (by with_reducible assumption) (by with_reducible assumption) (by with_reducible assumption) (by with_reducible assumption)]; with_reducible exact ⟨rfl, rfl⟩))
            · skip
              refine g_iload_n (i := 1) dX9_go_182 rfl rfl ?_
              refine g_bipush (62) rfl dX9_go_183 ?_
              refine g_icmp_eq 194 dX9_go_185 (by decide) (fun c_23 => ?_) (fun c_23 => ?_)
              · skip
                refine g_iload_n (i := 1) dX9_go_194 rfl rfl ?_
                refine g_goto 199 dX9_go_195 (by decide) ?_
                refine m_puti 40 dX9_go_199 (List.mem_of_getElem? (i := 4) rfl) (fun w h => List.mem_cons_of_mem _ (List.mem_append_right _ h)) (by decide) rfl rfl rfl (wsI_40 _ _ _ _) ?_
                refine g_aload_n (i := 0) dX9_go_202 rfl rfl ?_
                refine g_dup rfl dX9_go_203 ?_
                refine m_get 39 dX9_go_204 (List.mem_of_getElem? (i := 1) rfl) (fun w h => List.mem_cons_of_mem _ (List.mem_append_right _ h)) (by decide) rfl ?_
                refine g_iconst (1) rfl dX9_go_207 ?_
                refine g_iadd dX9_go_208 ?_
                refine m_puti 39 dX9_go_209 (List.mem_of_getElem? (i := 1) rfl) (fun w h => List.mem_cons_of_mem _ (List.mem_append_right _ h)) (by decide) rfl rfl rfl (wsI_39 _ _ _ _) ?_
                refine g_vret dX9_go_212 ?_
                first | (unfold mf_go; rw [← gK]; unfold goB; rw [if_neg (by with_reducible assumption)]; with_reducible exact ⟨rfl, rfl⟩) | (unfold mf_go; rw [← gK]; unfold goB; rw [if_pos (by with_reducible assumption), if_pos (by with_reducible assumption)]; with_reducible exact ⟨rfl, rfl⟩) | (unfold mf_go; rw [← gK]; unfold goB; rw [if_pos hc1, if_neg hc2, if_pos hc3, ← (fgR0' (by with_reducible assumption) gy).trans hY9]; unfold fgE; first | (rw [if_pos (by with_reducible assumption)]; with_reducible exact ⟨rfl, rfl⟩) | (rw [if_neg (by with_reducible assumption)]; with_reducible exact ⟨rfl, rfl⟩)) | (unfold mf_go; rw [← gK]; unfold goB; rw [if_pos (by with_reducible assumption), if_neg (by with_reducible assumption), if_neg (by with_reducible assumption)]; unfold sgE; first | (rw [sgW0 (by with_reducible assumption)]; with_reducible exact ⟨rfl, rfl⟩) | (rw [sgW1 (by with_reducible assumption) (by with_reducible assumption)]; with_reducible exact ⟨rfl, rfl⟩) | (rw [sgW2 (by with_reducible assumption) (by with_reducible assumption) (by with_reducible assumption)]; with_reducible exact ⟨rfl, rfl⟩) | (rw [sgW3 (by with_reducible assumption) (by with_reducible assumption) (by with_reducible assumption) (by with_reducible assumption)]; with_reducible exact ⟨rfl, rfl⟩) | (rw [sgW4 (by with_reducible assumption) (by with_reducible assumption) (by with_reducible assumption) (by with_reducible assumption)]; with_reducible exact ⟨rfl, rfl⟩))
              · skip
                refine g_iload_n (i := 1) dX9_go_188 rfl rfl ?_
                refine g_bipush (59) rfl dX9_go_189 ?_
                refine g_icmp_ne 198 dX9_go_191 (by decide) (fun c_24 => ?_) (fun c_24 => ?_)
                · skip
                  refine g_iconst (1) rfl dX9_go_198 ?_
                  refine m_puti 40 dX9_go_199 (List.mem_of_getElem? (i := 4) rfl) (fun w h => List.mem_cons_of_mem _ (List.mem_append_right _ h)) (by decide) rfl rfl rfl (wsI_40 _ _ _ _) ?_
                  refine g_aload_n (i := 0) dX9_go_202 rfl rfl ?_
                  refine g_dup rfl dX9_go_203 ?_
                  refine m_get 39 dX9_go_204 (List.mem_of_getElem? (i := 1) rfl) (fun w h => List.mem_cons_of_mem _ (List.mem_append_right _ h)) (by decide) rfl ?_
                  refine g_iconst (1) rfl dX9_go_207 ?_
                  refine g_iadd dX9_go_208 ?_
                  refine m_puti 39 dX9_go_209 (List.mem_of_getElem? (i := 1) rfl) (fun w h => List.mem_cons_of_mem _ (List.mem_append_right _ h)) (by decide) rfl rfl rfl (wsI_39 _ _ _ _) ?_
                  refine g_vret dX9_go_212 ?_
                  first | (unfold mf_go; rw [← gK]; unfold goB; rw [if_neg (by with_reducible assumption)]; with_reducible exact ⟨rfl, rfl⟩) | (unfold mf_go; rw [← gK]; unfold goB; rw [if_pos (by with_reducible assumption), if_pos (by with_reducible assumption)]; with_reducible exact ⟨rfl, rfl⟩) | (unfold mf_go; rw [← gK]; unfold goB; rw [if_pos hc1, if_neg hc2, if_pos hc3, ← (fgR0' (by with_reducible assumption) gy).trans hY9]; unfold fgE; first | (rw [if_pos (by with_reducible assumption)]; with_reducible exact ⟨rfl, rfl⟩) | (rw [if_neg (by with_reducible assumption)]; with_reducible exact ⟨rfl, rfl⟩)) | (unfold mf_go; rw [← gK]; unfold goB; rw [if_pos (by with_reducible assumption), if_neg (by with_reducible assumption), if_neg (by with_reducible assumption)]; unfold sgE; first | (rw [sgW0 (by with_reducible assumption)]; with_reducible exact ⟨rfl, rfl⟩) | (rw [sgW1 (by with_reducible assumption) (by with_reducible assumption)]; with_reducible exact ⟨rfl, rfl⟩) | (rw [sgW2 (by with_reducible assumption) (by with_reducible assumption) (by with_reducible assumption)]; with_reducible exact ⟨rfl, rfl⟩) | (rw [sgW3 (by with_reducible assumption) (by with_reducible assumption) (by with_reducible assumption) (by with_reducible assumption)]; with_reducible exact ⟨rfl, rfl⟩) | (rw [sgW4 (by with_reducible assumption) (by with_reducible assumption) (by with_reducible assumption) (by with_reducible assumption)]; with_reducible exact ⟨rfl, rfl⟩))
                · skip
                  refine g_iload_n (i := 1) dX9_go_194 rfl rfl ?_
                  refine g_goto 199 dX9_go_195 (by decide) ?_
                  refine m_puti 40 dX9_go_199 (List.mem_of_getElem? (i := 4) rfl) (fun w h => List.mem_cons_of_mem _ (List.mem_append_right _ h)) (by decide) rfl rfl rfl (wsI_40 _ _ _ _) ?_
                  refine g_aload_n (i := 0) dX9_go_202 rfl rfl ?_
                  refine g_dup rfl dX9_go_203 ?_
                  refine m_get 39 dX9_go_204 (List.mem_of_getElem? (i := 1) rfl) (fun w h => List.mem_cons_of_mem _ (List.mem_append_right _ h)) (by decide) rfl ?_
                  refine g_iconst (1) rfl dX9_go_207 ?_
                  refine g_iadd dX9_go_208 ?_
                  refine m_puti 39 dX9_go_209 (List.mem_of_getElem? (i := 1) rfl) (fun w h => List.mem_cons_of_mem _ (List.mem_append_right _ h)) (by decide) rfl rfl rfl (wsI_39 _ _ _ _) ?_
                  refine g_vret dX9_go_212 ?_
                  first | (unfold mf_go; rw [← gK]; unfold goB; rw [if_neg (by with_reducible assumption)]; with_reducible exact ⟨rfl, rfl⟩) | (unfold mf_go; rw [← gK]; unfold goB; rw [if_pos (by with_reducible assumption), if_pos (by with_reducible assumption)]; with_reducible exact ⟨rfl, rfl⟩) | (unfold mf_go; rw [← gK]; unfold goB; rw [if_pos hc1, if_neg hc2, if_pos hc3, ← (fgR0' (by with_reducible assumption) gy).trans hY9]; unfold fgE; first | (rw [if_pos (by with_reducible assumption)]; with_reducible exact ⟨rfl, rfl⟩) | (rw [if_neg (by with_reducible assumption)]; with_reducible exact ⟨rfl, rfl⟩)) | (unfold mf_go; rw [← gK]; unfold goB; rw [if_pos (by with_reducible assumption), if_neg (by with_reducible assumption), if_neg (by with_reducible assumption)]; unfold sgE; first | (rw [sgW0 (by with_reducible assumption)]; with_reducible exact ⟨rfl, rfl⟩) | (rw [sgW1 (by with_reducible assumption) (by with_reducible assumption)]; with_reducible exact ⟨rfl, rfl⟩) | (rw [sgW2 (by with_reducible assumption) (by with_reducible assumption) (by with_reducible assumption)]; with_reducible exact ⟨rfl, rfl⟩) | (rw [sgW3 (by with_reducible assumption) (by with_reducible assumption) (by with_reducible assumption) (by with_reducible assumption)]; with_reducible exact ⟨rfl, rfl⟩) | (rw [sgW4 (by with_reducible assumption) (by with_reducible assumption) (by with_reducible assumption) (by with_reducible assumption)]; with_reducible exact ⟨rfl, rfl⟩))
    · skip
      refine g_aload_n (i := 0) dX9_go_52 rfl rfl ?_
      refine g_iconst (0) rfl dX9_go_53 ?_
      refine m_puti 40 dX9_go_54 (List.mem_of_getElem? (i := 4) rfl) (fun w h => List.mem_cons_of_mem _ (List.mem_append_right _ h)) (by decide) rfl rfl rfl (wsI_40 _ _ _ _) ?_
      refine g_goto 212 dX9_go_57 (by decide) ?_
      refine g_vret dX9_go_212 ?_
      first | (unfold mf_go; rw [← gK]; unfold goB; rw [if_neg (by with_reducible assumption)]; with_reducible exact ⟨rfl, rfl⟩) | (unfold mf_go; rw [← gK]; unfold goB; rw [if_pos (by with_reducible assumption), if_pos (by with_reducible assumption)]; with_reducible exact ⟨rfl, rfl⟩) | (unfold mf_go; rw [← gK]; unfold goB; rw [if_pos hc1, if_neg hc2, if_pos hc3, ← (fgR0' (by with_reducible assumption) gy).trans hY9]; unfold fgE; first | (rw [if_pos (by with_reducible assumption)]; with_reducible exact ⟨rfl, rfl⟩) | (rw [if_neg (by with_reducible assumption)]; with_reducible exact ⟨rfl, rfl⟩)) | (unfold mf_go; rw [← gK]; unfold goB; rw [if_pos (by with_reducible assumption), if_neg (by with_reducible assumption), if_neg (by with_reducible assumption)]; unfold sgE; first | (rw [sgW0 (by with_reducible assumption)]; with_reducible exact ⟨rfl, rfl⟩) | (rw [sgW1 (by with_reducible assumption) (by with_reducible assumption)]; with_reducible exact ⟨rfl, rfl⟩) | (rw [sgW2 (by with_reducible assumption) (by with_reducible assumption) (by with_reducible assumption)]; with_reducible exact ⟨rfl, rfl⟩) | (rw [sgW3 (by with_reducible assumption) (by with_reducible assumption) (by with_reducible assumption) (by with_reducible assumption)]; with_reducible exact ⟨rfl, rfl⟩) | (rw [sgW4 (by with_reducible assumption) (by with_reducible assumption) (by with_reducible assumption) (by with_reducible assumption)]; with_reducible exact ⟨rfl, rfl⟩))
  · skip
    have c_32 : mat T (T.1 39) = 32 := c_3
    refine g_aload_n (i := 0) dX9_go_13 rfl rfl ?_
    refine g_dup rfl dX9_go_14 ?_
    refine m_get 39 dX9_go_15 (List.mem_of_getElem? (i := 1) rfl) (fun w h => List.mem_cons_of_mem _ (List.mem_append_right _ h)) (by decide) rfl ?_
    refine g_iconst (1) rfl dX9_go_18 ?_
    refine g_iadd dX9_go_19 ?_
    refine m_puti 39 dX9_go_20 (List.mem_of_getElem? (i := 1) rfl) (fun w h => List.mem_cons_of_mem _ (List.mem_append_right _ h)) (by decide) rfl rfl rfl (wsI_39 _ _ _ _) ?_
    refine g_goto 0 dX9_go_23 (by decide) ?_
    obtain ⟨f, rfl⟩ := tp_pos hk
    exact g_to _ _ (ih (f, sI T 39 (T.1 39 + 1)) ⟨tp_step hk (mat_lt (lo := 32) (by decide) (by rw [c_32] <;> decide)), (by show f ≤ 401; omega), skR1 (by with_reducible assumption) gx⟩ (Nat.lt_succ_self f)) rfl ⟨rfl, trivial⟩

