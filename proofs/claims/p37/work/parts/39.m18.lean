/-- the tape's place is on the tape; fewer than f bytes are left -/
def tpI (T : MS) (f : Nat) : Prop := minv T ∧ 0 ≤ (T.1 39).toInt ∧ (T.1 39).toInt ≤ (T.1 36).toInt ∧ (T.1 36).toInt - (T.1 39).toInt < f
theorem tp_nn {T : MS} {f : Nat} (h : tpI T f) : 0 ≤ T.1 39 := by
  rw [Int32.le_iff_toInt_le, show (0 : Int32).toInt = 0 from by decide]
  exact h.2.1
theorem tp_pos {T : MS} {f : Nat} (h : tpI T f) : ∃ k, f = k + 1 := by
  obtain ⟨-, h1, h2, h3⟩ := h
  exact ⟨f - 1, by omega⟩
theorem tp_step {T : MS} {f : Nat} (h : tpI T (f + 1)) (hn : ¬ T.1 36 ≤ T.1 39) : tpI (sI T 39 (T.1 39 + 1)) f := by
  obtain ⟨hI, h1, h2, h3⟩ := h
  have h4 := hI.2.2.1
  rw [Int32.not_le, Int32.lt_iff_toInt_lt] at hn
  have e : (T.1 39 + 1).toInt = (T.1 39).toInt + 1 := by
    rw [Int32.toInt_add]
    have : (1 : Int32).toInt = 1 := by decide
    rw [this]
    apply Int.bmod_eq_of_le <;> omega
  have e1 : (sI T 39 (T.1 39 + 1)).1 39 = T.1 39 + 1 := rfl
  have e2 : (sI T 39 (T.1 39 + 1)).1 36 = T.1 36 := rfl
  refine ⟨hI, ?_, ?_, ?_⟩
  · rw [e1, e]; omega
  · rw [e1, e2, e]; omega
  · rw [e1, e2, e]; omega
theorem mat_lt {T : MS} {q lo : Int32} (h0 : 0 ≤ lo) (h : lo ≤ mat T q) : ¬ T.1 36 ≤ q := by
  intro h1
  unfold mat at h
  rw [if_pos h1] at h
  rw [Int32.le_iff_toInt_le] at h h0
  have e1 : (-1 : Int32).toInt = -1 := by decide
  have e0 : (0 : Int32).toInt = 0 := by decide
  omega
/-- a word's number grows by a letter -/
def lt1 (T : MS) (c : Int64) : Int64 := if 12 ≤ T.1 39 - T.1 38 then -1 else c * 27 + (mat T (T.1 39)).toInt64 - 96
def lt2 (T : MS) (c : Int64) : Int64 := if T.1 39 - T.1 38 < 12 then lt1 T c else -1
abbrev isLet (T : MS) : Prop := 97 ≤ mat T (T.1 39) ∧ mat T (T.1 39) ≤ 122
def ltR : Nat → Int64 → MS → Int64 × MS
  | 0, c, T => (c, T)
  | f + 1, c, T => if isLet T then ltR f (lt2 T c) (sI T 39 (T.1 39 + 1)) else (c, T)
def ltE (X : Int64 × MS) : MS := if X.2.1 39 - X.2.1 38 ≤ 12 then sI (mwd X.2 X.1).2 40 (mwd X.2 X.1).1 else sI X.2 40 1
def mf_letters (S : MS) : MS := ltE (ltR 401 0 S)
theorem ltR0 {f : Nat} {c : Int64} {T : MS} {X : Int64 × MS} (h : ¬ isLet T) (e : ltR f c T = X) : (c, T) = X := by
  cases f with
  | zero => exact e
  | succ f => exact (if_neg h).symm.trans e
theorem ltR1 {f : Nat} {c : Int64} {T : MS} {X : Int64 × MS} (h : isLet T) (e : ltR (f + 1) c T = X) : ltR f (lt2 T c) (sI T 39 (T.1 39 + 1)) = X := (if_pos h).symm.trans e

set_option maxHeartbeats 4000000 in
set_option maxRecDepth 100000 in
/-- a word of letters is read -/
theorem M_letters (l : Launch) (D : va_G) (cy : Nat → ClassId) (a : Nat → Nat) (S : MS) (hT : tpI S 401) : Ct l D clx (tyx cy) yX9_letters wsX9_letters (rmD 1) 0 0 [.ref (a 0)] (MW cy a S) (fun r9 w9 => r9 = none ∧ w9 = MW cy a (mf_letters S)) := by
  refine g_start (cc := cX9_letters) (maxL := 3) (ret := none) (by decide) rfl (Nat.le_of_ble_eq_true rfl) (fun v w1 h => by obtain ⟨rfl, -⟩ := h; exact rfl) (fun Γ hlΓ => ?_)
  subst hlΓ
  refine g_lconst 0 rfl dX9_letters_0 ?_
  refine g_lstore_n (i := 1) dX9_letters_1 rfl (by decide) ?_
  obtain ⟨X9, hX9⟩ : ∃ X : Int64 × MS, X = ltR 401 0 S := ⟨_, rfl⟩
  refine g_whl (σ := Nat × Int64 × MS) (fun x => x.1) (fun x => tpI x.2.2 x.1 ∧ ltR x.1 x.2.1 x.2.2 = X9) (fun x => MW cy a x.2.2) (fun x => [(0, .ref (a 0)), (1, .long x.2.1)]) (401, 0, S) ⟨hT, hX9.symm⟩ rfl ⟨rfl, rfl, trivial⟩ (fun x gx ih => ?_)
  obtain ⟨f, c, T⟩ := x
  obtain ⟨hk, gx⟩ := gx
  replace hk : tpI T f := hk
  replace gx : ltR f c T = X9 := gx
  have hn := tp_nn hk
  refine g_aload_n (i := 0) dX9_letters_2 rfl rfl ?_
  refine g_aload_n (i := 0) dX9_letters_3 rfl rfl ?_
  refine m_get 39 dX9_letters_4 (List.mem_of_getElem? (i := 1) rfl) (fun w h => List.mem_cons_of_mem _ (List.mem_append_right _ h)) (by decide) rfl ?_
  refine g_callVf 1 0 gX9_letters_X9_at rfl rfl rfl ⟨Nat.le_of_ble_eq_true rfl, Nat.le_of_ble_eq_true rfl⟩ ⟨Nat.le_of_ble_eq_true rfl, Nat.le_of_ble_eq_true rfl⟩ (by exact Nat.le_of_ble_eq_true rfl) (by decide +kernel) rfl rfl rfl dX9_letters_7 (M_at _ D cy a _ hk.1 _ hn) rfl (fun vu_2 wu_2 hu_2 => ?_)
  obtain ⟨rfl, rfl⟩ := hu_2
  refine g_callSf 1 gX9_letters_X9_isLetter rfl rfl rfl ⟨Nat.le_of_ble_eq_true rfl, Nat.le_of_ble_eq_true rfl⟩ ⟨Nat.le_of_ble_eq_true rfl, Nat.le_of_ble_eq_true rfl⟩ (by exact Nat.le_of_ble_eq_true rfl) (by decide +kernel) rfl dX9_letters_10 (M_isLetter _ D cy a _ _) rfl (fun vu_3 wu_3 hu_3 => ?_)
  rcases hu_3 with ⟨rfl, hu_3, rfl⟩ | ⟨rfl, hu_3, rfl⟩
  · skip
    refine g_if_eq 91 dX9_letters_13 (by decide) (fun h9 => absurd h9 (by decide)) (fun _ => ?_)
    refine g_aload_n (i := 0) dX9_letters_16 rfl rfl ?_
    refine m_get 39 dX9_letters_17 (List.mem_of_getElem? (i := 1) rfl) (fun w h => List.mem_cons_of_mem _ (List.mem_append_right _ h)) (by decide) rfl ?_
    refine g_aload_n (i := 0) dX9_letters_20 rfl rfl ?_
    refine m_get 38 dX9_letters_21 (List.mem_of_getElem? (i := 2) rfl) (fun w h => List.mem_cons_of_mem _ (List.mem_append_right _ h)) (by decide) rfl ?_
    refine g_isub dX9_letters_24 ?_
    refine g_bipush (12) rfl dX9_letters_25 ?_
    refine g_icmp_ge 52 dX9_letters_27 (by decide) (fun c_5 => ?_) (fun c_5 => ?_)
    · skip
      refine g_ldc2 (-1) (List.mem_of_getElem? (i := 5) rfl) dX9_letters_52 ?_
      refine g_lstore_n (i := 1) dX9_letters_55 rfl (by decide) ?_
      refine g_aload_n (i := 0) dX9_letters_56 rfl rfl ?_
      refine m_get 39 dX9_letters_57 (List.mem_of_getElem? (i := 1) rfl) (fun w h => List.mem_cons_of_mem _ (List.mem_append_right _ h)) (by decide) rfl ?_
      refine g_aload_n (i := 0) dX9_letters_60 rfl rfl ?_
      refine m_get 38 dX9_letters_61 (List.mem_of_getElem? (i := 2) rfl) (fun w h => List.mem_cons_of_mem _ (List.mem_append_right _ h)) (by decide) rfl ?_
      refine g_isub dX9_letters_64 ?_
      refine g_bipush (12) rfl dX9_letters_65 ?_
      refine g_icmp_lt 76 dX9_letters_67 (by decide) (fun c_6 => ?_) (fun c_6 => ?_)
      · skip
        refine g_lload_n (i := 1) dX9_letters_76 rfl rfl ?_
        refine g_lstore_n (i := 1) dX9_letters_77 rfl (by decide) ?_
        refine g_aload_n (i := 0) dX9_letters_78 rfl rfl ?_
        refine g_dup rfl dX9_letters_79 ?_
        refine m_get 39 dX9_letters_80 (List.mem_of_getElem? (i := 1) rfl) (fun w h => List.mem_cons_of_mem _ (List.mem_append_right _ h)) (by decide) rfl ?_
        refine g_iconst (1) rfl dX9_letters_83 ?_
        refine g_iadd dX9_letters_84 ?_
        refine m_puti 39 dX9_letters_85 (List.mem_of_getElem? (i := 1) rfl) (fun w h => List.mem_cons_of_mem _ (List.mem_append_right _ h)) (by decide) rfl rfl rfl (wsI_39 _ _ _ _) ?_
        refine g_goto 2 dX9_letters_88 (by decide) ?_
        obtain ⟨f, rfl⟩ := tp_pos hk
        exact g_to _ _ (ih (f, lt2 T c, sI T 39 (T.1 39 + 1)) ⟨tp_step hk (mat_lt (lo := 97) (by decide) (And.left (b := mat T (T.1 39) ≤ 122) (by with_reducible assumption))), ltR1 (by with_reducible assumption) gx⟩ (Nat.lt_succ_self f)) rfl ⟨rfl, (congrArg (fun z => some (Value.long z)) (by unfold lt2 lt1; first | rw [if_pos (by with_reducible assumption), if_pos (by with_reducible assumption)] | rw [if_pos (by with_reducible assumption), if_neg (by with_reducible assumption)] | rw [if_neg (by with_reducible assumption)])), trivial⟩
      · skip
        refine g_ldc2 (-1) (List.mem_of_getElem? (i := 5) rfl) dX9_letters_70 ?_
        refine g_goto 77 dX9_letters_73 (by decide) ?_
        refine g_lstore_n (i := 1) dX9_letters_77 rfl (by decide) ?_
        refine g_aload_n (i := 0) dX9_letters_78 rfl rfl ?_
        refine g_dup rfl dX9_letters_79 ?_
        refine m_get 39 dX9_letters_80 (List.mem_of_getElem? (i := 1) rfl) (fun w h => List.mem_cons_of_mem _ (List.mem_append_right _ h)) (by decide) rfl ?_
        refine g_iconst (1) rfl dX9_letters_83 ?_
        refine g_iadd dX9_letters_84 ?_
        refine m_puti 39 dX9_letters_85 (List.mem_of_getElem? (i := 1) rfl) (fun w h => List.mem_cons_of_mem _ (List.mem_append_right _ h)) (by decide) rfl rfl rfl (wsI_39 _ _ _ _) ?_
        refine g_goto 2 dX9_letters_88 (by decide) ?_
        obtain ⟨f, rfl⟩ := tp_pos hk
        exact g_to _ _ (ih (f, lt2 T c, sI T 39 (T.1 39 + 1)) ⟨tp_step hk (mat_lt (lo := 97) (by decide) (And.left (b := mat T (T.1 39) ≤ 122) (by with_reducible assumption))), ltR1 (by with_reducible assumption) gx⟩ (Nat.lt_succ_self f)) rfl ⟨rfl, (congrArg (fun z => some (Value.long z)) (by unfold lt2 lt1; first | rw [if_pos (by with_reducible assumption), if_pos (by with_reducible assumption)] | rw [if_pos (by with_reducible assumption), if_neg (by with_reducible assumption)] | rw [if_neg (by with_reducible assumption)])), trivial⟩
    · skip
      refine g_lload_n (i := 1) dX9_letters_30 rfl rfl ?_
      refine g_ldc2 (27) (List.mem_of_getElem? (i := 3) rfl) dX9_letters_31 ?_
      refine g_lmul dX9_letters_34 ?_
      refine g_aload_n (i := 0) dX9_letters_35 rfl rfl ?_
      refine g_aload_n (i := 0) dX9_letters_36 rfl rfl ?_
      refine m_get 39 dX9_letters_37 (List.mem_of_getElem? (i := 1) rfl) (fun w h => List.mem_cons_of_mem _ (List.mem_append_right _ h)) (by decide) rfl ?_
      refine g_callVf 1 0 gX9_letters_X9_at rfl rfl rfl ⟨Nat.le_of_ble_eq_true rfl, Nat.le_of_ble_eq_true rfl⟩ ⟨Nat.le_of_ble_eq_true rfl, Nat.le_of_ble_eq_true rfl⟩ (by exact Nat.le_of_ble_eq_true rfl) (by decide +kernel) rfl rfl rfl dX9_letters_40 (M_at _ D cy a _ hk.1 _ hn) rfl (fun vu_7 wu_7 hu_7 => ?_)
      obtain ⟨rfl, rfl⟩ := hu_7
      refine g_i2l dX9_letters_43 ?_
      refine g_ladd dX9_letters_44 ?_
      refine g_ldc2 (96) (List.mem_of_getElem? (i := 4) rfl) dX9_letters_45 ?_
      refine g_lsub dX9_letters_48 ?_
      refine g_goto 55 dX9_letters_49 (by decide) ?_
      refine g_lstore_n (i := 1) dX9_letters_55 rfl (by decide) ?_
      refine g_aload_n (i := 0) dX9_letters_56 rfl rfl ?_
      refine m_get 39 dX9_letters_57 (List.mem_of_getElem? (i := 1) rfl) (fun w h => List.mem_cons_of_mem _ (List.mem_append_right _ h)) (by decide) rfl ?_
      refine g_aload_n (i := 0) dX9_letters_60 rfl rfl ?_
      refine m_get 38 dX9_letters_61 (List.mem_of_getElem? (i := 2) rfl) (fun w h => List.mem_cons_of_mem _ (List.mem_append_right _ h)) (by decide) rfl ?_
      refine g_isub dX9_letters_64 ?_
      refine g_bipush (12) rfl dX9_letters_65 ?_
      refine g_icmp_lt 76 dX9_letters_67 (by decide) (fun c_8 => ?_) (fun c_8 => ?_)
      · skip
        refine g_lload_n (i := 1) dX9_letters_76 rfl rfl ?_
        refine g_lstore_n (i := 1) dX9_letters_77 rfl (by decide) ?_
        refine g_aload_n (i := 0) dX9_letters_78 rfl rfl ?_
        refine g_dup rfl dX9_letters_79 ?_
        refine m_get 39 dX9_letters_80 (List.mem_of_getElem? (i := 1) rfl) (fun w h => List.mem_cons_of_mem _ (List.mem_append_right _ h)) (by decide) rfl ?_
        refine g_iconst (1) rfl dX9_letters_83 ?_
        refine g_iadd dX9_letters_84 ?_
        refine m_puti 39 dX9_letters_85 (List.mem_of_getElem? (i := 1) rfl) (fun w h => List.mem_cons_of_mem _ (List.mem_append_right _ h)) (by decide) rfl rfl rfl (wsI_39 _ _ _ _) ?_
        refine g_goto 2 dX9_letters_88 (by decide) ?_
        obtain ⟨f, rfl⟩ := tp_pos hk
        exact g_to _ _ (ih (f, lt2 T c, sI T 39 (T.1 39 + 1)) ⟨tp_step hk (mat_lt (lo := 97) (by decide) (And.left (b := mat T (T.1 39) ≤ 122) (by with_reducible assumption))), ltR1 (by with_reducible assumption) gx⟩ (Nat.lt_succ_self f)) rfl ⟨rfl, (congrArg (fun z => some (Value.long z)) (by unfold lt2 lt1; first | rw [if_pos (by with_reducible assumption), if_pos (by with_reducible assumption)] | rw [if_pos (by with_reducible assumption), if_neg (by with_reducible assumption)] | rw [if_neg (by with_reducible assumption)])), trivial⟩
      · skip
        refine g_ldc2 (-1) (List.mem_of_getElem? (i := 5) rfl) dX9_letters_70 ?_
        refine g_goto 77 dX9_letters_73 (by decide) ?_
        refine g_lstore_n (i := 1) dX9_letters_77 rfl (by decide) ?_
        refine g_aload_n (i := 0) dX9_letters_78 rfl rfl ?_
        refine g_dup rfl dX9_letters_79 ?_
        refine m_get 39 dX9_letters_80 (List.mem_of_getElem? (i := 1) rfl) (fun w h => List.mem_cons_of_mem _ (List.mem_append_right _ h)) (by decide) rfl ?_
        refine g_iconst (1) rfl dX9_letters_83 ?_
        refine g_iadd dX9_letters_84 ?_
        refine m_puti 39 dX9_letters_85 (List.mem_of_getElem? (i := 1) rfl) (fun w h => List.mem_cons_of_mem _ (List.mem_append_right _ h)) (by decide) rfl rfl rfl (wsI_39 _ _ _ _) ?_
        refine g_goto 2 dX9_letters_88 (by decide) ?_
        obtain ⟨f, rfl⟩ := tp_pos hk
        exact g_to _ _ (ih (f, lt2 T c, sI T 39 (T.1 39 + 1)) ⟨tp_step hk (mat_lt (lo := 97) (by decide) (And.left (b := mat T (T.1 39) ≤ 122) (by with_reducible assumption))), ltR1 (by with_reducible assumption) gx⟩ (Nat.lt_succ_self f)) rfl ⟨rfl, (congrArg (fun z => some (Value.long z)) (by unfold lt2 lt1; first | rw [if_pos (by with_reducible assumption), if_pos (by with_reducible assumption)] | rw [if_pos (by with_reducible assumption), if_neg (by with_reducible assumption)] | rw [if_neg (by with_reducible assumption)])), trivial⟩
  · skip
    refine g_if_eq 91 dX9_letters_13 (by decide) (fun _ => ?_) (fun h9 => absurd h9 (by decide))
    refine g_aload_n (i := 0) dX9_letters_91 rfl rfl ?_
    refine g_aload_n (i := 0) dX9_letters_92 rfl rfl ?_
    refine m_get 39 dX9_letters_93 (List.mem_of_getElem? (i := 1) rfl) (fun w h => List.mem_cons_of_mem _ (List.mem_append_right _ h)) (by decide) rfl ?_
    refine g_aload_n (i := 0) dX9_letters_96 rfl rfl ?_
    refine m_get 38 dX9_letters_97 (List.mem_of_getElem? (i := 2) rfl) (fun w h => List.mem_cons_of_mem _ (List.mem_append_right _ h)) (by decide) rfl ?_
    refine g_isub dX9_letters_100 ?_
    refine g_bipush (12) rfl dX9_letters_101 ?_
    refine g_icmp_le 110 dX9_letters_103 (by decide) (fun c_10 => ?_) (fun c_10 => ?_)
    · skip
      refine g_aload_n (i := 0) dX9_letters_110 rfl rfl ?_
      refine g_lload_n (i := 1) dX9_letters_111 rfl rfl ?_
      refine g_callVf 1 0 gX9_letters_X9_wordOf rfl rfl rfl ⟨Nat.le_of_ble_eq_true rfl, Nat.le_of_ble_eq_true rfl⟩ ⟨Nat.le_of_ble_eq_true rfl, Nat.le_of_ble_eq_true rfl⟩ (by exact Nat.le_of_ble_eq_true rfl) (by decide +kernel) rfl rfl rfl dX9_letters_112 (M_wordOf _ D cy a _ _) rfl (fun vu_11 wu_11 hu_11 => ?_)
      obtain ⟨rfl, rfl⟩ := hu_11
      refine m_puti 40 dX9_letters_115 (List.mem_of_getElem? (i := 6) rfl) (fun w h => List.mem_cons_of_mem _ (List.mem_append_right _ h)) (by decide) rfl rfl rfl (wsI_40 _ _ _ _) ?_
      refine g_vret dX9_letters_118 ?_
      have gX := (ltR0 (by with_reducible assumption) gx).trans hX9
      unfold mf_letters; rw [← gX]; unfold ltE; first | (rw [if_pos (by with_reducible assumption)]; with_reducible exact ⟨rfl, rfl⟩) | (rw [if_neg (by with_reducible assumption)]; with_reducible exact ⟨rfl, rfl⟩)
    · skip
      refine g_iconst (1) rfl dX9_letters_106 ?_
      refine g_goto 115 dX9_letters_107 (by decide) ?_
      refine m_puti 40 dX9_letters_115 (List.mem_of_getElem? (i := 6) rfl) (fun w h => List.mem_cons_of_mem _ (List.mem_append_right _ h)) (by decide) rfl rfl rfl (wsI_40 _ _ _ _) ?_
      refine g_vret dX9_letters_118 ?_
      have gX := (ltR0 (by with_reducible assumption) gx).trans hX9
      unfold mf_letters; rw [← gX]; unfold ltE; first | (rw [if_pos (by with_reducible assumption)]; with_reducible exact ⟨rfl, rfl⟩) | (rw [if_neg (by with_reducible assumption)]; with_reducible exact ⟨rfl, rfl⟩)

