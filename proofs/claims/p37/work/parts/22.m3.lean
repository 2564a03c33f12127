theorem vpi5 {i : Int32} (h : 0 ≤ i ∧ i ≤ 4) : vp_in i 5 := vpi h.1 h.2 (by decide)
theorem mnew {S : MS} (hI : minv S) (h : ¬ S.1 4 = 40) : vp_in (S.1 4) 40 := by
  obtain ⟨⟨h1, h2⟩, -⟩ := hI
  rw [vp_in_iff]
  refine ⟨h1, ?_⟩
  have h3 : (S.1 4).toInt ≠ 40 := fun e => h (Int32.toInt_inj.mp (e.trans (by decide)))
  omega
/-- what a debt is carried to -/
def cyv (S : MS) (j : Nat) : Int64 := S.2.2.2 15 j + S.2.2.2 15 j * (S.1 1).toInt64 / 1000
/-- the first i debts are carried -/
def crF (S : MS) (i : Nat) : MS := (S.1, S.2.1, S.2.2.1, fun q => if q = 15 then (fun j => if j < i then cyv S j else S.2.2.2 15 j) else S.2.2.2 q)
theorem crF_0 (S : MS) : crF S 0 = S := by
  unfold crF
  refine Prod.ext rfl (Prod.ext rfl (Prod.ext rfl (funext fun q => ?_)))
  by_cases h : q = 15
  · subst h; simp
  · simp [h]
theorem crF_step (S : MS) (i : Nat) : sB (crF S i) 15 i ((crF S i).2.2.2 15 i + (crF S i).2.2.2 15 i * ((crF S i).1 1).toInt64 / 1000) = crF S (i + 1) := by
  unfold sB crF vp_updL cyv
  refine Prod.ext rfl (Prod.ext rfl (Prod.ext rfl (funext fun q => funext fun j => ?_)))
  by_cases hq : q = 15
  · subst hq
    by_cases hj : j = i
    · subst hj; simp
    · have e : (j < i + 1) ↔ (j < i) := by omega
      simp [hj, e]
  · simp [hq]
abbrev cyok (S : MS) : Prop := ∀ j, j < 100 → cyv S j ≤ 1000000000

set_option maxHeartbeats 4000000 in
set_option maxRecDepth 100000 in
/-- debts are carried, if none would be too great -/
theorem M_carry (l : Launch) (D : va_G) (cy : Nat → ClassId) (a : Nat → Nat) (S : MS) : Ct l D clx (tyx cy) yX9_carry wsX9_carry (rmD 0) 0 0 [.ref (a 0)] (MW cy a S) (fun r9 w9 => (r9 = some (.int 1) ∧ cyok S ∧ w9 = MW cy a (crF S 100)) ∨ (r9 = some (.int 0) ∧ ¬ cyok S ∧ w9 = MW cy a S)) := by
  refine g_start (cc := cX9_carry) (maxL := 2) (ret := (some .boolean)) (by decide) rfl (Nat.le_of_ble_eq_true rfl) (fun v w1 h => by rcases h with ⟨rfl, -, -⟩ | ⟨rfl, -, -⟩ <;> exact ⟨.boolean, rfl, rfl⟩) (fun Γ hlΓ => ?_)
  subst hlΓ
  refine g_iconst (0) rfl dX9_carry_0 ?_
  refine g_istore_n (i := 1) dX9_carry_1 rfl (by decide) ?_
  refine g_cnt 100 (fun i => ∀ j, j < i → cyv S j ≤ 1000000000) (fun i => MW cy a S) (fun i => [(0, .ref (a 0)), (1, .int (nI i))]) 0 (by first | decide | omega) (fun j h => absurd h (Nat.not_lt_zero j)) (by rfl) (by refine ⟨rfl, rfl, trivial⟩) ?_ (fun i1 hi1 gi1 ihi1 => ?_)
  · intro gN
    refine g_iload_n (i := 1) dX9_carry_2 rfl rfl ?_
    refine g_bipush (100) rfl dX9_carry_3 ?_
    refine g_icmp_ge 46 dX9_carry_5 (by decide) (fun c_2 => ?_) (fun c_2 => ?_)
    · skip
      refine g_iconst (0) rfl dX9_carry_46 ?_
      refine g_istore_n (i := 1) dX9_carry_47 rfl (by decide) ?_
      refine g_cnt 100 (fun i => True) (fun i => MW cy a (crF S i)) (fun i => [(0, .ref (a 0)), (1, .int (nI i))]) 0 (by first | decide | omega) trivial (by rw [crF_0]) (by refine ⟨rfl, rfl, trivial⟩) ?_ (fun i3 hi3 gi3 ihi3 => ?_)
      · intro gN
        refine g_iload_n (i := 1) dX9_carry_48 rfl rfl ?_
        refine g_bipush (100) rfl dX9_carry_49 ?_
        refine g_icmp_ge 85 dX9_carry_51 (by decide) (fun c_4 => ?_) (fun c_4 => ?_)
        · skip
          refine g_iconst (1) rfl dX9_carry_85 ?_
          refine g_iret dX9_carry_86 ?_
          exact Or.inl ⟨rfl, by assumption, rfl⟩
        · skip
          exact absurd (nI_le (Nat.le_refl _) (by decide)) c_4
      · skip
        refine g_iload_n (i := 1) dX9_carry_48 rfl rfl ?_
        refine g_bipush (100) rfl dX9_carry_49 ?_
        refine g_icmp_ge 85 dX9_carry_51 (by decide) (fun c_5 => ?_) (fun c_5 => ?_)
        · skip
          exact absurd c_5 (nI_ge hi3 (by decide))
        · skip
          refine g_aload_n (i := 0) dX9_carry_54 rfl rfl ?_
          refine m_get 15 dX9_carry_55 (List.mem_of_getElem? (i := 1) rfl) (fun w h => List.mem_cons_of_mem _ (List.mem_append_right _ h)) (by decide) rfl ?_
          refine g_iload_n (i := 1) dX9_carry_58 rfl rfl ?_
          refine g_dup2_11 rfl rfl dX9_carry_59 ?_
          refine m_laldN 15 13 100 dX9_carry_60 rfl (by omega) (by decide) ?_
          refine g_aload_n (i := 0) dX9_carry_61 rfl rfl ?_
          refine m_get 15 dX9_carry_62 (List.mem_of_getElem? (i := 1) rfl) (fun w h => List.mem_cons_of_mem _ (List.mem_append_right _ h)) (by decide) rfl ?_
          refine g_iload_n (i := 1) dX9_carry_65 rfl rfl ?_
          refine m_laldN 15 13 100 dX9_carry_66 rfl (by omega) (by decide) ?_
          refine g_aload_n (i := 0) dX9_carry_67 rfl rfl ?_
          refine m_get 1 dX9_carry_68 (List.mem_of_getElem? (i := 2) rfl) (fun w h => List.mem_cons_of_mem _ (List.mem_append_right _ h)) (by decide) rfl ?_
          refine g_i2l dX9_carry_71 ?_
          refine g_lmul dX9_carry_72 ?_
          refine g_ldc2 (1000) (List.mem_of_getElem? (i := 3) rfl) dX9_carry_73 ?_
          refine g_ldiv (by decide) dX9_carry_76 ?_
          refine g_ladd dX9_carry_77 ?_
          refine m_lastN 15 13 100 dX9_carry_78 rfl (by omega) (by decide) (wsA_15 _ _ _ _ _) ?_
          refine g_iinc (1) dX9_carry_79 rfl rfl (by decide) ?_
          refine g_goto 48 dX9_carry_82 (by decide) ?_
          refine g_to _ _ (ihi3 (trivial)) (by rw [← crF_step]) (by refine ⟨(by first | rfl | (rw [← nI_1]; rfl) | (rw [← nI_1]; rfl)), (by first | rfl | (rw [← nI_1]; rfl) | (rw [← nI_1]; rfl)), trivial⟩)
    · skip
      exact absurd (nI_le (Nat.le_refl _) (by decide)) c_2
  · skip
    refine g_iload_n (i := 1) dX9_carry_2 rfl rfl ?_
    refine g_bipush (100) rfl dX9_carry_3 ?_
    refine g_icmp_ge 46 dX9_carry_5 (by decide) (fun c_6 => ?_) (fun c_6 => ?_)
    · skip
      exact absurd c_6 (nI_ge hi1 (by decide))
    · skip
      refine g_aload_n (i := 0) dX9_carry_8 rfl rfl ?_
      refine m_get 15 dX9_carry_9 (List.mem_of_getElem? (i := 1) rfl) (fun w h => List.mem_cons_of_mem _ (List.mem_append_right _ h)) (by decide) rfl ?_
      refine g_iload_n (i := 1) dX9_carry_12 rfl rfl ?_
      refine m_laldN 15 13 100 dX9_carry_13 rfl (by omega) (by decide) ?_
      refine g_aload_n (i := 0) dX9_carry_14 rfl rfl ?_
      refine m_get 15 dX9_carry_15 (List.mem_of_getElem? (i := 1) rfl) (fun w h => List.mem_cons_of_mem _ (List.mem_append_right _ h)) (by decide) rfl ?_
      refine g_iload_n (i := 1) dX9_carry_18 rfl rfl ?_
      refine m_laldN 15 13 100 dX9_carry_19 rfl (by omega) (by decide) ?_
      refine g_aload_n (i := 0) dX9_carry_20 rfl rfl ?_
      refine m_get 1 dX9_carry_21 (List.mem_of_getElem? (i := 2) rfl) (fun w h => List.mem_cons_of_mem _ (List.mem_append_right _ h)) (by decide) rfl ?_
      refine g_i2l dX9_carry_24 ?_
      refine g_lmul dX9_carry_25 ?_
      refine g_ldc2 (1000) (List.mem_of_getElem? (i := 3) rfl) dX9_carry_26 ?_
      refine g_ldiv (by decide) dX9_carry_29 ?_
      refine g_ladd dX9_carry_30 ?_
      refine g_ldc2 (1000000000) (List.mem_of_getElem? (i := 4) rfl) dX9_carry_31 ?_
      refine g_lcmp_le 40 dX9_carry_34 dX9_carry_35 (by decide) (fun c_7 => ?_) (fun c_7 => ?_)
      · skip
        refine g_iinc (1) dX9_carry_40 rfl rfl (by decide) ?_
        refine g_goto 2 dX9_carry_43 (by decide) ?_
        refine g_to _ _ (ihi1 (lt_s gi1 (by first | assumption | exact c_2))) rfl (by refine ⟨(by first | rfl | (rw [← nI_1]; rfl) | (rw [← nI_1]; rfl)), (by first | rfl | (rw [← nI_1]; rfl) | (rw [← nI_1]; rfl)), trivial⟩)
      · skip
        refine g_iconst (0) rfl dX9_carry_38 ?_
        refine g_iret dX9_carry_39 ?_
        exact Or.inr ⟨rfl, fun h => absurd (h _ (by assumption)) (by assumption), rfl⟩

abbrev mday (S : MS) : Int64 := S.2.1 0 - S.2.1 0 / 28 * 28
set_option maxHeartbeats 4000000 in
set_option maxRecDepth 100000 in
/-- a day 0 .. 6 of a fair -/
theorem M_isEarly (l : Launch) (D : va_G) (cy : Nat → ClassId) (a : Nat → Nat) (S : MS) : Ct l D clx (tyx cy) yX9_isEarly wsX9_isEarly (rmD 0) 0 0 [.ref (a 0)] (MW cy a S) (fun r9 w9 => (r9 = some (.int 1) ∧ (mday S ≤ 6) ∧ w9 = MW cy a S) ∨ (r9 = some (.int 0) ∧ ¬ (mday S ≤ 6) ∧ w9 = MW cy a S)) := by
  refine g_start (cc := cX9_isEarly) (maxL := 1) (ret := (some .boolean)) (by decide) rfl (Nat.le_of_ble_eq_true rfl) (fun v w1 h => by rcases h with ⟨rfl, -, -⟩ | ⟨rfl, -, -⟩ <;> exact ⟨.boolean, rfl, rfl⟩) (fun Γ hlΓ => ?_)
  subst hlΓ
  refine g_aload_n (i := 0) dX9_isEarly_0 rfl rfl ?_
  refine m_get 0 dX9_isEarly_1 (List.mem_of_getElem? (i := 1) rfl) (fun w h => List.mem_cons_of_mem _ (List.mem_append_right _ h)) (by decide) rfl ?_
  refine g_ldc2 (28) (List.mem_of_getElem? (i := 2) rfl) dX9_isEarly_4 ?_
  refine g_lrem (by decide) dX9_isEarly_7 ?_
  refine g_ldc2 (6) (List.mem_of_getElem? (i := 3) rfl) dX9_isEarly_8 ?_
  refine g_lcmp_gt 19 dX9_isEarly_11 dX9_isEarly_12 (by decide) (fun c_1 => ?_) (fun c_1 => ?_)
  · skip
    refine g_iconst (0) rfl dX9_isEarly_19 ?_
    refine g_iret dX9_isEarly_20 ?_
    first | exact Or.inl ⟨rfl, by first | assumption | (simp_all; done), rfl⟩ | exact Or.inr ⟨rfl, by first | assumption | (simp_all; done), rfl⟩
  · skip
    refine g_iconst (1) rfl dX9_isEarly_15 ?_
    refine g_goto 20 dX9_isEarly_16 (by decide) ?_
    refine g_iret dX9_isEarly_20 ?_
    first | exact Or.inl ⟨rfl, by first | assumption | (simp_all; done), rfl⟩ | exact Or.inr ⟨rfl, by first | assumption | (simp_all; done), rfl⟩

def mwould (S : MS) (h q : Int32) (v : Int64) : Int64 := S.2.2.2 15 (10 * h + q).toNatClampNeg - S.2.2.2 15 (10 * q + h).toNatClampNeg + v
theorem ix100 {h q : Int32} (hh : vp_in h 10) (hq : vp_in q 10) : vp_in (10 * h + q) 100 := ixm 10 10 hh hq (by decide) (by decide) (by decide)
set_option maxHeartbeats 4000000 in
set_option maxRecDepth 100000 in
/-- what one would owe more -/
theorem M_would (l : Launch) (D : va_G) (cy : Nat → ClassId) (a : Nat → Nat) (S : MS) (h q : Int32) (v : Int64) (hh : vp_in h 10) (hq : vp_in q 10) : Ct l D clx (tyx cy) yX9_would wsX9_would (rmD 0) 0 0 [.ref (a 0), .int h, .int q, .long v] (MW cy a S) (fun r9 w9 => r9 = some (.long (mwould S h q v)) ∧ w9 = MW cy a S) := by
  refine g_start (cc := cX9_would) (maxL := 5) (ret := (some .long)) (by decide) rfl (Nat.le_of_ble_eq_true rfl) (fun v w1 h => by obtain ⟨rfl, -⟩ := h; exact rfl) (fun Γ hlΓ => ?_)
  subst hlΓ
  refine g_aload_n (i := 0) dX9_would_0 rfl rfl ?_
  refine m_get 15 dX9_would_1 (List.mem_of_getElem? (i := 1) rfl) (fun w h => List.mem_cons_of_mem _ (List.mem_append_right _ h)) (by decide) rfl ?_
  refine g_bipush (10) rfl dX9_would_4 ?_
  refine g_iload_n (i := 1) dX9_would_6 rfl rfl ?_
  refine g_imul dX9_would_7 ?_
  refine g_iload_n (i := 2) dX9_would_8 rfl rfl ?_
  refine g_iadd dX9_would_9 ?_
  refine m_lald 15 13 100 dX9_would_10 rfl (ix100 (by assumption) (by assumption)) ?_
  refine g_aload_n (i := 0) dX9_would_11 rfl rfl ?_
  refine m_get 15 dX9_would_12 (List.mem_of_getElem? (i := 1) rfl) (fun w h => List.mem_cons_of_mem _ (List.mem_append_right _ h)) (by decide) rfl ?_
  refine g_bipush (10) rfl dX9_would_15 ?_
  refine g_iload_n (i := 2) dX9_would_17 rfl rfl ?_
  refine g_imul dX9_would_18 ?_
  refine g_iload_n (i := 1) dX9_would_19 rfl rfl ?_
  refine g_iadd dX9_would_20 ?_
  refine m_lald 15 13 100 dX9_would_21 rfl (ix100 (by assumption) (by assumption)) ?_
  refine g_lsub dX9_would_22 ?_
  refine g_lload_n (i := 3) dX9_would_23 rfl rfl ?_
  refine g_ladd dX9_would_24 ?_
  refine g_lret dX9_would_25 ?_
  exact ⟨rfl, rfl⟩

set_option maxHeartbeats 4000000 in
set_option maxRecDepth 100000 in
/-- a debt would be too great -/
theorem M_isTooMuch (l : Launch) (D : va_G) (cy : Nat → ClassId) (a : Nat → Nat) (S : MS) (h q : Int32) (v : Int64) (hh : vp_in h 10) (hq : vp_in q 10) : Ct l D clx (tyx cy) yX9_isTooMuch wsX9_isTooMuch (rmD 1) 0 0 [.ref (a 0), .int h, .int q, .long v] (MW cy a S) (fun r9 w9 => (r9 = some (.int 1) ∧ (¬ h = q ∧ (1000000000 < mwould S h q v ∨ mwould S h q v < -1000000000)) ∧ w9 = MW cy a S) ∨ (r9 = some (.int 0) ∧ ¬ (¬ h = q ∧ (1000000000 < mwould S h q v ∨ mwould S h q v < -1000000000)) ∧ w9 = MW cy a S)) := by
  refine g_start (cc := cX9_isTooMuch) (maxL := 7) (ret := (some .boolean)) (by decide) rfl (Nat.le_of_ble_eq_true rfl) (fun v w1 h => by rcases h with ⟨rfl, -, -⟩ | ⟨rfl, -, -⟩ <;> exact ⟨.boolean, rfl, rfl⟩) (fun Γ hlΓ => ?_)
  subst hlΓ
  refine g_aload_n (i := 0) dX9_isTooMuch_0 rfl rfl ?_
  refine g_iload_n (i := 1) dX9_isTooMuch_1 rfl rfl ?_
  refine g_iload_n (i := 2) dX9_isTooMuch_2 rfl rfl ?_
  refine g_lload_n (i := 3) dX9_isTooMuch_3 rfl rfl ?_
  refine g_callVf 3 0 gX9_isTooMuch_X9_would rfl rfl rfl ⟨Nat.le_of_ble_eq_true rfl, Nat.le_of_ble_eq_true rfl⟩ ⟨Nat.le_of_ble_eq_true rfl, Nat.le_of_ble_eq_true rfl⟩ (by exact Nat.le_of_ble_eq_true rfl) (by decide +kernel) rfl rfl rfl dX9_isTooMuch_4 (M_would _ D cy a _ _ _ _ (by assumption) (by assumption)) rfl (fun vu_1 wu_1 hu_1 => ?_)
  obtain ⟨rfl, rfl⟩ := hu_1
  refine g_lstore dX9_isTooMuch_7 (by decide) ?_
  refine g_iload_n (i := 1) dX9_isTooMuch_9 rfl rfl ?_
  refine g_iload_n (i := 2) dX9_isTooMuch_10 rfl rfl ?_
  refine g_icmp_eq 36 dX9_isTooMuch_11 (by decide) (fun c_2 => ?_) (fun c_2 => ?_)
  · skip
    refine g_iconst (0) rfl dX9_isTooMuch_36 ?_
    refine g_iret dX9_isTooMuch_37 ?_
    first | exact Or.inl ⟨rfl, by first | exact ⟨by assumption, Or.inl (by assumption)⟩ | exact ⟨by assumption, Or.inr (Int64.not_le.mp (by assumption))⟩, rfl⟩ | exact Or.inr ⟨rfl, fun h5 => by first | exact absurd (by assumption) h5.1 | exact h5.2.elim (fun h6 => absurd h6 (by assumption)) (fun h6 => absurd (by assumption) (Int64.not_le.mpr h6)), rfl⟩
  · skip
    refine g_lload dX9_isTooMuch_14 rfl ?_
    refine g_ldc2 (1000000000) (List.mem_of_getElem? (i := 1) rfl) dX9_isTooMuch_16 ?_
    refine g_lcmp_gt 32 dX9_isTooMuch_19 dX9_isTooMuch_20 (by decide) (fun c_3 => ?_) (fun c_3 => ?_)
    · skip
      refine g_iconst (1) rfl dX9_isTooMuch_32 ?_
      refine g_goto 37 dX9_isTooMuch_33 (by decide) ?_
      refine g_iret dX9_isTooMuch_37 ?_
      first | exact Or.inl ⟨rfl, by first | exact ⟨by assumption, Or.inl (by assumption)⟩ | exact ⟨by assumption, Or.inr (Int64.not_le.mp (by assumption))⟩, rfl⟩ | exact Or.inr ⟨rfl, fun h5 => by first | exact absurd (by assumption) h5.1 | exact h5.2.elim (fun h6 => absurd h6 (by assumption)) (fun h6 => absurd (by assumption) (Int64.not_le.mpr h6)), rfl⟩
    · skip
      refine g_lload dX9_isTooMuch_23 rfl ?_
      refine g_ldc2 (-1000000000) (List.mem_of_getElem? (i := 2) rfl) dX9_isTooMuch_25 ?_
      refine g_lcmp_ge 36 dX9_isTooMuch_28 dX9_isTooMuch_29 (by decide) (fun c_4 => ?_) (fun c_4 => ?_)
      · skip
        refine g_iconst (0) rfl dX9_isTooMuch_36 ?_
        refine g_iret dX9_isTooMuch_37 ?_
        first | exact Or.inl ⟨rfl, by first | exact ⟨by assumption, Or.inl (by assumption)⟩ | exact ⟨by assumption, Or.inr (Int64.not_le.mp (by assumption))⟩, rfl⟩ | exact Or.inr ⟨rfl, fun h5 => by first | exact absurd (by assumption) h5.1 | exact h5.2.elim (fun h6 => absurd h6 (by assumption)) (fun h6 => absurd (by assumption) (Int64.not_le.mpr h6)), rfl⟩
      · skip
        refine g_iconst (1) rfl dX9_isTooMuch_32 ?_
        refine g_goto 37 dX9_isTooMuch_33 (by decide) ?_
        refine g_iret dX9_isTooMuch_37 ?_
        first | exact Or.inl ⟨rfl, by first | exact ⟨by assumption, Or.inl (by assumption)⟩ | exact ⟨by assumption, Or.inr (Int64.not_le.mp (by assumption))⟩, rfl⟩ | exact Or.inr ⟨rfl, fun h5 => by first | exact absurd (by assumption) h5.1 | exact h5.2.elim (fun h6 => absurd h6 (by assumption)) (fun h6 => absurd (by assumption) (Int64.not_le.mpr h6)), rfl⟩

def mf_ctow (S : MS) (h q : Int32) (v : Int64) : MS := if h = q then S else sB (sB S 15 (10 * h + q).toNatClampNeg (if mwould S h q v ≤ 0 then 0 else mwould S h q v)) 15 (10 * q + h).toNatClampNeg (if 0 ≤ mwould S h q v then 0 else -mwould S h q v)
set_option maxHeartbeats 4000000 in
set_option maxRecDepth 100000 in
/-- a house comes to owe -/
theorem M_comesToOwe (l : Launch) (D : va_G) (cy : Nat → ClassId) (a : Nat → Nat) (S : MS) (h q : Int32) (v : Int64) (hh : vp_in h 10) (hq : vp_in q 10) : Ct l D clx (tyx cy) yX9_comesToOwe wsX9_comesToOwe (rmD 1) 0 0 [.ref (a 0), .int h, .int q, .long v] (MW cy a S) (fun r9 w9 => r9 = none ∧ w9 = MW cy a (mf_ctow S h q v)) := by
  refine g_start (cc := cX9_comesToOwe) (maxL := 7) (ret := none) (by decide) rfl (Nat.le_of_ble_eq_true rfl) (fun v w1 h => by obtain ⟨rfl, -⟩ := h; exact rfl) (fun Γ hlΓ => ?_)
  subst hlΓ
  refine g_iload_n (i := 1) dX9_comesToOwe_0 rfl rfl ?_
  refine g_iload_n (i := 2) dX9_comesToOwe_1 rfl rfl ?_
  refine g_icmp_ne 6 dX9_comesToOwe_2 (by decide) (fun c_1 => ?_) (fun c_1 => ?_)
  · skip
    refine g_aload_n (i := 0) dX9_comesToOwe_6 rfl rfl ?_
    refine g_iload_n (i := 1) dX9_comesToOwe_7 rfl rfl ?_
    refine g_iload_n (i := 2) dX9_comesToOwe_8 rfl rfl ?_
    refine g_lload_n (i := 3) dX9_comesToOwe_9 rfl rfl ?_
    refine g_callVf 3 0 gX9_comesToOwe_X9_would rfl rfl rfl ⟨Nat.le_of_ble_eq_true rfl, Nat.le_of_ble_eq_true rfl⟩ ⟨Nat.le_of_ble_eq_true rfl, Nat.le_of_ble_eq_true rfl⟩ (by exact Nat.le_of_ble_eq_true rfl) (by decide +kernel) rfl rfl rfl dX9_comesToOwe_10 (M_would _ D cy a _ _ _ _ (by assumption) (by assumption)) rfl (fun vu_2 wu_2 hu_2 => ?_)
    obtain ⟨rfl, rfl⟩ := hu_2
    refine g_lstore dX9_comesToOwe_13 (by decide) ?_
    refine g_aload_n (i := 0) dX9_comesToOwe_15 rfl rfl ?_
    refine m_get 15 dX9_comesToOwe_16 (List.mem_of_getElem? (i := 1) rfl) (fun w h => List.mem_cons_of_mem _ (List.mem_append_right _ h)) (by decide) rfl ?_
    refine g_bipush (10) rfl dX9_comesToOwe_19 ?_
    refine g_iload_n (i := 1) dX9_comesToOwe_21 rfl rfl ?_
    refine g_imul dX9_comesToOwe_22 ?_
    refine g_iload_n (i := 2) dX9_comesToOwe_23 rfl rfl ?_
    refine g_iadd dX9_comesToOwe_24 ?_
    refine g_lload dX9_comesToOwe_25 rfl ?_
    refine g_lconst 0 rfl dX9_comesToOwe_27 ?_
    refine g_lcmp_le 37 dX9_comesToOwe_28 dX9_comesToOwe_29 (by decide) (fun c_3 => ?_) (fun c_3 => ?_)
    · skip
      refine g_lconst 0 rfl dX9_comesToOwe_37 ?_
      refine m_last 15 13 100 dX9_comesToOwe_38 rfl (ix100 (by assumption) (by assumption)) (wsA_15 _ _ _ _ _) ?_
      refine g_aload_n (i := 0) dX9_comesToOwe_39 rfl rfl ?_
      refine m_get 15 dX9_comesToOwe_40 (List.mem_of_getElem? (i := 1) rfl) (fun w h => List.mem_cons_of_mem _ (List.mem_append_right _ h)) (by decide) rfl ?_
      refine g_bipush (10) rfl dX9_comesToOwe_43 ?_
      refine g_iload_n (i := 2) dX9_comesToOwe_45 rfl rfl ?_
      refine g_imul dX9_comesToOwe_46 ?_
      refine g_iload_n (i := 1) dX9_comesToOwe_47 rfl rfl ?_
      refine g_iadd dX9_comesToOwe_48 ?_
      refine g_lload dX9_comesToOwe_49 rfl ?_
      refine g_lconst 0 rfl dX9_comesToOwe_51 ?_
      refine g_lcmp_ge 62 dX9_comesToOwe_52 dX9_comesToOwe_53 (by decide) (fun c_4 => ?_) (fun c_4 => ?_)
      · skip
        refine g_lconst 0 rfl dX9_comesToOwe_62 ?_
        refine m_last 15 13 100 dX9_comesToOwe_63 rfl (ix100 (by assumption) (by assumption)) (wsA_15 _ _ _ _ _) ?_
        refine g_vret dX9_comesToOwe_64 ?_
        unfold mf_ctow; (repeat' split) <;> first | contradiction | (with_reducible exact ⟨rfl, rfl⟩) | (exfalso; simp_all; done) | exact ⟨rfl, rfl⟩
      · skip
        refine g_lload dX9_comesToOwe_56 rfl ?_
        refine g_lneg dX9_comesToOwe_58 ?_
        refine g_goto 63 dX9_comesToOwe_59 (by decide) ?_
        refine m_last 15 13 100 dX9_comesToOwe_63 rfl (ix100 (by assumption) (by assumption)) (wsA_15 _ _ _ _ _) ?_
        refine g_vret dX9_comesToOwe_64 ?_
        unfold mf_ctow; (repeat' split) <;> first | contradiction | (with_reducible exact ⟨rfl, rfl⟩) | (exfalso; simp_all; done) | exact ⟨rfl, rfl⟩
    · skip
      refine g_lload dX9_comesToOwe_32 rfl ?_
      refine g_goto 38 dX9_comesToOwe_34 (by decide) ?_
      refine m_last 15 13 100 dX9_comesToOwe_38 rfl (ix100 (by assumption) (by assumption)) (wsA_15 _ _ _ _ _) ?_
      refine g_aload_n (i := 0) dX9_comesToOwe_39 rfl rfl ?_
      refine m_get 15 dX9_comesToOwe_40 (List.mem_of_getElem? (i := 1) rfl) (fun w h => List.mem_cons_of_mem _ (List.mem_append_right _ h)) (by decide) rfl ?_
      refine g_bipush (10) rfl dX9_comesToOwe_43 ?_
      refine g_iload_n (i := 2) dX9_comesToOwe_45 rfl rfl ?_
      refine g_imul dX9_comesToOwe_46 ?_
      refine g_iload_n (i := 1) dX9_comesToOwe_47 rfl rfl ?_
      refine g_iadd dX9_comesToOwe_48 ?_
      refine g_lload dX9_comesToOwe_49 rfl ?_
      refine g_lconst 0 rfl dX9_comesToOwe_51 ?_
      refine g_lcmp_ge 62 dX9_comesToOwe_52 dX9_comesToOwe_53 (by decide) (fun c_5 => ?_) (fun c_5 => ?_)
      · skip
        refine g_lconst 0 rfl dX9_comesToOwe_62 ?_
        refine m_last 15 13 100 dX9_comesToOwe_63 rfl (ix100 (by assumption) (by assumption)) (wsA_15 _ _ _ _ _) ?_
        refine g_vret dX9_comesToOwe_64 ?_
        unfold mf_ctow; (repeat' split) <;> first | contradiction | (with_reducible exact ⟨rfl, rfl⟩) | (exfalso; simp_all; done) | exact ⟨rfl, rfl⟩
      · skip
        refine g_lload dX9_comesToOwe_56 rfl ?_
        refine g_lneg dX9_comesToOwe_58 ?_
        refine g_goto 63 dX9_comesToOwe_59 (by decide) ?_
        refine m_last 15 13 100 dX9_comesToOwe_63 rfl (ix100 (by assumption) (by assumption)) (wsA_15 _ _ _ _ _) ?_
        refine g_vret dX9_comesToOwe_64 ?_
        unfold mf_ctow; (repeat' split) <;> first | contradiction | (with_reducible exact ⟨rfl, rfl⟩) | (exfalso; simp_all; done) | exact ⟨rfl, rfl⟩
  · skip
    refine g_vret dX9_comesToOwe_5 ?_
    unfold mf_ctow; (repeat' split) <;> first | contradiction | (with_reducible exact ⟨rfl, rfl⟩) | (exfalso; simp_all; done) | exact ⟨rfl, rfl⟩

