theorem vpi10 {i : Int32} (h : 0 ≤ i ∧ i ≤ 9) : vp_in i 10 := vpi h.1 h.2 (by decide)
theorem vpi1 {i : Int32} (h : 1 ≤ i ∧ i ≤ 4) : vp_in i 5 := by
  refine vpi (h := 4) ?_ h.2 (by decide)
  have := h.1
  rw [Int32.le_iff_toInt_le] at this ⊢
  have e1 : (1 : Int32).toInt = 1 := by decide
  have e0 : (0 : Int32).toInt = 0 := by decide
  omega
set_option maxHeartbeats 4000000 in
set_option maxRecDepth 100000 in
/-- in: low ≤ v ≤ high -/
theorem M_in (l : Launch) (D : va_G) (cy : Nat → ClassId) (a : Nat → Nat) (S : MS) (x lo hi : Int32) : Ct l D clx (tyx cy) yX9_in wsX9_in (rmD 0) 0 0 [.int x, .int lo, .int hi] (MW cy a S) (fun r9 w9 => (r9 = some (.int 1) ∧ (lo ≤ x ∧ x ≤ hi) ∧ w9 = MW cy a S) ∨ (r9 = some (.int 0) ∧ ¬ (lo ≤ x ∧ x ≤ hi) ∧ w9 = MW cy a S)) := by
  refine g_start (cc := cX9_in) (maxL := 3) (ret := (some .boolean)) (by decide) rfl (Nat.le_of_ble_eq_true rfl) (fun v w1 h => by rcases h with ⟨rfl, -, -⟩ | ⟨rfl, -, -⟩ <;> exact ⟨.boolean, rfl, rfl⟩) (fun Γ hlΓ => ?_)
  subst hlΓ
  refine g_iload_n (i := 0) dX9_in_0 rfl rfl ?_
  refine g_iload_n (i := 1) dX9_in_1 rfl rfl ?_
  refine g_icmp_lt 14 dX9_in_2 (by decide) (fun c_1 => ?_) (fun c_1 => ?_)
  · skip
    refine g_iconst (0) rfl dX9_in_14 ?_
    refine g_iret dX9_in_15 ?_
    first | exact Or.inl ⟨rfl, ⟨Int32.not_lt.mp c_1, Int32.not_lt.mp c_2⟩, rfl⟩ | exact Or.inr ⟨rfl, fun h => absurd h.2 (Int32.not_le.mpr c_2), rfl⟩ | exact Or.inr ⟨rfl, fun h => absurd h.1 (Int32.not_le.mpr c_1), rfl⟩
  · skip
    refine g_iload_n (i := 0) dX9_in_5 rfl rfl ?_
    refine g_iload_n (i := 2) dX9_in_6 rfl rfl ?_
    refine g_icmp_gt 14 dX9_in_7 (by decide) (fun c_2 => ?_) (fun c_2 => ?_)
    · skip
      refine g_iconst (0) rfl dX9_in_14 ?_
      refine g_iret dX9_in_15 ?_
      first | exact Or.inl ⟨rfl, ⟨Int32.not_lt.mp c_1, Int32.not_lt.mp c_2⟩, rfl⟩ | exact Or.inr ⟨rfl, fun h => absurd h.2 (Int32.not_le.mpr c_2), rfl⟩ | exact Or.inr ⟨rfl, fun h => absurd h.1 (Int32.not_le.mpr c_1), rfl⟩
    · skip
      refine g_iconst (1) rfl dX9_in_10 ?_
      refine g_goto 15 dX9_in_11 (by decide) ?_
      refine g_iret dX9_in_15 ?_
      first | exact Or.inl ⟨rfl, ⟨Int32.not_lt.mp c_1, Int32.not_lt.mp c_2⟩, rfl⟩ | exact Or.inr ⟨rfl, fun h => absurd h.2 (Int32.not_le.mpr c_2), rfl⟩ | exact Or.inr ⟨rfl, fun h => absurd h.1 (Int32.not_le.mpr c_1), rfl⟩

set_option maxHeartbeats 4000000 in
set_option maxRecDepth 100000 in
/-- a house: 0 .. 9 -/
theorem M_isHouse (l : Launch) (D : va_G) (cy : Nat → ClassId) (a : Nat → Nat) (S : MS) (x : Int32) : Ct l D clx (tyx cy) yX9_isHouse wsX9_isHouse (rmD 1) 0 0 [.int x] (MW cy a S) (fun r9 w9 => (r9 = some (.int 1) ∧ (0 ≤ x ∧ x ≤ 9) ∧ w9 = MW cy a S) ∨ (r9 = some (.int 0) ∧ ¬ (0 ≤ x ∧ x ≤ 9) ∧ w9 = MW cy a S)) := by
  refine g_start (cc := cX9_isHouse) (maxL := 1) (ret := (some .boolean)) (by decide) rfl (Nat.le_of_ble_eq_true rfl) (fun v w1 h => by rcases h with ⟨rfl, -, -⟩ | ⟨rfl, -, -⟩ <;> exact ⟨.boolean, rfl, rfl⟩) (fun Γ hlΓ => ?_)
  subst hlΓ
  refine g_iload_n (i := 0) dX9_isHouse_0 rfl rfl ?_
  refine g_iconst (0) rfl dX9_isHouse_1 ?_
  refine g_bipush (9) rfl dX9_isHouse_2 ?_
  refine g_callSf 3 gX9_isHouse_X9_in rfl rfl rfl ⟨Nat.le_of_ble_eq_true rfl, Nat.le_of_ble_eq_true rfl⟩ ⟨Nat.le_of_ble_eq_true rfl, Nat.le_of_ble_eq_true rfl⟩ (by exact Nat.le_of_ble_eq_true rfl) (by decide +kernel) rfl dX9_isHouse_4 (M_in _ D cy a _ _ _ _) rfl (fun vu_1 wu_1 hu_1 => ?_)
  rcases hu_1 with ⟨rfl, hu_1, rfl⟩ | ⟨rfl, hu_1, rfl⟩
  · skip
    refine g_iret dX9_isHouse_7 ?_
    first | exact Or.inl ⟨rfl, by assumption, rfl⟩ | exact Or.inr ⟨rfl, by assumption, rfl⟩
  · skip
    refine g_iret dX9_isHouse_7 ?_
    first | exact Or.inl ⟨rfl, by assumption, rfl⟩ | exact Or.inr ⟨rfl, by assumption, rfl⟩

set_option maxHeartbeats 4000000 in
set_option maxRecDepth 100000 in
/-- a town: 0 .. 4 -/
theorem M_isTown (l : Launch) (D : va_G) (cy : Nat → ClassId) (a : Nat → Nat) (S : MS) (x : Int32) : Ct l D clx (tyx cy) yX9_isTown wsX9_isTown (rmD 1) 0 0 [.int x] (MW cy a S) (fun r9 w9 => (r9 = some (.int 1) ∧ (0 ≤ x ∧ x ≤ 4) ∧ w9 = MW cy a S) ∨ (r9 = some (.int 0) ∧ ¬ (0 ≤ x ∧ x ≤ 4) ∧ w9 = MW cy a S)) := by
  refine g_start (cc := cX9_isTown) (maxL := 1) (ret := (some .boolean)) (by decide) rfl (Nat.le_of_ble_eq_true rfl) (fun v w1 h => by rcases h with ⟨rfl, -, -⟩ | ⟨rfl, -, -⟩ <;> exact ⟨.boolean, rfl, rfl⟩) (fun Γ hlΓ => ?_)
  subst hlΓ
  refine g_iload_n (i := 0) dX9_isTown_0 rfl rfl ?_
  refine g_iconst (0) rfl dX9_isTown_1 ?_
  refine g_iconst (4) rfl dX9_isTown_2 ?_
  refine g_callSf 3 gX9_isTown_X9_in rfl rfl rfl ⟨Nat.le_of_ble_eq_true rfl, Nat.le_of_ble_eq_true rfl⟩ ⟨Nat.le_of_ble_eq_true rfl, Nat.le_of_ble_eq_true rfl⟩ (by exact Nat.le_of_ble_eq_true rfl) (by decide +kernel) rfl dX9_isTown_3 (M_in _ D cy a _ _ _ _) rfl (fun vu_1 wu_1 hu_1 => ?_)
  rcases hu_1 with ⟨rfl, hu_1, rfl⟩ | ⟨rfl, hu_1, rfl⟩
  · skip
    refine g_iret dX9_isTown_6 ?_
    first | exact Or.inl ⟨rfl, by assumption, rfl⟩ | exact Or.inr ⟨rfl, by assumption, rfl⟩
  · skip
    refine g_iret dX9_isTown_6 ?_
    first | exact Or.inl ⟨rfl, by assumption, rfl⟩ | exact Or.inr ⟨rfl, by assumption, rfl⟩

set_option maxHeartbeats 4000000 in
set_option maxRecDepth 100000 in
/-- a bill that is drawn -/
theorem M_isBill (l : Launch) (D : va_G) (cy : Nat → ClassId) (a : Nat → Nat) (S : MS) (x : Int32) : Ct l D clx (tyx cy) yX9_isBill wsX9_isBill (rmD 1) 0 0 [.ref (a 0), .int x] (MW cy a S) (fun r9 w9 => (r9 = some (.int 1) ∧ (0 ≤ x ∧ x ≤ S.1 4 - 1) ∧ w9 = MW cy a S) ∨ (r9 = some (.int 0) ∧ ¬ (0 ≤ x ∧ x ≤ S.1 4 - 1) ∧ w9 = MW cy a S)) := by
  refine g_start (cc := cX9_isBill) (maxL := 2) (ret := (some .boolean)) (by decide) rfl (Nat.le_of_ble_eq_true rfl) (fun v w1 h => by rcases h with ⟨rfl, -, -⟩ | ⟨rfl, -, -⟩ <;> exact ⟨.boolean, rfl, rfl⟩) (fun Γ hlΓ => ?_)
  subst hlΓ
  refine g_iload_n (i := 1) dX9_isBill_0 rfl rfl ?_
  refine g_iconst (0) rfl dX9_isBill_1 ?_
  refine g_aload_n (i := 0) dX9_isBill_2 rfl rfl ?_
  refine m_get 4 dX9_isBill_3 (List.mem_of_getElem? (i := 1) rfl) (fun w h => List.mem_cons_of_mem _ (List.mem_append_right _ h)) (by decide) rfl ?_
  refine g_iconst (1) rfl dX9_isBill_6 ?_
  refine g_isub dX9_isBill_7 ?_
  refine g_callSf 3 gX9_isBill_X9_in rfl rfl rfl ⟨Nat.le_of_ble_eq_true rfl, Nat.le_of_ble_eq_true rfl⟩ ⟨Nat.le_of_ble_eq_true rfl, Nat.le_of_ble_eq_true rfl⟩ (by exact Nat.le_of_ble_eq_true rfl) (by decide +kernel) rfl dX9_isBill_8 (M_in _ D cy a _ _ _ _) rfl (fun vu_1 wu_1 hu_1 => ?_)
  rcases hu_1 with ⟨rfl, hu_1, rfl⟩ | ⟨rfl, hu_1, rfl⟩
  · skip
    refine g_iret dX9_isBill_11 ?_
    first | exact Or.inl ⟨rfl, by assumption, rfl⟩ | exact Or.inr ⟨rfl, by assumption, rfl⟩
  · skip
    refine g_iret dX9_isBill_11 ?_
    first | exact Or.inl ⟨rfl, by assumption, rfl⟩ | exact Or.inr ⟨rfl, by assumption, rfl⟩

/-- a finding is counted: the answer is the finding -/
def mf_finding (S : MS) (q : Int64) : Int64 × MS := (q, sB S 22 ((-1000000000000 : Int64) - q).toInt32.toNatClampNeg (S.2.2.2 22 ((-1000000000000 : Int64) - q).toInt32.toNatClampNeg + 1))
set_option maxHeartbeats 4000000 in
set_option maxRecDepth 100000 in
/-- finding -/
theorem M_finding (l : Launch) (D : va_G) (cy : Nat → ClassId) (a : Nat → Nat) (S : MS) (q : Int64) (hq : vp_in ((-1000000000000 : Int64) - q).toInt32 8) : Ct l D clx (tyx cy) yX9_finding wsX9_finding (rmD 0) 0 0 [.ref (a 0), .long q] (MW cy a S) (fun r9 w9 => r9 = some (.long (mf_finding S q).1) ∧ w9 = MW cy a (mf_finding S q).2) := by
  refine g_start (cc := cX9_finding) (maxL := 3) (ret := (some .long)) (by decide) rfl (Nat.le_of_ble_eq_true rfl) (fun v w1 h => by obtain ⟨rfl, -⟩ := h; exact rfl) (fun Γ hlΓ => ?_)
  subst hlΓ
  refine g_aload_n (i := 0) dX9_finding_0 rfl rfl ?_
  refine m_get 22 dX9_finding_1 (List.mem_of_getElem? (i := 1) rfl) (fun w h => List.mem_cons_of_mem _ (List.mem_append_right _ h)) (by decide) rfl ?_
  refine g_ldc2 (-1000000000000) (List.mem_of_getElem? (i := 2) rfl) dX9_finding_4 ?_
  refine g_lload_n (i := 1) dX9_finding_7 rfl rfl ?_
  refine g_lsub dX9_finding_8 ?_
  refine g_l2i dX9_finding_9 ?_
  refine g_dup2_11 rfl rfl dX9_finding_10 ?_
  refine m_lald 22 19 8 dX9_finding_11 rfl hq ?_
  refine g_lconst 1 rfl dX9_finding_12 ?_
  refine g_ladd dX9_finding_13 ?_
  refine m_last 22 19 8 dX9_finding_14 rfl hq (wsA_22 _ _ _ _ _) ?_
  refine g_lload_n (i := 1) dX9_finding_15 rfl rfl ?_
  refine g_lret dX9_finding_16 ?_
  exact ⟨rfl, rfl⟩

def mf_gain (S : MS) (v : Int32) : Int64 × MS := if 0 ≤ v ∧ v ≤ 200 then ((S.1 1).toInt64, sI S 1 v) else mf_finding S (-1000000000001)
set_option maxHeartbeats 4000000 in
set_option maxRecDepth 100000 in
/-- gain -/
theorem M_gain (l : Launch) (D : va_G) (cy : Nat → ClassId) (a : Nat → Nat) (S : MS) (v : Int32) : Ct l D clx (tyx cy) yX9_gain wsX9_gain (rmD 2) 0 0 [.ref (a 0), .int v] (MW cy a S) (fun r9 w9 => r9 = some (.long (mf_gain S v).1) ∧ w9 = MW cy a (mf_gain S v).2) := by
  refine g_start (cc := cX9_gain) (maxL := 3) (ret := (some .long)) (by decide) rfl (Nat.le_of_ble_eq_true rfl) (fun v w1 h => by obtain ⟨rfl, -⟩ := h; exact rfl) (fun Γ hlΓ => ?_)
  subst hlΓ
  refine g_iload_n (i := 1) dX9_gain_0 rfl rfl ?_
  refine g_iconst (0) rfl dX9_gain_1 ?_
  refine g_sipush (200) rfl dX9_gain_2 ?_
  refine g_callSf 3 gX9_gain_X9_in rfl rfl rfl ⟨Nat.le_of_ble_eq_true rfl, Nat.le_of_ble_eq_true rfl⟩ ⟨Nat.le_of_ble_eq_true rfl, Nat.le_of_ble_eq_true rfl⟩ (by exact Nat.le_of_ble_eq_true rfl) (by decide +kernel) rfl dX9_gain_5 (M_in _ D cy a _ _ _ _) rfl (fun vu_1 wu_1 hu_1 => ?_)
  rcases hu_1 with ⟨rfl, hu_1, rfl⟩ | ⟨rfl, hu_1, rfl⟩
  · skip
    refine g_if_ne 19 dX9_gain_8 (by decide) (fun _ => ?_) (fun h9 => absurd h9 (by decide))
    refine g_aload_n (i := 0) dX9_gain_19 rfl rfl ?_
    refine m_get 1 dX9_gain_20 (List.mem_of_getElem? (i := 2) rfl) (fun w h => List.mem_cons_of_mem _ (List.mem_append_right _ h)) (by decide) rfl ?_
    refine g_istore_n (i := 2) dX9_gain_23 rfl (by decide) ?_
    refine g_aload_n (i := 0) dX9_gain_24 rfl rfl ?_
    refine g_iload_n (i := 1) dX9_gain_25 rfl rfl ?_
    refine m_puti 1 dX9_gain_26 (List.mem_of_getElem? (i := 2) rfl) (fun w h => List.mem_cons_of_mem _ (List.mem_append_right _ h)) (by decide) rfl rfl rfl (wsI_1 _ _ _ _) ?_
    refine g_iload_n (i := 2) dX9_gain_29 rfl rfl ?_
    refine g_i2l dX9_gain_30 ?_
    refine g_lret dX9_gain_31 ?_
    unfold mf_gain; split <;> first | exact ⟨rfl, rfl⟩ | (exfalso; simp_all; done)
  · skip
    refine g_if_ne 19 dX9_gain_8 (by decide) (fun h9 => absurd h9 (by decide)) (fun _ => ?_)
    refine g_aload_n (i := 0) dX9_gain_11 rfl rfl ?_
    refine g_ldc2 (-1000000000001) (List.mem_of_getElem? (i := 1) rfl) dX9_gain_12 ?_
    refine g_callVf 1 0 gX9_gain_X9_finding rfl rfl rfl ⟨Nat.le_of_ble_eq_true rfl, Nat.le_of_ble_eq_true rfl⟩ ⟨Nat.le_of_ble_eq_true rfl, Nat.le_of_ble_eq_true rfl⟩ (by exact Nat.le_of_ble_eq_true rfl) (by decide +kernel) rfl rfl rfl dX9_gain_15 (M_finding _ D cy a _ _ (by unfold vp_in; decide)) rfl (fun vu_4 wu_4 hu_4 => ?_)
    obtain ⟨rfl, rfl⟩ := hu_4
    refine g_lret dX9_gain_18 ?_
    unfold mf_gain; split <;> first | exact ⟨rfl, rfl⟩ | (exfalso; simp_all; done)

def mf_road (S : MS) (t v : Int32) : Int64 × MS := if (1 ≤ t ∧ t ≤ 4) ∧ (0 ≤ v ∧ v ≤ 30) then ((S.2.2.1 2 t.toNatClampNeg).toInt64, sA S 2 t.toNatClampNeg v) else mf_finding S (-1000000000001)
set_option maxHeartbeats 4000000 in
set_option maxRecDepth 100000 in
/-- road -/
theorem M_road (l : Launch) (D : va_G) (cy : Nat → ClassId) (a : Nat → Nat) (S : MS) (t v : Int32) : Ct l D clx (tyx cy) yX9_road wsX9_road (rmD 2) 0 0 [.ref (a 0), .int t, .int v] (MW cy a S) (fun r9 w9 => r9 = some (.long (mf_road S t v).1) ∧ w9 = MW cy a (mf_road S t v).2) := by
  refine g_start (cc := cX9_road) (maxL := 4) (ret := (some .long)) (by decide) rfl (Nat.le_of_ble_eq_true rfl) (fun v w1 h => by obtain ⟨rfl, -⟩ := h; exact rfl) (fun Γ hlΓ => ?_)
  subst hlΓ
  refine g_iload_n (i := 1) dX9_road_0 rfl rfl ?_
  refine g_iconst (1) rfl dX9_road_1 ?_
  refine g_iconst (4) rfl dX9_road_2 ?_
  refine g_callSf 3 gX9_road_X9_in rfl rfl rfl ⟨Nat.le_of_ble_eq_true rfl, Nat.le_of_ble_eq_true rfl⟩ ⟨Nat.le_of_ble_eq_true rfl, Nat.le_of_ble_eq_true rfl⟩ (by exact Nat.le_of_ble_eq_true rfl) (by decide +kernel) rfl dX9_road_3 (M_in _ D cy a _ _ _ _) rfl (fun vu_1 wu_1 hu_1 => ?_)
  rcases hu_1 with ⟨rfl, hu_1, rfl⟩ | ⟨rfl, hu_1, rfl⟩
  · skip
    refine g_if_eq 19 dX9_road_6 (by decide) (fun h9 => absurd h9 (by decide)) (fun _ => ?_)
    refine g_iload_n (i := 2) dX9_road_9 rfl rfl ?_
    refine g_iconst (0) rfl dX9_road_10 ?_
    refine g_bipush (30) rfl dX9_road_11 ?_
    refine g_callSf 3 gX9_road_X9_in rfl rfl rfl ⟨Nat.le_of_ble_eq_true rfl, Nat.le_of_ble_eq_true rfl⟩ ⟨Nat.le_of_ble_eq_true rfl, Nat.le_of_ble_eq_true rfl⟩ (by exact Nat.le_of_ble_eq_true rfl) (by decide +kernel) rfl dX9_road_13 (M_in _ D cy a _ _ _ _) rfl (fun vu_3 wu_3 hu_3 => ?_)
    rcases hu_3 with ⟨rfl, hu_3, rfl⟩ | ⟨rfl, hu_3, rfl⟩
    · skip
      refine g_if_ne 27 dX9_road_16 (by decide) (fun _ => ?_) (fun h9 => absurd h9 (by decide))
      refine g_aload_n (i := 0) dX9_road_27 rfl rfl ?_
      refine m_get 2 dX9_road_28 (List.mem_of_getElem? (i := 2) rfl) (fun w h => List.mem_cons_of_mem _ (List.mem_append_right _ h)) (by decide) rfl ?_
      refine g_iload_n (i := 1) dX9_road_31 rfl rfl ?_
      refine m_iald 2 1 5 dX9_road_32 rfl (vpi1 (by assumption)) ?_
      refine g_istore_n (i := 3) dX9_road_33 rfl (by decide) ?_
      refine g_aload_n (i := 0) dX9_road_34 rfl rfl ?_
      refine m_get 2 dX9_road_35 (List.mem_of_getElem? (i := 2) rfl) (fun w h => List.mem_cons_of_mem _ (List.mem_append_right _ h)) (by decide) rfl ?_
      refine g_iload_n (i := 1) dX9_road_38 rfl rfl ?_
      refine g_iload_n (i := 2) dX9_road_39 rfl rfl ?_
      refine m_iast 2 1 5 dX9_road_40 rfl (vpi1 (by assumption)) (wsA_2 _ _ _ _ _) ?_
      refine g_iload_n (i := 3) dX9_road_41 rfl rfl ?_
      refine g_i2l dX9_road_42 ?_
      refine g_lret dX9_road_43 ?_
      unfold mf_road; split <;> first | exact ⟨rfl, rfl⟩ | (exfalso; simp_all; done)
    · skip
      refine g_if_ne 27 dX9_road_16 (by decide) (fun h9 => absurd h9 (by decide)) (fun _ => ?_)
      refine g_aload_n (i := 0) dX9_road_19 rfl rfl ?_
      refine g_ldc2 (-1000000000001) (List.mem_of_getElem? (i := 1) rfl) dX9_road_20 ?_
      refine g_callVf 1 0 gX9_road_X9_finding rfl rfl rfl ⟨Nat.le_of_ble_eq_true rfl, Nat.le_of_ble_eq_true rfl⟩ ⟨Nat.le_of_ble_eq_true rfl, Nat.le_of_ble_eq_true rfl⟩ (by exact Nat.le_of_ble_eq_true rfl) (by decide +kernel) rfl rfl rfl dX9_road_23 (M_finding _ D cy a _ _ (by unfold vp_in; decide)) rfl (fun vu_6 wu_6 hu_6 => ?_)
      obtain ⟨rfl, rfl⟩ := hu_6
      refine g_lret dX9_road_26 ?_
      unfold mf_road; split <;> first | exact ⟨rfl, rfl⟩ | (exfalso; simp_all; done)
  · skip
    refine g_if_eq 19 dX9_road_6 (by decide) (fun _ => ?_) (fun h9 => absurd h9 (by decide))
    refine g_aload_n (i := 0) dX9_road_19 rfl rfl ?_
    refine g_ldc2 (-1000000000001) (List.mem_of_getElem? (i := 1) rfl) dX9_road_20 ?_
    refine g_callVf 1 0 gX9_road_X9_finding rfl rfl rfl ⟨Nat.le_of_ble_eq_true rfl, Nat.le_of_ble_eq_true rfl⟩ ⟨Nat.le_of_ble_eq_true rfl, Nat.le_of_ble_eq_true rfl⟩ (by exact Nat.le_of_ble_eq_true rfl) (by decide +kernel) rfl rfl rfl dX9_road_23 (M_finding _ D cy a _ _ (by unfold vp_in; decide)) rfl (fun vu_8 wu_8 hu_8 => ?_)
    obtain ⟨rfl, rfl⟩ := hu_8
    refine g_lret dX9_road_26 ?_
    unfold mf_road; split <;> first | exact ⟨rfl, rfl⟩ | (exfalso; simp_all; done)

def mf_seat (S : MS) (h t : Int32) : Int64 × MS := if (0 ≤ h ∧ h ≤ 9) ∧ (0 ≤ t ∧ t ≤ 4) then ((S.2.2.1 3 h.toNatClampNeg).toInt64, sA S 3 h.toNatClampNeg t) else mf_finding S (-1000000000001)
set_option maxHeartbeats 4000000 in
set_option maxRecDepth 100000 in
/-- seat -/
theorem M_seat (l : Launch) (D : va_G) (cy : Nat → ClassId) (a : Nat → Nat) (S : MS) (h t : Int32) : Ct l D clx (tyx cy) yX9_seat wsX9_seat (rmD 2) 0 0 [.ref (a 0), .int h, .int t] (MW cy a S) (fun r9 w9 => r9 = some (.long (mf_seat S h t).1) ∧ w9 = MW cy a (mf_seat S h t).2) := by
  refine g_start (cc := cX9_seat) (maxL := 4) (ret := (some .long)) (by decide) rfl (Nat.le_of_ble_eq_true rfl) (fun v w1 h => by obtain ⟨rfl, -⟩ := h; exact rfl) (fun Γ hlΓ => ?_)
  subst hlΓ
  refine g_iload_n (i := 1) dX9_seat_0 rfl rfl ?_
  refine g_callSf 1 gX9_seat_X9_isHouse rfl rfl rfl ⟨Nat.le_of_ble_eq_true rfl, Nat.le_of_ble_eq_true rfl⟩ ⟨Nat.le_of_ble_eq_true rfl, Nat.le_of_ble_eq_true rfl⟩ (by exact Nat.le_of_ble_eq_true rfl) (by decide +kernel) rfl dX9_seat_1 (M_isHouse _ D cy a _ _) rfl (fun vu_1 wu_1 hu_1 => ?_)
  rcases hu_1 with ⟨rfl, hu_1, rfl⟩ | ⟨rfl, hu_1, rfl⟩
  · skip
    refine g_if_eq 14 dX9_seat_4 (by decide) (fun h9 => absurd h9 (by decide)) (fun _ => ?_)
    refine g_iload_n (i := 2) dX9_seat_7 rfl rfl ?_
    refine g_callSf 1 gX9_seat_X9_isTown rfl rfl rfl ⟨Nat.le_of_ble_eq_true rfl, Nat.le_of_ble_eq_true rfl⟩ ⟨Nat.le_of_ble_eq_true rfl, Nat.le_of_ble_eq_true rfl⟩ (by exact Nat.le_of_ble_eq_true rfl) (by decide +kernel) rfl dX9_seat_8 (M_isTown _ D cy a _ _) rfl (fun vu_3 wu_3 hu_3 => ?_)
    rcases hu_3 with ⟨rfl, hu_3, rfl⟩ | ⟨rfl, hu_3, rfl⟩
    · skip
      refine g_if_ne 22 dX9_seat_11 (by decide) (fun _ => ?_) (fun h9 => absurd h9 (by decide))
      refine g_aload_n (i := 0) dX9_seat_22 rfl rfl ?_
      refine m_get 3 dX9_seat_23 (List.mem_of_getElem? (i := 2) rfl) (fun w h => List.mem_cons_of_mem _ (List.mem_append_right _ h)) (by decide) rfl ?_
      refine g_iload_n (i := 1) dX9_seat_26 rfl rfl ?_
      refine m_iald 3 2 10 dX9_seat_27 rfl (vpi10 (by assumption)) ?_
      refine g_istore_n (i := 3) dX9_seat_28 rfl (by decide) ?_
      refine g_aload_n (i := 0) dX9_seat_29 rfl rfl ?_
      refine m_get 3 dX9_seat_30 (List.mem_of_getElem? (i := 2) rfl) (fun w h => List.mem_cons_of_mem _ (List.mem_append_right _ h)) (by decide) rfl ?_
      refine g_iload_n (i := 1) dX9_seat_33 rfl rfl ?_
      refine g_iload_n (i := 2) dX9_seat_34 rfl rfl ?_
      refine m_iast 3 2 10 dX9_seat_35 rfl (vpi10 (by assumption)) (wsA_3 _ _ _ _ _) ?_
      refine g_iload_n (i := 3) dX9_seat_36 rfl rfl ?_
      refine g_i2l dX9_seat_37 ?_
      refine g_lret dX9_seat_38 ?_
      unfold mf_seat; split <;> first | exact ⟨rfl, rfl⟩ | (exfalso; simp_all; done)
    · skip
      refine g_if_ne 22 dX9_seat_11 (by decide) (fun h9 => absurd h9 (by decide)) (fun _ => ?_)
      refine g_aload_n (i := 0) dX9_seat_14 rfl rfl ?_
      refine g_ldc2 (-1000000000001) (List.mem_of_getElem? (i := 1) rfl) dX9_seat_15 ?_
      refine g_callVf 1 0 gX9_seat_X9_finding rfl rfl rfl ⟨Nat.le_of_ble_eq_true rfl, Nat.le_of_ble_eq_true rfl⟩ ⟨Nat.le_of_ble_eq_true rfl, Nat.le_of_ble_eq_true rfl⟩ (by exact Nat.le_of_ble_eq_true rfl) (by decide +kernel) rfl rfl rfl dX9_seat_18 (M_finding _ D cy a _ _ (by unfold vp_in; decide)) rfl (fun vu_6 wu_6 hu_6 => ?_)
      obtain ⟨rfl, rfl⟩ := hu_6
      refine g_lret dX9_seat_21 ?_
      unfold mf_seat; split <;> first | exact ⟨rfl, rfl⟩ | (exfalso; simp_all; done)
  · skip
    refine g_if_eq 14 dX9_seat_4 (by decide) (fun _ => ?_) (fun h9 => absurd h9 (by decide))
    refine g_aload_n (i := 0) dX9_seat_14 rfl rfl ?_
    refine g_ldc2 (-1000000000001) (List.mem_of_getElem? (i := 1) rfl) dX9_seat_15 ?_
    refine g_callVf 1 0 gX9_seat_X9_finding rfl rfl rfl ⟨Nat.le_of_ble_eq_true rfl, Nat.le_of_ble_eq_true rfl⟩ ⟨Nat.le_of_ble_eq_true rfl, Nat.le_of_ble_eq_true rfl⟩ (by exact Nat.le_of_ble_eq_true rfl) (by decide +kernel) rfl rfl rfl dX9_seat_18 (M_finding _ D cy a _ _ (by unfold vp_in; decide)) rfl (fun vu_8 wu_8 hu_8 => ?_)
    obtain ⟨rfl, rfl⟩ := hu_8
    refine g_lret dX9_seat_21 ?_
    unfold mf_seat; split <;> first | exact ⟨rfl, rfl⟩ | (exfalso; simp_all; done)

