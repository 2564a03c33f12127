def bf_become (b : BL) (t d : Int32) : BL := bA (bI b 5 t) 9 t.toNatClampNeg d
set_option maxHeartbeats 4000000 in
set_option maxRecDepth 100000 in
/-- become -/
theorem K_become (l : Launch) (D : va_G) (cy : Nat → ClassId) (a : Nat → Nat) (T : MS) (B : List BL) (b : BL) (bi : Nat) (hb : bi < B.length) (t d : Int32) (ht : vp_in t 5) : Ct l D clx (tyx cy) yX0_become wsX0_become (rmC 0) 0 0 [.ref (b.1 0), .int t, .int d] (CW cy a T (B.set bi b)) (fun r9 w9 => r9 = none ∧ w9 = CW cy a T (B.set bi (bf_become b t d))) := by
  refine g_start (cc := cX0_become) (maxL := 3) (ret := none) (by decide) rfl (Nat.le_of_ble_eq_true rfl) (fun v w1 h => by obtain ⟨rfl, -⟩ := h; exact rfl) (fun Γ hlΓ => ?_)
  subst hlΓ
  refine g_aload_n (i := 0) dX0_become_0 rfl rfl ?_
  refine g_iload_n (i := 1) dX0_become_1 rfl rfl ?_
  refine c_bput 5 dX0_become_2 (List.mem_of_getElem? (i := 1) rfl) (fun w h => List.mem_cons_of_mem _ (List.mem_append_right _ h)) hb (by decide) rfl rfl rfl rfl ?_
  refine g_aload_n (i := 0) dX0_become_5 rfl rfl ?_
  refine c_bget 9 dX0_become_6 (List.mem_of_getElem? (i := 2) rfl) (fun w h => List.mem_cons_of_mem _ (List.mem_append_right _ h)) hb (by decide) rfl ?_
  refine g_iload_n (i := 1) dX0_become_9 rfl rfl ?_
  refine g_iload_n (i := 2) dX0_become_10 rfl rfl ?_
  refine c_bast9 dX0_become_11 hb ht ?_
  refine g_vret dX0_become_12 ?_
  exact ⟨rfl, rfl⟩

set_option maxHeartbeats 4000000 in
set_option maxRecDepth 100000 in
/-- stateDay -/
theorem K_stateDay (l : Launch) (D : va_G) (cy : Nat → ClassId) (a : Nat → Nat) (T : MS) (B : List BL) (b : BL) (bi : Nat) (hb : bi < B.length) (hs : vp_in (b.2.1 5) 5) : Ct l D clx (tyx cy) yX0_stateDay wsX0_stateDay (rmC 0) 0 0 [.ref (b.1 0)] (CW cy a T (B.set bi b)) (fun r9 w9 => r9 = some (.int (b.2.2 9 (b.2.1 5).toNatClampNeg)) ∧ w9 = CW cy a T (B.set bi b)) := by
  refine g_start (cc := cX0_stateDay) (maxL := 1) (ret := (some .int)) (by decide) rfl (Nat.le_of_ble_eq_true rfl) (fun v w1 h => by obtain ⟨rfl, -⟩ := h; exact ⟨.int, rfl, rfl⟩) (fun Γ hlΓ => ?_)
  subst hlΓ
  refine g_aload_n (i := 0) dX0_stateDay_0 rfl rfl ?_
  refine c_bget 9 dX0_stateDay_1 (List.mem_of_getElem? (i := 1) rfl) (fun w h => List.mem_cons_of_mem _ (List.mem_append_right _ h)) hb (by decide) rfl ?_
  refine g_aload_n (i := 0) dX0_stateDay_4 rfl rfl ?_
  refine c_bget 5 dX0_stateDay_5 (List.mem_of_getElem? (i := 2) rfl) (fun w h => List.mem_cons_of_mem _ (List.mem_append_right _ h)) hb (by decide) rfl ?_
  refine c_bald9 dX0_stateDay_8 hb hs ?_
  refine g_iret dX0_stateDay_9 ?_
  exact ⟨rfl, rfl⟩

set_option maxHeartbeats 4000000 in
set_option maxRecDepth 100000 in
/-- daysLate -/
theorem K_daysLate (l : Launch) (D : va_G) (cy : Nat → ClassId) (a : Nat → Nat) (T : MS) (B : List BL) (b : BL) (bi : Nat) (hb : bi < B.length) : Ct l D clx (tyx cy) yX0_daysLate wsX0_daysLate (rmC 0) 0 0 [.ref (b.1 0)] (CW cy a T (B.set bi b)) (fun r9 w9 => r9 = some (.int (b.2.2 9 3 - b.2.2 9 2)) ∧ w9 = CW cy a T (B.set bi b)) := by
  refine g_start (cc := cX0_daysLate) (maxL := 1) (ret := (some .int)) (by decide) rfl (Nat.le_of_ble_eq_true rfl) (fun v w1 h => by obtain ⟨rfl, -⟩ := h; exact ⟨.int, rfl, rfl⟩) (fun Γ hlΓ => ?_)
  subst hlΓ
  refine g_aload_n (i := 0) dX0_daysLate_0 rfl rfl ?_
  refine c_bget 9 dX0_daysLate_1 (List.mem_of_getElem? (i := 1) rfl) (fun w h => List.mem_cons_of_mem _ (List.mem_append_right _ h)) hb (by decide) rfl ?_
  refine g_iconst (3) rfl dX0_daysLate_4 ?_
  refine c_bald9 dX0_daysLate_5 hb (by unfold vp_in; decide) ?_
  refine g_aload_n (i := 0) dX0_daysLate_6 rfl rfl ?_
  refine c_bget 9 dX0_daysLate_7 (List.mem_of_getElem? (i := 1) rfl) (fun w h => List.mem_cons_of_mem _ (List.mem_append_right _ h)) hb (by decide) rfl ?_
  refine g_iconst (2) rfl dX0_daysLate_10 ?_
  refine c_bald9 dX0_daysLate_11 hb (by unfold vp_in; decide) ?_
  refine g_isub dX0_daysLate_12 ?_
  refine g_iret dX0_daysLate_13 ?_
  exact ⟨rfl, rfl⟩

def bfL (b : BL) (d : Int32) : Nat → Int32
  | 0 => -1
  | n + 1 => if ¬ b.2.2 9 (nI n).toNatClampNeg = -1 ∧ b.2.2 9 (nI n).toNatClampNeg ≤ d then nI n else bfL b d n
theorem bfL0 {b : BL} {d X : Int32} {n : Nat} (h : ¬ (¬ b.2.2 9 (nI n).toNatClampNeg = -1 ∧ b.2.2 9 (nI n).toNatClampNeg ≤ d)) (e : bfL b d (n + 1) = X) : bfL b d n = X := (if_neg h).symm.trans e
theorem bfL1 {b : BL} {d X : Int32} {n : Nat} (h : ¬ b.2.2 9 (nI n).toNatClampNeg = -1 ∧ b.2.2 9 (nI n).toNatClampNeg ≤ d) (e : bfL b d (n + 1) = X) : nI n = X := (if_pos h).symm.trans e
theorem nIp1 (m : Nat) : nI (m + 1) - 1 = nI m := by rw [← nI_1]; exact Int32.add_sub_cancel _ _
theorem nI_nneg {m : Nat} (h : m < 2 ^ 31) : ¬ nI m < 0 := by
  rw [Int32.lt_iff_toInt_lt, nI_toInt h]
  have : (0 : Int32).toInt = 0 := by decide
  omega

set_option maxHeartbeats 4000000 in
set_option maxRecDepth 100000 in
/-- latestStateBy -/
theorem K_latest (l : Launch) (D : va_G) (cy : Nat → ClassId) (a : Nat → Nat) (T : MS) (B : List BL) (b : BL) (bi : Nat) (hb : bi < B.length) (d : Int32) : Ct l D clx (tyx cy) yX0_latestStateBy wsX0_latestStateBy (rmC 0) 0 0 [.ref (b.1 0), .int d] (CW cy a T (B.set bi b)) (fun r9 w9 => r9 = some (.int (bfL b d 5)) ∧ w9 = CW cy a T (B.set bi b)) := by
  refine g_start (cc := cX0_latestStateBy) (maxL := 3) (ret := (some .int)) (by decide) rfl (Nat.le_of_ble_eq_true rfl) (fun v w1 h => by obtain ⟨rfl, -⟩ := h; exact ⟨.int, rfl, rfl⟩) (fun Γ hlΓ => ?_)
  subst hlΓ
  refine g_iconst (4) rfl dX0_latestStateBy_0 ?_
  refine g_istore_n (i := 2) dX0_latestStateBy_1 rfl (by decide) ?_
  refine g_whl (σ := Nat) (fun n => n) (fun n => n ≤ 5 ∧ bfL b d n = bfL b d 5) (fun n => CW cy a T (B.set bi b)) (fun n => [(0, .ref (b.1 0)), (1, .int d), (2, .int (nI n - 1))]) 5 ⟨Nat.le_refl 5, rfl⟩ rfl ⟨rfl, rfl, rfl, trivial⟩ (fun n gx ih => ?_)
  obtain ⟨hn5, gx⟩ := gx
  rcases n with _ | m
  · skip
    refine g_iload_n (i := 2) dX0_latestStateBy_2 rfl rfl ?_
    refine g_if_lt 34 dX0_latestStateBy_3 (by decide) (fun _ => ?_) (fun h9 => absurd h9 (by decide))
    refine g_iconst (-1) rfl dX0_latestStateBy_34 ?_
    refine g_iret dX0_latestStateBy_35 ?_
    exact ⟨congrArg (fun z => some (Value.int z)) gx, rfl⟩
  · refine g_nrm [(0, .ref (b.1 0)), (1, .int d), (2, .int (nI m))] ⟨rfl, rfl, congrArg (fun z => some (Value.int z)) (nIp1 m), trivial⟩ ?_
    refine g_iload_n (i := 2) dX0_latestStateBy_2 rfl rfl ?_
    refine g_if_lt 34 dX0_latestStateBy_3 (by decide) (fun c_3 => ?_) (fun c_3 => ?_)
    · skip
      exact absurd c_3 (nI_nneg (by omega))
    · skip
      refine g_aload_n (i := 0) dX0_latestStateBy_6 rfl rfl ?_
      refine c_bget 9 dX0_latestStateBy_7 (List.mem_of_getElem? (i := 1) rfl) (fun w h => List.mem_cons_of_mem _ (List.mem_append_right _ h)) hb (by decide) rfl ?_
      refine g_iload_n (i := 2) dX0_latestStateBy_10 rfl rfl ?_
      refine c_bald9 dX0_latestStateBy_11 hb (vp_in_nI (by omega) (by decide)) ?_
      refine g_iconst (-1) rfl dX0_latestStateBy_12 ?_
      refine g_icmp_eq 28 dX0_latestStateBy_13 (by decide) (fun c_4 => ?_) (fun c_4 => ?_)
      · skip
        refine g_iinc (-1) dX0_latestStateBy_28 rfl rfl (by decide) ?_
        refine g_goto 2 dX0_latestStateBy_31 (by decide) ?_
        exact g_to _ _ (ih m ⟨by omega, bfL0 (by first | exact fun h => h.1 (by assumption) | exact fun h => absurd h.2 (Int32.not_le.mpr (by assumption))) gx⟩ (Nat.lt_succ_self m)) rfl ⟨rfl, rfl, (by rw [Int32.sub_eq_add_neg]; rfl), trivial⟩
      · skip
        refine g_aload_n (i := 0) dX0_latestStateBy_16 rfl rfl ?_
        refine c_bget 9 dX0_latestStateBy_17 (List.mem_of_getElem? (i := 1) rfl) (fun w h => List.mem_cons_of_mem _ (List.mem_append_right _ h)) hb (by decide) rfl ?_
        refine g_iload_n (i := 2) dX0_latestStateBy_20 rfl rfl ?_
        refine c_bald9 dX0_latestStateBy_21 hb (vp_in_nI (by omega) (by decide)) ?_
        refine g_iload_n (i := 1) dX0_latestStateBy_22 rfl rfl ?_
        refine g_icmp_gt 28 dX0_latestStateBy_23 (by decide) (fun c_5 => ?_) (fun c_5 => ?_)
        · skip
          refine g_iinc (-1) dX0_latestStateBy_28 rfl rfl (by decide) ?_
          refine g_goto 2 dX0_latestStateBy_31 (by decide) ?_
          exact g_to _ _ (ih m ⟨by omega, bfL0 (by first | exact fun h => h.1 (by assumption) | exact fun h => absurd h.2 (Int32.not_le.mpr (by assumption))) gx⟩ (Nat.lt_succ_self m)) rfl ⟨rfl, rfl, (by rw [Int32.sub_eq_add_neg]; rfl), trivial⟩
        · skip
          refine g_iload_n (i := 2) dX0_latestStateBy_26 rfl rfl ?_
          refine g_iret dX0_latestStateBy_27 ?_
          exact ⟨congrArg (fun z => some (Value.int z)) (bfL1 ⟨by assumption, Int32.not_lt.mp (by assumption)⟩ gx), rfl⟩

set_option maxHeartbeats 4000000 in
set_option maxRecDepth 100000 in
/-- hasEndorser -/
theorem K_hasEndorser (l : Launch) (D : va_G) (cy : Nat → ClassId) (a : Nat → Nat) (T : MS) (B : List BL) (b : BL) (bi : Nat) (hb : bi < B.length) (i : Int32) : Ct l D clx (tyx cy) yX0_hasEndorser wsX0_hasEndorser (rmC 0) 0 0 [.ref (b.1 0), .int i] (CW cy a T (B.set bi b)) (fun r9 w9 => (r9 = some (.int 1) ∧ (0 ≤ i ∧ i < b.2.1 6) ∧ w9 = CW cy a T (B.set bi b)) ∨ (r9 = some (.int 0) ∧ ¬ (0 ≤ i ∧ i < b.2.1 6) ∧ w9 = CW cy a T (B.set bi b))) := by
  refine g_start (cc := cX0_hasEndorser) (maxL := 2) (ret := (some .boolean)) (by decide) rfl (Nat.le_of_ble_eq_true rfl) (fun v w1 h => by rcases h with ⟨rfl, -, -⟩ | ⟨rfl, -, -⟩ <;> exact ⟨.boolean, rfl, rfl⟩) (fun Γ hlΓ => ?_)
  subst hlΓ
  refine g_iload_n (i := 1) dX0_hasEndorser_0 rfl rfl ?_
  refine g_if_lt 16 dX0_hasEndorser_1 (by decide) (fun c_1 => ?_) (fun c_1 => ?_)
  · skip
    refine g_iconst (0) rfl dX0_hasEndorser_16 ?_
    refine g_iret dX0_hasEndorser_17 ?_
    first | exact Or.inl ⟨rfl, ⟨Int32.not_lt.mp c_1, Int32.not_le.mp c_2⟩, rfl⟩ | exact Or.inr ⟨rfl, fun h => absurd h.1 (Int32.not_le.mpr c_1), rfl⟩ | exact Or.inr ⟨rfl, fun h => absurd c_2 (Int32.not_le.mpr h.2), rfl⟩
  · skip
    refine g_iload_n (i := 1) dX0_hasEndorser_4 rfl rfl ?_
    refine g_aload_n (i := 0) dX0_hasEndorser_5 rfl rfl ?_
    refine c_bget 6 dX0_hasEndorser_6 (List.mem_of_getElem? (i := 1) rfl) (fun w h => List.mem_cons_of_mem _ (List.mem_append_right _ h)) hb (by decide) rfl ?_
    refine g_icmp_ge 16 dX0_hasEndorser_9 (by decide) (fun c_2 => ?_) (fun c_2 => ?_)
    · skip
      refine g_iconst (0) rfl dX0_hasEndorser_16 ?_
      refine g_iret dX0_hasEndorser_17 ?_
      first | exact Or.inl ⟨rfl, ⟨Int32.not_lt.mp c_1, Int32.not_le.mp c_2⟩, rfl⟩ | exact Or.inr ⟨rfl, fun h => absurd h.1 (Int32.not_le.mpr c_1), rfl⟩ | exact Or.inr ⟨rfl, fun h => absurd c_2 (Int32.not_le.mpr h.2), rfl⟩
    · skip
      refine g_iconst (1) rfl dX0_hasEndorser_12 ?_
      refine g_goto 17 dX0_hasEndorser_13 (by decide) ?_
      refine g_iret dX0_hasEndorser_17 ?_
      first | exact Or.inl ⟨rfl, ⟨Int32.not_lt.mp c_1, Int32.not_le.mp c_2⟩, rfl⟩ | exact Or.inr ⟨rfl, fun h => absurd h.1 (Int32.not_le.mpr c_1), rfl⟩ | exact Or.inr ⟨rfl, fun h => absurd c_2 (Int32.not_le.mpr h.2), rfl⟩

def bf_end (b : BL) (i : Int32) : Int32 := if 0 ≤ i ∧ i ≤ 3 then b.2.2 8 i.toNatClampNeg else -1
theorem vpi4' {i : Int32} (h : 0 ≤ i ∧ i ≤ 3) : vp_in i 4 := vpi h.1 h.2 (by decide)
set_option maxHeartbeats 4000000 in
set_option maxRecDepth 100000 in
/-- endorserAt -/
theorem K_endorserAt (l : Launch) (D : va_G) (cy : Nat → ClassId) (a : Nat → Nat) (T : MS) (B : List BL) (b : BL) (bi : Nat) (hb : bi < B.length) (i : Int32) : Ct l D clx (tyx cy) yX0_endorserAt wsX0_endorserAt (rmC 0) 0 0 [.ref (b.1 0), .int i] (CW cy a T (B.set bi b)) (fun r9 w9 => r9 = some (.int (bf_end b i)) ∧ w9 = CW cy a T (B.set bi b)) := by
  refine g_start (cc := cX0_endorserAt) (maxL := 2) (ret := (some .int)) (by decide) rfl (Nat.le_of_ble_eq_true rfl) (fun v w1 h => by obtain ⟨rfl, -⟩ := h; exact ⟨.int, rfl, rfl⟩) (fun Γ hlΓ => ?_)
  subst hlΓ
  refine g_iload_n (i := 1) dX0_endorserAt_0 rfl rfl ?_
  refine g_if_lt 18 dX0_endorserAt_1 (by decide) (fun c_1 => ?_) (fun c_1 => ?_)
  · skip
    refine g_iconst (-1) rfl dX0_endorserAt_18 ?_
    refine g_iret dX0_endorserAt_19 ?_
    unfold bf_end; first | (rw [if_pos (rg_in 3 4 (by decide) c_1 c_2)]; exact ⟨rfl, rfl⟩) | (rw [if_neg (rg_o1 c_1)]; exact ⟨rfl, rfl⟩) | (rw [if_neg (rg_o2 3 4 (by decide) c_2)]; exact ⟨rfl, rfl⟩)
  · skip
    refine g_iload_n (i := 1) dX0_endorserAt_4 rfl rfl ?_
    refine g_iconst (4) rfl dX0_endorserAt_5 ?_
    refine g_icmp_ge 18 dX0_endorserAt_6 (by decide) (fun c_2 => ?_) (fun c_2 => ?_)
    · skip
      refine g_iconst (-1) rfl dX0_endorserAt_18 ?_
      refine g_iret dX0_endorserAt_19 ?_
      unfold bf_end; first | (rw [if_pos (rg_in 3 4 (by decide) c_1 c_2)]; exact ⟨rfl, rfl⟩) | (rw [if_neg (rg_o1 c_1)]; exact ⟨rfl, rfl⟩) | (rw [if_neg (rg_o2 3 4 (by decide) c_2)]; exact ⟨rfl, rfl⟩)
    · skip
      refine g_aload_n (i := 0) dX0_endorserAt_9 rfl rfl ?_
      refine c_bget 8 dX0_endorserAt_10 (List.mem_of_getElem? (i := 1) rfl) (fun w h => List.mem_cons_of_mem _ (List.mem_append_right _ h)) hb (by decide) rfl ?_
      refine g_iload_n (i := 1) dX0_endorserAt_13 rfl rfl ?_
      refine c_bald8 dX0_endorserAt_14 hb (vpi4' (rg_in 3 4 (by decide) c_1 c_2)) ?_
      refine g_goto 19 dX0_endorserAt_15 (by decide) ?_
      refine g_iret dX0_endorserAt_19 ?_
      unfold bf_end; first | (rw [if_pos (rg_in 3 4 (by decide) c_1 c_2)]; exact ⟨rfl, rfl⟩) | (rw [if_neg (rg_o1 c_1)]; exact ⟨rfl, rfl⟩) | (rw [if_neg (rg_o2 3 4 (by decide) c_2)]; exact ⟨rfl, rfl⟩)

set_option maxHeartbeats 4000000 in
set_option maxRecDepth 100000 in
/-- hasRoomToPass -/
theorem K_hasRoom (l : Launch) (D : va_G) (cy : Nat → ClassId) (a : Nat → Nat) (T : MS) (B : List BL) (b : BL) (bi : Nat) (hb : bi < B.length) : Ct l D clx (tyx cy) yX0_hasRoomToPass wsX0_hasRoomToPass (rmC 0) 0 0 [.ref (b.1 0)] (CW cy a T (B.set bi b)) (fun r9 w9 => (r9 = some (.int 1) ∧ (b.2.1 0 = 1 ∨ b.2.1 6 < 4) ∧ w9 = CW cy a T (B.set bi b)) ∨ (r9 = some (.int 0) ∧ ¬ (b.2.1 0 = 1 ∨ b.2.1 6 < 4) ∧ w9 = CW cy a T (B.set bi b))) := by
  refine g_start (cc := cX0_hasRoomToPass) (maxL := 1) (ret := (some .boolean)) (by decide) rfl (Nat.le_of_ble_eq_true rfl) (fun v w1 h => by rcases h with ⟨rfl, -, -⟩ | ⟨rfl, -, -⟩ <;> exact ⟨.boolean, rfl, rfl⟩) (fun Γ hlΓ => ?_)
  subst hlΓ
  refine g_aload_n (i := 0) dX0_hasRoomToPass_0 rfl rfl ?_
  refine c_bget 0 dX0_hasRoomToPass_1 (List.mem_of_getElem? (i := 1) rfl) (fun w h => List.mem_cons_of_mem _ (List.mem_append_right _ h)) hb (by decide) rfl ?_
  refine g_iconst (1) rfl dX0_hasRoomToPass_4 ?_
  refine g_icmp_eq 16 dX0_hasRoomToPass_5 (by decide) (fun c_1 => ?_) (fun c_1 => ?_)
  · skip
    refine g_iconst (1) rfl dX0_hasRoomToPass_16 ?_
    refine g_goto 21 dX0_hasRoomToPass_17 (by decide) ?_
    refine g_iret dX0_hasRoomToPass_21 ?_
    first | exact Or.inl ⟨rfl, Or.inl c_1, rfl⟩ | exact Or.inl ⟨rfl, Or.inr (Int32.not_le.mp c_2), rfl⟩ | exact Or.inr ⟨rfl, fun h => h.elim c_1 (fun h => absurd c_2 (Int32.not_le.mpr h)), rfl⟩
  · skip
    refine g_aload_n (i := 0) dX0_hasRoomToPass_8 rfl rfl ?_
    refine c_bget 6 dX0_hasRoomToPass_9 (List.mem_of_getElem? (i := 2) rfl) (fun w h => List.mem_cons_of_mem _ (List.mem_append_right _ h)) hb (by decide) rfl ?_
    refine g_iconst (4) rfl dX0_hasRoomToPass_12 ?_
    refine g_icmp_ge 20 dX0_hasRoomToPass_13 (by decide) (fun c_2 => ?_) (fun c_2 => ?_)
    · skip
      refine g_iconst (0) rfl dX0_hasRoomToPass_20 ?_
      refine g_iret dX0_hasRoomToPass_21 ?_
      first | exact Or.inl ⟨rfl, Or.inl c_1, rfl⟩ | exact Or.inl ⟨rfl, Or.inr (Int32.not_le.mp c_2), rfl⟩ | exact Or.inr ⟨rfl, fun h => h.elim c_1 (fun h => absurd c_2 (Int32.not_le.mpr h)), rfl⟩
    · skip
      refine g_iconst (1) rfl dX0_hasRoomToPass_16 ?_
      refine g_goto 21 dX0_hasRoomToPass_17 (by decide) ?_
      refine g_iret dX0_hasRoomToPass_21 ?_
      first | exact Or.inl ⟨rfl, Or.inl c_1, rfl⟩ | exact Or.inl ⟨rfl, Or.inr (Int32.not_le.mp c_2), rfl⟩ | exact Or.inr ⟨rfl, fun h => h.elim c_1 (fun h => absurd c_2 (Int32.not_le.mpr h)), rfl⟩

def bf_move0 (b : BL) (h : Int32) : BL := if ¬ b.2.1 0 = 1 ∧ b.2.1 6 < 4 then bI (bI (bA b 8 (b.2.1 6).toNatClampNeg (b.2.1 4)) 6 (b.2.1 6 + 1)) 4 h else bI b 4 h
def bf_move (b : BL) (h : Int32) : BL := (b.1, (bf_move0 b h).2)
theorem vpe4 {x : Int32} (h0 : 0 ≤ x) (h1 : ¬ 4 ≤ x) : vp_in x 4 := vpi4' (rg_in 3 4 (by decide) (Int32.not_lt.mpr h0) h1)
set_option maxHeartbeats 4000000 in
set_option maxRecDepth 100000 in
/-- moveTo -/
theorem K_moveTo (l : Launch) (D : va_G) (cy : Nat → ClassId) (a : Nat → Nat) (T : MS) (B : List BL) (b : BL) (bi : Nat) (hb : bi < B.length) (h : Int32) (he : 0 ≤ b.2.1 6) : Ct l D clx (tyx cy) yX0_moveTo wsX0_moveTo (rmC 0) 0 0 [.ref (b.1 0), .int h] (CW cy a T (B.set bi b)) (fun r9 w9 => r9 = none ∧ w9 = CW cy a T (B.set bi (bf_move b h))) := by
  refine g_start (cc := cX0_moveTo) (maxL := 2) (ret := none) (by decide) rfl (Nat.le_of_ble_eq_true rfl) (fun v w1 h => by obtain ⟨rfl, -⟩ := h; exact rfl) (fun Γ hlΓ => ?_)
  subst hlΓ
  refine g_aload_n (i := 0) dX0_moveTo_0 rfl rfl ?_
  refine c_bget 0 dX0_moveTo_1 (List.mem_of_getElem? (i := 1) rfl) (fun w h => List.mem_cons_of_mem _ (List.mem_append_right _ h)) hb (by decide) rfl ?_
  refine g_iconst (1) rfl dX0_moveTo_4 ?_
  refine g_icmp_eq 39 dX0_moveTo_5 (by decide) (fun c_1 => ?_) (fun c_1 => ?_)
  · skip
    refine g_aload_n (i := 0) dX0_moveTo_39 rfl rfl ?_
    refine g_iload_n (i := 1) dX0_moveTo_40 rfl rfl ?_
    refine c_bput 4 dX0_moveTo_41 (List.mem_of_getElem? (i := 4) rfl) (fun w h => List.mem_cons_of_mem _ (List.mem_append_right _ h)) hb (by decide) rfl rfl rfl rfl ?_
    refine g_vret dX0_moveTo_44 ?_
    unfold bf_move bf_move0; first | (rw [if_pos ⟨c_1, Int32.not_le.mp c_2⟩]; exact ⟨rfl, rfl⟩) | (rw [if_neg (by intro h9; exact h9.1 c_1)]; exact ⟨rfl, rfl⟩) | (rw [if_neg (by intro h9; exact absurd c_2 (Int32.not_le.mpr h9.2))]; exact ⟨rfl, rfl⟩)
  · skip
    refine g_aload_n (i := 0) dX0_moveTo_8 rfl rfl ?_
    refine c_bget 6 dX0_moveTo_9 (List.mem_of_getElem? (i := 2) rfl) (fun w h => List.mem_cons_of_mem _ (List.mem_append_right _ h)) hb (by decide) rfl ?_
    refine g_iconst (4) rfl dX0_moveTo_12 ?_
    refine g_icmp_ge 39 dX0_moveTo_13 (by decide) (fun c_2 => ?_) (fun c_2 => ?_)
    · skip
      refine g_aload_n (i := 0) dX0_moveTo_39 rfl rfl ?_
      refine g_iload_n (i := 1) dX0_moveTo_40 rfl rfl ?_
      refine c_bput 4 dX0_moveTo_41 (List.mem_of_getElem? (i := 4) rfl) (fun w h => List.mem_cons_of_mem _ (List.mem_append_right _ h)) hb (by decide) rfl rfl rfl rfl ?_
      refine g_vret dX0_moveTo_44 ?_
      unfold bf_move bf_move0; first | (rw [if_pos ⟨c_1, Int32.not_le.mp c_2⟩]; exact ⟨rfl, rfl⟩) | (rw [if_neg (by intro h9; exact h9.1 c_1)]; exact ⟨rfl, rfl⟩) | (rw [if_neg (by intro h9; exact absurd c_2 (Int32.not_le.mpr h9.2))]; exact ⟨rfl, rfl⟩)
    · skip
      refine g_aload_n (i := 0) dX0_moveTo_16 rfl rfl ?_
      refine c_bget 8 dX0_moveTo_17 (List.mem_of_getElem? (i := 3) rfl) (fun w h => List.mem_cons_of_mem _ (List.mem_append_right _ h)) hb (by decide) rfl ?_
      refine g_aload_n (i := 0) dX0_moveTo_20 rfl rfl ?_
      refine c_bget 6 dX0_moveTo_21 (List.mem_of_getElem? (i := 2) rfl) (fun w h => List.mem_cons_of_mem _ (List.mem_append_right _ h)) hb (by decide) rfl ?_
      refine g_aload_n (i := 0) dX0_moveTo_24 rfl rfl ?_
      refine c_bget 4 dX0_moveTo_25 (List.mem_of_getElem? (i := 4) rfl) (fun w h => List.mem_cons_of_mem _ (List.mem_append_right _ h)) hb (by decide) rfl ?_
      refine c_bast8 dX0_moveTo_28 hb (vpe4 he c_2) ?_
      refine g_aload_n (i := 0) dX0_moveTo_29 rfl rfl ?_
      refine g_dup rfl dX0_moveTo_30 ?_
      refine c_bget 6 dX0_moveTo_31 (List.mem_of_getElem? (i := 2) rfl) (fun w h => List.mem_cons_of_mem _ (List.mem_append_right _ h)) hb (by decide) rfl ?_
      refine g_iconst (1) rfl dX0_moveTo_34 ?_
      refine g_iadd dX0_moveTo_35 ?_
      refine c_bput 6 dX0_moveTo_36 (List.mem_of_getElem? (i := 2) rfl) (fun w h => List.mem_cons_of_mem _ (List.mem_append_right _ h)) hb (by decide) rfl rfl rfl rfl ?_
      refine g_aload_n (i := 0) dX0_moveTo_39 rfl rfl ?_
      refine g_iload_n (i := 1) dX0_moveTo_40 rfl rfl ?_
      refine c_bput 4 dX0_moveTo_41 (List.mem_of_getElem? (i := 4) rfl) (fun w h => List.mem_cons_of_mem _ (List.mem_append_right _ h)) hb (by decide) rfl rfl rfl rfl ?_
      refine g_vret dX0_moveTo_44 ?_
      unfold bf_move bf_move0; first | (rw [if_pos ⟨c_1, Int32.not_le.mp c_2⟩]; exact ⟨rfl, rfl⟩) | (rw [if_neg (by intro h9; exact h9.1 c_1)]; exact ⟨rfl, rfl⟩) | (rw [if_neg (by intro h9; exact absurd c_2 (Int32.not_le.mpr h9.2))]; exact ⟨rfl, rfl⟩)

def bf_ret0 (b : BL) (i : Int32) : BL := if 0 ≤ i ∧ i < b.2.1 6 then bI (bI b 4 (b.2.2 8 i.toNatClampNeg)) 6 i else b
def bf_ret (b : BL) (i : Int32) : BL := (b.1, (bf_ret0 b i).2)
theorem vpr4 {i x : Int32} (h : 0 ≤ i ∧ i < x) (h4 : x ≤ 4) : vp_in i 4 := vpi4' ⟨h.1, by
  have h1 := h.2
  rw [Int32.lt_iff_toInt_lt] at h1
  rw [Int32.le_iff_toInt_le] at h4 ⊢
  have e4 : (4 : Int32).toInt = 4 := by decide
  have e3 : (3 : Int32).toInt = 3 := by decide
  omega⟩
set_option maxHeartbeats 4000000 in
set_option maxRecDepth 100000 in
/-- returnTo -/
theorem K_returnTo (l : Launch) (D : va_G) (cy : Nat → ClassId) (a : Nat → Nat) (T : MS) (B : List BL) (b : BL) (bi : Nat) (hb : bi < B.length) (i : Int32) (h4 : b.2.1 6 ≤ 4) : Ct l D clx (tyx cy) yX0_returnTo wsX0_returnTo (rmC 1) 0 0 [.ref (b.1 0), .int i] (CW cy a T (B.set bi b)) (fun r9 w9 => r9 = none ∧ w9 = CW cy a T (B.set bi (bf_ret b i))) := by
  refine g_start (cc := cX0_returnTo) (maxL := 2) (ret := none) (by decide) rfl (Nat.le_of_ble_eq_true rfl) (fun v w1 h => by obtain ⟨rfl, -⟩ := h; exact rfl) (fun Γ hlΓ => ?_)
  subst hlΓ
  refine g_aload_n (i := 0) dX0_returnTo_0 rfl rfl ?_
  refine g_iload_n (i := 1) dX0_returnTo_1 rfl rfl ?_
  refine g_callVf 1 (71 + (3 * _ + 0)) gX0_returnTo_X0_hasEndorser rfl rfl rfl ⟨Nat.le_of_ble_eq_true rfl, Nat.le_of_ble_eq_true rfl⟩ ⟨Nat.le_of_ble_eq_true rfl, Nat.le_of_ble_eq_true rfl⟩ (by exact Nat.le_of_ble_eq_true rfl) (by decide +kernel) rfl (cB_get _ 0 (by decide) hb) rfl dX0_returnTo_2 (K_hasEndorser _ D cy a _ _ _ _ hb _) rfl (fun vu_1 wu_1 hu_1 => ?_)
  rcases hu_1 with ⟨rfl, hu_1, rfl⟩ | ⟨rfl, hu_1, rfl⟩
  · skip
    refine g_if_eq 23 dX0_returnTo_5 (by decide) (fun h9 => absurd h9 (by decide)) (fun _ => ?_)
    refine g_aload_n (i := 0) dX0_returnTo_8 rfl rfl ?_
    refine g_aload_n (i := 0) dX0_returnTo_9 rfl rfl ?_
    refine c_bget 8 dX0_returnTo_10 (List.mem_of_getElem? (i := 1) rfl) (fun w h => List.mem_cons_of_mem _ (List.mem_append_right _ h)) hb (by decide) rfl ?_
    refine g_iload_n (i := 1) dX0_returnTo_13 rfl rfl ?_
    refine c_bald8 dX0_returnTo_14 hb (vpr4 (by assumption) h4) ?_
    refine c_bput 4 dX0_returnTo_15 (List.mem_of_getElem? (i := 2) rfl) (fun w h => List.mem_cons_of_mem _ (List.mem_append_right _ h)) hb (by decide) rfl rfl rfl rfl ?_
    refine g_aload_n (i := 0) dX0_returnTo_18 rfl rfl ?_
    refine g_iload_n (i := 1) dX0_returnTo_19 rfl rfl ?_
    refine c_bput 6 dX0_returnTo_20 (List.mem_of_getElem? (i := 3) rfl) (fun w h => List.mem_cons_of_mem _ (List.mem_append_right _ h)) hb (by decide) rfl rfl rfl rfl ?_
    refine g_vret dX0_returnTo_23 ?_
    unfold bf_ret bf_ret0; first | (rw [if_pos (by assumption)]; exact ⟨rfl, rfl⟩) | (rw [if_neg (by assumption)]; exact ⟨rfl, rfl⟩)
  · skip
    refine g_if_eq 23 dX0_returnTo_5 (by decide) (fun _ => ?_) (fun h9 => absurd h9 (by decide))
    refine g_vret dX0_returnTo_23 ?_
    unfold bf_ret bf_ret0; first | (rw [if_pos (by assumption)]; exact ⟨rfl, rfl⟩) | (rw [if_neg (by assumption)]; exact ⟨rfl, rfl⟩)

set_option maxHeartbeats 4000000 in
set_option maxRecDepth 100000 in
/-- pledgedBy -/
theorem K_pledgedBy (l : Launch) (D : va_G) (cy : Nat → ClassId) (a : Nat → Nat) (T : MS) (B : List BL) (b : BL) (bi : Nat) (hb : bi < B.length) (h : Int32) : Ct l D clx (tyx cy) yX0_pledgedBy wsX0_pledgedBy (rmC 0) 0 0 [.ref (b.1 0), .int h] (CW cy a T (B.set bi b)) (fun r9 w9 => (r9 = some (.int 1) ∧ (b.2.1 0 = 2 ∧ ¬ b.2.1 7 = 0 ∧ b.2.1 2 = h) ∧ w9 = CW cy a T (B.set bi b)) ∨ (r9 = some (.int 0) ∧ ¬ (b.2.1 0 = 2 ∧ ¬ b.2.1 7 = 0 ∧ b.2.1 2 = h) ∧ w9 = CW cy a T (B.set bi b))) := by
  refine g_start (cc := cX0_pledgedBy) (maxL := 2) (ret := (some .boolean)) (by decide) rfl (Nat.le_of_ble_eq_true rfl) (fun v w1 h => by rcases h with ⟨rfl, -, -⟩ | ⟨rfl, -, -⟩ <;> exact ⟨.boolean, rfl, rfl⟩) (fun Γ hlΓ => ?_)
  subst hlΓ
  refine g_aload_n (i := 0) dX0_pledgedBy_0 rfl rfl ?_
  refine c_bget 0 dX0_pledgedBy_1 (List.mem_of_getElem? (i := 1) rfl) (fun w h => List.mem_cons_of_mem _ (List.mem_append_right _ h)) hb (by decide) rfl ?_
  refine g_iconst (2) rfl dX0_pledgedBy_4 ?_
  refine g_icmp_ne 27 dX0_pledgedBy_5 (by decide) (fun c_1 => ?_) (fun c_1 => ?_)
  · skip
    refine g_iconst (0) rfl dX0_pledgedBy_27 ?_
    refine g_iret dX0_pledgedBy_28 ?_
    first | exact Or.inl ⟨rfl, by first | (simp_all; done), rfl⟩ | exact Or.inr ⟨rfl, by first | (simp_all; done), rfl⟩
  · skip
    refine g_aload_n (i := 0) dX0_pledgedBy_8 rfl rfl ?_
    refine c_bget 7 dX0_pledgedBy_9 (List.mem_of_getElem? (i := 2) rfl) (fun w h => List.mem_cons_of_mem _ (List.mem_append_right _ h)) hb (by decide) rfl ?_
    refine g_if_eq 27 dX0_pledgedBy_12 (by decide) (fun c_2 => ?_) (fun c_2 => ?_)
    · skip
      refine g_iconst (0) rfl dX0_pledgedBy_27 ?_
      refine g_iret dX0_pledgedBy_28 ?_
      first | exact Or.inl ⟨rfl, by first | (simp_all; done), rfl⟩ | exact Or.inr ⟨rfl, by first | (simp_all; done), rfl⟩
    · skip
      refine g_aload_n (i := 0) dX0_pledgedBy_15 rfl rfl ?_
      refine c_bget 2 dX0_pledgedBy_16 (List.mem_of_getElem? (i := 3) rfl) (fun w h => List.mem_cons_of_mem _ (List.mem_append_right _ h)) hb (by decide) rfl ?_
      refine g_iload_n (i := 1) dX0_pledgedBy_19 rfl rfl ?_
      refine g_icmp_ne 27 dX0_pledgedBy_20 (by decide) (fun c_3 => ?_) (fun c_3 => ?_)
      · skip
        refine g_iconst (0) rfl dX0_pledgedBy_27 ?_
        refine g_iret dX0_pledgedBy_28 ?_
        first | exact Or.inl ⟨rfl, by first | (simp_all; done), rfl⟩ | exact Or.inr ⟨rfl, by first | (simp_all; done), rfl⟩
      · skip
        refine g_iconst (1) rfl dX0_pledgedBy_23 ?_
        refine g_goto 28 dX0_pledgedBy_24 (by decide) ?_
        refine g_iret dX0_pledgedBy_28 ?_
        first | exact Or.inl ⟨rfl, by first | (simp_all; done), rfl⟩ | exact Or.inr ⟨rfl, by first | (simp_all; done), rfl⟩

set_option maxHeartbeats 4000000 in
set_option maxRecDepth 100000 in
/-- mint -/
theorem K_mint (l : Launch) (D : va_G) (cy : Nat → ClassId) (a : Nat → Nat) (T : MS) (B : List BL) (k w f : Int32) (hk : vp_in k 4) : Ct l D clx (tyx cy) yX6_mint wsX6_mint (rmC 0) 0 0 [.ref (a 206), .int k, .int w, .int f] (CW cy a T B) (fun r9 w9 => r9 = none ∧ w9 = CW cy a (sA T 55 k.toNatClampNeg (w * f / 1000)) B) := by
  refine g_start (cc := cX6_mint) (maxL := 4) (ret := none) (by decide) rfl (Nat.le_of_ble_eq_true rfl) (fun v w1 h => by obtain ⟨rfl, -⟩ := h; exact rfl) (fun Γ hlΓ => ?_)
  subst hlΓ
  refine g_aload_n (i := 0) dX6_mint_0 rfl rfl ?_
  refine g_get 29 0 dX6_mint_1 (List.mem_of_getElem? (i := 1) rfl) (fun w h => List.mem_cons_of_mem _ (List.mem_append_right _ h)) (cO_purses _ _ _ _) rfl (by decide) rfl ?_
  refine g_iload_n (i := 1) dX6_mint_4 rfl rfl ?_
  refine g_iload_n (i := 2) dX6_mint_5 rfl rfl ?_
  refine g_iload_n (i := 3) dX6_mint_6 rfl rfl ?_
  refine g_imul dX6_mint_7 ?_
  refine g_sipush (1000) rfl dX6_mint_8 ?_
  refine g_idiv (by decide) dX6_mint_11 ?_
  refine c_ast_55 dX6_mint_12 hk ?_
  refine g_vret dX6_mint_13 ?_
  exact ⟨rfl, rfl⟩

set_option maxHeartbeats 4000000 in
set_option maxRecDepth 100000 in
/-- worth -/
theorem K_worth (l : Launch) (D : va_G) (cy : Nat → ClassId) (a : Nat → Nat) (T : MS) (B : List BL) (k : Int32) (hk : vp_in k 4) : Ct l D clx (tyx cy) yX6_worth wsX6_worth (rmC 0) 0 0 [.ref (a 206), .int k] (CW cy a T B) (fun r9 w9 => r9 = some (.int (T.2.2.1 55 k.toNatClampNeg)) ∧ w9 = CW cy a T B) := by
  refine g_start (cc := cX6_worth) (maxL := 2) (ret := (some .int)) (by decide) rfl (Nat.le_of_ble_eq_true rfl) (fun v w1 h => by obtain ⟨rfl, -⟩ := h; exact ⟨.int, rfl, rfl⟩) (fun Γ hlΓ => ?_)
  subst hlΓ
  refine g_aload_n (i := 0) dX6_worth_0 rfl rfl ?_
  refine g_get 29 0 dX6_worth_1 (List.mem_of_getElem? (i := 1) rfl) (fun w h => List.mem_cons_of_mem _ (List.mem_append_right _ h)) (cO_purses _ _ _ _) rfl (by decide) rfl ?_
  refine g_iload_n (i := 1) dX6_worth_4 rfl rfl ?_
  refine c_ald_55 dX6_worth_5 hk ?_
  refine g_iret dX6_worth_6 ?_
  exact ⟨rfl, rfl⟩

set_option maxHeartbeats 4000000 in
set_option maxRecDepth 100000 in
/-- held -/
theorem K_held (l : Launch) (D : va_G) (cy : Nat → ClassId) (a : Nat → Nat) (T : MS) (B : List BL) (h k : Int32) (hh : vp_in h 10) (hk : vp_in k 4) : Ct l D clx (tyx cy) yX6_held wsX6_held (rmC 0) 0 0 [.ref (a 206), .int h, .int k] (CW cy a T B) (fun r9 w9 => r9 = some (.int (T.2.2.1 (110 + h.toNatClampNeg) k.toNatClampNeg)) ∧ w9 = CW cy a T B) := by
  refine g_start (cc := cX6_held) (maxL := 3) (ret := (some .int)) (by decide) rfl (Nat.le_of_ble_eq_true rfl) (fun v w1 h => by obtain ⟨rfl, -⟩ := h; exact ⟨.int, rfl, rfl⟩) (fun Γ hlΓ => ?_)
  subst hlΓ
  refine g_aload_n (i := 0) dX6_held_0 rfl rfl ?_
  refine g_get 29 1 dX6_held_1 (List.mem_of_getElem? (i := 1) rfl) (fun w h => List.mem_cons_of_mem _ (List.mem_append_right _ h)) (cO_purses _ _ _ _) rfl (by decide) rfl ?_
  refine g_iload_n (i := 1) dX6_held_4 rfl rfl ?_
  refine c_aald_56 dX6_held_5 hh ?_
  refine g_iload_n (i := 2) dX6_held_6 rfl rfl ?_
  refine c_rld_56 dX6_held_7 (vp_nat hh) hk ?_
  refine g_iret dX6_held_8 ?_
  exact ⟨rfl, rfl⟩

set_option maxHeartbeats 4000000 in
set_option maxRecDepth 100000 in
/-- put -/
theorem K_put (l : Launch) (D : va_G) (cy : Nat → ClassId) (a : Nat → Nat) (T : MS) (B : List BL) (h k : Int32) (hh : vp_in h 10) (hk : vp_in k 4) (v : Int32) : Ct l D clx (tyx cy) yX6_put wsX6_put (rmC 0) 0 0 [.ref (a 206), .int h, .int k, .int v] (CW cy a T B) (fun r9 w9 => r9 = none ∧ w9 = CW cy a (sA T (110 + h.toNatClampNeg) k.toNatClampNeg v) B) := by
  refine g_start (cc := cX6_put) (maxL := 4) (ret := none) (by decide) rfl (Nat.le_of_ble_eq_true rfl) (fun v w1 h => by obtain ⟨rfl, -⟩ := h; exact rfl) (fun Γ hlΓ => ?_)
  subst hlΓ
  refine g_aload_n (i := 0) dX6_put_0 rfl rfl ?_
  refine g_get 29 1 dX6_put_1 (List.mem_of_getElem? (i := 1) rfl) (fun w h => List.mem_cons_of_mem _ (List.mem_append_right _ h)) (cO_purses _ _ _ _) rfl (by decide) rfl ?_
  refine g_iload_n (i := 1) dX6_put_4 rfl rfl ?_
  refine c_aald_56 dX6_put_5 hh ?_
  refine g_iload_n (i := 2) dX6_put_6 rfl rfl ?_
  refine g_iload_n (i := 3) dX6_put_7 rfl rfl ?_
  refine c_rst_56 dX6_put_8 (vp_nat hh) hk ?_
  refine g_vret dX6_put_9 ?_
  exact ⟨rfl, rfl⟩

def chasT (T : MS) (h : Int32) : Nat → Int64
  | 0 => 0
  | i + 1 => chasT T h i + (T.2.2.1 (110 + h.toNatClampNeg) i).toInt64 * (T.2.2.1 55 i).toInt64
set_option maxHeartbeats 4000000 in
set_option maxRecDepth 100000 in
/-- wealth -/
theorem K_wealth (l : Launch) (D : va_G) (cy : Nat → ClassId) (a : Nat → Nat) (T : MS) (B : List BL) (h : Int32) (hh : vp_in h 10) : Ct l D clx (tyx cy) yX6_wealth wsX6_wealth (rmC 0) 0 0 [.ref (a 206), .int h] (CW cy a T B) (fun r9 w9 => r9 = some (.long (chasT T h 4)) ∧ w9 = CW cy a T B) := by
  refine g_start (cc := cX6_wealth) (maxL := 5) (ret := (some .long)) (by decide) rfl (Nat.le_of_ble_eq_true rfl) (fun v w1 h => by obtain ⟨rfl, -⟩ := h; exact rfl) (fun Γ hlΓ => ?_)
  subst hlΓ
  refine g_lconst 0 rfl dX6_wealth_0 ?_
  refine g_lstore_n (i := 2) dX6_wealth_1 rfl (by decide) ?_
  refine g_iconst (0) rfl dX6_wealth_2 ?_
  refine g_istore dX6_wealth_3 (by decide) ?_
  refine g_cnt 4 (fun i => True) (fun i => CW cy a T B) (fun i => [(0, .ref (a 206)), (1, .int h), (2, .long (chasT T h i)), (4, .int (nI i))]) 0 (by first | decide | omega) trivial (by rfl) (by refine ⟨rfl, rfl, rfl, rfl, trivial⟩) ?_ (fun i1 hi1 gi1 ihi1 => ?_)
  · intro gNi1
    refine g_iload dX6_wealth_5 rfl ?_
    refine g_iconst (4) rfl dX6_wealth_7 ?_
    refine g_icmp_ge 39 dX6_wealth_8 (by decide) (fun c_2 => ?_) (fun c_2 => ?_)
    · skip
      refine g_lload_n (i := 2) dX6_wealth_39 rfl rfl ?_
      refine g_lret dX6_wealth_40 ?_
      exact ⟨rfl, rfl⟩
    · skip
      exact absurd (nI_le (Nat.le_refl _) (by first | decide | omega)) c_2
  · skip
    refine g_iload dX6_wealth_5 rfl ?_
    refine g_iconst (4) rfl dX6_wealth_7 ?_
    refine g_icmp_ge 39 dX6_wealth_8 (by decide) (fun c_3 => ?_) (fun c_3 => ?_)
    · skip
      exact absurd c_3 (nI_ge hi1 (by first | decide | omega))
    · skip
      refine g_lload_n (i := 2) dX6_wealth_11 rfl rfl ?_
      refine g_aload_n (i := 0) dX6_wealth_12 rfl rfl ?_
      refine g_get 29 1 dX6_wealth_13 (List.mem_of_getElem? (i := 1) rfl) (fun w h => List.mem_cons_of_mem _ (List.mem_append_right _ h)) (cO_purses _ _ _ _) rfl (by decide) rfl ?_
      refine g_iload_n (i := 1) dX6_wealth_16 rfl rfl ?_
      refine c_aald_56 dX6_wealth_17 hh ?_
      refine g_iload dX6_wealth_18 rfl ?_
      refine c_rldN_56 dX6_wealth_20 (vp_nat hh) (by omega) ?_
      refine g_i2l dX6_wealth_21 ?_
      refine g_aload_n (i := 0) dX6_wealth_22 rfl rfl ?_
      refine g_get 29 0 dX6_wealth_23 (List.mem_of_getElem? (i := 2) rfl) (fun w h => List.mem_cons_of_mem _ (List.mem_append_right _ h)) (cO_purses _ _ _ _) rfl (by decide) rfl ?_
      refine g_iload dX6_wealth_26 rfl ?_
      refine c_aldN_55 dX6_wealth_28 (by omega) ?_
      refine g_i2l dX6_wealth_29 ?_
      refine g_lmul dX6_wealth_30 ?_
      refine g_ladd dX6_wealth_31 ?_
      refine g_lstore_n (i := 2) dX6_wealth_32 rfl (by decide) ?_
      refine g_iinc (1) dX6_wealth_33 rfl rfl (by decide) ?_
      refine g_goto 5 dX6_wealth_36 (by decide) ?_
      refine g_to _ _ (ihi1 (trivial)) rfl (by refine ⟨(by first | rfl | (rw [← nI_1]; rfl)), (by first | rfl | (rw [← nI_1]; rfl)), (by first | rfl | (rw [← nI_1]; rfl)), (by first | rfl | (rw [← nI_1]; rfl)), trivial⟩)

set_option maxHeartbeats 4000000 in
set_option maxRecDepth 100000 in
/-- isVote -/
theorem K_isVote (l : Launch) (D : va_G) (cy : Nat → ClassId) (a : Nat → Nat) (T : MS) (B : List BL) (x : Int32) : Ct l D clx (tyx cy) yX7_isVote wsX7_isVote (rmC 0) 0 0 [.int x] (CW cy a T B) (fun r9 w9 => (r9 = some (.int 1) ∧ (¬ x = 0 → (5000 ≤ x ∧ x ≤ 20000)) ∧ w9 = CW cy a T B) ∨ (r9 = some (.int 0) ∧ ¬ (¬ x = 0 → (5000 ≤ x ∧ x ≤ 20000)) ∧ w9 = CW cy a T B)) := by
  refine g_start (cc := cX7_isVote) (maxL := 1) (ret := (some .boolean)) (by decide) rfl (Nat.le_of_ble_eq_true rfl) (fun v w1 h => by rcases h with ⟨rfl, -, -⟩ | ⟨rfl, -, -⟩ <;> exact ⟨.boolean, rfl, rfl⟩) (fun Γ hlΓ => ?_)
  subst hlΓ
  refine g_iload_n (i := 0) dX7_isVote_0 rfl rfl ?_
  refine g_if_eq 18 dX7_isVote_1 (by decide) (fun c_1 => ?_) (fun c_1 => ?_)
  · skip
    refine g_iconst (1) rfl dX7_isVote_18 ?_
    refine g_goto 23 dX7_isVote_19 (by decide) ?_
    refine g_iret dX7_isVote_23 ?_
    first | exact Or.inl ⟨rfl, fun h => absurd c_1 h, rfl⟩ | exact Or.inl ⟨rfl, fun _ => ⟨Int32.not_lt.mp c_2, Int32.not_lt.mp c_3⟩, rfl⟩ | exact Or.inr ⟨rfl, fun h => absurd (h c_1).1 (Int32.not_le.mpr c_2), rfl⟩ | exact Or.inr ⟨rfl, fun h => absurd (h c_1).2 (Int32.not_le.mpr c_3), rfl⟩
  · skip
    refine g_iload_n (i := 0) dX7_isVote_4 rfl rfl ?_
    refine g_sipush (5000) rfl dX7_isVote_5 ?_
    refine g_icmp_lt 22 dX7_isVote_8 (by decide) (fun c_2 => ?_) (fun c_2 => ?_)
    · skip
      refine g_iconst (0) rfl dX7_isVote_22 ?_
      refine g_iret dX7_isVote_23 ?_
      first | exact Or.inl ⟨rfl, fun h => absurd c_1 h, rfl⟩ | exact Or.inl ⟨rfl, fun _ => ⟨Int32.not_lt.mp c_2, Int32.not_lt.mp c_3⟩, rfl⟩ | exact Or.inr ⟨rfl, fun h => absurd (h c_1).1 (Int32.not_le.mpr c_2), rfl⟩ | exact Or.inr ⟨rfl, fun h => absurd (h c_1).2 (Int32.not_le.mpr c_3), rfl⟩
    · skip
      refine g_iload_n (i := 0) dX7_isVote_11 rfl rfl ?_
      refine g_sipush (20000) rfl dX7_isVote_12 ?_
      refine g_icmp_gt 22 dX7_isVote_15 (by decide) (fun c_3 => ?_) (fun c_3 => ?_)
      · skip
        refine g_iconst (0) rfl dX7_isVote_22 ?_
        refine g_iret dX7_isVote_23 ?_
        first | exact Or.inl ⟨rfl, fun h => absurd c_1 h, rfl⟩ | exact Or.inl ⟨rfl, fun _ => ⟨Int32.not_lt.mp c_2, Int32.not_lt.mp c_3⟩, rfl⟩ | exact Or.inr ⟨rfl, fun h => absurd (h c_1).1 (Int32.not_le.mpr c_2), rfl⟩ | exact Or.inr ⟨rfl, fun h => absurd (h c_1).2 (Int32.not_le.mpr c_3), rfl⟩
      · skip
        refine g_iconst (1) rfl dX7_isVote_18 ?_
        refine g_goto 23 dX7_isVote_19 (by decide) ?_
        refine g_iret dX7_isVote_23 ?_
        first | exact Or.inl ⟨rfl, fun h => absurd c_1 h, rfl⟩ | exact Or.inl ⟨rfl, fun _ => ⟨Int32.not_lt.mp c_2, Int32.not_lt.mp c_3⟩, rfl⟩ | exact Or.inr ⟨rfl, fun h => absurd (h c_1).1 (Int32.not_le.mpr c_2), rfl⟩ | exact Or.inr ⟨rfl, fun h => absurd (h c_1).2 (Int32.not_le.mpr c_3), rfl⟩

set_option maxHeartbeats 4000000 in
set_option maxRecDepth 100000 in
/-- changeVote -/
theorem K_changeVote (l : Launch) (D : va_G) (cy : Nat → ClassId) (a : Nat → Nat) (T : MS) (B : List BL) (h t v : Int32) (hh : vp_in h 10) (ht : vp_in t 5) : Ct l D clx (tyx cy) yX7_changeVote wsX7_changeVote (rmC 0) 0 0 [.ref (a 207), .int h, .int t, .int v] (CW cy a T B) (fun r9 w9 => r9 = some (.int (T.2.2.1 (120 + t.toNatClampNeg) h.toNatClampNeg)) ∧ w9 = CW cy a (sA T (120 + t.toNatClampNeg) h.toNatClampNeg v) B) := by
  refine g_start (cc := cX7_changeVote) (maxL := 5) (ret := (some .int)) (by decide) rfl (Nat.le_of_ble_eq_true rfl) (fun v w1 h => by obtain ⟨rfl, -⟩ := h; exact ⟨.int, rfl, rfl⟩) (fun Γ hlΓ => ?_)
  subst hlΓ
  refine g_aload_n (i := 0) dX7_changeVote_0 rfl rfl ?_
  refine g_get 42 0 dX7_changeVote_1 (List.mem_of_getElem? (i := 1) rfl) (fun w h => List.mem_cons_of_mem _ (List.mem_append_right _ h)) (cO_rates _ _ _ _) rfl (by decide) rfl ?_
  refine g_iload_n (i := 2) dX7_changeVote_4 rfl rfl ?_
  refine c_aald_60 dX7_changeVote_5 ht ?_
  refine g_iload_n (i := 1) dX7_changeVote_6 rfl rfl ?_
  refine c_rld_60 dX7_changeVote_7 (vp_nat ht) hh ?_
  refine g_istore dX7_changeVote_8 (by decide) ?_
  refine g_aload_n (i := 0) dX7_changeVote_10 rfl rfl ?_
  refine g_get 42 0 dX7_changeVote_11 (List.mem_of_getElem? (i := 1) rfl) (fun w h => List.mem_cons_of_mem _ (List.mem_append_right _ h)) (cO_rates _ _ _ _) rfl (by decide) rfl ?_
  refine g_iload_n (i := 2) dX7_changeVote_14 rfl rfl ?_
  refine c_aald_60 dX7_changeVote_15 ht ?_
  refine g_iload_n (i := 1) dX7_changeVote_16 rfl rfl ?_
  refine g_iload_n (i := 3) dX7_changeVote_17 rfl rfl ?_
  refine c_rst_60 dX7_changeVote_18 (vp_nat ht) hh ?_
  refine g_iload dX7_changeVote_19 rfl ?_
  refine g_iret dX7_changeVote_21 ?_
  exact ⟨rfl, rfl⟩

set_option maxHeartbeats 4000000 in
set_option maxRecDepth 100000 in
/-- changeOffer -/
theorem K_changeOffer (l : Launch) (D : va_G) (cy : Nat → ClassId) (a : Nat → Nat) (T : MS) (B : List BL) (f t v : Int32) (hf : vp_in f 5) (ht : vp_in t 5) : Ct l D clx (tyx cy) yX7_changeOffer wsX7_changeOffer (rmC 0) 0 0 [.ref (a 207), .int f, .int t, .int v] (CW cy a T B) (fun r9 w9 => r9 = some (.int (T.2.2.1 (130 + f.toNatClampNeg) t.toNatClampNeg)) ∧ w9 = CW cy a (sA T (130 + f.toNatClampNeg) t.toNatClampNeg v) B) := by
  refine g_start (cc := cX7_changeOffer) (maxL := 5) (ret := (some .int)) (by decide) rfl (Nat.le_of_ble_eq_true rfl) (fun v w1 h => by obtain ⟨rfl, -⟩ := h; exact ⟨.int, rfl, rfl⟩) (fun Γ hlΓ => ?_)
  subst hlΓ
  refine g_aload_n (i := 0) dX7_changeOffer_0 rfl rfl ?_
  refine g_get 42 1 dX7_changeOffer_1 (List.mem_of_getElem? (i := 1) rfl) (fun w h => List.mem_cons_of_mem _ (List.mem_append_right _ h)) (cO_rates _ _ _ _) rfl (by decide) rfl ?_
  refine g_iload_n (i := 1) dX7_changeOffer_4 rfl rfl ?_
  refine c_aald_61 dX7_changeOffer_5 hf ?_
  refine g_iload_n (i := 2) dX7_changeOffer_6 rfl rfl ?_
  refine c_rld_61 dX7_changeOffer_7 (vp_nat hf) ht ?_
  refine g_istore dX7_changeOffer_8 (by decide) ?_
  refine g_aload_n (i := 0) dX7_changeOffer_10 rfl rfl ?_
  refine g_get 42 1 dX7_changeOffer_11 (List.mem_of_getElem? (i := 1) rfl) (fun w h => List.mem_cons_of_mem _ (List.mem_append_right _ h)) (cO_rates _ _ _ _) rfl (by decide) rfl ?_
  refine g_iload_n (i := 1) dX7_changeOffer_14 rfl rfl ?_
  refine c_aald_61 dX7_changeOffer_15 hf ?_
  refine g_iload_n (i := 2) dX7_changeOffer_16 rfl rfl ?_
  refine g_iload_n (i := 3) dX7_changeOffer_17 rfl rfl ?_
  refine c_rst_61 dX7_changeOffer_18 (vp_nat hf) ht ?_
  refine g_iload dX7_changeOffer_19 rfl ?_
  refine g_iret dX7_changeOffer_21 ?_
  exact ⟨rfl, rfl⟩

