theorem rg_in (hi c : Int32) (h : c.toInt = hi.toInt + 1) {x : Int32} (h1 : ¬ x < 0) (h2 : ¬ c ≤ x) : 0 ≤ x ∧ x ≤ hi := by
  rw [Int32.lt_iff_toInt_lt] at h1
  rw [Int32.le_iff_toInt_le] at h2
  rw [Int32.le_iff_toInt_le, Int32.le_iff_toInt_le]
  omega
theorem rg_o1 {hi x : Int32} (h1 : x < 0) : ¬ (0 ≤ x ∧ x ≤ hi) := fun h => absurd h.1 (Int32.not_le.mpr h1)
theorem rg_o2 (hi c : Int32) (h : c.toInt = hi.toInt + 1) {x : Int32} (h2 : c ≤ x) : ¬ (0 ≤ x ∧ x ≤ hi) := by
  intro hh
  have h3 := hh.2
  rw [Int32.le_iff_toInt_le] at h2 h3
  omega
def cf_fd (T : MS) (q : Int32) : Int64 × MS := ((-1000000000000 : Int64) - q.toInt64, sB T 0 q.toNatClampNeg (T.2.2.2 0 q.toNatClampNeg + 1))
set_option maxHeartbeats 4000000 in
set_option maxRecDepth 100000 in
/-- finding -/
theorem K_finding (l : Launch) (D : va_G) (cy : Nat → ClassId) (a : Nat → Nat) (T : MS) (B : List BL) (q : Int32) (hq : vp_in q 8) : Ct l D clx (tyx cy) yX8_finding wsX8_finding (rmC 0) 0 0 [.ref (a 200), .int q] (CW cy a T B) (fun r9 w9 => r9 = some (.long (cf_fd T q).1) ∧ w9 = CW cy a (cf_fd T q).2 B) := by
  refine g_start (cc := cX8_finding) (maxL := 2) (ret := (some .long)) (by decide) rfl (Nat.le_of_ble_eq_true rfl) (fun v w1 h => by obtain ⟨rfl, -⟩ := h; exact rfl) (fun Γ hlΓ => ?_)
  subst hlΓ
  refine g_aload_n (i := 0) dX8_finding_0 rfl rfl ?_
  refine g_get 0 0 dX8_finding_1 (List.mem_of_getElem? (i := 1) rfl) (fun w h => List.mem_cons_of_mem _ (List.mem_append_right _ h)) (cO_main _ _ _ _) rfl (by decide) rfl ?_
  refine g_iload_n (i := 1) dX8_finding_4 rfl rfl ?_
  refine g_dup2_11 rfl rfl dX8_finding_5 ?_
  refine c_ald_0 dX8_finding_6 hq ?_
  refine g_lconst 1 rfl dX8_finding_7 ?_
  refine g_ladd dX8_finding_8 ?_
  refine c_ast_0 dX8_finding_9 hq ?_
  refine g_ldc2 (-1000000000000) (List.mem_of_getElem? (i := 2) rfl) dX8_finding_10 ?_
  refine g_iload_n (i := 1) dX8_finding_13 rfl rfl ?_
  refine g_i2l dX8_finding_14 ?_
  refine g_lsub dX8_finding_15 ?_
  refine g_lret dX8_finding_16 ?_
  exact ⟨rfl, rfl⟩

set_option maxHeartbeats 4000000 in
set_option maxRecDepth 100000 in
/-- isHouse -/
theorem K_isHouse (l : Launch) (D : va_G) (cy : Nat → ClassId) (a : Nat → Nat) (T : MS) (B : List BL) (x : Int32) : Ct l D clx (tyx cy) yX8_isHouse wsX8_isHouse (rmC 0) 0 0 [.int x] (CW cy a T B) (fun r9 w9 => (r9 = some (.int 1) ∧ (0 ≤ x ∧ x ≤ 9) ∧ w9 = CW cy a T B) ∨ (r9 = some (.int 0) ∧ ¬ (0 ≤ x ∧ x ≤ 9) ∧ w9 = CW cy a T B)) := by
  refine g_start (cc := cX8_isHouse) (maxL := 1) (ret := (some .boolean)) (by decide) rfl (Nat.le_of_ble_eq_true rfl) (fun v w1 h => by rcases h with ⟨rfl, -, -⟩ | ⟨rfl, -, -⟩ <;> exact ⟨.boolean, rfl, rfl⟩) (fun Γ hlΓ => ?_)
  subst hlΓ
  refine g_iload_n (i := 0) dX8_isHouse_0 rfl rfl ?_
  refine g_if_lt 14 dX8_isHouse_1 (by decide) (fun c_1 => ?_) (fun c_1 => ?_)
  · skip
    refine g_iconst (0) rfl dX8_isHouse_14 ?_
    refine g_iret dX8_isHouse_15 ?_
    first | exact Or.inl ⟨rfl, rg_in 9 10 (by decide) c_1 c_2, rfl⟩ | exact Or.inr ⟨rfl, rg_o1 c_1, rfl⟩ | exact Or.inr ⟨rfl, rg_o2 9 10 (by decide) c_2, rfl⟩
  · skip
    refine g_iload_n (i := 0) dX8_isHouse_4 rfl rfl ?_
    refine g_bipush (10) rfl dX8_isHouse_5 ?_
    refine g_icmp_ge 14 dX8_isHouse_7 (by decide) (fun c_2 => ?_) (fun c_2 => ?_)
    · skip
      refine g_iconst (0) rfl dX8_isHouse_14 ?_
      refine g_iret dX8_isHouse_15 ?_
      first | exact Or.inl ⟨rfl, rg_in 9 10 (by decide) c_1 c_2, rfl⟩ | exact Or.inr ⟨rfl, rg_o1 c_1, rfl⟩ | exact Or.inr ⟨rfl, rg_o2 9 10 (by decide) c_2, rfl⟩
    · skip
      refine g_iconst (1) rfl dX8_isHouse_10 ?_
      refine g_goto 15 dX8_isHouse_11 (by decide) ?_
      refine g_iret dX8_isHouse_15 ?_
      first | exact Or.inl ⟨rfl, rg_in 9 10 (by decide) c_1 c_2, rfl⟩ | exact Or.inr ⟨rfl, rg_o1 c_1, rfl⟩ | exact Or.inr ⟨rfl, rg_o2 9 10 (by decide) c_2, rfl⟩

set_option maxHeartbeats 4000000 in
set_option maxRecDepth 100000 in
/-- isTown -/
theorem K_isTown (l : Launch) (D : va_G) (cy : Nat → ClassId) (a : Nat → Nat) (T : MS) (B : List BL) (x : Int32) : Ct l D clx (tyx cy) yX8_isTown wsX8_isTown (rmC 0) 0 0 [.int x] (CW cy a T B) (fun r9 w9 => (r9 = some (.int 1) ∧ (0 ≤ x ∧ x ≤ 4) ∧ w9 = CW cy a T B) ∨ (r9 = some (.int 0) ∧ ¬ (0 ≤ x ∧ x ≤ 4) ∧ w9 = CW cy a T B)) := by
  refine g_start (cc := cX8_isTown) (maxL := 1) (ret := (some .boolean)) (by decide) rfl (Nat.le_of_ble_eq_true rfl) (fun v w1 h => by rcases h with ⟨rfl, -, -⟩ | ⟨rfl, -, -⟩ <;> exact ⟨.boolean, rfl, rfl⟩) (fun Γ hlΓ => ?_)
  subst hlΓ
  refine g_iload_n (i := 0) dX8_isTown_0 rfl rfl ?_
  refine g_if_lt 13 dX8_isTown_1 (by decide) (fun c_1 => ?_) (fun c_1 => ?_)
  · skip
    refine g_iconst (0) rfl dX8_isTown_13 ?_
    refine g_iret dX8_isTown_14 ?_
    first | exact Or.inl ⟨rfl, rg_in 4 5 (by decide) c_1 c_2, rfl⟩ | exact Or.inr ⟨rfl, rg_o1 c_1, rfl⟩ | exact Or.inr ⟨rfl, rg_o2 4 5 (by decide) c_2, rfl⟩
  · skip
    refine g_iload_n (i := 0) dX8_isTown_4 rfl rfl ?_
    refine g_iconst (5) rfl dX8_isTown_5 ?_
    refine g_icmp_ge 13 dX8_isTown_6 (by decide) (fun c_2 => ?_) (fun c_2 => ?_)
    · skip
      refine g_iconst (0) rfl dX8_isTown_13 ?_
      refine g_iret dX8_isTown_14 ?_
      first | exact Or.inl ⟨rfl, rg_in 4 5 (by decide) c_1 c_2, rfl⟩ | exact Or.inr ⟨rfl, rg_o1 c_1, rfl⟩ | exact Or.inr ⟨rfl, rg_o2 4 5 (by decide) c_2, rfl⟩
    · skip
      refine g_iconst (1) rfl dX8_isTown_9 ?_
      refine g_goto 14 dX8_isTown_10 (by decide) ?_
      refine g_iret dX8_isTown_14 ?_
      first | exact Or.inl ⟨rfl, rg_in 4 5 (by decide) c_1 c_2, rfl⟩ | exact Or.inr ⟨rfl, rg_o1 c_1, rfl⟩ | exact Or.inr ⟨rfl, rg_o2 4 5 (by decide) c_2, rfl⟩

set_option maxHeartbeats 4000000 in
set_option maxRecDepth 100000 in
/-- isBillKind -/
theorem K_isBillKind (l : Launch) (D : va_G) (cy : Nat → ClassId) (a : Nat → Nat) (T : MS) (B : List BL) (x : Int32) : Ct l D clx (tyx cy) yX8_isBillKind wsX8_isBillKind (rmC 0) 0 0 [.int x] (CW cy a T B) (fun r9 w9 => (r9 = some (.int 1) ∧ (0 ≤ x ∧ x ≤ 2) ∧ w9 = CW cy a T B) ∨ (r9 = some (.int 0) ∧ ¬ (0 ≤ x ∧ x ≤ 2) ∧ w9 = CW cy a T B)) := by
  refine g_start (cc := cX8_isBillKind) (maxL := 1) (ret := (some .boolean)) (by decide) rfl (Nat.le_of_ble_eq_true rfl) (fun v w1 h => by rcases h with ⟨rfl, -, -⟩ | ⟨rfl, -, -⟩ <;> exact ⟨.boolean, rfl, rfl⟩) (fun Γ hlΓ => ?_)
  subst hlΓ
  refine g_iload_n (i := 0) dX8_isBillKind_0 rfl rfl ?_
  refine g_if_lt 13 dX8_isBillKind_1 (by decide) (fun c_1 => ?_) (fun c_1 => ?_)
  · skip
    refine g_iconst (0) rfl dX8_isBillKind_13 ?_
    refine g_iret dX8_isBillKind_14 ?_
    first | exact Or.inl ⟨rfl, ⟨Int32.not_lt.mp c_1, Int32.not_lt.mp c_2⟩, rfl⟩ | exact Or.inr ⟨rfl, rg_o1 c_1, rfl⟩ | exact Or.inr ⟨rfl, fun h => absurd h.2 (Int32.not_le.mpr c_2), rfl⟩
  · skip
    refine g_iload_n (i := 0) dX8_isBillKind_4 rfl rfl ?_
    refine g_iconst (2) rfl dX8_isBillKind_5 ?_
    refine g_icmp_gt 13 dX8_isBillKind_6 (by decide) (fun c_2 => ?_) (fun c_2 => ?_)
    · skip
      refine g_iconst (0) rfl dX8_isBillKind_13 ?_
      refine g_iret dX8_isBillKind_14 ?_
      first | exact Or.inl ⟨rfl, ⟨Int32.not_lt.mp c_1, Int32.not_lt.mp c_2⟩, rfl⟩ | exact Or.inr ⟨rfl, rg_o1 c_1, rfl⟩ | exact Or.inr ⟨rfl, fun h => absurd h.2 (Int32.not_le.mpr c_2), rfl⟩
    · skip
      refine g_iconst (1) rfl dX8_isBillKind_9 ?_
      refine g_goto 14 dX8_isBillKind_10 (by decide) ?_
      refine g_iret dX8_isBillKind_14 ?_
      first | exact Or.inl ⟨rfl, ⟨Int32.not_lt.mp c_1, Int32.not_lt.mp c_2⟩, rfl⟩ | exact Or.inr ⟨rfl, rg_o1 c_1, rfl⟩ | exact Or.inr ⟨rfl, fun h => absurd h.2 (Int32.not_le.mpr c_2), rfl⟩

set_option maxHeartbeats 4000000 in
set_option maxRecDepth 100000 in
/-- isKind -/
theorem K_isKind (l : Launch) (D : va_G) (cy : Nat → ClassId) (a : Nat → Nat) (T : MS) (B : List BL) (x : Int32) : Ct l D clx (tyx cy) yX6_isKind wsX6_isKind (rmC 0) 0 0 [.int x] (CW cy a T B) (fun r9 w9 => (r9 = some (.int 1) ∧ (0 ≤ x ∧ x ≤ 3) ∧ w9 = CW cy a T B) ∨ (r9 = some (.int 0) ∧ ¬ (0 ≤ x ∧ x ≤ 3) ∧ w9 = CW cy a T B)) := by
  refine g_start (cc := cX6_isKind) (maxL := 1) (ret := (some .boolean)) (by decide) rfl (Nat.le_of_ble_eq_true rfl) (fun v w1 h => by rcases h with ⟨rfl, -, -⟩ | ⟨rfl, -, -⟩ <;> exact ⟨.boolean, rfl, rfl⟩) (fun Γ hlΓ => ?_)
  subst hlΓ
  refine g_iload_n (i := 0) dX6_isKind_0 rfl rfl ?_
  refine g_if_lt 13 dX6_isKind_1 (by decide) (fun c_1 => ?_) (fun c_1 => ?_)
  · skip
    refine g_iconst (0) rfl dX6_isKind_13 ?_
    refine g_iret dX6_isKind_14 ?_
    first | exact Or.inl ⟨rfl, rg_in 3 4 (by decide) c_1 c_2, rfl⟩ | exact Or.inr ⟨rfl, rg_o1 c_1, rfl⟩ | exact Or.inr ⟨rfl, rg_o2 3 4 (by decide) c_2, rfl⟩
  · skip
    refine g_iload_n (i := 0) dX6_isKind_4 rfl rfl ?_
    refine g_iconst (4) rfl dX6_isKind_5 ?_
    refine g_icmp_ge 13 dX6_isKind_6 (by decide) (fun c_2 => ?_) (fun c_2 => ?_)
    · skip
      refine g_iconst (0) rfl dX6_isKind_13 ?_
      refine g_iret dX6_isKind_14 ?_
      first | exact Or.inl ⟨rfl, rg_in 3 4 (by decide) c_1 c_2, rfl⟩ | exact Or.inr ⟨rfl, rg_o1 c_1, rfl⟩ | exact Or.inr ⟨rfl, rg_o2 3 4 (by decide) c_2, rfl⟩
    · skip
      refine g_iconst (1) rfl dX6_isKind_9 ?_
      refine g_goto 14 dX6_isKind_10 (by decide) ?_
      refine g_iret dX6_isKind_14 ?_
      first | exact Or.inl ⟨rfl, rg_in 3 4 (by decide) c_1 c_2, rfl⟩ | exact Or.inr ⟨rfl, rg_o1 c_1, rfl⟩ | exact Or.inr ⟨rfl, rg_o2 3 4 (by decide) c_2, rfl⟩

set_option maxHeartbeats 4000000 in
set_option maxRecDepth 100000 in
/-- isMeasure -/
theorem K_isMeasure (l : Launch) (D : va_G) (cy : Nat → ClassId) (a : Nat → Nat) (T : MS) (B : List BL) (x : Int32) : Ct l D clx (tyx cy) yX6_isMeasure wsX6_isMeasure (rmC 0) 0 0 [.int x] (CW cy a T B) (fun r9 w9 => (r9 = some (.int 1) ∧ (0 ≤ x ∧ x ≤ 1000) ∧ w9 = CW cy a T B) ∨ (r9 = some (.int 0) ∧ ¬ (0 ≤ x ∧ x ≤ 1000) ∧ w9 = CW cy a T B)) := by
  refine g_start (cc := cX6_isMeasure) (maxL := 1) (ret := (some .boolean)) (by decide) rfl (Nat.le_of_ble_eq_true rfl) (fun v w1 h => by rcases h with ⟨rfl, -, -⟩ | ⟨rfl, -, -⟩ <;> exact ⟨.boolean, rfl, rfl⟩) (fun Γ hlΓ => ?_)
  subst hlΓ
  refine g_iload_n (i := 0) dX6_isMeasure_0 rfl rfl ?_
  refine g_if_lt 15 dX6_isMeasure_1 (by decide) (fun c_1 => ?_) (fun c_1 => ?_)
  · skip
    refine g_iconst (0) rfl dX6_isMeasure_15 ?_
    refine g_iret dX6_isMeasure_16 ?_
    first | exact Or.inl ⟨rfl, ⟨Int32.not_lt.mp c_1, Int32.not_lt.mp c_2⟩, rfl⟩ | exact Or.inr ⟨rfl, rg_o1 c_1, rfl⟩ | exact Or.inr ⟨rfl, fun h => absurd h.2 (Int32.not_le.mpr c_2), rfl⟩
  · skip
    refine g_iload_n (i := 0) dX6_isMeasure_4 rfl rfl ?_
    refine g_sipush (1000) rfl dX6_isMeasure_5 ?_
    refine g_icmp_gt 15 dX6_isMeasure_8 (by decide) (fun c_2 => ?_) (fun c_2 => ?_)
    · skip
      refine g_iconst (0) rfl dX6_isMeasure_15 ?_
      refine g_iret dX6_isMeasure_16 ?_
      first | exact Or.inl ⟨rfl, ⟨Int32.not_lt.mp c_1, Int32.not_lt.mp c_2⟩, rfl⟩ | exact Or.inr ⟨rfl, rg_o1 c_1, rfl⟩ | exact Or.inr ⟨rfl, fun h => absurd h.2 (Int32.not_le.mpr c_2), rfl⟩
    · skip
      refine g_iconst (1) rfl dX6_isMeasure_11 ?_
      refine g_goto 16 dX6_isMeasure_12 (by decide) ?_
      refine g_iret dX6_isMeasure_16 ?_
      first | exact Or.inl ⟨rfl, ⟨Int32.not_lt.mp c_1, Int32.not_lt.mp c_2⟩, rfl⟩ | exact Or.inr ⟨rfl, rg_o1 c_1, rfl⟩ | exact Or.inr ⟨rfl, fun h => absurd h.2 (Int32.not_le.mpr c_2), rfl⟩

set_option maxHeartbeats 4000000 in
set_option maxRecDepth 100000 in
/-- isOffer -/
theorem K_isOffer (l : Launch) (D : va_G) (cy : Nat → ClassId) (a : Nat → Nat) (T : MS) (B : List BL) (x : Int32) : Ct l D clx (tyx cy) yX7_isOffer wsX7_isOffer (rmC 0) 0 0 [.int x] (CW cy a T B) (fun r9 w9 => (r9 = some (.int 1) ∧ (0 ≤ x ∧ x ≤ 20000) ∧ w9 = CW cy a T B) ∨ (r9 = some (.int 0) ∧ ¬ (0 ≤ x ∧ x ≤ 20000) ∧ w9 = CW cy a T B)) := by
  refine g_start (cc := cX7_isOffer) (maxL := 1) (ret := (some .boolean)) (by decide) rfl (Nat.le_of_ble_eq_true rfl) (fun v w1 h => by rcases h with ⟨rfl, -, -⟩ | ⟨rfl, -, -⟩ <;> exact ⟨.boolean, rfl, rfl⟩) (fun Γ hlΓ => ?_)
  subst hlΓ
  refine g_iload_n (i := 0) dX7_isOffer_0 rfl rfl ?_
  refine g_if_lt 15 dX7_isOffer_1 (by decide) (fun c_1 => ?_) (fun c_1 => ?_)
  · skip
    refine g_iconst (0) rfl dX7_isOffer_15 ?_
    refine g_iret dX7_isOffer_16 ?_
    first | exact Or.inl ⟨rfl, ⟨Int32.not_lt.mp c_1, Int32.not_lt.mp c_2⟩, rfl⟩ | exact Or.inr ⟨rfl, rg_o1 c_1, rfl⟩ | exact Or.inr ⟨rfl, fun h => absurd h.2 (Int32.not_le.mpr c_2), rfl⟩
  · skip
    refine g_iload_n (i := 0) dX7_isOffer_4 rfl rfl ?_
    refine g_sipush (20000) rfl dX7_isOffer_5 ?_
    refine g_icmp_gt 15 dX7_isOffer_8 (by decide) (fun c_2 => ?_) (fun c_2 => ?_)
    · skip
      refine g_iconst (0) rfl dX7_isOffer_15 ?_
      refine g_iret dX7_isOffer_16 ?_
      first | exact Or.inl ⟨rfl, ⟨Int32.not_lt.mp c_1, Int32.not_lt.mp c_2⟩, rfl⟩ | exact Or.inr ⟨rfl, rg_o1 c_1, rfl⟩ | exact Or.inr ⟨rfl, fun h => absurd h.2 (Int32.not_le.mpr c_2), rfl⟩
    · skip
      refine g_iconst (1) rfl dX7_isOffer_11 ?_
      refine g_goto 16 dX7_isOffer_12 (by decide) ?_
      refine g_iret dX7_isOffer_16 ?_
      first | exact Or.inl ⟨rfl, ⟨Int32.not_lt.mp c_1, Int32.not_lt.mp c_2⟩, rfl⟩ | exact Or.inr ⟨rfl, rg_o1 c_1, rfl⟩ | exact Or.inr ⟨rfl, fun h => absurd h.2 (Int32.not_le.mpr c_2), rfl⟩

set_option maxHeartbeats 4000000 in
set_option maxRecDepth 100000 in
/-- two houses -/
theorem K_areTwo (l : Launch) (D : va_G) (cy : Nat → ClassId) (a : Nat → Nat) (T : MS) (B : List BL) (x y : Int32) : Ct l D clx (tyx cy) yX8_areTwoHouses wsX8_areTwoHouses (rmC 1) 0 0 [.int x, .int y] (CW cy a T B) (fun r9 w9 => (r9 = some (.int 1) ∧ ((0 ≤ x ∧ x ≤ 9) ∧ (0 ≤ y ∧ y ≤ 9) ∧ ¬ x = y) ∧ w9 = CW cy a T B) ∨ (r9 = some (.int 0) ∧ ¬ ((0 ≤ x ∧ x ≤ 9) ∧ (0 ≤ y ∧ y ≤ 9) ∧ ¬ x = y) ∧ w9 = CW cy a T B)) := by
  refine g_start (cc := cX8_areTwoHouses) (maxL := 2) (ret := (some .boolean)) (by decide) rfl (Nat.le_of_ble_eq_true rfl) (fun v w1 h => by rcases h with ⟨rfl, -, -⟩ | ⟨rfl, -, -⟩ <;> exact ⟨.boolean, rfl, rfl⟩) (fun Γ hlΓ => ?_)
  subst hlΓ
  refine g_iload_n (i := 0) dX8_areTwoHouses_0 rfl rfl ?_
  refine g_callSf 1 gX8_areTwoHouses_X8_isHouse rfl rfl rfl ⟨Nat.le_of_ble_eq_true rfl, Nat.le_of_ble_eq_true rfl⟩ ⟨Nat.le_of_ble_eq_true rfl, Nat.le_of_ble_eq_true rfl⟩ (by exact Nat.le_of_ble_eq_true rfl) (by decide +kernel) rfl dX8_areTwoHouses_1 (K_isHouse _ D cy a _ _ _) rfl (fun vu_1 wu_1 hu_1 => ?_)
  rcases hu_1 with ⟨rfl, hu_1, rfl⟩ | ⟨rfl, hu_1, rfl⟩
  · skip
    refine g_if_eq 23 dX8_areTwoHouses_4 (by decide) (fun h9 => absurd h9 (by decide)) (fun _ => ?_)
    refine g_iload_n (i := 1) dX8_areTwoHouses_7 rfl rfl ?_
    refine g_callSf 1 gX8_areTwoHouses_X8_isHouse rfl rfl rfl ⟨Nat.le_of_ble_eq_true rfl, Nat.le_of_ble_eq_true rfl⟩ ⟨Nat.le_of_ble_eq_true rfl, Nat.le_of_ble_eq_true rfl⟩ (by exact Nat.le_of_ble_eq_true rfl) (by decide +kernel) rfl dX8_areTwoHouses_8 (K_isHouse _ D cy a _ _ _) rfl (fun vu_3 wu_3 hu_3 => ?_)
    rcases hu_3 with ⟨rfl, hu_3, rfl⟩ | ⟨rfl, hu_3, rfl⟩
    · skip
      refine g_if_eq 23 dX8_areTwoHouses_11 (by decide) (fun h9 => absurd h9 (by decide)) (fun _ => ?_)
      refine g_iload_n (i := 0) dX8_areTwoHouses_14 rfl rfl ?_
      refine g_iload_n (i := 1) dX8_areTwoHouses_15 rfl rfl ?_
      refine g_icmp_eq 23 dX8_areTwoHouses_16 (by decide) (fun c_5 => ?_) (fun c_5 => ?_)
      · skip
        refine g_iconst (0) rfl dX8_areTwoHouses_23 ?_
        refine g_iret dX8_areTwoHouses_24 ?_
        first | exact Or.inl ⟨rfl, ⟨by assumption, by assumption, by assumption⟩, rfl⟩ | exact Or.inr ⟨rfl, fun h => by first | exact absurd h.1 (by assumption) | exact absurd h.2.1 (by assumption) | exact absurd (by assumption) h.2.2, rfl⟩
      · skip
        refine g_iconst (1) rfl dX8_areTwoHouses_19 ?_
        refine g_goto 24 dX8_areTwoHouses_20 (by decide) ?_
        refine g_iret dX8_areTwoHouses_24 ?_
        first | exact Or.inl ⟨rfl, ⟨by assumption, by assumption, by assumption⟩, rfl⟩ | exact Or.inr ⟨rfl, fun h => by first | exact absurd h.1 (by assumption) | exact absurd h.2.1 (by assumption) | exact absurd (by assumption) h.2.2, rfl⟩
    · skip
      refine g_if_eq 23 dX8_areTwoHouses_11 (by decide) (fun _ => ?_) (fun h9 => absurd h9 (by decide))
      refine g_iconst (0) rfl dX8_areTwoHouses_23 ?_
      refine g_iret dX8_areTwoHouses_24 ?_
      first | exact Or.inl ⟨rfl, ⟨by assumption, by assumption, by assumption⟩, rfl⟩ | exact Or.inr ⟨rfl, fun h => by first | exact absurd h.1 (by assumption) | exact absurd h.2.1 (by assumption) | exact absurd (by assumption) h.2.2, rfl⟩
  · skip
    refine g_if_eq 23 dX8_areTwoHouses_4 (by decide) (fun _ => ?_) (fun h9 => absurd h9 (by decide))
    refine g_iconst (0) rfl dX8_areTwoHouses_23 ?_
    refine g_iret dX8_areTwoHouses_24 ?_
    first | exact Or.inl ⟨rfl, ⟨by assumption, by assumption, by assumption⟩, rfl⟩ | exact Or.inr ⟨rfl, fun h => by first | exact absurd h.1 (by assumption) | exact absurd h.2.1 (by assumption) | exact absurd (by assumption) h.2.2, rfl⟩

abbrev cday (T : MS) : Int32 := T.1 14 - T.1 14 / 28 * 28
set_option maxHeartbeats 4000000 in
set_option maxRecDepth 100000 in
/-- a day of taking -/
theorem K_isTakingDay (l : Launch) (D : va_G) (cy : Nat → ClassId) (a : Nat → Nat) (T : MS) (B : List BL) : Ct l D clx (tyx cy) yX8_isTakingDay wsX8_isTakingDay (rmC 0) 0 0 [.ref (a 200)] (CW cy a T B) (fun r9 w9 => (r9 = some (.int 1) ∧ (cday T ≤ 6) ∧ w9 = CW cy a T B) ∨ (r9 = some (.int 0) ∧ ¬ (cday T ≤ 6) ∧ w9 = CW cy a T B)) := by
  refine g_start (cc := cX8_isTakingDay) (maxL := 1) (ret := (some .boolean)) (by decide) rfl (Nat.le_of_ble_eq_true rfl) (fun v w1 h => by rcases h with ⟨rfl, -, -⟩ | ⟨rfl, -, -⟩ <;> exact ⟨.boolean, rfl, rfl⟩) (fun Γ hlΓ => ?_)
  subst hlΓ
  refine g_aload_n (i := 0) dX8_isTakingDay_0 rfl rfl ?_
  refine g_get 0 14 dX8_isTakingDay_1 (List.mem_of_getElem? (i := 1) rfl) (fun w h => List.mem_cons_of_mem _ (List.mem_append_right _ h)) (cO_main _ _ _ _) rfl (by decide) rfl ?_
  refine g_bipush (28) rfl dX8_isTakingDay_4 ?_
  refine g_irem (by decide) dX8_isTakingDay_6 ?_
  refine g_bipush (6) rfl dX8_isTakingDay_7 ?_
  refine g_icmp_gt 16 dX8_isTakingDay_9 (by decide) (fun c_1 => ?_) (fun c_1 => ?_)
  · skip
    refine g_iconst (0) rfl dX8_isTakingDay_16 ?_
    refine g_iret dX8_isTakingDay_17 ?_
    first | exact Or.inl ⟨rfl, Int32.not_lt.mp c_1, rfl⟩ | exact Or.inr ⟨rfl, Int32.not_le.mpr c_1, rfl⟩
  · skip
    refine g_iconst (1) rfl dX8_isTakingDay_12 ?_
    refine g_goto 17 dX8_isTakingDay_13 (by decide) ?_
    refine g_iret dX8_isTakingDay_17 ?_
    first | exact Or.inl ⟨rfl, Int32.not_lt.mp c_1, rfl⟩ | exact Or.inr ⟨rfl, Int32.not_le.mpr c_1, rfl⟩

set_option maxHeartbeats 4000000 in
set_option maxRecDepth 100000 in
/-- the road of a house -/
theorem K_roadOf (l : Launch) (D : va_G) (cy : Nat → ClassId) (a : Nat → Nat) (T : MS) (B : List BL) (h : Int32) (hh : vp_in h 10) (hs : vp_in (T.2.2.1 2 h.toNatClampNeg) 5) : Ct l D clx (tyx cy) yX8_roadOf wsX8_roadOf (rmC 0) 0 0 [.ref (a 200), .int h] (CW cy a T B) (fun r9 w9 => r9 = some (.int (T.2.2.1 1 (T.2.2.1 2 h.toNatClampNeg).toNatClampNeg)) ∧ w9 = CW cy a T B) := by
  refine g_start (cc := cX8_roadOf) (maxL := 2) (ret := (some .int)) (by decide) rfl (Nat.le_of_ble_eq_true rfl) (fun v w1 h => by obtain ⟨rfl, -⟩ := h; exact ⟨.int, rfl, rfl⟩) (fun Γ hlΓ => ?_)
  subst hlΓ
  refine g_aload_n (i := 0) dX8_roadOf_0 rfl rfl ?_
  refine g_get 0 1 dX8_roadOf_1 (List.mem_of_getElem? (i := 1) rfl) (fun w h => List.mem_cons_of_mem _ (List.mem_append_right _ h)) (cO_main _ _ _ _) rfl (by decide) rfl ?_
  refine g_aload_n (i := 0) dX8_roadOf_4 rfl rfl ?_
  refine g_get 0 2 dX8_roadOf_5 (List.mem_of_getElem? (i := 2) rfl) (fun w h => List.mem_cons_of_mem _ (List.mem_append_right _ h)) (cO_main _ _ _ _) rfl (by decide) rfl ?_
  refine g_iload_n (i := 1) dX8_roadOf_8 rfl rfl ?_
  refine c_ald_2 dX8_roadOf_9 hh ?_
  refine c_ald_1 dX8_roadOf_10 hs ?_
  refine g_iret dX8_roadOf_11 ?_
  exact ⟨rfl, rfl⟩

set_option maxHeartbeats 4000000 in
set_option maxRecDepth 100000 in
/-- a debt -/
theorem K_debt (l : Launch) (D : va_G) (cy : Nat → ClassId) (a : Nat → Nat) (T : MS) (B : List BL) (h q : Int32) (hh : vp_in h 10) (hq : vp_in q 10) : Ct l D clx (tyx cy) yX1_debt wsX1_debt (rmC 0) 0 0 [.ref (a 201), .int h, .int q] (CW cy a T B) (fun r9 w9 => r9 = some (.long (T.2.2.2 (100 + h.toNatClampNeg) q.toNatClampNeg)) ∧ w9 = CW cy a T B) := by
  refine g_start (cc := cX1_debt) (maxL := 3) (ret := (some .long)) (by decide) rfl (Nat.le_of_ble_eq_true rfl) (fun v w1 h => by obtain ⟨rfl, -⟩ := h; exact rfl) (fun Γ hlΓ => ?_)
  subst hlΓ
  refine g_aload_n (i := 0) dX1_debt_0 rfl rfl ?_
  refine g_get 9 1 dX1_debt_1 (List.mem_of_getElem? (i := 1) rfl) (fun w h => List.mem_cons_of_mem _ (List.mem_append_right _ h)) (cO_book _ _ _ _) rfl (by decide) rfl ?_
  refine g_iload_n (i := 1) dX1_debt_4 rfl rfl ?_
  refine c_aald_31 dX1_debt_5 hh ?_
  refine g_iload_n (i := 2) dX1_debt_6 rfl rfl ?_
  refine c_rld_31 dX1_debt_7 (vp_nat hh) hq ?_
  refine g_lret dX1_debt_8 ?_
  exact ⟨rfl, rfl⟩

abbrev cwould (T : MS) (h q : Int32) (v : Int64) : Int64 := T.2.2.2 (100 + h.toNatClampNeg) q.toNatClampNeg - T.2.2.2 (100 + q.toNatClampNeg) h.toNatClampNeg + v
abbrev cabs (x : Int64) : Int64 := if 0 < x then x else -x
abbrev cmax0 (x : Int64) : Int64 := if 0 < x then x else 0
set_option maxHeartbeats 4000000 in
set_option maxRecDepth 100000 in
/-- a debt would be too great -/
theorem K_overfills (l : Launch) (D : va_G) (cy : Nat → ClassId) (a : Nat → Nat) (T : MS) (B : List BL) (h q : Int32) (hh : vp_in h 10) (hq : vp_in q 10) (v : Int64) : Ct l D clx (tyx cy) yX1_overfills wsX1_overfills (rmC 1) 0 0 [.ref (a 201), .int h, .int q, .long v] (CW cy a T B) (fun r9 w9 => (r9 = some (.int 1) ∧ (1000000000 < cabs (cwould T h q v)) ∧ w9 = CW cy a T B) ∨ (r9 = some (.int 0) ∧ ¬ (1000000000 < cabs (cwould T h q v)) ∧ w9 = CW cy a T B)) := by
  refine g_start (cc := cX1_overfills) (maxL := 5) (ret := (some .boolean)) (by decide) rfl (Nat.le_of_ble_eq_true rfl) (fun v w1 h => by rcases h with ⟨rfl, -, -⟩ | ⟨rfl, -, -⟩ <;> exact ⟨.boolean, rfl, rfl⟩) (fun Γ hlΓ => ?_)
  subst hlΓ
  refine g_aload_n (i := 0) dX1_overfills_0 rfl rfl ?_
  refine g_get 9 1 dX1_overfills_1 (List.mem_of_getElem? (i := 1) rfl) (fun w h => List.mem_cons_of_mem _ (List.mem_append_right _ h)) (cO_book _ _ _ _) rfl (by decide) rfl ?_
  refine g_iload_n (i := 1) dX1_overfills_4 rfl rfl ?_
  refine c_aald_31 dX1_overfills_5 hh ?_
  refine g_iload_n (i := 2) dX1_overfills_6 rfl rfl ?_
  refine c_rld_31 dX1_overfills_7 (vp_nat hh) hq ?_
  refine g_aload_n (i := 0) dX1_overfills_8 rfl rfl ?_
  refine g_get 9 1 dX1_overfills_9 (List.mem_of_getElem? (i := 1) rfl) (fun w h => List.mem_cons_of_mem _ (List.mem_append_right _ h)) (cO_book _ _ _ _) rfl (by decide) rfl ?_
  refine g_iload_n (i := 2) dX1_overfills_12 rfl rfl ?_
  refine c_aald_31 dX1_overfills_13 hq ?_
  refine g_iload_n (i := 1) dX1_overfills_14 rfl rfl ?_
  refine c_rld_31 dX1_overfills_15 (vp_nat hq) hh ?_
  refine g_lsub dX1_overfills_16 ?_
  refine g_lload_n (i := 3) dX1_overfills_17 rfl rfl ?_
  refine g_ladd dX1_overfills_18 ?_
  refine g_mabsL (List.mem_of_getElem? (i := 2) rfl) (List.mem_of_getElem? (i := 3) rfl) (List.mem_of_getElem? (i := 4) rfl) (List.mem_of_getElem? (i := 5) rfl) (Nat.le_of_ble_eq_true rfl) (by exact Nat.le_of_ble_eq_true rfl) (Nat.le_of_ble_eq_true rfl) (Nat.le_of_ble_eq_true rfl) dX1_overfills_19 ?_
  refine g_ldc2 (1000000000) (List.mem_of_getElem? (i := 6) rfl) dX1_overfills_22 ?_
  refine g_lcmp_le 33 dX1_overfills_25 dX1_overfills_26 (by decide) (fun c_1 => ?_) (fun c_1 => ?_)
  · skip
    refine g_iconst (0) rfl dX1_overfills_33 ?_
    refine g_iret dX1_overfills_34 ?_
    first | exact Or.inl ⟨rfl, Int64.not_le.mp c_1, rfl⟩ | exact Or.inr ⟨rfl, Int64.not_lt.mpr c_1, rfl⟩
  · skip
    refine g_iconst (1) rfl dX1_overfills_29 ?_
    refine g_goto 34 dX1_overfills_30 (by decide) ?_
    refine g_iret dX1_overfills_34 ?_
    first | exact Or.inl ⟨rfl, Int64.not_le.mp c_1, rfl⟩ | exact Or.inr ⟨rfl, Int64.not_lt.mpr c_1, rfl⟩

def cf_charge (T : MS) (h q : Int32) (v : Int64) : MS := sL (sB (sB T (100 + h.toNatClampNeg) q.toNatClampNeg (cmax0 (cwould T h q v))) (100 + q.toNatClampNeg) h.toNatClampNeg (cmax0 (-(cwould T h q v)))) 30 (T.2.1 30 + 1)
set_option maxHeartbeats 4000000 in
set_option maxRecDepth 100000 in
/-- charge -/
theorem K_charge (l : Launch) (D : va_G) (cy : Nat → ClassId) (a : Nat → Nat) (T : MS) (B : List BL) (h q : Int32) (hh : vp_in h 10) (hq : vp_in q 10) (v : Int64) : Ct l D clx (tyx cy) yX1_charge wsX1_charge (rmC 1) 0 0 [.ref (a 201), .int h, .int q, .long v] (CW cy a T B) (fun r9 w9 => r9 = none ∧ w9 = CW cy a (cf_charge T h q v) B) := by
  refine g_start (cc := cX1_charge) (maxL := 7) (ret := none) (by decide) rfl (Nat.le_of_ble_eq_true rfl) (fun v w1 h => by obtain ⟨rfl, -⟩ := h; exact rfl) (fun Γ hlΓ => ?_)
  subst hlΓ
  refine g_aload_n (i := 0) dX1_charge_0 rfl rfl ?_
  refine g_get 9 1 dX1_charge_1 (List.mem_of_getElem? (i := 1) rfl) (fun w h => List.mem_cons_of_mem _ (List.mem_append_right _ h)) (cO_book _ _ _ _) rfl (by decide) rfl ?_
  refine g_iload_n (i := 1) dX1_charge_4 rfl rfl ?_
  refine c_aald_31 dX1_charge_5 hh ?_
  refine g_iload_n (i := 2) dX1_charge_6 rfl rfl ?_
  refine c_rld_31 dX1_charge_7 (vp_nat hh) hq ?_
  refine g_aload_n (i := 0) dX1_charge_8 rfl rfl ?_
  refine g_get 9 1 dX1_charge_9 (List.mem_of_getElem? (i := 1) rfl) (fun w h => List.mem_cons_of_mem _ (List.mem_append_right _ h)) (cO_book _ _ _ _) rfl (by decide) rfl ?_
  refine g_iload_n (i := 2) dX1_charge_12 rfl rfl ?_
  refine c_aald_31 dX1_charge_13 hq ?_
  refine g_iload_n (i := 1) dX1_charge_14 rfl rfl ?_
  refine c_rld_31 dX1_charge_15 (vp_nat hq) hh ?_
  refine g_lsub dX1_charge_16 ?_
  refine g_lload_n (i := 3) dX1_charge_17 rfl rfl ?_
  refine g_ladd dX1_charge_18 ?_
  refine g_lstore dX1_charge_19 (by decide) ?_
  refine g_aload_n (i := 0) dX1_charge_21 rfl rfl ?_
  refine g_get 9 1 dX1_charge_22 (List.mem_of_getElem? (i := 1) rfl) (fun w h => List.mem_cons_of_mem _ (List.mem_append_right _ h)) (cO_book _ _ _ _) rfl (by decide) rfl ?_
  refine g_iload_n (i := 1) dX1_charge_25 rfl rfl ?_
  refine c_aald_31 dX1_charge_26 hh ?_
  refine g_iload_n (i := 2) dX1_charge_27 rfl rfl ?_
  refine g_lload dX1_charge_28 rfl ?_
  refine g_lconst 0 rfl dX1_charge_30 ?_
  refine g_mmaxL (List.mem_of_getElem? (i := 2) rfl) (List.mem_of_getElem? (i := 3) rfl) (List.mem_of_getElem? (i := 4) rfl) (List.mem_of_getElem? (i := 5) rfl) (Nat.le_of_ble_eq_true rfl) (by exact Nat.le_of_ble_eq_true rfl) (Nat.le_of_ble_eq_true rfl) (Nat.le_of_ble_eq_true rfl) dX1_charge_31 ?_
  refine c_rst_31 dX1_charge_34 (vp_nat hh) hq ?_
  refine g_aload_n (i := 0) dX1_charge_35 rfl rfl ?_
  refine g_get 9 1 dX1_charge_36 (List.mem_of_getElem? (i := 1) rfl) (fun w h => List.mem_cons_of_mem _ (List.mem_append_right _ h)) (cO_book _ _ _ _) rfl (by decide) rfl ?_
  refine g_iload_n (i := 2) dX1_charge_39 rfl rfl ?_
  refine c_aald_31 dX1_charge_40 hq ?_
  refine g_iload_n (i := 1) dX1_charge_41 rfl rfl ?_
  refine g_lload dX1_charge_42 rfl ?_
  refine g_lneg dX1_charge_44 ?_
  refine g_lconst 0 rfl dX1_charge_45 ?_
  refine g_mmaxL (List.mem_of_getElem? (i := 2) rfl) (List.mem_of_getElem? (i := 3) rfl) (List.mem_of_getElem? (i := 4) rfl) (List.mem_of_getElem? (i := 5) rfl) (Nat.le_of_ble_eq_true rfl) (by exact Nat.le_of_ble_eq_true rfl) (Nat.le_of_ble_eq_true rfl) (Nat.le_of_ble_eq_true rfl) dX1_charge_46 ?_
  refine c_rst_31 dX1_charge_49 (vp_nat hq) hh ?_
  refine g_aload_n (i := 0) dX1_charge_50 rfl rfl ?_
  refine g_dup rfl dX1_charge_51 ?_
  refine g_get 9 0 dX1_charge_52 (List.mem_of_getElem? (i := 6) rfl) (fun w h => List.mem_cons_of_mem _ (List.mem_append_right _ h)) (cO_book _ _ _ _) rfl (by decide) rfl ?_
  refine g_lconst 1 rfl dX1_charge_55 ?_
  refine g_ladd dX1_charge_56 ?_
  refine g_put 9 0 _ tyX1 tyX1_ok nmX1 dX1_charge_57 (List.mem_of_getElem? (i := 6) rfl) (fun w h => List.mem_cons_of_mem _ (List.mem_append_right _ h)) (cO_book _ _ _ _) rfl (by decide) rfl (tyX1_ok 0 (by decide)) rfl rfl (Nat.le_of_ble_eq_true rfl) (cwI_30 _ _ _ _ _) ?_
  refine g_vret dX1_charge_60 ?_
  exact ⟨rfl, rfl⟩

def cf_lessen (T : MS) (h q : Int32) (v : Int64) : MS := sL (sB T (100 + h.toNatClampNeg) q.toNatClampNeg (T.2.2.2 (100 + h.toNatClampNeg) q.toNatClampNeg - v)) 30 (T.2.1 30 + 1)
set_option maxHeartbeats 4000000 in
set_option maxRecDepth 100000 in
/-- lessen -/
theorem K_lessen (l : Launch) (D : va_G) (cy : Nat → ClassId) (a : Nat → Nat) (T : MS) (B : List BL) (h q : Int32) (hh : vp_in h 10) (hq : vp_in q 10) (v : Int64) : Ct l D clx (tyx cy) yX1_lessen wsX1_lessen (rmC 0) 0 0 [.ref (a 201), .int h, .int q, .long v] (CW cy a T B) (fun r9 w9 => r9 = none ∧ w9 = CW cy a (cf_lessen T h q v) B) := by
  refine g_start (cc := cX1_lessen) (maxL := 5) (ret := none) (by decide) rfl (Nat.le_of_ble_eq_true rfl) (fun v w1 h => by obtain ⟨rfl, -⟩ := h; exact rfl) (fun Γ hlΓ => ?_)
  subst hlΓ
  refine g_aload_n (i := 0) dX1_lessen_0 rfl rfl ?_
  refine g_get 9 1 dX1_lessen_1 (List.mem_of_getElem? (i := 1) rfl) (fun w h => List.mem_cons_of_mem _ (List.mem_append_right _ h)) (cO_book _ _ _ _) rfl (by decide) rfl ?_
  refine g_iload_n (i := 1) dX1_lessen_4 rfl rfl ?_
  refine c_aald_31 dX1_lessen_5 hh ?_
  refine g_iload_n (i := 2) dX1_lessen_6 rfl rfl ?_
  refine g_dup2_11 rfl rfl dX1_lessen_7 ?_
  refine c_rld_31 dX1_lessen_8 (vp_nat hh) hq ?_
  refine g_lload_n (i := 3) dX1_lessen_9 rfl rfl ?_
  refine g_lsub dX1_lessen_10 ?_
  refine c_rst_31 dX1_lessen_11 (vp_nat hh) hq ?_
  refine g_aload_n (i := 0) dX1_lessen_12 rfl rfl ?_
  refine g_dup rfl dX1_lessen_13 ?_
  refine g_get 9 0 dX1_lessen_14 (List.mem_of_getElem? (i := 2) rfl) (fun w h => List.mem_cons_of_mem _ (List.mem_append_right _ h)) (cO_book _ _ _ _) rfl (by decide) rfl ?_
  refine g_lconst 1 rfl dX1_lessen_17 ?_
  refine g_ladd dX1_lessen_18 ?_
  refine g_put 9 0 _ tyX1 tyX1_ok nmX1 dX1_lessen_19 (List.mem_of_getElem? (i := 2) rfl) (fun w h => List.mem_cons_of_mem _ (List.mem_append_right _ h)) (cO_book _ _ _ _) rfl (by decide) rfl (tyX1_ok 0 (by decide)) rfl rfl (Nat.le_of_ble_eq_true rfl) (cwI_30 _ _ _ _ _) ?_
  refine g_vret dX1_lessen_22 ?_
  exact ⟨rfl, rfl⟩

/-- the first m places of the debts hold g -/
def gF (g : Nat → Nat → Int64) (T : MS) (m : Nat) : MS := (T.1, T.2.1, T.2.2.1, fun q p => if 100 ≤ q ∧ q < 110 ∧ p < 10 ∧ 10 * (q - 100) + p < m then g (q - 100) p else T.2.2.2 q p)
theorem gF_0 (g : Nat → Nat → Int64) (T : MS) : gF g T 0 = T := by
  unfold gF
  refine Prod.ext rfl (Prod.ext rfl (Prod.ext rfl (funext fun q => funext fun p => ?_)))
  show (if _ then _ else _) = _
  rw [if_neg (by omega)]
theorem gF_step (g : Nat → Nat → Int64) (T : MS) {i j : Nat} (hi : i < 10) (hj : j < 10) : sB (gF g T (10 * i + j)) (100 + i) j (g i j) = gF g T (10 * i + j + 1) := by
  unfold sB gF vp_updL
  refine Prod.ext rfl (Prod.ext rfl (Prod.ext rfl (funext fun q => funext fun p => ?_)))
  dsimp only
  by_cases hq : q = 100 + i
  · subst hq
    rw [if_pos rfl]
    by_cases hp : p = j
    · subst hp
      rw [if_pos rfl, if_pos (by omega), show 100 + i - 100 = i by omega]
    · rw [if_neg hp]
      by_cases h9 : 100 ≤ 100 + i ∧ 100 + i < 110 ∧ p < 10 ∧ 10 * (100 + i - 100) + p < 10 * i + j
      · rw [if_pos h9, if_pos (by omega)]
      · rw [if_neg h9, if_neg (by omega)]
  · rw [if_neg hq]
    by_cases h9 : 100 ≤ q ∧ q < 110 ∧ p < 10 ∧ 10 * (q - 100) + p < 10 * i + j
    · rw [if_pos h9, if_pos (by omega)]
    · rw [if_neg h9, if_neg (by omega)]
theorem gF_get (g : Nat → Nat → Int64) (T : MS) {i j : Nat} : (gF g T (10 * i + j)).2.2.2 (100 + i) j = T.2.2.2 (100 + i) j := by
  show (if _ then _ else _) = _
  rw [if_neg (by omega)]
def cf_wipe (T : MS) : MS := sL (gF (fun _ _ => 0) T 100) 30 (T.2.1 30 + 1)
set_option maxHeartbeats 4000000 in
set_option maxRecDepth 100000 in
/-- all debts are wiped out -/
theorem K_wipe (l : Launch) (D : va_G) (cy : Nat → ClassId) (a : Nat → Nat) (T : MS) (B : List BL) : Ct l D clx (tyx cy) yX1_wipe wsX1_wipe (rmC 0) 0 0 [.ref (a 201)] (CW cy a T B) (fun r9 w9 => r9 = none ∧ w9 = CW cy a (cf_wipe T) B) := by
  refine g_start (cc := cX1_wipe) (maxL := 3) (ret := none) (by decide) rfl (Nat.le_of_ble_eq_true rfl) (fun v w1 h => by obtain ⟨rfl, -⟩ := h; exact rfl) (fun Γ hlΓ => ?_)
  subst hlΓ
  refine g_iconst (0) rfl dX1_wipe_0 ?_
  refine g_istore_n (i := 1) dX1_wipe_1 rfl (by decide) ?_
  refine g_cnt 10 (fun i => True) (fun i => CW cy a (gF (fun _ _ => 0) T (10 * i)) B) (fun i => [(0, .ref (a 201)), (1, .int (nI i))]) 0 (by first | decide | omega) trivial (by rw [show 10 * 0 = 0 from rfl, gF_0]) (by refine ⟨rfl, rfl, trivial⟩) ?_ (fun i1 hi1 gi1 ihi1 => ?_)
  · intro gNi1
    refine g_iload_n (i := 1) dX1_wipe_2 rfl rfl ?_
    refine g_bipush (10) rfl dX1_wipe_3 ?_
    refine g_icmp_ge 37 dX1_wipe_5 (by decide) (fun c_2 => ?_) (fun c_2 => ?_)
    · skip
      refine g_aload_n (i := 0) dX1_wipe_37 rfl rfl ?_
      refine g_dup rfl dX1_wipe_38 ?_
      refine g_get 9 0 dX1_wipe_39 (List.mem_of_getElem? (i := 2) rfl) (fun w h => List.mem_cons_of_mem _ (List.mem_append_right _ h)) (cO_book _ _ _ _) rfl (by decide) rfl ?_
      refine g_lconst 1 rfl dX1_wipe_42 ?_
      refine g_ladd dX1_wipe_43 ?_
      refine g_put 9 0 _ tyX1 tyX1_ok nmX1 dX1_wipe_44 (List.mem_of_getElem? (i := 2) rfl) (fun w h => List.mem_cons_of_mem _ (List.mem_append_right _ h)) (cO_book _ _ _ _) rfl (by decide) rfl (tyX1_ok 0 (by decide)) rfl rfl (Nat.le_of_ble_eq_true rfl) (cwI_30 _ _ _ _ _) ?_
      refine g_vret dX1_wipe_47 ?_
      exact ⟨rfl, rfl⟩
    · skip
      exact absurd (nI_le (Nat.le_refl _) (by first | decide | omega)) c_2
  · skip
    refine g_iload_n (i := 1) dX1_wipe_2 rfl rfl ?_
    refine g_bipush (10) rfl dX1_wipe_3 ?_
    refine g_icmp_ge 37 dX1_wipe_5 (by decide) (fun c_3 => ?_) (fun c_3 => ?_)
    · skip
      exact absurd c_3 (nI_ge hi1 (by first | decide | omega))
    · skip
      refine g_iconst (0) rfl dX1_wipe_8 ?_
      refine g_istore_n (i := 2) dX1_wipe_9 rfl (by decide) ?_
      refine g_cnt 10 (fun i => True) (fun i => CW cy a (gF (fun _ _ => 0) T (10 * i1 + i)) B) (fun i => [(0, .ref (a 201)), (1, .int (nI i1)), (2, .int (nI i))]) 0 (by first | decide | omega) trivial (by rfl) (by refine ⟨rfl, rfl, rfl, trivial⟩) ?_ (fun i4 hi4 gi4 ihi4 => ?_)
      · intro gNi4
        refine g_iload_n (i := 2) dX1_wipe_10 rfl rfl ?_
        refine g_bipush (10) rfl dX1_wipe_11 ?_
        refine g_icmp_ge 31 dX1_wipe_13 (by decide) (fun c_5 => ?_) (fun c_5 => ?_)
        · skip
          refine g_iinc (1) dX1_wipe_31 rfl rfl (by decide) ?_
          refine g_goto 2 dX1_wipe_34 (by decide) ?_
          refine g_to _ _ (ihi1 (trivial)) rfl (by refine ⟨(by first | rfl | (rw [← nI_1]; rfl)), (by first | rfl | (rw [← nI_1]; rfl)), trivial⟩)
        · skip
          exact absurd (nI_le (Nat.le_refl _) (by first | decide | omega)) c_5
      · skip
        refine g_iload_n (i := 2) dX1_wipe_10 rfl rfl ?_
        refine g_bipush (10) rfl dX1_wipe_11 ?_
        refine g_icmp_ge 31 dX1_wipe_13 (by decide) (fun c_6 => ?_) (fun c_6 => ?_)
        · skip
          exact absurd c_6 (nI_ge hi4 (by first | decide | omega))
        · skip
          refine g_aload_n (i := 0) dX1_wipe_16 rfl rfl ?_
          refine g_get 9 1 dX1_wipe_17 (List.mem_of_getElem? (i := 1) rfl) (fun w h => List.mem_cons_of_mem _ (List.mem_append_right _ h)) (cO_book _ _ _ _) rfl (by decide) rfl ?_
          refine g_iload_n (i := 1) dX1_wipe_20 rfl rfl ?_
          refine c_aaldN_31 dX1_wipe_21 (by omega) ?_
          refine g_iload_n (i := 2) dX1_wipe_22 rfl rfl ?_
          refine g_lconst 0 rfl dX1_wipe_23 ?_
          refine c_rstN_31 dX1_wipe_24 (by omega) (by omega) ?_
          refine g_iinc (1) dX1_wipe_25 rfl rfl (by decide) ?_
          refine g_goto 10 dX1_wipe_28 (by decide) ?_
          refine g_to _ _ (ihi4 (trivial)) (congrArg (fun z => CW cy a z B) (gF_step (fun _ _ => 0) T (by assumption) (by assumption))) (by refine ⟨(by first | rfl | (rw [← nI_1]; rfl)), (by first | rfl | (rw [← nI_1]; rfl)), (by first | rfl | (rw [← nI_1]; rfl)), trivial⟩)

def cnetT (T : MS) (h : Int32) : Nat → Int64
  | 0 => 0
  | i + 1 => cnetT T h i + (T.2.2.2 (100 + i) h.toNatClampNeg - T.2.2.2 (100 + h.toNatClampNeg) i)
set_option maxHeartbeats 4000000 in
set_option maxRecDepth 100000 in
/-- the net of a house -/
theorem K_balance (l : Launch) (D : va_G) (cy : Nat → ClassId) (a : Nat → Nat) (T : MS) (B : List BL) (h : Int32) (hh : vp_in h 10) : Ct l D clx (tyx cy) yX1_balance wsX1_balance (rmC 0) 0 0 [.ref (a 201), .int h] (CW cy a T B) (fun r9 w9 => r9 = some (.long (cnetT T h 10)) ∧ w9 = CW cy a T B) := by
  refine g_start (cc := cX1_balance) (maxL := 5) (ret := (some .long)) (by decide) rfl (Nat.le_of_ble_eq_true rfl) (fun v w1 h => by obtain ⟨rfl, -⟩ := h; exact rfl) (fun Γ hlΓ => ?_)
  subst hlΓ
  refine g_lconst 0 rfl dX1_balance_0 ?_
  refine g_lstore_n (i := 2) dX1_balance_1 rfl (by decide) ?_
  refine g_iconst (0) rfl dX1_balance_2 ?_
  refine g_istore dX1_balance_3 (by decide) ?_
  refine g_cnt 10 (fun i => True) (fun i => CW cy a T B) (fun i => [(0, .ref (a 201)), (1, .int h), (2, .long (cnetT T h i)), (4, .int (nI i))]) 0 (by first | decide | omega) trivial (by rfl) (by refine ⟨rfl, rfl, rfl, rfl, trivial⟩) ?_ (fun i1 hi1 gi1 ihi1 => ?_)
  · intro gNi1
    refine g_iload dX1_balance_5 rfl ?_
    refine g_bipush (10) rfl dX1_balance_7 ?_
    refine g_icmp_ge 40 dX1_balance_9 (by decide) (fun c_2 => ?_) (fun c_2 => ?_)
    · skip
      refine g_lload_n (i := 2) dX1_balance_40 rfl rfl ?_
      refine g_lret dX1_balance_41 ?_
      exact ⟨rfl, rfl⟩
    · skip
      exact absurd (nI_le (Nat.le_refl _) (by first | decide | omega)) c_2
  · skip
    refine g_iload dX1_balance_5 rfl ?_
    refine g_bipush (10) rfl dX1_balance_7 ?_
    refine g_icmp_ge 40 dX1_balance_9 (by decide) (fun c_3 => ?_) (fun c_3 => ?_)
    · skip
      exact absurd c_3 (nI_ge hi1 (by first | decide | omega))
    · skip
      refine g_lload_n (i := 2) dX1_balance_12 rfl rfl ?_
      refine g_aload_n (i := 0) dX1_balance_13 rfl rfl ?_
      refine g_get 9 1 dX1_balance_14 (List.mem_of_getElem? (i := 1) rfl) (fun w h => List.mem_cons_of_mem _ (List.mem_append_right _ h)) (cO_book _ _ _ _) rfl (by decide) rfl ?_
      refine g_iload dX1_balance_17 rfl ?_
      refine c_aaldN_31 dX1_balance_19 (by omega) ?_
      refine g_iload_n (i := 1) dX1_balance_20 rfl rfl ?_
      refine c_rld_31 dX1_balance_21 (by omega) hh ?_
      refine g_aload_n (i := 0) dX1_balance_22 rfl rfl ?_
      refine g_get 9 1 dX1_balance_23 (List.mem_of_getElem? (i := 1) rfl) (fun w h => List.mem_cons_of_mem _ (List.mem_append_right _ h)) (cO_book _ _ _ _) rfl (by decide) rfl ?_
      refine g_iload_n (i := 1) dX1_balance_26 rfl rfl ?_
      refine c_aald_31 dX1_balance_27 hh ?_
      refine g_iload dX1_balance_28 rfl ?_
      refine c_rldN_31 dX1_balance_30 (vp_nat hh) (by omega) ?_
      refine g_lsub dX1_balance_31 ?_
      refine g_ladd dX1_balance_32 ?_
      refine g_lstore_n (i := 2) dX1_balance_33 rfl (by decide) ?_
      refine g_iinc (1) dX1_balance_34 rfl rfl (by decide) ?_
      refine g_goto 5 dX1_balance_37 (by decide) ?_
      refine g_to _ _ (ihi1 (trivial)) rfl (by refine ⟨(by first | rfl | (rw [← nI_1]; rfl)), (by first | rfl | (rw [← nI_1]; rfl)), (by first | rfl | (rw [← nI_1]; rfl)), (by first | rfl | (rw [← nI_1]; rfl)), trivial⟩)

/-- the sum of the first m debts -/
def ctot (T : MS) : Nat → Int64
  | 0 => 0
  | m + 1 => ctot T m + T.2.2.2 (100 + m / 10) (m % 10)
theorem ctot_s (T : MS) {i j : Nat} (hj : j < 10) : ctot T (10 * i + j) + T.2.2.2 (100 + i) j = ctot T (10 * i + (j + 1)) := by
  show _ = ctot T (10 * i + j) + T.2.2.2 (100 + (10 * i + j) / 10) ((10 * i + j) % 10)
  rw [show (10 * i + j) / 10 = i by omega, show (10 * i + j) % 10 = j by omega]
set_option maxHeartbeats 4000000 in
set_option maxRecDepth 100000 in
/-- what is owed in all -/
theorem K_total (l : Launch) (D : va_G) (cy : Nat → ClassId) (a : Nat → Nat) (T : MS) (B : List BL) : Ct l D clx (tyx cy) yX1_total wsX1_total (rmC 0) 0 0 [.ref (a 201)] (CW cy a T B) (fun r9 w9 => r9 = some (.long (ctot T 100)) ∧ w9 = CW cy a T B) := by
  refine g_start (cc := cX1_total) (maxL := 5) (ret := (some .long)) (by decide) rfl (Nat.le_of_ble_eq_true rfl) (fun v w1 h => by obtain ⟨rfl, -⟩ := h; exact rfl) (fun Γ hlΓ => ?_)
  subst hlΓ
  refine g_lconst 0 rfl dX1_total_0 ?_
  refine g_lstore_n (i := 1) dX1_total_1 rfl (by decide) ?_
  refine g_iconst (0) rfl dX1_total_2 ?_
  refine g_istore_n (i := 3) dX1_total_3 rfl (by decide) ?_
  refine g_cnt 10 (fun i => True) (fun i => CW cy a T B) (fun i => [(0, .ref (a 201)), (1, .long (ctot T (10 * i))), (3, .int (nI i))]) 0 (by first | decide | omega) trivial (by rfl) (by refine ⟨rfl, rfl, rfl, trivial⟩) ?_ (fun i1 hi1 gi1 ihi1 => ?_)
  · intro gNi1
    refine g_iload_n (i := 3) dX1_total_4 rfl rfl ?_
    refine g_bipush (10) rfl dX1_total_5 ?_
    refine g_icmp_ge 44 dX1_total_7 (by decide) (fun c_2 => ?_) (fun c_2 => ?_)
    · skip
      refine g_lload_n (i := 1) dX1_total_44 rfl rfl ?_
      refine g_lret dX1_total_45 ?_
      exact ⟨rfl, rfl⟩
    · skip
      exact absurd (nI_le (Nat.le_refl _) (by first | decide | omega)) c_2
  · skip
    refine g_iload_n (i := 3) dX1_total_4 rfl rfl ?_
    refine g_bipush (10) rfl dX1_total_5 ?_
    refine g_icmp_ge 44 dX1_total_7 (by decide) (fun c_3 => ?_) (fun c_3 => ?_)
    · skip
      exact absurd c_3 (nI_ge hi1 (by first | decide | omega))
    · skip
      refine g_iconst (0) rfl dX1_total_10 ?_
      refine g_istore dX1_total_11 (by decide) ?_
      refine g_cnt 10 (fun i => True) (fun i => CW cy a T B) (fun i => [(0, .ref (a 201)), (1, .long (ctot T (10 * i1 + i))), (3, .int (nI i1)), (4, .int (nI i))]) 0 (by first | decide | omega) trivial (by rfl) (by refine ⟨rfl, rfl, rfl, rfl, trivial⟩) ?_ (fun i4 hi4 gi4 ihi4 => ?_)
      · intro gNi4
        refine g_iload dX1_total_13 rfl ?_
        refine g_bipush (10) rfl dX1_total_15 ?_
        refine g_icmp_ge 38 dX1_total_17 (by decide) (fun c_5 => ?_) (fun c_5 => ?_)
        · skip
          refine g_iinc (1) dX1_total_38 rfl rfl (by decide) ?_
          refine g_goto 4 dX1_total_41 (by decide) ?_
          refine g_to _ _ (ihi1 (trivial)) rfl (by refine ⟨(by first | rfl | (rw [← nI_1]; rfl)), (by first | rfl | (rw [← nI_1]; rfl)), (by first | rfl | (rw [← nI_1]; rfl)), trivial⟩)
        · skip
          exact absurd (nI_le (Nat.le_refl _) (by first | decide | omega)) c_5
      · skip
        refine g_iload dX1_total_13 rfl ?_
        refine g_bipush (10) rfl dX1_total_15 ?_
        refine g_icmp_ge 38 dX1_total_17 (by decide) (fun c_6 => ?_) (fun c_6 => ?_)
        · skip
          exact absurd c_6 (nI_ge hi4 (by first | decide | omega))
        · skip
          refine g_lload_n (i := 1) dX1_total_20 rfl rfl ?_
          refine g_aload_n (i := 0) dX1_total_21 rfl rfl ?_
          refine g_get 9 1 dX1_total_22 (List.mem_of_getElem? (i := 1) rfl) (fun w h => List.mem_cons_of_mem _ (List.mem_append_right _ h)) (cO_book _ _ _ _) rfl (by decide) rfl ?_
          refine g_iload_n (i := 3) dX1_total_25 rfl rfl ?_
          refine c_aaldN_31 dX1_total_26 (by omega) ?_
          refine g_iload dX1_total_27 rfl ?_
          refine c_rldN_31 dX1_total_29 (by omega) (by omega) ?_
          refine g_ladd dX1_total_30 ?_
          refine g_lstore_n (i := 1) dX1_total_31 rfl (by decide) ?_
          refine g_iinc (1) dX1_total_32 rfl rfl (by decide) ?_
          refine g_goto 13 dX1_total_35 (by decide) ?_
          refine g_to _ _ (ihi4 (trivial)) rfl (by refine ⟨(by first | rfl | (rw [← nI_1]; rfl) | (rw [← ctot_s _ (by assumption)]; rfl)), (by first | rfl | (rw [← nI_1]; rfl) | (rw [← ctot_s _ (by assumption)]; rfl)), (by first | rfl | (rw [← nI_1]; rfl) | (rw [← ctot_s _ (by assumption)]; rfl)), (by first | rfl | (rw [← nI_1]; rfl) | (rw [← ctot_s _ (by assumption)]; rfl)), trivial⟩)

abbrev ccar (x : Int64) (g : Int32) : Int64 := x + x * g.toInt64 / 1000
set_option maxHeartbeats 4000000 in
set_option maxRecDepth 100000 in
/-- a debt with its gain -/
theorem K_carried (l : Launch) (D : va_G) (cy : Nat → ClassId) (a : Nat → Nat) (T : MS) (B : List BL) (x : Int64) (g : Int32) : Ct l D clx (tyx cy) yX1_carried wsX1_carried (rmC 0) 0 0 [.long x, .int g] (CW cy a T B) (fun r9 w9 => r9 = some (.long (ccar x g)) ∧ w9 = CW cy a T B) := by
  refine g_start (cc := cX1_carried) (maxL := 3) (ret := (some .long)) (by decide) rfl (Nat.le_of_ble_eq_true rfl) (fun v w1 h => by obtain ⟨rfl, -⟩ := h; exact rfl) (fun Γ hlΓ => ?_)
  subst hlΓ
  refine g_lload_n (i := 0) dX1_carried_0 rfl rfl ?_
  refine g_lload_n (i := 0) dX1_carried_1 rfl rfl ?_
  refine g_iload_n (i := 2) dX1_carried_2 rfl rfl ?_
  refine g_i2l dX1_carried_3 ?_
  refine g_lmul dX1_carried_4 ?_
  refine g_ldc2 (1000) (List.mem_of_getElem? (i := 1) rfl) dX1_carried_5 ?_
  refine g_ldiv (by decide) dX1_carried_8 ?_
  refine g_ladd dX1_carried_9 ?_
  refine g_lret dX1_carried_10 ?_
  exact ⟨rfl, rfl⟩

abbrev ccok (T : MS) (g : Int32) : Prop := ∀ m, m < 100 → ccar (T.2.2.2 (100 + m / 10) (m % 10)) g ≤ 1000000000
theorem cc_s {T : MS} {g : Int32} {i j : Nat} (hj : j < 10) (h : ∀ m, m < 10 * i + j → ccar (T.2.2.2 (100 + m / 10) (m % 10)) g ≤ 1000000000) (h2 : ccar (T.2.2.2 (100 + i) j) g ≤ 1000000000) : ∀ m, m < 10 * i + (j + 1) → ccar (T.2.2.2 (100 + m / 10) (m % 10)) g ≤ 1000000000 := by
  intro m hm
  by_cases e : m = 10 * i + j
  · subst e
    rw [show (10 * i + j) / 10 = i by omega, show (10 * i + j) % 10 = j by omega]
    exact h2
  · exact h m (by omega)
theorem cc_n {T : MS} {g : Int32} {i j : Nat} (h2 : ¬ ccar (T.2.2.2 (100 + i) j) g ≤ 1000000000) (hi : i < 10) (hj : j < 10) : ¬ ccok T g := by
  intro h
  have := h (10 * i + j) (by omega)
  rw [show (10 * i + j) / 10 = i by omega, show (10 * i + j) % 10 = j by omega] at this
  exact h2 this
set_option maxHeartbeats 4000000 in
set_option maxRecDepth 100000 in
/-- a debt would be carried too far -/
theorem K_carryOv (l : Launch) (D : va_G) (cy : Nat → ClassId) (a : Nat → Nat) (T : MS) (B : List BL) (g : Int32) : Ct l D clx (tyx cy) yX1_carryOverfills wsX1_carryOverfills (rmC 1) 0 0 [.ref (a 201), .int g] (CW cy a T B) (fun r9 w9 => (r9 = some (.int 1) ∧ (¬ ccok T g) ∧ w9 = CW cy a T B) ∨ (r9 = some (.int 0) ∧ ¬ (¬ ccok T g) ∧ w9 = CW cy a T B)) := by
  refine g_start (cc := cX1_carryOverfills) (maxL := 4) (ret := (some .boolean)) (by decide) rfl (Nat.le_of_ble_eq_true rfl) (fun v w1 h => by rcases h with ⟨rfl, -, -⟩ | ⟨rfl, -, -⟩ <;> exact ⟨.boolean, rfl, rfl⟩) (fun Γ hlΓ => ?_)
  subst hlΓ
  refine g_iconst (0) rfl dX1_carryOverfills_0 ?_
  refine g_istore_n (i := 2) dX1_carryOverfills_1 rfl (by decide) ?_
  refine g_cnt 10 (fun i => ∀ m, m < 10 * i → ccar (T.2.2.2 (100 + m / 10) (m % 10)) g ≤ 1000000000) (fun i => CW cy a T B) (fun i => [(0, .ref (a 201)), (1, .int g), (2, .int (nI i))]) 0 (by first | decide | omega) (fun m h => absurd h (by omega)) (by rfl) (by refine ⟨rfl, rfl, rfl, trivial⟩) ?_ (fun i1 hi1 gi1 ihi1 => ?_)
  · intro gNi1
    refine g_iload_n (i := 2) dX1_carryOverfills_2 rfl rfl ?_
    refine g_bipush (10) rfl dX1_carryOverfills_3 ?_
    refine g_icmp_ge 49 dX1_carryOverfills_5 (by decide) (fun c_2 => ?_) (fun c_2 => ?_)
    · skip
      refine g_iconst (0) rfl dX1_carryOverfills_49 ?_
      refine g_iret dX1_carryOverfills_50 ?_
      exact Or.inr ⟨rfl, fun h9 => h9 (by assumption), rfl⟩
    · skip
      exact absurd (nI_le (Nat.le_refl _) (by first | decide | omega)) c_2
  · skip
    refine g_iload_n (i := 2) dX1_carryOverfills_2 rfl rfl ?_
    refine g_bipush (10) rfl dX1_carryOverfills_3 ?_
    refine g_icmp_ge 49 dX1_carryOverfills_5 (by decide) (fun c_3 => ?_) (fun c_3 => ?_)
    · skip
      exact absurd c_3 (nI_ge hi1 (by first | decide | omega))
    · skip
      refine g_iconst (0) rfl dX1_carryOverfills_8 ?_
      refine g_istore_n (i := 3) dX1_carryOverfills_9 rfl (by decide) ?_
      refine g_cnt 10 (fun i => ∀ m, m < 10 * i1 + i → ccar (T.2.2.2 (100 + m / 10) (m % 10)) g ≤ 1000000000) (fun i => CW cy a T B) (fun i => [(0, .ref (a 201)), (1, .int g), (2, .int (nI i1)), (3, .int (nI i))]) 0 (by first | decide | omega) (by assumption) (by rfl) (by refine ⟨rfl, rfl, rfl, rfl, trivial⟩) ?_ (fun i4 hi4 gi4 ihi4 => ?_)
      · intro gNi4
        refine g_iload_n (i := 3) dX1_carryOverfills_10 rfl rfl ?_
        refine g_bipush (10) rfl dX1_carryOverfills_11 ?_
        refine g_icmp_ge 43 dX1_carryOverfills_13 (by decide) (fun c_5 => ?_) (fun c_5 => ?_)
        · skip
          refine g_iinc (1) dX1_carryOverfills_43 rfl rfl (by decide) ?_
          refine g_goto 2 dX1_carryOverfills_46 (by decide) ?_
          refine g_to _ _ (ihi1 ((by intro m hm; exact (by assumption : ∀ m, m < 10 * i1 + 10 → ccar (T.2.2.2 (100 + m / 10) (m % 10)) g ≤ 1000000000) m (by omega)))) rfl (by refine ⟨(by first | rfl | (rw [← nI_1]; rfl)), (by first | rfl | (rw [← nI_1]; rfl)), (by first | rfl | (rw [← nI_1]; rfl)), trivial⟩)
        · skip
          exact absurd (nI_le (Nat.le_refl _) (by first | decide | omega)) c_5
      · skip
        refine g_iload_n (i := 3) dX1_carryOverfills_10 rfl rfl ?_
        refine g_bipush (10) rfl dX1_carryOverfills_11 ?_
        refine g_icmp_ge 43 dX1_carryOverfills_13 (by decide) (fun c_6 => ?_) (fun c_6 => ?_)
        · skip
          exact absurd c_6 (nI_ge hi4 (by first | decide | omega))
        · skip
          refine g_aload_n (i := 0) dX1_carryOverfills_16 rfl rfl ?_
          refine g_get 9 1 dX1_carryOverfills_17 (List.mem_of_getElem? (i := 1) rfl) (fun w h => List.mem_cons_of_mem _ (List.mem_append_right _ h)) (cO_book _ _ _ _) rfl (by decide) rfl ?_
          refine g_iload_n (i := 2) dX1_carryOverfills_20 rfl rfl ?_
          refine c_aaldN_31 dX1_carryOverfills_21 (by omega) ?_
          refine g_iload_n (i := 3) dX1_carryOverfills_22 rfl rfl ?_
          refine c_rldN_31 dX1_carryOverfills_23 (by omega) (by omega) ?_
          refine g_iload_n (i := 1) dX1_carryOverfills_24 rfl rfl ?_
          refine g_callSf 2 gX1_carryOverfills_X1_carried rfl rfl rfl ⟨Nat.le_of_ble_eq_true rfl, Nat.le_of_ble_eq_true rfl⟩ ⟨Nat.le_of_ble_eq_true rfl, Nat.le_of_ble_eq_true rfl⟩ (by exact Nat.le_of_ble_eq_true rfl) (by decide +kernel) rfl dX1_carryOverfills_25 (K_carried _ D cy a _ _ _ _) rfl (fun vu_7 wu_7 hu_7 => ?_)
          obtain ⟨rfl, rfl⟩ := hu_7
          refine g_ldc2 (1000000000) (List.mem_of_getElem? (i := 2) rfl) dX1_carryOverfills_28 ?_
          refine g_lcmp_le 37 dX1_carryOverfills_31 dX1_carryOverfills_32 (by decide) (fun c_8 => ?_) (fun c_8 => ?_)
          · skip
            refine g_iinc (1) dX1_carryOverfills_37 rfl rfl (by decide) ?_
            refine g_goto 10 dX1_carryOverfills_40 (by decide) ?_
            refine g_to _ _ (ihi4 (cc_s (by assumption) (by assumption) (by assumption))) rfl (by refine ⟨(by first | rfl | (rw [← nI_1]; rfl)), (by first | rfl | (rw [← nI_1]; rfl)), (by first | rfl | (rw [← nI_1]; rfl)), (by first | rfl | (rw [← nI_1]; rfl)), trivial⟩)
          · skip
            refine g_iconst (1) rfl dX1_carryOverfills_35 ?_
            refine g_iret dX1_carryOverfills_36 ?_
            exact Or.inl ⟨rfl, cc_n (by assumption) (by assumption) (by assumption), rfl⟩

def cgn (T : MS) (g : Int32) : Nat → Nat → Int64 := fun i j => ccar (T.2.2.2 (100 + i) j) g
def cf_carry (T : MS) (g : Int32) : MS := sL (gF (cgn T g) T 100) 30 (T.2.1 30 + 1)
theorem cgn_step (T : MS) (g : Int32) {i j : Nat} (hi : i < 10) (hj : j < 10) : sB (gF (cgn T g) T (10 * i + j)) (100 + i) j (ccar ((gF (cgn T g) T (10 * i + j)).2.2.2 (100 + i) j) g) = gF (cgn T g) T (10 * i + (j + 1)) := by
  rw [gF_get]
  exact gF_step (cgn T g) T hi hj
set_option maxHeartbeats 4000000 in
set_option maxRecDepth 100000 in
/-- all debts are carried -/
theorem K_carry (l : Launch) (D : va_G) (cy : Nat → ClassId) (a : Nat → Nat) (T : MS) (B : List BL) (g : Int32) : Ct l D clx (tyx cy) yX1_carry wsX1_carry (rmC 1) 0 0 [.ref (a 201), .int g] (CW cy a T B) (fun r9 w9 => r9 = none ∧ w9 = CW cy a (cf_carry T g) B) := by
  refine g_start (cc := cX1_carry) (maxL := 4) (ret := none) (by decide) rfl (Nat.le_of_ble_eq_true rfl) (fun v w1 h => by obtain ⟨rfl, -⟩ := h; exact rfl) (fun Γ hlΓ => ?_)
  subst hlΓ
  refine g_iconst (0) rfl dX1_carry_0 ?_
  refine g_istore_n (i := 2) dX1_carry_1 rfl (by decide) ?_
  refine g_cnt 10 (fun i => True) (fun i => CW cy a (gF (cgn T g) T (10 * i)) B) (fun i => [(0, .ref (a 201)), (1, .int g), (2, .int (nI i))]) 0 (by first | decide | omega) trivial (by rw [show 10 * 0 = 0 from rfl, gF_0]) (by refine ⟨rfl, rfl, rfl, trivial⟩) ?_ (fun i1 hi1 gi1 ihi1 => ?_)
  · intro gNi1
    refine g_iload_n (i := 2) dX1_carry_2 rfl rfl ?_
    refine g_bipush (10) rfl dX1_carry_3 ?_
    refine g_icmp_ge 48 dX1_carry_5 (by decide) (fun c_2 => ?_) (fun c_2 => ?_)
    · skip
      refine g_aload_n (i := 0) dX1_carry_48 rfl rfl ?_
      refine g_dup rfl dX1_carry_49 ?_
      refine g_get 9 0 dX1_carry_50 (List.mem_of_getElem? (i := 2) rfl) (fun w h => List.mem_cons_of_mem _ (List.mem_append_right _ h)) (cO_book _ _ _ _) rfl (by decide) rfl ?_
      refine g_lconst 1 rfl dX1_carry_53 ?_
      refine g_ladd dX1_carry_54 ?_
      refine g_put 9 0 _ tyX1 tyX1_ok nmX1 dX1_carry_55 (List.mem_of_getElem? (i := 2) rfl) (fun w h => List.mem_cons_of_mem _ (List.mem_append_right _ h)) (cO_book _ _ _ _) rfl (by decide) rfl (tyX1_ok 0 (by decide)) rfl rfl (Nat.le_of_ble_eq_true rfl) (cwI_30 _ _ _ _ _) ?_
      refine g_vret dX1_carry_58 ?_
      exact ⟨rfl, rfl⟩
    · skip
      exact absurd (nI_le (Nat.le_refl _) (by first | decide | omega)) c_2
  · skip
    refine g_iload_n (i := 2) dX1_carry_2 rfl rfl ?_
    refine g_bipush (10) rfl dX1_carry_3 ?_
    refine g_icmp_ge 48 dX1_carry_5 (by decide) (fun c_3 => ?_) (fun c_3 => ?_)
    · skip
      exact absurd c_3 (nI_ge hi1 (by first | decide | omega))
    · skip
      refine g_iconst (0) rfl dX1_carry_8 ?_
      refine g_istore_n (i := 3) dX1_carry_9 rfl (by decide) ?_
      refine g_cnt 10 (fun i => True) (fun i => CW cy a (gF (cgn T g) T (10 * i1 + i)) B) (fun i => [(0, .ref (a 201)), (1, .int g), (2, .int (nI i1)), (3, .int (nI i))]) 0 (by first | decide | omega) trivial (by rfl) (by refine ⟨rfl, rfl, rfl, rfl, trivial⟩) ?_ (fun i4 hi4 gi4 ihi4 => ?_)
      · intro gNi4
        refine g_iload_n (i := 3) dX1_carry_10 rfl rfl ?_
        refine g_bipush (10) rfl dX1_carry_11 ?_
        refine g_icmp_ge 42 dX1_carry_13 (by decide) (fun c_5 => ?_) (fun c_5 => ?_)
        · skip
          refine g_iinc (1) dX1_carry_42 rfl rfl (by decide) ?_
          refine g_goto 2 dX1_carry_45 (by decide) ?_
          refine g_to _ _ (ihi1 (trivial)) rfl (by refine ⟨(by first | rfl | (rw [← nI_1]; rfl)), (by first | rfl | (rw [← nI_1]; rfl)), (by first | rfl | (rw [← nI_1]; rfl)), trivial⟩)
        · skip
          exact absurd (nI_le (Nat.le_refl _) (by first | decide | omega)) c_5
      · skip
        refine g_iload_n (i := 3) dX1_carry_10 rfl rfl ?_
        refine g_bipush (10) rfl dX1_carry_11 ?_
        refine g_icmp_ge 42 dX1_carry_13 (by decide) (fun c_6 => ?_) (fun c_6 => ?_)
        · skip
          exact absurd c_6 (nI_ge hi4 (by first | decide | omega))
        · skip
          refine g_aload_n (i := 0) dX1_carry_16 rfl rfl ?_
          refine g_get 9 1 dX1_carry_17 (List.mem_of_getElem? (i := 1) rfl) (fun w h => List.mem_cons_of_mem _ (List.mem_append_right _ h)) (cO_book _ _ _ _) rfl (by decide) rfl ?_
          refine g_iload_n (i := 2) dX1_carry_20 rfl rfl ?_
          refine c_aaldN_31 dX1_carry_21 (by omega) ?_
          refine g_iload_n (i := 3) dX1_carry_22 rfl rfl ?_
          refine g_aload_n (i := 0) dX1_carry_23 rfl rfl ?_
          refine g_get 9 1 dX1_carry_24 (List.mem_of_getElem? (i := 1) rfl) (fun w h => List.mem_cons_of_mem _ (List.mem_append_right _ h)) (cO_book _ _ _ _) rfl (by decide) rfl ?_
          refine g_iload_n (i := 2) dX1_carry_27 rfl rfl ?_
          refine c_aaldN_31 dX1_carry_28 (by omega) ?_
          refine g_iload_n (i := 3) dX1_carry_29 rfl rfl ?_
          refine c_rldN_31 dX1_carry_30 (by omega) (by omega) ?_
          refine g_iload_n (i := 1) dX1_carry_31 rfl rfl ?_
          refine g_callSf 2 gX1_carry_X1_carried rfl rfl rfl ⟨Nat.le_of_ble_eq_true rfl, Nat.le_of_ble_eq_true rfl⟩ ⟨Nat.le_of_ble_eq_true rfl, Nat.le_of_ble_eq_true rfl⟩ (by exact Nat.le_of_ble_eq_true rfl) (by decide +kernel) rfl dX1_carry_32 (K_carried _ D cy a _ _ _ _) rfl (fun vu_7 wu_7 hu_7 => ?_)
          obtain ⟨rfl, rfl⟩ := hu_7
          refine c_rstN_31 dX1_carry_35 (by omega) (by omega) ?_
          refine g_iinc (1) dX1_carry_36 rfl rfl (by decide) ?_
          refine g_goto 10 dX1_carry_39 (by decide) ?_
          refine g_to _ _ (ihi4 (trivial)) (congrArg (fun z => CW cy a z B) (cgn_step T g (by assumption) (by assumption))) (by refine ⟨(by first | rfl | (rw [← nI_1]; rfl)), (by first | rfl | (rw [← nI_1]; rfl)), (by first | rfl | (rw [← nI_1]; rfl)), (by first | rfl | (rw [← nI_1]; rfl)), trivial⟩)

