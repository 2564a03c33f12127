def bgF (T : MS) (i : Nat) : MS := (T.1, T.2.1, T.2.2.1, fun q p => if q = 65 ∧ p < i then 0 else T.2.2.2 q p)
theorem bgF_0 (T : MS) : bgF T 0 = T := by
  unfold bgF
  refine Prod.ext rfl (Prod.ext rfl (Prod.ext rfl (funext fun q => funext fun p => ?_)))
  show (if _ then _ else _) = _
  rw [if_neg (by omega)]
theorem bgF_s (T : MS) (i : Nat) : sB (bgF T i) 65 i 0 = bgF T (i + 1) := by
  unfold sB bgF vp_updL
  refine Prod.ext rfl (Prod.ext rfl (Prod.ext rfl (funext fun q => funext fun p => ?_)))
  dsimp only
  by_cases hq : q = 65
  · subst hq
    rw [if_pos rfl]
    by_cases hp : p = i
    · subst hp; rw [if_pos rfl, if_pos (by omega)]
    · rw [if_neg hp]
      by_cases h : p < i
      · rw [if_pos ⟨rfl, h⟩, if_pos ⟨rfl, by omega⟩]
      · rw [if_neg (by omega), if_neg (by omega)]
  · rw [if_neg hq, if_neg (by omega), if_neg (by omega)]
set_option maxHeartbeats 4000000 in
set_option maxRecDepth 100000 in
/-- begin -/
theorem K_begin (l : Launch) (D : va_G) (cy : Nat → ClassId) (a : Nat → Nat) (T : MS) (B : List BL) : Ct l D clx (tyx cy) yX4_begin wsX4_begin (rmC 0) 0 0 [.ref (a 204)] (CW cy a T B) (fun r9 w9 => r9 = none ∧ w9 = CW cy a (bgF T 10) B) := by
  refine g_start (cc := cX4_begin) (maxL := 2) (ret := none) (by decide) rfl (Nat.le_of_ble_eq_true rfl) (fun v w1 h => by obtain ⟨rfl, -⟩ := h; exact rfl) (fun Γ hlΓ => ?_)
  subst hlΓ
  refine g_iconst (0) rfl dX4_begin_0 ?_
  refine g_istore_n (i := 1) dX4_begin_1 rfl (by decide) ?_
  refine g_cnt 10 (fun i => True) (fun i => CW cy a (bgF T i) B) (fun i => [(0, .ref (a 204)), (1, .int (nI i))]) 0 (by first | decide | omega) trivial (by rw [bgF_0]) (by refine ⟨rfl, rfl, trivial⟩) ?_ (fun i1 hi1 gi1 ihi1 => ?_)
  · intro gNi1
    refine g_iload_n (i := 1) dX4_begin_2 rfl rfl ?_
    refine g_bipush (10) rfl dX4_begin_3 ?_
    refine g_icmp_ge 21 dX4_begin_5 (by decide) (fun c_2 => ?_) (fun c_2 => ?_)
    · skip
      refine g_vret dX4_begin_21 ?_
      exact ⟨rfl, rfl⟩
    · skip
      exact absurd (nI_le (Nat.le_refl _) (by first | decide | omega)) c_2
  · skip
    refine g_iload_n (i := 1) dX4_begin_2 rfl rfl ?_
    refine g_bipush (10) rfl dX4_begin_3 ?_
    refine g_icmp_ge 21 dX4_begin_5 (by decide) (fun c_3 => ?_) (fun c_3 => ?_)
    · skip
      exact absurd c_3 (nI_ge hi1 (by first | decide | omega))
    · skip
      refine g_aload_n (i := 0) dX4_begin_8 rfl rfl ?_
      refine g_get 56 0 dX4_begin_9 (List.mem_of_getElem? (i := 1) rfl) (fun w h => List.mem_cons_of_mem _ (List.mem_append_right _ h)) (cO_parting _ _ _ _) rfl (by decide) rfl ?_
      refine g_iload_n (i := 1) dX4_begin_12 rfl rfl ?_
      refine g_lconst 0 rfl dX4_begin_13 ?_
      refine c_astN_65 dX4_begin_14 (by omega) ?_
      refine g_iinc (1) dX4_begin_15 rfl rfl (by decide) ?_
      refine g_goto 2 dX4_begin_18 (by decide) ?_
      refine g_to _ _ (ihi1 (trivial)) (congrArg (fun z => CW cy a z B) (bgF_s T _)) (by refine ⟨(by first | rfl | (rw [← nI_1]; rfl)), (by first | rfl | (rw [← nI_1]; rfl)), trivial⟩)

set_option maxHeartbeats 4000000 in
set_option maxRecDepth 100000 in
/-- pledge -/
theorem K_pledge (l : Launch) (D : va_G) (cy : Nat → ClassId) (a : Nat → Nat) (T : MS) (B : List BL) (h v : Int32) (hh : vp_in h 10) : Ct l D clx (tyx cy) yX4_pledge wsX4_pledge (rmC 0) 0 0 [.ref (a 204), .int h, .int v] (CW cy a T B) (fun r9 w9 => r9 = none ∧ w9 = CW cy a (sB T 65 h.toNatClampNeg (T.2.2.2 65 h.toNatClampNeg + v.toInt64)) B) := by
  refine g_start (cc := cX4_pledge) (maxL := 3) (ret := none) (by decide) rfl (Nat.le_of_ble_eq_true rfl) (fun v w1 h => by obtain ⟨rfl, -⟩ := h; exact rfl) (fun Γ hlΓ => ?_)
  subst hlΓ
  refine g_aload_n (i := 0) dX4_pledge_0 rfl rfl ?_
  refine g_get 56 0 dX4_pledge_1 (List.mem_of_getElem? (i := 1) rfl) (fun w h => List.mem_cons_of_mem _ (List.mem_append_right _ h)) (cO_parting _ _ _ _) rfl (by decide) rfl ?_
  refine g_iload_n (i := 1) dX4_pledge_4 rfl rfl ?_
  refine g_dup2_11 rfl rfl dX4_pledge_5 ?_
  refine c_ald_65 dX4_pledge_6 hh ?_
  refine g_iload_n (i := 2) dX4_pledge_7 rfl rfl ?_
  refine g_i2l dX4_pledge_8 ?_
  refine g_ladd dX4_pledge_9 ?_
  refine c_ast_65 dX4_pledge_10 hh ?_
  refine g_vret dX4_pledge_11 ?_
  exact ⟨rfl, rfl⟩

def cf_claim (T : MS) (h : Nat) (v : Int64) : MS := sB (sB T 65 h (if v < T.2.2.2 65 h then v else T.2.2.2 65 h)) 66 h (v - (sB T 65 h (if v < T.2.2.2 65 h then v else T.2.2.2 65 h)).2.2.2 65 h)
set_option maxHeartbeats 4000000 in
set_option maxRecDepth 100000 in
/-- claim -/
theorem K_claim (l : Launch) (D : va_G) (cy : Nat → ClassId) (a : Nat → Nat) (T : MS) (B : List BL) (h : Nat) (v : Int64) (hh : h < 10) : Ct l D clx (tyx cy) yX4_claim wsX4_claim (rmC 1) 0 0 [.ref (a 204), .int (nI h), .long v] (CW cy a T B) (fun r9 w9 => r9 = none ∧ w9 = CW cy a (cf_claim T h v) B) := by
  refine g_start (cc := cX4_claim) (maxL := 4) (ret := none) (by decide) rfl (Nat.le_of_ble_eq_true rfl) (fun v w1 h => by obtain ⟨rfl, -⟩ := h; exact rfl) (fun Γ hlΓ => ?_)
  subst hlΓ
  refine g_aload_n (i := 0) dX4_claim_0 rfl rfl ?_
  refine g_get 56 0 dX4_claim_1 (List.mem_of_getElem? (i := 1) rfl) (fun w h => List.mem_cons_of_mem _ (List.mem_append_right _ h)) (cO_parting _ _ _ _) rfl (by decide) rfl ?_
  refine g_iload_n (i := 1) dX4_claim_4 rfl rfl ?_
  refine g_aload_n (i := 0) dX4_claim_5 rfl rfl ?_
  refine g_get 56 0 dX4_claim_6 (List.mem_of_getElem? (i := 1) rfl) (fun w h => List.mem_cons_of_mem _ (List.mem_append_right _ h)) (cO_parting _ _ _ _) rfl (by decide) rfl ?_
  refine g_iload_n (i := 1) dX4_claim_9 rfl rfl ?_
  refine c_aldN_65 dX4_claim_10 (by omega) ?_
  refine g_lload_n (i := 2) dX4_claim_11 rfl rfl ?_
  refine g_mminL (List.mem_of_getElem? (i := 2) rfl) (List.mem_of_getElem? (i := 3) rfl) (List.mem_of_getElem? (i := 4) rfl) (List.mem_of_getElem? (i := 5) rfl) (Nat.le_of_ble_eq_true rfl) (by exact Nat.le_of_ble_eq_true rfl) (Nat.le_of_ble_eq_true rfl) (Nat.le_of_ble_eq_true rfl) dX4_claim_12 ?_
  refine c_astN_65 dX4_claim_15 (by omega) ?_
  refine g_aload_n (i := 0) dX4_claim_16 rfl rfl ?_
  refine g_get 56 1 dX4_claim_17 (List.mem_of_getElem? (i := 6) rfl) (fun w h => List.mem_cons_of_mem _ (List.mem_append_right _ h)) (cO_parting _ _ _ _) rfl (by decide) rfl ?_
  refine g_iload_n (i := 1) dX4_claim_20 rfl rfl ?_
  refine g_lload_n (i := 2) dX4_claim_21 rfl rfl ?_
  refine g_aload_n (i := 0) dX4_claim_22 rfl rfl ?_
  refine g_get 56 0 dX4_claim_23 (List.mem_of_getElem? (i := 1) rfl) (fun w h => List.mem_cons_of_mem _ (List.mem_append_right _ h)) (cO_parting _ _ _ _) rfl (by decide) rfl ?_
  refine g_iload_n (i := 1) dX4_claim_26 rfl rfl ?_
  refine c_aldN_65 dX4_claim_27 (by omega) ?_
  refine g_lsub dX4_claim_28 ?_
  refine c_astN_66 dX4_claim_29 (by omega) ?_
  refine g_vret dX4_claim_30 ?_
  exact ⟨rfl, rfl⟩

def ptot (T : MS) (p : Nat) : Nat → Int64
  | 0 => 0
  | i + 1 => ptot T p i + T.2.2.2 p i
set_option maxHeartbeats 4000000 in
set_option maxRecDepth 100000 in
/-- total -/
theorem K_tot65 (l : Launch) (D : va_G) (cy : Nat → ClassId) (a : Nat → Nat) (T : MS) (B : List BL) : Ct l D clx (tyx cy) yX4_total wsX4_total (rmC 0) 0 0 [.ref (a 65)] (CW cy a T B) (fun r9 w9 => r9 = some (.long (ptot T 65 10)) ∧ w9 = CW cy a T B) := by
  refine g_start (cc := cX4_total) (maxL := 4) (ret := (some .long)) (by decide) rfl (Nat.le_of_ble_eq_true rfl) (fun v w1 h => by obtain ⟨rfl, -⟩ := h; exact rfl) (fun Γ hlΓ => ?_)
  subst hlΓ
  refine g_lconst 0 rfl dX4_total_0 ?_
  refine g_lstore_n (i := 1) dX4_total_1 rfl (by decide) ?_
  refine g_iconst (0) rfl dX4_total_2 ?_
  refine g_istore_n (i := 3) dX4_total_3 rfl (by decide) ?_
  refine g_cnt 10 (fun i => True) (fun i => CW cy a T B) (fun i => [(0, .ref (a 65)), (1, .long (ptot T 65 i)), (3, .int (nI i))]) 0 (by first | decide | omega) trivial (by rfl) (by refine ⟨rfl, rfl, rfl, trivial⟩) ?_ (fun i1 hi1 gi1 ihi1 => ?_)
  · intro gNi1
    refine g_iload_n (i := 3) dX4_total_4 rfl rfl ?_
    refine g_bipush (10) rfl dX4_total_5 ?_
    refine g_icmp_ge 22 dX4_total_7 (by decide) (fun c_2 => ?_) (fun c_2 => ?_)
    · skip
      refine g_lload_n (i := 1) dX4_total_22 rfl rfl ?_
      refine g_lret dX4_total_23 ?_
      exact ⟨rfl, rfl⟩
    · skip
      exact absurd (nI_le (Nat.le_refl _) (by first | decide | omega)) c_2
  · skip
    refine g_iload_n (i := 3) dX4_total_4 rfl rfl ?_
    refine g_bipush (10) rfl dX4_total_5 ?_
    refine g_icmp_ge 22 dX4_total_7 (by decide) (fun c_3 => ?_) (fun c_3 => ?_)
    · skip
      exact absurd c_3 (nI_ge hi1 (by first | decide | omega))
    · skip
      refine g_lload_n (i := 1) dX4_total_10 rfl rfl ?_
      refine g_aload_n (i := 0) dX4_total_11 rfl rfl ?_
      refine g_iload_n (i := 3) dX4_total_12 rfl rfl ?_
      refine c_aldN_65 dX4_total_13 (by omega) ?_
      refine g_ladd dX4_total_14 ?_
      refine g_lstore_n (i := 1) dX4_total_15 rfl (by decide) ?_
      refine g_iinc (1) dX4_total_16 rfl rfl (by decide) ?_
      refine g_goto 4 dX4_total_19 (by decide) ?_
      refine g_to _ _ (ihi1 (trivial)) rfl (by refine ⟨(by first | rfl | (rw [← nI_1]; rfl)), (by first | rfl | (rw [← nI_1]; rfl)), (by first | rfl | (rw [← nI_1]; rfl)), trivial⟩)

set_option maxHeartbeats 4000000 in
set_option maxRecDepth 100000 in
/-- total -/
theorem K_tot66 (l : Launch) (D : va_G) (cy : Nat → ClassId) (a : Nat → Nat) (T : MS) (B : List BL) : Ct l D clx (tyx cy) yX4_total wsX4_total (rmC 0) 0 0 [.ref (a 66)] (CW cy a T B) (fun r9 w9 => r9 = some (.long (ptot T 66 10)) ∧ w9 = CW cy a T B) := by
  refine g_start (cc := cX4_total) (maxL := 4) (ret := (some .long)) (by decide) rfl (Nat.le_of_ble_eq_true rfl) (fun v w1 h => by obtain ⟨rfl, -⟩ := h; exact rfl) (fun Γ hlΓ => ?_)
  subst hlΓ
  refine g_lconst 0 rfl dX4_total_0 ?_
  refine g_lstore_n (i := 1) dX4_total_1 rfl (by decide) ?_
  refine g_iconst (0) rfl dX4_total_2 ?_
  refine g_istore_n (i := 3) dX4_total_3 rfl (by decide) ?_
  refine g_cnt 10 (fun i => True) (fun i => CW cy a T B) (fun i => [(0, .ref (a 66)), (1, .long (ptot T 66 i)), (3, .int (nI i))]) 0 (by first | decide | omega) trivial (by rfl) (by refine ⟨rfl, rfl, rfl, trivial⟩) ?_ (fun i1 hi1 gi1 ihi1 => ?_)
  · intro gNi1
    refine g_iload_n (i := 3) dX4_total_4 rfl rfl ?_
    refine g_bipush (10) rfl dX4_total_5 ?_
    refine g_icmp_ge 22 dX4_total_7 (by decide) (fun c_2 => ?_) (fun c_2 => ?_)
    · skip
      refine g_lload_n (i := 1) dX4_total_22 rfl rfl ?_
      refine g_lret dX4_total_23 ?_
      exact ⟨rfl, rfl⟩
    · skip
      exact absurd (nI_le (Nat.le_refl _) (by first | decide | omega)) c_2
  · skip
    refine g_iload_n (i := 3) dX4_total_4 rfl rfl ?_
    refine g_bipush (10) rfl dX4_total_5 ?_
    refine g_icmp_ge 22 dX4_total_7 (by decide) (fun c_3 => ?_) (fun c_3 => ?_)
    · skip
      exact absurd c_3 (nI_ge hi1 (by first | decide | omega))
    · skip
      refine g_lload_n (i := 1) dX4_total_10 rfl rfl ?_
      refine g_aload_n (i := 0) dX4_total_11 rfl rfl ?_
      refine g_iload_n (i := 3) dX4_total_12 rfl rfl ?_
      refine c_aldN_66 dX4_total_13 (by omega) ?_
      refine g_ladd dX4_total_14 ?_
      refine g_lstore_n (i := 1) dX4_total_15 rfl (by decide) ?_
      refine g_iinc (1) dX4_total_16 rfl rfl (by decide) ?_
      refine g_goto 4 dX4_total_19 (by decide) ?_
      refine g_to _ _ (ihi1 (trivial)) rfl (by refine ⟨(by first | rfl | (rw [← nI_1]; rfl)), (by first | rfl | (rw [← nI_1]; rfl)), (by first | rfl | (rw [← nI_1]; rfl)), trivial⟩)

set_option maxHeartbeats 4000000 in
set_option maxRecDepth 100000 in
/-- portion -/
theorem K_portion (l : Launch) (D : va_G) (cy : Nat → ClassId) (a : Nat → Nat) (T : MS) (B : List BL) (su cl al : Int64) : Ct l D clx (tyx cy) yX4_portion wsX4_portion (rmC 0) 0 0 [.long su, .long cl, .long al] (CW cy a T B) (fun r9 w9 => ∃ v, r9 = some (.long v) ∧ w9 = CW cy a T B) := by
  refine g_start (cc := cX4_portion) (maxL := 10) (ret := (some .long)) (by decide) rfl (Nat.le_of_ble_eq_true rfl) (fun v w1 h => by obtain ⟨v9, rfl, -⟩ := h; exact rfl) (fun Γ hlΓ => ?_)
  subst hlΓ
  refine g_lload dX4_portion_0 rfl ?_
  refine g_lconst 0 rfl dX4_portion_2 ?_
  refine g_lcmp_gt 9 dX4_portion_3 dX4_portion_4 (by decide) (fun c_1 => ?_) (fun c_1 => ?_)
  · skip
    have hal : ¬ al = 0 := (fun e9 => by subst e9; exact absurd c_1 (by decide))
    refine g_lload_n (i := 0) dX4_portion_9 rfl rfl ?_
    refine g_ldc2 (32768) (List.mem_of_getElem? (i := 1) rfl) dX4_portion_10 ?_
    refine g_ldiv (by decide) dX4_portion_13 ?_
    refine g_lload_n (i := 2) dX4_portion_14 rfl rfl ?_
    refine g_lmul dX4_portion_15 ?_
    refine g_lstore dX4_portion_16 (by decide) ?_
    refine g_lload dX4_portion_18 rfl ?_
    refine g_lload dX4_portion_20 rfl ?_
    refine g_lrem hal dX4_portion_22 ?_
    refine g_ldc2 (32768) (List.mem_of_getElem? (i := 1) rfl) dX4_portion_23 ?_
    refine g_lmul dX4_portion_26 ?_
    refine g_lload_n (i := 0) dX4_portion_27 rfl rfl ?_
    refine g_ldc2 (32768) (List.mem_of_getElem? (i := 1) rfl) dX4_portion_28 ?_
    refine g_lrem (by decide) dX4_portion_31 ?_
    refine g_lload_n (i := 2) dX4_portion_32 rfl rfl ?_
    refine g_lmul dX4_portion_33 ?_
    refine g_ladd dX4_portion_34 ?_
    refine g_lstore dX4_portion_35 (by decide) ?_
    refine g_lload dX4_portion_37 rfl ?_
    refine g_lload dX4_portion_39 rfl ?_
    refine g_ldiv hal dX4_portion_41 ?_
    refine g_ldc2 (32768) (List.mem_of_getElem? (i := 1) rfl) dX4_portion_42 ?_
    refine g_lmul dX4_portion_45 ?_
    refine g_lload dX4_portion_46 rfl ?_
    refine g_lload dX4_portion_48 rfl ?_
    refine g_ldiv hal dX4_portion_50 ?_
    refine g_ladd dX4_portion_51 ?_
    refine g_lret dX4_portion_52 ?_
    exact ⟨_, rfl, rfl⟩
  · skip
    refine g_lconst 0 rfl dX4_portion_7 ?_
    refine g_lret dX4_portion_8 ?_
    exact ⟨_, rfl, rfl⟩

set_option maxHeartbeats 4000000 in
set_option maxRecDepth 100000 in
/-- shareIn -/
theorem K_sh65 (l : Launch) (D : va_G) (cy : Nat → ClassId) (a : Nat → Nat) (T : MS) (B : List BL) (c : Int32) (su : Int64) (hc : vp_in c 10) : Ct l D clx (tyx cy) yX4_shareIn wsX4_shareIn (rmC 1) 0 0 [.ref (a 65), .int c, .long su] (CW cy a T B) (fun r9 w9 => ∃ v, r9 = some (.long v) ∧ w9 = CW cy a T B ∧ ((ptot T 65 10 ≤ su ∨ T.2.2.2 65 c.toNatClampNeg = 0) → v = T.2.2.2 65 c.toNatClampNeg)) := by
  refine g_start (cc := cX4_shareIn) (maxL := 11) (ret := (some .long)) (by decide) rfl (Nat.le_of_ble_eq_true rfl) (fun v w1 h => by obtain ⟨v9, rfl, -, -⟩ := h; exact rfl) (fun Γ hlΓ => ?_)
  subst hlΓ
  refine g_aload_n (i := 0) dX4_shareIn_0 rfl rfl ?_
  refine g_callSf 1 gX4_shareIn_X4_total rfl rfl rfl ⟨Nat.le_of_ble_eq_true rfl, Nat.le_of_ble_eq_true rfl⟩ ⟨Nat.le_of_ble_eq_true rfl, Nat.le_of_ble_eq_true rfl⟩ (by exact Nat.le_of_ble_eq_true rfl) (by decide +kernel) rfl dX4_shareIn_1 (K_tot65 _ D cy a _ _) rfl (fun vu_1 wu_1 hu_1 => ?_)
  obtain ⟨rfl, rfl⟩ := hu_1
  refine g_lstore dX4_shareIn_4 (by decide) ?_
  refine g_lload_n (i := 2) dX4_shareIn_6 rfl rfl ?_
  refine g_lload dX4_shareIn_7 rfl ?_
  refine g_lcmp_ge 21 dX4_shareIn_9 dX4_shareIn_10 (by decide) (fun c_2 => ?_) (fun c_2 => ?_)
  · skip
    refine g_aload_n (i := 0) dX4_shareIn_21 rfl rfl ?_
    refine g_iload_n (i := 1) dX4_shareIn_22 rfl rfl ?_
    refine c_ald_65 dX4_shareIn_23 hc ?_
    refine g_lret dX4_shareIn_24 ?_
    exact ⟨_, rfl, rfl, fun _ => rfl⟩
  · skip
    refine g_aload_n (i := 0) dX4_shareIn_13 rfl rfl ?_
    refine g_iload_n (i := 1) dX4_shareIn_14 rfl rfl ?_
    refine c_ald_65 dX4_shareIn_15 hc ?_
    refine g_lconst 0 rfl dX4_shareIn_16 ?_
    refine g_lcmp_ne 25 dX4_shareIn_17 dX4_shareIn_18 (by decide) (fun c_3 => ?_) (fun c_3 => ?_)
    · skip
      refine g_lload_n (i := 2) dX4_shareIn_25 rfl rfl ?_
      refine g_lstore dX4_shareIn_26 (by decide) ?_
      refine g_iconst (0) rfl dX4_shareIn_28 ?_
      refine g_istore dX4_shareIn_29 (by decide) ?_
      refine g_iconst (0) rfl dX4_shareIn_31 ?_
      refine g_istore dX4_shareIn_32 (by decide) ?_
      refine g_whl (σ := Nat × Int64 × Int32) (fun x => 10 - x.1) (fun x => x.1 ≤ 10) (fun x => CW cy a T B) (fun x => [(0, .ref (a 65)), (1, .int c), (2, .long su), (4, .long (ptot T 65 10)), (6, .long x.2.1), (8, .int x.2.2), (9, .int (nI x.1))]) (0, su, 0) (Nat.zero_le 10) rfl ⟨rfl, rfl, rfl, rfl, rfl, rfl, rfl, trivial⟩ (fun x gx ih => ?_)
      obtain ⟨i, lo, ah⟩ := x
      replace gx : i ≤ 10 := gx
      by_cases hi : i < 10
      · refine g_nrm [(0, .ref (a 65)), (1, .int c), (2, .long su), (4, .long (ptot T 65 10)), (6, .long lo), (8, .int ah), (9, .int (nI i))] ⟨rfl, rfl, rfl, rfl, rfl, rfl, rfl, trivial⟩ ?_
        refine g_iload dX4_shareIn_34 rfl ?_
        refine g_bipush (10) rfl dX4_shareIn_36 ?_
        refine g_icmp_ge 80 dX4_shareIn_38 (by decide) (fun c_5 => ?_) (fun c_5 => ?_)
        · skip
          exact absurd c_5 (nI_ge (b := 10) hi (by decide))
        · skip
          refine g_lload dX4_shareIn_41 rfl ?_
          refine g_lload_n (i := 2) dX4_shareIn_43 rfl rfl ?_
          refine g_aload_n (i := 0) dX4_shareIn_44 rfl rfl ?_
          refine g_iload dX4_shareIn_45 rfl ?_
          refine c_aldN_65 dX4_shareIn_47 (by omega) ?_
          refine g_lload dX4_shareIn_48 rfl ?_
          refine g_callSf 3 gX4_shareIn_X4_portion rfl rfl rfl ⟨Nat.le_of_ble_eq_true rfl, Nat.le_of_ble_eq_true rfl⟩ ⟨Nat.le_of_ble_eq_true rfl, Nat.le_of_ble_eq_true rfl⟩ (by exact Nat.le_of_ble_eq_true rfl) (by decide +kernel) rfl dX4_shareIn_50 (K_portion _ D cy a _ _ _ _ _) rfl (fun vu_6 wu_6 hu_6 => ?_)
          obtain ⟨xu_6, rfl, rfl⟩ := hu_6
          refine g_lsub dX4_shareIn_53 ?_
          refine g_lstore dX4_shareIn_54 (by decide) ?_
          refine g_iload dX4_shareIn_56 rfl ?_
          refine g_iload_n (i := 1) dX4_shareIn_58 rfl rfl ?_
          refine g_icmp_ge 74 dX4_shareIn_59 (by decide) (fun c_7 => ?_) (fun c_7 => ?_)
          · skip
            refine g_iinc (1) dX4_shareIn_74 rfl rfl (by decide) ?_
            refine g_goto 34 dX4_shareIn_77 (by decide) ?_
            exact g_to _ _ (ih (i + 1, _, _) (by show i + 1 ≤ 10; omega) (by show 10 - (i + 1) < 10 - i; omega)) rfl ⟨rfl, rfl, rfl, rfl, rfl, rfl, (by rw [← nI_1]; rfl), trivial⟩
          · skip
            refine g_aload_n (i := 0) dX4_shareIn_62 rfl rfl ?_
            refine g_iload dX4_shareIn_63 rfl ?_
            refine c_aldN_65 dX4_shareIn_65 (by omega) ?_
            refine g_lconst 0 rfl dX4_shareIn_66 ?_
            refine g_lcmp_le 74 dX4_shareIn_67 dX4_shareIn_68 (by decide) (fun c_8 => ?_) (fun c_8 => ?_)
            · skip
              refine g_iinc (1) dX4_shareIn_74 rfl rfl (by decide) ?_
              refine g_goto 34 dX4_shareIn_77 (by decide) ?_
              exact g_to _ _ (ih (i + 1, _, _) (by show i + 1 ≤ 10; omega) (by show 10 - (i + 1) < 10 - i; omega)) rfl ⟨rfl, rfl, rfl, rfl, rfl, rfl, (by rw [← nI_1]; rfl), trivial⟩
            · skip
              refine g_iinc (1) dX4_shareIn_71 rfl rfl (by decide) ?_
              refine g_iinc (1) dX4_shareIn_74 rfl rfl (by decide) ?_
              refine g_goto 34 dX4_shareIn_77 (by decide) ?_
              exact g_to _ _ (ih (i + 1, _, _) (by show i + 1 ≤ 10; omega) (by show 10 - (i + 1) < 10 - i; omega)) rfl ⟨rfl, rfl, rfl, rfl, rfl, rfl, (by rw [← nI_1]; rfl), trivial⟩
      · refine g_nrm [(0, .ref (a 65)), (1, .int c), (2, .long su), (4, .long (ptot T 65 10)), (6, .long lo), (8, .int ah), (9, .int (nI i))] ⟨rfl, rfl, rfl, rfl, rfl, rfl, rfl, trivial⟩ ?_
        refine g_iload dX4_shareIn_34 rfl ?_
        refine g_bipush (10) rfl dX4_shareIn_36 ?_
        refine g_icmp_ge 80 dX4_shareIn_38 (by decide) (fun c_9 => ?_) (fun c_9 => ?_)
        · skip
          refine g_lload_n (i := 2) dX4_shareIn_80 rfl rfl ?_
          refine g_aload_n (i := 0) dX4_shareIn_81 rfl rfl ?_
          refine g_iload_n (i := 1) dX4_shareIn_82 rfl rfl ?_
          refine c_ald_65 dX4_shareIn_83 hc ?_
          refine g_lload dX4_shareIn_84 rfl ?_
          refine g_callSf 3 gX4_shareIn_X4_portion rfl rfl rfl ⟨Nat.le_of_ble_eq_true rfl, Nat.le_of_ble_eq_true rfl⟩ ⟨Nat.le_of_ble_eq_true rfl, Nat.le_of_ble_eq_true rfl⟩ (by exact Nat.le_of_ble_eq_true rfl) (by decide +kernel) rfl dX4_shareIn_86 (K_portion _ D cy a _ _ _ _ _) rfl (fun vu_10 wu_10 hu_10 => ?_)
          obtain ⟨xu_10, rfl, rfl⟩ := hu_10
          refine g_lstore dX4_shareIn_89 (by decide) ?_
          refine g_iload dX4_shareIn_91 rfl ?_
          refine g_i2l dX4_shareIn_93 ?_
          refine g_lload dX4_shareIn_94 rfl ?_
          refine g_lcmp_ge 107 dX4_shareIn_96 dX4_shareIn_97 (by decide) (fun c_11 => ?_) (fun c_11 => ?_)
          · skip
            refine g_lload dX4_shareIn_107 rfl ?_
            refine g_lret dX4_shareIn_109 ?_
            exact ⟨_, rfl, rfl, fun h9 => h9.elim (fun h8 => absurd h8 (by assumption)) (fun h8 => absurd h8 (by assumption))⟩
          · skip
            refine g_lload dX4_shareIn_100 rfl ?_
            refine g_lconst 1 rfl dX4_shareIn_102 ?_
            refine g_ladd dX4_shareIn_103 ?_
            refine g_goto 109 dX4_shareIn_104 (by decide) ?_
            refine g_lret dX4_shareIn_109 ?_
            exact ⟨_, rfl, rfl, fun h9 => h9.elim (fun h8 => absurd h8 (by assumption)) (fun h8 => absurd h8 (by assumption))⟩
        · skip
          exact absurd (nI_le (a := 10) (b := i) (by omega) (by omega)) c_9
    · skip
      refine g_aload_n (i := 0) dX4_shareIn_21 rfl rfl ?_
      refine g_iload_n (i := 1) dX4_shareIn_22 rfl rfl ?_
      refine c_ald_65 dX4_shareIn_23 hc ?_
      refine g_lret dX4_shareIn_24 ?_
      exact ⟨_, rfl, rfl, fun _ => rfl⟩

set_option maxHeartbeats 4000000 in
set_option maxRecDepth 100000 in
/-- shareIn -/
theorem K_sh66 (l : Launch) (D : va_G) (cy : Nat → ClassId) (a : Nat → Nat) (T : MS) (B : List BL) (c : Int32) (su : Int64) (hc : vp_in c 10) : Ct l D clx (tyx cy) yX4_shareIn wsX4_shareIn (rmC 1) 0 0 [.ref (a 66), .int c, .long su] (CW cy a T B) (fun r9 w9 => ∃ v, r9 = some (.long v) ∧ w9 = CW cy a T B ∧ ((ptot T 66 10 ≤ su ∨ T.2.2.2 66 c.toNatClampNeg = 0) → v = T.2.2.2 66 c.toNatClampNeg)) := by
  refine g_start (cc := cX4_shareIn) (maxL := 11) (ret := (some .long)) (by decide) rfl (Nat.le_of_ble_eq_true rfl) (fun v w1 h => by obtain ⟨v9, rfl, -, -⟩ := h; exact rfl) (fun Γ hlΓ => ?_)
  subst hlΓ
  refine g_aload_n (i := 0) dX4_shareIn_0 rfl rfl ?_
  refine g_callSf 1 gX4_shareIn_X4_total rfl rfl rfl ⟨Nat.le_of_ble_eq_true rfl, Nat.le_of_ble_eq_true rfl⟩ ⟨Nat.le_of_ble_eq_true rfl, Nat.le_of_ble_eq_true rfl⟩ (by exact Nat.le_of_ble_eq_true rfl) (by decide +kernel) rfl dX4_shareIn_1 (K_tot66 _ D cy a _ _) rfl (fun vu_1 wu_1 hu_1 => ?_)
  obtain ⟨rfl, rfl⟩ := hu_1
  refine g_lstore dX4_shareIn_4 (by decide) ?_
  refine g_lload_n (i := 2) dX4_shareIn_6 rfl rfl ?_
  refine g_lload dX4_shareIn_7 rfl ?_
  refine g_lcmp_ge 21 dX4_shareIn_9 dX4_shareIn_10 (by decide) (fun c_2 => ?_) (fun c_2 => ?_)
  · skip
    refine g_aload_n (i := 0) dX4_shareIn_21 rfl rfl ?_
    refine g_iload_n (i := 1) dX4_shareIn_22 rfl rfl ?_
    refine c_ald_66 dX4_shareIn_23 hc ?_
    refine g_lret dX4_shareIn_24 ?_
    exact ⟨_, rfl, rfl, fun _ => rfl⟩
  · skip
    refine g_aload_n (i := 0) dX4_shareIn_13 rfl rfl ?_
    refine g_iload_n (i := 1) dX4_shareIn_14 rfl rfl ?_
    refine c_ald_66 dX4_shareIn_15 hc ?_
    refine g_lconst 0 rfl dX4_shareIn_16 ?_
    refine g_lcmp_ne 25 dX4_shareIn_17 dX4_shareIn_18 (by decide) (fun c_3 => ?_) (fun c_3 => ?_)
    · skip
      refine g_lload_n (i := 2) dX4_shareIn_25 rfl rfl ?_
      refine g_lstore dX4_shareIn_26 (by decide) ?_
      refine g_iconst (0) rfl dX4_shareIn_28 ?_
      refine g_istore dX4_shareIn_29 (by decide) ?_
      refine g_iconst (0) rfl dX4_shareIn_31 ?_
      refine g_istore dX4_shareIn_32 (by decide) ?_
      refine g_whl (σ := Nat × Int64 × Int32) (fun x => 10 - x.1) (fun x => x.1 ≤ 10) (fun x => CW cy a T B) (fun x => [(0, .ref (a 66)), (1, .int c), (2, .long su), (4, .long (ptot T 66 10)), (6, .long x.2.1), (8, .int x.2.2), (9, .int (nI x.1))]) (0, su, 0) (Nat.zero_le 10) rfl ⟨rfl, rfl, rfl, rfl, rfl, rfl, rfl, trivial⟩ (fun x gx ih => ?_)
      obtain ⟨i, lo, ah⟩ := x
      replace gx : i ≤ 10 := gx
      by_cases hi : i < 10
      · refine g_nrm [(0, .ref (a 66)), (1, .int c), (2, .long su), (4, .long (ptot T 66 10)), (6, .long lo), (8, .int ah), (9, .int (nI i))] ⟨rfl, rfl, rfl, rfl, rfl, rfl, rfl, trivial⟩ ?_
        refine g_iload dX4_shareIn_34 rfl ?_
        refine g_bipush (10) rfl dX4_shareIn_36 ?_
        refine g_icmp_ge 80 dX4_shareIn_38 (by decide) (fun c_5 => ?_) (fun c_5 => ?_)
        · skip
          exact absurd c_5 (nI_ge (b := 10) hi (by decide))
        · skip
          refine g_lload dX4_shareIn_41 rfl ?_
          refine g_lload_n (i := 2) dX4_shareIn_43 rfl rfl ?_
          refine g_aload_n (i := 0) dX4_shareIn_44 rfl rfl ?_
          refine g_iload dX4_shareIn_45 rfl ?_
          refine c_aldN_66 dX4_shareIn_47 (by omega) ?_
          refine g_lload dX4_shareIn_48 rfl ?_
          refine g_callSf 3 gX4_shareIn_X4_portion rfl rfl rfl ⟨Nat.le_of_ble_eq_true rfl, Nat.le_of_ble_eq_true rfl⟩ ⟨Nat.le_of_ble_eq_true rfl, Nat.le_of_ble_eq_true rfl⟩ (by exact Nat.le_of_ble_eq_true rfl) (by decide +kernel) rfl dX4_shareIn_50 (K_portion _ D cy a _ _ _ _ _) rfl (fun vu_6 wu_6 hu_6 => ?_)
          obtain ⟨xu_6, rfl, rfl⟩ := hu_6
          refine g_lsub dX4_shareIn_53 ?_
          refine g_lstore dX4_shareIn_54 (by decide) ?_
          refine g_iload dX4_shareIn_56 rfl ?_
          refine g_iload_n (i := 1) dX4_shareIn_58 rfl rfl ?_
          refine g_icmp_ge 74 dX4_shareIn_59 (by decide) (fun c_7 => ?_) (fun c_7 => ?_)
          · skip
            refine g_iinc (1) dX4_shareIn_74 rfl rfl (by decide) ?_
            refine g_goto 34 dX4_shareIn_77 (by decide) ?_
            exact g_to _ _ (ih (i + 1, _, _) (by show i + 1 ≤ 10; omega) (by show 10 - (i + 1) < 10 - i; omega)) rfl ⟨rfl, rfl, rfl, rfl, rfl, rfl, (by rw [← nI_1]; rfl), trivial⟩
          · skip
            refine g_aload_n (i := 0) dX4_shareIn_62 rfl rfl ?_
            refine g_iload dX4_shareIn_63 rfl ?_
            refine c_aldN_66 dX4_shareIn_65 (by omega) ?_
            refine g_lconst 0 rfl dX4_shareIn_66 ?_
            refine g_lcmp_le 74 dX4_shareIn_67 dX4_shareIn_68 (by decide) (fun c_8 => ?_) (fun c_8 => ?_)
            · skip
              refine g_iinc (1) dX4_shareIn_74 rfl rfl (by decide) ?_
              refine g_goto 34 dX4_shareIn_77 (by decide) ?_
              exact g_to _ _ (ih (i + 1, _, _) (by show i + 1 ≤ 10; omega) (by show 10 - (i + 1) < 10 - i; omega)) rfl ⟨rfl, rfl, rfl, rfl, rfl, rfl, (by rw [← nI_1]; rfl), trivial⟩
            · skip
              refine g_iinc (1) dX4_shareIn_71 rfl rfl (by decide) ?_
              refine g_iinc (1) dX4_shareIn_74 rfl rfl (by decide) ?_
              refine g_goto 34 dX4_shareIn_77 (by decide) ?_
              exact g_to _ _ (ih (i + 1, _, _) (by show i + 1 ≤ 10; omega) (by show 10 - (i + 1) < 10 - i; omega)) rfl ⟨rfl, rfl, rfl, rfl, rfl, rfl, (by rw [← nI_1]; rfl), trivial⟩
      · refine g_nrm [(0, .ref (a 66)), (1, .int c), (2, .long su), (4, .long (ptot T 66 10)), (6, .long lo), (8, .int ah), (9, .int (nI i))] ⟨rfl, rfl, rfl, rfl, rfl, rfl, rfl, trivial⟩ ?_
        refine g_iload dX4_shareIn_34 rfl ?_
        refine g_bipush (10) rfl dX4_shareIn_36 ?_
        refine g_icmp_ge 80 dX4_shareIn_38 (by decide) (fun c_9 => ?_) (fun c_9 => ?_)
        · skip
          refine g_lload_n (i := 2) dX4_shareIn_80 rfl rfl ?_
          refine g_aload_n (i := 0) dX4_shareIn_81 rfl rfl ?_
          refine g_iload_n (i := 1) dX4_shareIn_82 rfl rfl ?_
          refine c_ald_66 dX4_shareIn_83 hc ?_
          refine g_lload dX4_shareIn_84 rfl ?_
          refine g_callSf 3 gX4_shareIn_X4_portion rfl rfl rfl ⟨Nat.le_of_ble_eq_true rfl, Nat.le_of_ble_eq_true rfl⟩ ⟨Nat.le_of_ble_eq_true rfl, Nat.le_of_ble_eq_true rfl⟩ (by exact Nat.le_of_ble_eq_true rfl) (by decide +kernel) rfl dX4_shareIn_86 (K_portion _ D cy a _ _ _ _ _) rfl (fun vu_10 wu_10 hu_10 => ?_)
          obtain ⟨xu_10, rfl, rfl⟩ := hu_10
          refine g_lstore dX4_shareIn_89 (by decide) ?_
          refine g_iload dX4_shareIn_91 rfl ?_
          refine g_i2l dX4_shareIn_93 ?_
          refine g_lload dX4_shareIn_94 rfl ?_
          refine g_lcmp_ge 107 dX4_shareIn_96 dX4_shareIn_97 (by decide) (fun c_11 => ?_) (fun c_11 => ?_)
          · skip
            refine g_lload dX4_shareIn_107 rfl ?_
            refine g_lret dX4_shareIn_109 ?_
            exact ⟨_, rfl, rfl, fun h9 => h9.elim (fun h8 => absurd h8 (by assumption)) (fun h8 => absurd h8 (by assumption))⟩
          · skip
            refine g_lload dX4_shareIn_100 rfl ?_
            refine g_lconst 1 rfl dX4_shareIn_102 ?_
            refine g_ladd dX4_shareIn_103 ?_
            refine g_goto 109 dX4_shareIn_104 (by decide) ?_
            refine g_lret dX4_shareIn_109 ?_
            exact ⟨_, rfl, rfl, fun h9 => h9.elim (fun h8 => absurd h8 (by assumption)) (fun h8 => absurd h8 (by assumption))⟩
        · skip
          exact absurd (nI_le (a := 10) (b := i) (by omega) (by omega)) c_9
    · skip
      refine g_aload_n (i := 0) dX4_shareIn_21 rfl rfl ?_
      refine g_iload_n (i := 1) dX4_shareIn_22 rfl rfl ?_
      refine c_ald_66 dX4_shareIn_23 hc ?_
      refine g_lret dX4_shareIn_24 ?_
      exact ⟨_, rfl, rfl, fun _ => rfl⟩

abbrev cbeh (T : MS) (su : Int64) : Int64 := if 0 < su - ptot T 65 10 then su - ptot T 65 10 else 0
set_option maxHeartbeats 4000000 in
set_option maxRecDepth 100000 in
/-- shareOf -/
theorem K_shareOf (l : Launch) (D : va_G) (cy : Nat → ClassId) (a : Nat → Nat) (T : MS) (B : List BL) (c : Int32) (su : Int64) (hc : vp_in c 10) : Ct l D clx (tyx cy) yX4_shareOf wsX4_shareOf (rmC 2) 0 0 [.ref (a 204), .int c, .long su] (CW cy a T B) (fun r9 w9 => ∃ v1 v2, r9 = some (.long (v1 + v2)) ∧ w9 = CW cy a T B ∧ ((ptot T 65 10 ≤ su ∨ T.2.2.2 65 c.toNatClampNeg = 0) → v1 = T.2.2.2 65 c.toNatClampNeg) ∧ ((ptot T 66 10 ≤ cbeh T su ∨ T.2.2.2 66 c.toNatClampNeg = 0) → v2 = T.2.2.2 66 c.toNatClampNeg)) := by
  refine g_start (cc := cX4_shareOf) (maxL := 6) (ret := (some .long)) (by decide) rfl (Nat.le_of_ble_eq_true rfl) (fun v w1 h => by obtain ⟨v9, v8, rfl, -, -⟩ := h; exact rfl) (fun Γ hlΓ => ?_)
  subst hlΓ
  refine g_lload_n (i := 2) dX4_shareOf_0 rfl rfl ?_
  refine g_aload_n (i := 0) dX4_shareOf_1 rfl rfl ?_
  refine g_get 56 0 dX4_shareOf_2 (List.mem_of_getElem? (i := 1) rfl) (fun w h => List.mem_cons_of_mem _ (List.mem_append_right _ h)) (cO_parting _ _ _ _) rfl (by decide) rfl ?_
  refine g_callSf 1 gX4_shareOf_X4_total rfl rfl rfl ⟨Nat.le_of_ble_eq_true rfl, Nat.le_of_ble_eq_true rfl⟩ ⟨Nat.le_of_ble_eq_true rfl, Nat.le_of_ble_eq_true rfl⟩ (by exact Nat.le_of_ble_eq_true rfl) (by decide +kernel) rfl dX4_shareOf_5 (K_tot65 _ D cy a _ _) rfl (fun vu_1 wu_1 hu_1 => ?_)
  obtain ⟨rfl, rfl⟩ := hu_1
  refine g_lsub dX4_shareOf_8 ?_
  refine g_lconst 0 rfl dX4_shareOf_9 ?_
  refine g_mmaxL (List.mem_of_getElem? (i := 2) rfl) (List.mem_of_getElem? (i := 3) rfl) (List.mem_of_getElem? (i := 4) rfl) (List.mem_of_getElem? (i := 5) rfl) (Nat.le_of_ble_eq_true rfl) (by exact Nat.le_of_ble_eq_true rfl) (Nat.le_of_ble_eq_true rfl) (Nat.le_of_ble_eq_true rfl) dX4_shareOf_10 ?_
  refine g_lstore dX4_shareOf_13 (by decide) ?_
  refine g_aload_n (i := 0) dX4_shareOf_15 rfl rfl ?_
  refine g_get 56 0 dX4_shareOf_16 (List.mem_of_getElem? (i := 1) rfl) (fun w h => List.mem_cons_of_mem _ (List.mem_append_right _ h)) (cO_parting _ _ _ _) rfl (by decide) rfl ?_
  refine g_iload_n (i := 1) dX4_shareOf_19 rfl rfl ?_
  refine g_lload_n (i := 2) dX4_shareOf_20 rfl rfl ?_
  refine g_callSf 3 gX4_shareOf_X4_shareIn rfl rfl rfl ⟨Nat.le_of_ble_eq_true rfl, Nat.le_of_ble_eq_true rfl⟩ ⟨Nat.le_of_ble_eq_true rfl, Nat.le_of_ble_eq_true rfl⟩ (by exact Nat.le_of_ble_eq_true rfl) (by decide +kernel) rfl dX4_shareOf_21 (K_sh65 _ D cy a _ _ _ _ hc) rfl (fun vu_2 wu_2 hu_2 => ?_)
  obtain ⟨s1, rfl, rfl, hs19⟩ := hu_2
  refine g_aload_n (i := 0) dX4_shareOf_24 rfl rfl ?_
  refine g_get 56 1 dX4_shareOf_25 (List.mem_of_getElem? (i := 6) rfl) (fun w h => List.mem_cons_of_mem _ (List.mem_append_right _ h)) (cO_parting _ _ _ _) rfl (by decide) rfl ?_
  refine g_iload_n (i := 1) dX4_shareOf_28 rfl rfl ?_
  refine g_lload dX4_shareOf_29 rfl ?_
  refine g_callSf 3 gX4_shareOf_X4_shareIn rfl rfl rfl ⟨Nat.le_of_ble_eq_true rfl, Nat.le_of_ble_eq_true rfl⟩ ⟨Nat.le_of_ble_eq_true rfl, Nat.le_of_ble_eq_true rfl⟩ (by exact Nat.le_of_ble_eq_true rfl) (by decide +kernel) rfl dX4_shareOf_31 (K_sh66 _ D cy a _ _ _ _ hc) rfl (fun vu_3 wu_3 hu_3 => ?_)
  obtain ⟨s2, rfl, rfl, hs29⟩ := hu_3
  refine g_ladd dX4_shareOf_34 ?_
  refine g_lret dX4_shareOf_35 ?_
  exact ⟨s1, s2, rfl, rfl, hs19, hs29⟩

