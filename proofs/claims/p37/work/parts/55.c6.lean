/-- v is put among the first n sorted -/
def insR : Nat → MS → Int32 → MS
  | 0, T, v => sA T 62 0 v
  | n + 1, T, v => if T.2.2.1 62 n ≤ v then sA T 62 (n + 1) v else insR n (sA T 62 (n + 1) (T.2.2.1 62 n)) v
theorem insR0 {n : Nat} {T X : MS} {v : Int32} (h : T.2.2.1 62 n ≤ v) (e : insR (n + 1) T v = X) : sA T 62 (n + 1) v = X := (if_pos h).symm.trans e
theorem insR1 {n : Nat} {T X : MS} {v : Int32} (h : ¬ T.2.2.1 62 n ≤ v) (e : insR (n + 1) T v = X) : insR n (sA T 62 (n + 1) (T.2.2.1 62 n)) v = X := (if_neg h).symm.trans e
set_option maxHeartbeats 4000000 in
set_option maxRecDepth 100000 in
/-- insertSorted -/
theorem K_ins (l : Launch) (D : va_G) (cy : Nat → ClassId) (a : Nat → Nat) (T : MS) (B : List BL) (v : Int32) (n : Nat) (hn : n < 10) : Ct l D clx (tyx cy) yX7_insertSorted wsX7_insertSorted (rmC 0) 0 0 [.ref (a 207), .int v, .int (nI n)] (CW cy a T B) (fun r9 w9 => r9 = none ∧ w9 = CW cy a (insR n T v) B) := by
  refine g_start (cc := cX7_insertSorted) (maxL := 4) (ret := none) (by decide) rfl (Nat.le_of_ble_eq_true rfl) (fun v w1 h => by obtain ⟨rfl, -⟩ := h; exact rfl) (fun Γ hlΓ => ?_)
  subst hlΓ
  refine g_iload_n (i := 2) dX7_insertSorted_0 rfl rfl ?_
  refine g_istore_n (i := 3) dX7_insertSorted_1 rfl (by decide) ?_
  refine g_whl (σ := Nat × MS) (fun x => x.1) (fun x => x.1 < 10 ∧ insR x.1 x.2 v = insR n T v) (fun x => CW cy a x.2 B) (fun x => [(0, .ref (a 207)), (1, .int v), (3, .int (nI x.1))]) (n, T) ⟨hn, rfl⟩ rfl ⟨rfl, rfl, rfl, trivial⟩ (fun x gx ih => ?_)
  obtain ⟨m0, U⟩ := x
  obtain ⟨hm, gx⟩ := gx
  replace hm : m0 < 10 := hm
  replace gx : insR m0 U v = insR n T v := gx
  rcases m0 with _ | m
  · refine g_nrm [(0, .ref (a 207)), (1, .int v), (3, .int (nI 0))] ⟨rfl, rfl, rfl, trivial⟩ ?_
    refine g_iload_n (i := 3) dX7_insertSorted_2 rfl rfl ?_
    refine g_if_le 38 dX7_insertSorted_3 (by decide) (fun c_2 => ?_) (fun c_2 => ?_)
    · skip
      refine g_aload_n (i := 0) dX7_insertSorted_38 rfl rfl ?_
      refine g_get 42 2 dX7_insertSorted_39 (List.mem_of_getElem? (i := 1) rfl) (fun w h => List.mem_cons_of_mem _ (List.mem_append_right _ h)) (cO_rates _ _ _ _) rfl (by decide) rfl ?_
      refine g_iload_n (i := 3) dX7_insertSorted_42 rfl rfl ?_
      refine g_iload_n (i := 1) dX7_insertSorted_43 rfl rfl ?_
      refine c_astN_62 dX7_insertSorted_44 (by omega) ?_
      refine g_vret dX7_insertSorted_45 ?_
      first | exact ⟨rfl, congrArg (fun z => CW cy a z B) gx⟩ | exact ⟨rfl, congrArg (fun z => CW cy a z B) (insR0 (by assumption) gx)⟩
    · skip
      exact absurd (by decide) c_2
  · refine g_nrm [(0, .ref (a 207)), (1, .int v), (3, .int (nI (m + 1)))] ⟨rfl, rfl, rfl, trivial⟩ ?_
    refine g_iload_n (i := 3) dX7_insertSorted_2 rfl rfl ?_
    refine g_if_le 38 dX7_insertSorted_3 (by decide) (fun c_3 => ?_) (fun c_3 => ?_)
    · skip
      exact absurd c_3 (nI_nle (by omega) (by omega))
    · skip
      refine g_aload_n (i := 0) dX7_insertSorted_6 rfl rfl ?_
      refine g_get 42 2 dX7_insertSorted_7 (List.mem_of_getElem? (i := 1) rfl) (fun w h => List.mem_cons_of_mem _ (List.mem_append_right _ h)) (cO_rates _ _ _ _) rfl (by decide) rfl ?_
      refine g_iload_n (i := 3) dX7_insertSorted_10 rfl rfl ?_
      refine g_iconst (1) rfl dX7_insertSorted_11 ?_
      refine g_isub dX7_insertSorted_12 ?_
      refine g_ste (st2 := .int (nI m) :: .ref (a 62) :: []) ?_ (by rw [nI_pred])
      refine c_aldN_62 dX7_insertSorted_13 (by omega) ?_
      refine g_iload_n (i := 1) dX7_insertSorted_14 rfl rfl ?_
      refine g_icmp_le 38 dX7_insertSorted_15 (by decide) (fun c_4 => ?_) (fun c_4 => ?_)
      · skip
        refine g_aload_n (i := 0) dX7_insertSorted_38 rfl rfl ?_
        refine g_get 42 2 dX7_insertSorted_39 (List.mem_of_getElem? (i := 1) rfl) (fun w h => List.mem_cons_of_mem _ (List.mem_append_right _ h)) (cO_rates _ _ _ _) rfl (by decide) rfl ?_
        refine g_iload_n (i := 3) dX7_insertSorted_42 rfl rfl ?_
        refine g_iload_n (i := 1) dX7_insertSorted_43 rfl rfl ?_
        refine c_astN_62 dX7_insertSorted_44 (by omega) ?_
        refine g_vret dX7_insertSorted_45 ?_
        first | exact ⟨rfl, congrArg (fun z => CW cy a z B) gx⟩ | exact ⟨rfl, congrArg (fun z => CW cy a z B) (insR0 (by assumption) gx)⟩
      · skip
        refine g_aload_n (i := 0) dX7_insertSorted_18 rfl rfl ?_
        refine g_get 42 2 dX7_insertSorted_19 (List.mem_of_getElem? (i := 1) rfl) (fun w h => List.mem_cons_of_mem _ (List.mem_append_right _ h)) (cO_rates _ _ _ _) rfl (by decide) rfl ?_
        refine g_iload_n (i := 3) dX7_insertSorted_22 rfl rfl ?_
        refine g_aload_n (i := 0) dX7_insertSorted_23 rfl rfl ?_
        refine g_get 42 2 dX7_insertSorted_24 (List.mem_of_getElem? (i := 1) rfl) (fun w h => List.mem_cons_of_mem _ (List.mem_append_right _ h)) (cO_rates _ _ _ _) rfl (by decide) rfl ?_
        refine g_iload_n (i := 3) dX7_insertSorted_27 rfl rfl ?_
        refine g_iconst (1) rfl dX7_insertSorted_28 ?_
        refine g_isub dX7_insertSorted_29 ?_
        refine g_ste (st2 := .int (nI m) :: .ref (a 62) :: .int (nI (m + 1)) :: .ref (a 62) :: []) ?_ (by rw [nI_pred])
        refine c_aldN_62 dX7_insertSorted_30 (by omega) ?_
        refine c_astN_62 dX7_insertSorted_31 (by omega) ?_
        refine g_iinc (-1) dX7_insertSorted_32 rfl rfl (by decide) ?_
        refine g_goto 2 dX7_insertSorted_35 (by decide) ?_
        exact g_to _ _ (ih (m, sA U 62 (m + 1) (U.2.2.1 62 m)) ⟨by show m < 10; omega, insR1 (by assumption) gx⟩ (Nat.lt_succ_self m)) rfl ⟨rfl, rfl, congrArg (fun z => some (Value.int z)) (pk_m1 m), trivial⟩

/-- the votes of a town's first i houses, sorted: how many, and the state -/
def mvR (T : MS) (t : Int32) : Nat → Nat × MS
  | 0 => (0, T)
  | i + 1 => if (mvR T t i).2.2.2.1 (120 + t.toNatClampNeg) i = 0 then mvR T t i else ((mvR T t i).1 + 1, insR (mvR T t i).1 (mvR T t i).2 ((mvR T t i).2.2.2.1 (120 + t.toNatClampNeg) i))
theorem mvR_le (T : MS) (t : Int32) : ∀ i, (mvR T t i).1 ≤ i
  | 0 => Nat.le_refl 0
  | i + 1 => by
    show (if _ then _ else _ : Nat × MS).1 ≤ i + 1
    have h := mvR_le T t i
    split
    · omega
    · show (mvR T t i).1 + 1 ≤ i + 1
      omega
theorem mvS0 {T : MS} {t : Int32} {i : Nat} (h : (mvR T t i).2.2.2.1 (120 + t.toNatClampNeg) i = 0) : mvR T t (i + 1) = mvR T t i := if_pos h
theorem mvS1 {T : MS} {t : Int32} {i : Nat} (h : ¬ (mvR T t i).2.2.2.1 (120 + t.toNatClampNeg) i = 0) : mvR T t (i + 1) = ((mvR T t i).1 + 1, insR (mvR T t i).1 (mvR T t i).2 ((mvR T t i).2.2.2.1 (120 + t.toNatClampNeg) i)) := if_neg h
def cf_mid (T : MS) (t : Int32) : Int32 := if (mvR T t 10).1 = 0 then 0 else (mvR T t 10).2.2.2.1 62 (((mvR T t 10).1 - 1) / 2)
set_option maxHeartbeats 4000000 in
set_option maxRecDepth 100000 in
/-- middleVote -/
theorem K_mid (l : Launch) (D : va_G) (cy : Nat → ClassId) (a : Nat → Nat) (T : MS) (B : List BL) (t : Int32) (ht : vp_in t 5) : Ct l D clx (tyx cy) yX7_middleVote wsX7_middleVote (rmC 1) 0 0 [.ref (a 207), .int t] (CW cy a T B) (fun r9 w9 => r9 = some (.int (cf_mid T t)) ∧ w9 = CW cy a (mvR T t 10).2 B) := by
  refine g_start (cc := cX7_middleVote) (maxL := 4) (ret := (some .int)) (by decide) rfl (Nat.le_of_ble_eq_true rfl) (fun v w1 h => by obtain ⟨rfl, -⟩ := h; exact ⟨.int, rfl, rfl⟩) (fun Γ hlΓ => ?_)
  subst hlΓ
  refine g_iconst (0) rfl dX7_middleVote_0 ?_
  refine g_istore_n (i := 2) dX7_middleVote_1 rfl (by decide) ?_
  refine g_iconst (0) rfl dX7_middleVote_2 ?_
  refine g_istore_n (i := 3) dX7_middleVote_3 rfl (by decide) ?_
  refine g_cnt 10 (fun i => True) (fun i => CW cy a (mvR T t i).2 B) (fun i => [(0, .ref (a 207)), (1, .int t), (2, .int (nI (mvR T t i).1)), (3, .int (nI i))]) 0 (by first | decide | omega) trivial (by rfl) (by refine ⟨rfl, rfl, rfl, rfl, trivial⟩) ?_ (fun i1 hi1 gi1 ihi1 => ?_)
  · intro gNi1
    have hm7 := mvR_le T t 10
    unfold cf_mid
    generalize mvR T t 10 = Z at hm7 ⊢
    refine g_iload_n (i := 3) dX7_middleVote_4 rfl rfl ?_
    refine g_bipush (10) rfl dX7_middleVote_5 ?_
    refine g_icmp_ge 43 dX7_middleVote_7 (by decide) (fun c_2 => ?_) (fun c_2 => ?_)
    · skip
      refine g_iload_n (i := 2) dX7_middleVote_43 rfl rfl ?_
      refine g_if_ne 51 dX7_middleVote_44 (by decide) (fun c_3 => ?_) (fun c_3 => ?_)
      · skip
        refine g_aload_n (i := 0) dX7_middleVote_51 rfl rfl ?_
        refine g_get 42 2 dX7_middleVote_52 (List.mem_of_getElem? (i := 2) rfl) (fun w h => List.mem_cons_of_mem _ (List.mem_append_right _ h)) (cO_rates _ _ _ _) rfl (by decide) rfl ?_
        refine g_iload_n (i := 2) dX7_middleVote_55 rfl rfl ?_
        refine g_iconst (1) rfl dX7_middleVote_56 ?_
        refine g_isub dX7_middleVote_57 ?_
        refine g_iconst (2) rfl dX7_middleVote_58 ?_
        refine g_idiv (by decide) dX7_middleVote_59 ?_
        obtain ⟨m9, hm9⟩ : ∃ m, Z.1 = m + 1 := ⟨Z.1 - 1, by have h9 : Z.1 ≠ 0 := (fun e => absurd (congrArg nI e) (by assumption)); omega⟩
        refine g_ste (st2 := .int (nI (m9 / 2)) :: .ref (a 62) :: []) ?_ (by rw [hm9, nI_pred, show (2 : Int32) = nI 2 from rfl, pk_div (by omega) (by decide) (by decide)])
        refine c_aldN_62 dX7_middleVote_60 (by omega) ?_
        refine g_iret dX7_middleVote_61 ?_
        first | (rw [if_neg (by omega), hm9]; exact ⟨rfl, rfl⟩) | (rw [if_pos (by have h8 : nI Z.1 = nI 0 := (by assumption); exact (nI_eq (by omega) (by decide)).mp h8)]; exact ⟨rfl, rfl⟩)
      · skip
        refine g_iconst (0) rfl dX7_middleVote_47 ?_
        refine g_goto 61 dX7_middleVote_48 (by decide) ?_
        refine g_iret dX7_middleVote_61 ?_
        first | (rw [if_neg (by omega), hm9]; exact ⟨rfl, rfl⟩) | (rw [if_pos (by have h8 : nI Z.1 = nI 0 := (by assumption); exact (nI_eq (by omega) (by decide)).mp h8)]; exact ⟨rfl, rfl⟩)
    · skip
      exact absurd (nI_le (Nat.le_refl _) (by first | decide | omega)) c_2
  · skip
    refine g_iload_n (i := 3) dX7_middleVote_4 rfl rfl ?_
    refine g_bipush (10) rfl dX7_middleVote_5 ?_
    refine g_icmp_ge 43 dX7_middleVote_7 (by decide) (fun c_4 => ?_) (fun c_4 => ?_)
    · skip
      exact absurd c_4 (nI_ge hi1 (by first | decide | omega))
    · skip
      refine g_aload_n (i := 0) dX7_middleVote_10 rfl rfl ?_
      refine g_get 42 0 dX7_middleVote_11 (List.mem_of_getElem? (i := 1) rfl) (fun w h => List.mem_cons_of_mem _ (List.mem_append_right _ h)) (cO_rates _ _ _ _) rfl (by decide) rfl ?_
      refine g_iload_n (i := 1) dX7_middleVote_14 rfl rfl ?_
      refine c_aald_60 dX7_middleVote_15 ht ?_
      refine g_iload_n (i := 3) dX7_middleVote_16 rfl rfl ?_
      refine c_rldN_60 dX7_middleVote_17 (vp_nat ht) (by omega) ?_
      refine g_if_eq 37 dX7_middleVote_18 (by decide) (fun c_5 => ?_) (fun c_5 => ?_)
      · skip
        refine g_iinc (1) dX7_middleVote_37 rfl rfl (by decide) ?_
        refine g_goto 4 dX7_middleVote_40 (by decide) ?_
        first | (refine g_to _ _ (ihi1 trivial) (by show _ = CW cy a (mvR T t (i1 + 1)).2 B; rw [mvS0 (by assumption)]) (by show gSub _ [(0, .ref (a 207)), (1, .int t), (2, .int (nI (mvR T t (i1 + 1)).1)), (3, .int (nI (i1 + 1)))]; rw [mvS0 (by assumption)]; exact ⟨rfl, rfl, rfl, (by rw [← nI_1]; rfl), trivial⟩)) | (refine g_to _ _ (ihi1 trivial) (by show _ = CW cy a (mvR T t (i1 + 1)).2 B; rw [mvS1 (by assumption)]) (by show gSub _ [(0, .ref (a 207)), (1, .int t), (2, .int (nI (mvR T t (i1 + 1)).1)), (3, .int (nI (i1 + 1)))]; rw [mvS1 (by assumption)]; exact ⟨rfl, rfl, (by rw [← nI_1]; rfl), (by rw [← nI_1]; rfl), trivial⟩))
      · skip
        refine g_aload_n (i := 0) dX7_middleVote_21 rfl rfl ?_
        refine g_aload_n (i := 0) dX7_middleVote_22 rfl rfl ?_
        refine g_get 42 0 dX7_middleVote_23 (List.mem_of_getElem? (i := 1) rfl) (fun w h => List.mem_cons_of_mem _ (List.mem_append_right _ h)) (cO_rates _ _ _ _) rfl (by decide) rfl ?_
        refine g_iload_n (i := 1) dX7_middleVote_26 rfl rfl ?_
        refine c_aald_60 dX7_middleVote_27 ht ?_
        refine g_iload_n (i := 3) dX7_middleVote_28 rfl rfl ?_
        refine c_rldN_60 dX7_middleVote_29 (vp_nat ht) (by omega) ?_
        refine g_iload_n (i := 2) dX7_middleVote_30 rfl rfl ?_
        refine g_callVf 2 42 gX7_middleVote_X7_insertSorted rfl rfl rfl ⟨Nat.le_of_ble_eq_true rfl, Nat.le_of_ble_eq_true rfl⟩ ⟨Nat.le_of_ble_eq_true rfl, Nat.le_of_ble_eq_true rfl⟩ (by exact Nat.le_of_ble_eq_true rfl) (by decide +kernel) rfl (cO_rates _ _ _ _) rfl dX7_middleVote_31 (K_ins _ D cy a _ _ _ _ (Nat.lt_of_le_of_lt (mvR_le T t _) (by assumption))) rfl (fun vu_6 wu_6 hu_6 => ?_)
        obtain ⟨rfl, rfl⟩ := hu_6
        refine g_iinc (1) dX7_middleVote_34 rfl rfl (by decide) ?_
        refine g_iinc (1) dX7_middleVote_37 rfl rfl (by decide) ?_
        refine g_goto 4 dX7_middleVote_40 (by decide) ?_
        first | (refine g_to _ _ (ihi1 trivial) (by show _ = CW cy a (mvR T t (i1 + 1)).2 B; rw [mvS0 (by assumption)]) (by show gSub _ [(0, .ref (a 207)), (1, .int t), (2, .int (nI (mvR T t (i1 + 1)).1)), (3, .int (nI (i1 + 1)))]; rw [mvS0 (by assumption)]; exact ⟨rfl, rfl, rfl, (by rw [← nI_1]; rfl), trivial⟩)) | (refine g_to _ _ (ihi1 trivial) (by show _ = CW cy a (mvR T t (i1 + 1)).2 B; rw [mvS1 (by assumption)]) (by show gSub _ [(0, .ref (a 207)), (1, .int t), (2, .int (nI (mvR T t (i1 + 1)).1)), (3, .int (nI (i1 + 1)))]; rw [mvS1 (by assumption)]; exact ⟨rfl, rfl, (by rw [← nI_1]; rfl), (by rw [← nI_1]; rfl), trivial⟩))

def cf_rate (T : MS) (t : Int32) : Int64 × MS := if 0 ≤ t ∧ t ≤ 4 then (if cf_mid T t = 0 then cf_fd (mvR T t 10).2 2 else ((cf_mid T t).toInt64, (mvR T t 10).2)) else cf_fd T 1
set_option maxHeartbeats 4000000 in
set_option maxRecDepth 100000 in
/-- rate -/
theorem K_rate (l : Launch) (D : va_G) (cy : Nat → ClassId) (a : Nat → Nat) (T : MS) (B : List BL) (t : Int32) : Ct l D clx (tyx cy) yX8_rate wsX8_rate (rmC 3) 0 0 [.ref (a 200), .int t] (CW cy a T B) (fun r9 w9 => r9 = some (.long (cf_rate T t).1) ∧ w9 = CW cy a (cf_rate T t).2 B) := by
  refine g_start (cc := cX8_rate) (maxL := 3) (ret := (some .long)) (by decide) rfl (Nat.le_of_ble_eq_true rfl) (fun v w1 h => by obtain ⟨rfl, -⟩ := h; exact rfl) (fun Γ hlΓ => ?_)
  subst hlΓ
  refine g_iload_n (i := 1) dX8_rate_0 rfl rfl ?_
  refine g_callSf 1 gX8_rate_X8_isTown rfl rfl rfl ⟨Nat.le_of_ble_eq_true rfl, Nat.le_of_ble_eq_true rfl⟩ ⟨Nat.le_of_ble_eq_true rfl, Nat.le_of_ble_eq_true rfl⟩ (by exact Nat.le_of_ble_eq_true rfl) (by decide +kernel) rfl dX8_rate_1 (K_isTown _ D cy a _ _ _) rfl (fun vu_1 wu_1 hu_1 => ?_)
  rcases hu_1 with ⟨rfl, hu_1, rfl⟩ | ⟨rfl, hu_1, rfl⟩
  · skip
    refine g_if_ne 13 dX8_rate_4 (by decide) (fun _ => ?_) (fun h9 => absurd h9 (by decide))
    refine g_aload_n (i := 0) dX8_rate_13 rfl rfl ?_
    refine g_get 0 10 dX8_rate_14 (List.mem_of_getElem? (i := 1) rfl) (fun w h => List.mem_cons_of_mem _ (List.mem_append_left _ (List.mem_append_right _ h))) (cO_main _ _ _ _) rfl (by decide) rfl ?_
    refine g_iload_n (i := 1) dX8_rate_17 rfl rfl ?_
    refine g_callVf 1 42 gX8_rate_X7_middleVote rfl rfl rfl ⟨Nat.le_of_ble_eq_true rfl, Nat.le_of_ble_eq_true rfl⟩ ⟨Nat.le_of_ble_eq_true rfl, Nat.le_of_ble_eq_true rfl⟩ (by exact Nat.le_of_ble_eq_true rfl) (by decide +kernel) rfl (cO_rates _ _ _ _) rfl dX8_rate_18 (K_mid _ D cy a _ _ _ (vpi5 (by assumption))) rfl (fun vu_3 wu_3 hu_3 => ?_)
    obtain ⟨rfl, rfl⟩ := hu_3
    refine g_istore_n (i := 2) dX8_rate_21 rfl (by decide) ?_
    refine g_iload_n (i := 2) dX8_rate_22 rfl rfl ?_
    refine g_if_ne 34 dX8_rate_23 (by decide) (fun c_4 => ?_) (fun c_4 => ?_)
    · skip
      refine g_iload_n (i := 2) dX8_rate_34 rfl rfl ?_
      refine g_i2l dX8_rate_35 ?_
      refine g_lret dX8_rate_36 ?_
      unfold cf_rate; first | (rw [if_neg (by assumption)]; with_reducible exact ⟨rfl, rfl⟩) | (rw [if_pos (by assumption), if_pos (by first | with_reducible assumption | exact Classical.not_not.mp (by with_reducible assumption))]; with_reducible exact ⟨rfl, rfl⟩) | (rw [if_pos (by assumption), if_neg (by with_reducible assumption)]; with_reducible exact ⟨rfl, rfl⟩)
    · skip
      refine g_aload_n (i := 0) dX8_rate_26 rfl rfl ?_
      refine g_iconst (2) rfl dX8_rate_27 ?_
      refine g_callVf 1 0 gX8_rate_X8_finding rfl rfl rfl ⟨Nat.le_of_ble_eq_true rfl, Nat.le_of_ble_eq_true rfl⟩ ⟨Nat.le_of_ble_eq_true rfl, Nat.le_of_ble_eq_true rfl⟩ (by exact Nat.le_of_ble_eq_true rfl) (by decide +kernel) rfl (cO_main _ _ _ _) rfl dX8_rate_28 (K_finding _ D cy a _ _ _ (by unfold vp_in; decide)) rfl (fun vu_5 wu_5 hu_5 => ?_)
      obtain ⟨rfl, rfl⟩ := hu_5
      refine g_goto 36 dX8_rate_31 (by decide) ?_
      refine g_lret dX8_rate_36 ?_
      unfold cf_rate; first | (rw [if_neg (by assumption)]; with_reducible exact ⟨rfl, rfl⟩) | (rw [if_pos (by assumption), if_pos (by first | with_reducible assumption | exact Classical.not_not.mp (by with_reducible assumption))]; with_reducible exact ⟨rfl, rfl⟩) | (rw [if_pos (by assumption), if_neg (by with_reducible assumption)]; with_reducible exact ⟨rfl, rfl⟩)
  · skip
    refine g_if_ne 13 dX8_rate_4 (by decide) (fun h9 => absurd h9 (by decide)) (fun _ => ?_)
    refine g_aload_n (i := 0) dX8_rate_7 rfl rfl ?_
    refine g_iconst (1) rfl dX8_rate_8 ?_
    refine g_callVf 1 0 gX8_rate_X8_finding rfl rfl rfl ⟨Nat.le_of_ble_eq_true rfl, Nat.le_of_ble_eq_true rfl⟩ ⟨Nat.le_of_ble_eq_true rfl, Nat.le_of_ble_eq_true rfl⟩ (by exact Nat.le_of_ble_eq_true rfl) (by decide +kernel) rfl (cO_main _ _ _ _) rfl dX8_rate_9 (K_finding _ D cy a _ _ _ (by unfold vp_in; decide)) rfl (fun vu_7 wu_7 hu_7 => ?_)
    obtain ⟨rfl, rfl⟩ := hu_7
    refine g_lret dX8_rate_12 ?_
    unfold cf_rate; first | (rw [if_neg (by assumption)]; with_reducible exact ⟨rfl, rfl⟩) | (rw [if_pos (by assumption), if_pos (by first | with_reducible assumption | exact Classical.not_not.mp (by with_reducible assumption))]; with_reducible exact ⟨rfl, rfl⟩) | (rw [if_pos (by assumption), if_neg (by with_reducible assumption)]; with_reducible exact ⟨rfl, rfl⟩)

/-- figure i of a ring to the base 5 -/
def dg (r i : Nat) : Nat := r / 5 ^ i % 5
theorem dg_lt (r i : Nat) : dg r i < 5 := Nat.mod_lt _ (by decide)
abbrev bt1 (d : Nat) : Int32 := 1 <<< (nI d &&& 31)
/-- behind i towns more: the towns used, the product -/
def cpoN (T : MS) (r : Nat) : Nat → Option (Int32 × Int64)
  | 0 => some (bt1 (dg r 0), 1)
  | i + 1 => match cpoN T r i with
    | none => none
    | some (u, p) => if u &&& bt1 (dg r (i + 1)) = 0 then some (u ||| bt1 (dg r (i + 1)), p * (T.2.2.1 (130 + dg r (i + 1)) (dg r i)).toInt64) else none
def cpoV (T : MS) (r : Nat) (u : Int32) (p : Int64) (i : Nat) : Int64 := if u &&& (bt1 (dg r i) - 1) = 0 then p * (T.2.2.1 (130 + dg r 0) (dg r i)).toInt64 else 0
def cprod (T : MS) (r n : Nat) : Int64 := match cpoN T r (n - 1) with
  | none => 0
  | some (u, p) => cpoV T r u p (n - 1)
theorem cpoN_none {T : MS} {r : Nat} : ∀ (j i : Nat), cpoN T r i = none → cpoN T r (i + j) = none
  | 0, _, h => h
  | j + 1, i, h => by
    have h2 := cpoN_none j i h
    show (match cpoN T r (i + j) with | none => none | some (u, p) => _) = none
    rw [h2]
theorem cpoN_s {T : MS} {r i : Nat} {u : Int32} {p : Int64} (h : cpoN T r i = some (u, p)) (h2 : u &&& bt1 (dg r (i + 1)) = 0) : cpoN T r (i + 1) = some (u ||| bt1 (dg r (i + 1)), p * (T.2.2.1 (130 + dg r (i + 1)) (dg r i)).toInt64) := by
  show (match cpoN T r i with | none => none | some (u, p) => _) = _
  rw [h]
  exact if_pos h2
theorem cpoN_f {T : MS} {r i : Nat} {u : Int32} {p : Int64} (h : cpoN T r i = some (u, p)) (h2 : ¬ u &&& bt1 (dg r (i + 1)) = 0) : cpoN T r (i + 1) = none := by
  show (match cpoN T r i with | none => none | some (u, p) => _) = _
  rw [h]
  exact if_neg h2
theorem cprod_n {T : MS} {r n i : Nat} (hi : i < n - 1) (h : cpoN T r (i + 1) = none) : (0 : Int64) = cprod T r n := by
  unfold cprod
  have := cpoN_none (n - 1 - (i + 1)) (i + 1) h
  rw [show i + 1 + (n - 1 - (i + 1)) = n - 1 by omega] at this
  rw [this]
theorem cprod_s {T : MS} {r n : Nat} {u : Int32} {p : Int64} (h : cpoN T r (n - 1) = some (u, p)) : cpoV T r u p (n - 1) = cprod T r n := by
  unfold cprod
  rw [h]
theorem dg0 (r : Nat) : dg r 0 = r % 5 := by unfold dg; rw [Nat.pow_zero, Nat.div_one]
theorem dgS (r i : Nat) : dg r i = r / 5 ^ i % 5 := rfl
theorem r5 {r : Nat} (h : r < 2 ^ 31) : nI r - nI r / 5 * 5 = nI (r % 5) := pk_rem h (by decide) (by decide)
theorem d5 {r : Nat} (h : r < 2 ^ 31) : nI r / 5 = nI (r / 5) := pk_div h (by decide) (by decide)
theorem p5 (r i : Nat) : r / 5 ^ i / 5 = r / 5 ^ (i + 1) := by rw [Nat.div_div_eq_div_mul, Nat.pow_succ]
theorem p5le (r i : Nat) : r / 5 ^ i ≤ r := Nat.div_le_self _ _
set_option maxHeartbeats 4000000 in
set_option maxRecDepth 100000 in
/-- productOf -/
theorem K_prod (l : Launch) (D : va_G) (cy : Nat → ClassId) (a : Nat → Nat) (T : MS) (B : List BL) (r n : Nat) (hr : r < 2 ^ 31) (hn : 0 < n) (hn5 : n < 2 ^ 31) : Ct l D clx (tyx cy) yX7_productOf wsX7_productOf (rmC 0) 0 0 [.ref (a 207), .int (nI r), .int (nI n)] (CW cy a T B) (fun r9 w9 => r9 = some (.long (cprod T r n)) ∧ w9 = CW cy a T B) := by
  refine g_start (cc := cX7_productOf) (maxL := 11) (ret := (some .long)) (by decide) rfl (Nat.le_of_ble_eq_true rfl) (fun v w1 h => by obtain ⟨rfl, -⟩ := h; exact rfl) (fun Γ hlΓ => ?_)
  subst hlΓ
  refine g_iload_n (i := 1) dX7_productOf_0 rfl rfl ?_
  refine g_iconst (5) rfl dX7_productOf_1 ?_
  refine g_irem (by decide) dX7_productOf_2 ?_
  refine g_istore_n (i := 3) dX7_productOf_3 rfl (by decide) ?_
  refine g_iload_n (i := 3) dX7_productOf_4 rfl rfl ?_
  refine g_istore dX7_productOf_5 (by decide) ?_
  refine g_iconst (1) rfl dX7_productOf_7 ?_
  refine g_iload_n (i := 3) dX7_productOf_8 rfl rfl ?_
  refine g_ishl dX7_productOf_9 ?_
  refine g_istore dX7_productOf_10 (by decide) ?_
  refine g_iload_n (i := 1) dX7_productOf_12 rfl rfl ?_
  refine g_iconst (5) rfl dX7_productOf_13 ?_
  refine g_idiv (by decide) dX7_productOf_14 ?_
  refine g_istore dX7_productOf_15 (by decide) ?_
  refine g_lconst 1 rfl dX7_productOf_17 ?_
  refine g_lstore dX7_productOf_18 (by decide) ?_
  refine g_iconst (1) rfl dX7_productOf_20 ?_
  refine g_istore dX7_productOf_21 (by decide) ?_
  refine g_whl (σ := Nat × Int32 × Int64) (fun x => n - x.1) (fun x => x.1 < n ∧ cpoN T r x.1 = some (x.2.1, x.2.2)) (fun x => CW cy a T B) (fun x => [(0, .ref (a 207)), (1, .int (nI r)), (2, .int (nI n)), (3, .int (nI (dg r 0))), (4, .int (nI (dg r x.1))), (5, .int x.2.1), (6, .int (nI (r / 5 ^ (x.1 + 1)))), (7, .long x.2.2), (9, .int (nI (x.1 + 1)))]) (0, bt1 (dg r 0), 1) ⟨by show 0 < n; omega, rfl⟩ rfl ⟨rfl, rfl, rfl, (by rw [dg0, ← r5 hr]; rfl), (by show some (Value.int (nI r - nI r / 5 * 5)) = some (Value.int (nI (dg r 0))); rw [r5 hr, dg0]), (by show some (Value.int (1 <<< (nI r - nI r / 5 * 5 &&& 31))) = some (Value.int (bt1 (dg r 0))); rw [r5 hr, dg0]), (by show some (Value.int (nI r / 5)) = some (Value.int (nI (r / 5 ^ (0 + 1)))); rw [d5 hr, Nat.zero_add, Nat.pow_one]), rfl, rfl, trivial⟩ (fun x gx ih => ?_)
  obtain ⟨i, u, p⟩ := x
  obtain ⟨hi, gx⟩ := gx
  replace hi : i < n := hi
  replace gx : cpoN T r i = some (u, p) := gx
  have hd0 := dg_lt r i
  have hd1 := dg_lt r (i + 1)
  have hd2 := dg_lt r 0
  have hq := p5le r (i + 1)
  refine g_nrm [(0, .ref (a 207)), (1, .int (nI r)), (2, .int (nI n)), (3, .int (nI (dg r 0))), (4, .int (nI (dg r i))), (5, .int u), (6, .int (nI (r / 5 ^ (i + 1)))), (7, .long p), (9, .int (nI (i + 1)))] ⟨rfl, rfl, rfl, rfl, rfl, rfl, rfl, rfl, rfl, trivial⟩ ?_
  refine g_iload dX7_productOf_23 rfl ?_
  refine g_iload_n (i := 2) dX7_productOf_25 rfl rfl ?_
  refine g_icmp_ge 88 dX7_productOf_26 (by decide) (fun c_2 => ?_) (fun c_2 => ?_)
  · skip
    have hin : i = n - 1 := (by have h9 := mt (nI_ge (a := i + 1) (b := n)) (fun q => q (by omega) (by assumption)); omega)
    refine g_iload dX7_productOf_88 rfl ?_
    refine g_iconst (1) rfl dX7_productOf_90 ?_
    refine g_iload dX7_productOf_91 rfl ?_
    refine g_ishl dX7_productOf_93 ?_
    refine g_iconst (1) rfl dX7_productOf_94 ?_
    refine g_isub dX7_productOf_95 ?_
    refine g_iand dX7_productOf_96 ?_
    refine g_if_ne 104 dX7_productOf_97 (by decide) (fun c_3 => ?_) (fun c_3 => ?_)
    · skip
      refine g_iconst (0) rfl dX7_productOf_104 ?_
      refine g_istore dX7_productOf_105 (by decide) ?_
      refine g_iload dX7_productOf_107 rfl ?_
      refine g_if_eq 128 dX7_productOf_109 (by decide) (fun _ => ?_) (fun h9 => absurd h9 (by decide))
      refine g_lconst 0 rfl dX7_productOf_128 ?_
      refine g_lret dX7_productOf_129 ?_
      subst hin; rw [← cprod_s gx]; unfold cpoV; first | (rw [if_pos (by first | assumption | exact Classical.not_not.mp (by assumption))]; exact ⟨rfl, rfl⟩) | (rw [if_neg (by assumption)]; exact ⟨rfl, rfl⟩)
    · skip
      refine g_iconst (1) rfl dX7_productOf_100 ?_
      refine g_goto 105 dX7_productOf_101 (by decide) ?_
      refine g_istore dX7_productOf_105 (by decide) ?_
      refine g_iload dX7_productOf_107 rfl ?_
      refine g_if_eq 128 dX7_productOf_109 (by decide) (fun h9 => absurd h9 (by decide)) (fun _ => ?_)
      refine g_lload dX7_productOf_112 rfl ?_
      refine g_aload_n (i := 0) dX7_productOf_114 rfl rfl ?_
      refine g_get 42 1 dX7_productOf_115 (List.mem_of_getElem? (i := 1) rfl) (fun w h => List.mem_cons_of_mem _ (List.mem_append_right _ h)) (cO_rates _ _ _ _) rfl (by decide) rfl ?_
      refine g_iload_n (i := 3) dX7_productOf_118 rfl rfl ?_
      refine c_aaldN_61 dX7_productOf_119 (by omega) ?_
      refine g_iload dX7_productOf_120 rfl ?_
      refine c_rldN_61 dX7_productOf_122 (by omega) (by omega) ?_
      refine g_i2l dX7_productOf_123 ?_
      refine g_lmul dX7_productOf_124 ?_
      refine g_goto 129 dX7_productOf_125 (by decide) ?_
      refine g_lret dX7_productOf_129 ?_
      subst hin; rw [← cprod_s gx]; unfold cpoV; first | (rw [if_pos (by first | assumption | exact Classical.not_not.mp (by assumption))]; exact ⟨rfl, rfl⟩) | (rw [if_neg (by assumption)]; exact ⟨rfl, rfl⟩)
  · skip
    have hin : i + 1 < n := (by have h9 : ¬ n ≤ i + 1 := (fun q => absurd (nI_le q (by omega)) (by assumption)); omega)
    refine g_iload dX7_productOf_29 rfl ?_
    refine g_iconst (5) rfl dX7_productOf_31 ?_
    refine g_irem (by decide) dX7_productOf_32 ?_
    refine g_istore dX7_productOf_33 (by decide) ?_
    refine g_nrm [(0, .ref (a 207)), (1, .int (nI r)), (2, .int (nI n)), (3, .int (nI (dg r 0))), (4, .int (nI (dg r i))), (5, .int u), (6, .int (nI (r / 5 ^ (i + 1)))), (7, .long p), (9, .int (nI (i + 1))), (10, .int (nI (dg r (i + 1))))] ⟨rfl, rfl, rfl, rfl, rfl, rfl, rfl, rfl, rfl, congrArg (fun z => some (Value.int z)) (r5 (by omega)), trivial⟩ ?_
    refine g_iload dX7_productOf_35 rfl ?_
    refine g_iconst (1) rfl dX7_productOf_37 ?_
    refine g_iload dX7_productOf_38 rfl ?_
    refine g_ishl dX7_productOf_40 ?_
    refine g_iand dX7_productOf_41 ?_
    refine g_if_eq 47 dX7_productOf_42 (by decide) (fun c_6 => ?_) (fun c_6 => ?_)
    · skip
      refine g_iload dX7_productOf_47 rfl ?_
      refine g_iconst (1) rfl dX7_productOf_49 ?_
      refine g_iload dX7_productOf_50 rfl ?_
      refine g_ishl dX7_productOf_52 ?_
      refine g_ior dX7_productOf_53 ?_
      refine g_istore dX7_productOf_54 (by decide) ?_
      refine g_lload dX7_productOf_56 rfl ?_
      refine g_aload_n (i := 0) dX7_productOf_58 rfl rfl ?_
      refine g_get 42 1 dX7_productOf_59 (List.mem_of_getElem? (i := 1) rfl) (fun w h => List.mem_cons_of_mem _ (List.mem_append_right _ h)) (cO_rates _ _ _ _) rfl (by decide) rfl ?_
      refine g_iload dX7_productOf_62 rfl ?_
      refine c_aaldN_61 dX7_productOf_64 (by omega) ?_
      refine g_iload dX7_productOf_65 rfl ?_
      refine c_rldN_61 dX7_productOf_67 (by omega) (by omega) ?_
      refine g_i2l dX7_productOf_68 ?_
      refine g_lmul dX7_productOf_69 ?_
      refine g_lstore dX7_productOf_70 (by decide) ?_
      refine g_iload dX7_productOf_72 rfl ?_
      refine g_istore dX7_productOf_74 (by decide) ?_
      refine g_iload dX7_productOf_76 rfl ?_
      refine g_iconst (5) rfl dX7_productOf_78 ?_
      refine g_idiv (by decide) dX7_productOf_79 ?_
      refine g_istore dX7_productOf_80 (by decide) ?_
      refine g_iinc (1) dX7_productOf_82 rfl rfl (by decide) ?_
      refine g_goto 23 dX7_productOf_85 (by decide) ?_
      exact g_to _ _ (ih (i + 1, u ||| bt1 (dg r (i + 1)), p * (T.2.2.1 (130 + dg r (i + 1)) (dg r i)).toInt64) ⟨by show i + 1 < n; omega, cpoN_s gx (by assumption)⟩ (by show n - (i + 1) < n - i; omega)) rfl ⟨rfl, rfl, rfl, rfl, rfl, rfl, (by rw [← p5 r (i + 1), ← d5 (by omega)]; rfl), rfl, (by rw [← nI_1 (i + 1)]; rfl), trivial⟩
    · skip
      refine g_lconst 0 rfl dX7_productOf_45 ?_
      refine g_lret dX7_productOf_46 ?_
      exact ⟨congrArg (fun z => some (Value.long z)) (cprod_n (i := i) (by omega) (cpoN_f gx (by assumption))), rfl⟩

/-- the figures of a ring's first i towns, and the unit behind them -/
def cfgS (r : Nat) : Nat → Int32 × Int32
  | 0 => (0, 1)
  | i + 1 => ((cfgS r i).1 + nI (dg r i) * (cfgS r i).2, (cfgS r i).2 * 10)
def cfig (r n : Nat) : Int32 := (cfgS r n).2 + (cfgS r n).1
set_option maxHeartbeats 4000000 in
set_option maxRecDepth 100000 in
/-- figuresOf -/
theorem K_fig (l : Launch) (D : va_G) (cy : Nat → ClassId) (a : Nat → Nat) (T : MS) (B : List BL) (r n : Nat) (hr : r < 2 ^ 31) (hn : n < 2 ^ 31) : Ct l D clx (tyx cy) yX7_figuresOf wsX7_figuresOf (rmC 0) 0 0 [.int (nI r), .int (nI n)] (CW cy a T B) (fun r9 w9 => r9 = some (.int (cfig r n)) ∧ w9 = CW cy a T B) := by
  refine g_start (cc := cX7_figuresOf) (maxL := 6) (ret := (some .int)) (by decide) rfl (Nat.le_of_ble_eq_true rfl) (fun v w1 h => by obtain ⟨rfl, -⟩ := h; exact ⟨.int, rfl, rfl⟩) (fun Γ hlΓ => ?_)
  subst hlΓ
  refine g_iconst (0) rfl dX7_figuresOf_0 ?_
  refine g_istore_n (i := 2) dX7_figuresOf_1 rfl (by decide) ?_
  refine g_iconst (1) rfl dX7_figuresOf_2 ?_
  refine g_istore_n (i := 3) dX7_figuresOf_3 rfl (by decide) ?_
  refine g_iload_n (i := 0) dX7_figuresOf_4 rfl rfl ?_
  refine g_istore dX7_figuresOf_5 (by decide) ?_
  refine g_iconst (0) rfl dX7_figuresOf_7 ?_
  refine g_istore dX7_figuresOf_8 (by decide) ?_
  refine g_cnt n (fun i => True) (fun i => CW cy a T B) (fun i => [(0, .int (nI r)), (1, .int (nI n)), (2, .int (cfgS r i).1), (3, .int (cfgS r i).2), (4, .int (nI (r / 5 ^ i))), (5, .int (nI i))]) 0 (by first | decide | omega) trivial (by rfl) (by refine ⟨rfl, rfl, rfl, rfl, (by rw [Nat.pow_zero, Nat.div_one]; rfl), rfl, trivial⟩) ?_ (fun i1 hi1 gi1 ihi1 => ?_)
  · intro gNi1
    refine g_iload dX7_figuresOf_10 rfl ?_
    refine g_iload_n (i := 1) dX7_figuresOf_12 rfl rfl ?_
    refine g_icmp_ge 42 dX7_figuresOf_13 (by decide) (fun c_2 => ?_) (fun c_2 => ?_)
    · skip
      refine g_iload_n (i := 3) dX7_figuresOf_42 rfl rfl ?_
      refine g_iload_n (i := 2) dX7_figuresOf_43 rfl rfl ?_
      refine g_iadd dX7_figuresOf_44 ?_
      refine g_iret dX7_figuresOf_45 ?_
      exact ⟨rfl, rfl⟩
    · skip
      exact absurd (nI_le (Nat.le_refl _) (by first | decide | omega)) c_2
  · skip
    refine g_iload dX7_figuresOf_10 rfl ?_
    refine g_iload_n (i := 1) dX7_figuresOf_12 rfl rfl ?_
    refine g_icmp_ge 42 dX7_figuresOf_13 (by decide) (fun c_3 => ?_) (fun c_3 => ?_)
    · skip
      exact absurd c_3 (nI_ge hi1 (by first | decide | omega))
    · skip
      refine g_iload_n (i := 2) dX7_figuresOf_16 rfl rfl ?_
      refine g_iload dX7_figuresOf_17 rfl ?_
      refine g_iconst (5) rfl dX7_figuresOf_19 ?_
      refine g_irem (by decide) dX7_figuresOf_20 ?_
      refine g_iload_n (i := 3) dX7_figuresOf_21 rfl rfl ?_
      refine g_imul dX7_figuresOf_22 ?_
      refine g_iadd dX7_figuresOf_23 ?_
      refine g_istore_n (i := 2) dX7_figuresOf_24 rfl (by decide) ?_
      refine g_iload_n (i := 3) dX7_figuresOf_25 rfl rfl ?_
      refine g_bipush (10) rfl dX7_figuresOf_26 ?_
      refine g_imul dX7_figuresOf_28 ?_
      refine g_istore_n (i := 3) dX7_figuresOf_29 rfl (by decide) ?_
      refine g_iload dX7_figuresOf_30 rfl ?_
      refine g_iconst (5) rfl dX7_figuresOf_32 ?_
      refine g_idiv (by decide) dX7_figuresOf_33 ?_
      refine g_istore dX7_figuresOf_34 (by decide) ?_
      refine g_iinc (1) dX7_figuresOf_36 rfl rfl (by decide) ?_
      refine g_goto 10 dX7_figuresOf_39 (by decide) ?_
      refine g_to _ _ (ihi1 trivial) rfl ⟨rfl, rfl, (by show some (Value.int ((cfgS r i1).1 + (nI (r / 5 ^ i1) - nI (r / 5 ^ i1) / 5 * 5) * (cfgS r i1).2)) = _; rw [r5 (Nat.lt_of_le_of_lt (p5le r i1) hr)]; rfl), rfl, (by show some (Value.int (nI (r / 5 ^ i1) / 5)) = _; rw [d5 (Nat.lt_of_le_of_lt (p5le r i1) hr), p5]), (by rw [← nI_1]; rfl), trivial⟩

