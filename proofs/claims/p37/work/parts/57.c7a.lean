/-- the dearest of the first k kinds that isn't done -/
def dbO (T : MS) (d : Int32) : Nat → Option Nat
  | 0 => none
  | k + 1 => match dbO T d k with
    | none => if d &&& bt1 k = 0 then some k else none
    | some b => if d &&& bt1 k = 0 ∧ T.2.2.1 55 b < T.2.2.1 55 k then some k else some b
def oI : Option Nat → Int32
  | none => -1
  | some k => nI k
theorem dbO_lt {T : MS} {d : Int32} : ∀ {k b : Nat}, dbO T d k = some b → b < k
  | 0, _, h => by cases h
  | k + 1, b, h => by
    have h0 : (match dbO T d k with | none => if d &&& bt1 k = 0 then some k else none | some b => if d &&& bt1 k = 0 ∧ T.2.2.1 55 b < T.2.2.1 55 k then some k else some b) = some b := h
    cases hd : dbO T d k with
    | none =>
      rw [hd] at h0
      dsimp only at h0
      split at h0
      · cases h0; exact Nat.lt_succ_self k
      · cases h0
    | some c =>
      rw [hd] at h0
      have hc := dbO_lt hd
      dsimp only at h0
      split at h0
      · cases h0; exact Nat.lt_succ_self k
      · cases h0; omega
theorem dbS {T : MS} {d : Int32} {k : Nat} : dbO T d (k + 1) = (match dbO T d k with | none => if d &&& bt1 k = 0 then some k else none | some b => if d &&& bt1 k = 0 ∧ T.2.2.1 55 b < T.2.2.1 55 k then some k else some b) := rfl
set_option maxHeartbeats 4000000 in
set_option maxRecDepth 100000 in
/-- dearestBut -/
theorem K_db (l : Launch) (D : va_G) (cy : Nat → ClassId) (a : Nat → Nat) (T : MS) (B : List BL) (d : Int32) : Ct l D clx (tyx cy) yX6_dearestBut wsX6_dearestBut (rmC 0) 0 0 [.ref (a 206), .int d] (CW cy a T B) (fun r9 w9 => r9 = some (.int (oI (dbO T d 4))) ∧ w9 = CW cy a T B) := by
  refine g_start (cc := cX6_dearestBut) (maxL := 4) (ret := (some .int)) (by decide) rfl (Nat.le_of_ble_eq_true rfl) (fun v w1 h => by obtain ⟨rfl, -⟩ := h; exact ⟨.int, rfl, rfl⟩) (fun Γ hlΓ => ?_)
  subst hlΓ
  refine g_iconst (-1) rfl dX6_dearestBut_0 ?_
  refine g_istore_n (i := 2) dX6_dearestBut_1 rfl (by decide) ?_
  refine g_iconst (0) rfl dX6_dearestBut_2 ?_
  refine g_istore_n (i := 3) dX6_dearestBut_3 rfl (by decide) ?_
  refine g_cnt 4 (fun i => True) (fun i => CW cy a T B) (fun i => [(0, .ref (a 206)), (1, .int d), (2, .int (oI (dbO T d i))), (3, .int (nI i))]) 0 (by decide) trivial rfl ⟨rfl, rfl, rfl, rfl, trivial⟩ ?_ (fun i1 hi1 gi1 ihi1 => ?_)
  · intro gNi1
    refine g_iload_n (i := 3) dX6_dearestBut_4 rfl rfl ?_
    refine g_iconst (4) rfl dX6_dearestBut_5 ?_
    refine g_icmp_ge 44 dX6_dearestBut_6 (by decide) (fun c_2 => ?_) (fun c_2 => ?_)
    · skip
      refine g_iload_n (i := 2) dX6_dearestBut_44 rfl rfl ?_
      refine g_iret dX6_dearestBut_45 ?_
      exact ⟨rfl, rfl⟩
    · skip
      exact absurd (nI_le (Nat.le_refl _) (by first | decide | omega)) c_2
  · cases hdb : dbO T d i1 with
    | none =>
      refine g_nrm [(0, .ref (a 206)), (1, .int d), (2, .int (-1)), (3, .int (nI i1))] ⟨rfl, rfl, rfl, rfl, trivial⟩ ?_
      refine g_iload_n (i := 3) dX6_dearestBut_4 rfl rfl ?_
      refine g_iconst (4) rfl dX6_dearestBut_5 ?_
      refine g_icmp_ge 44 dX6_dearestBut_6 (by decide) (fun c_3 => ?_) (fun c_3 => ?_)
      · skip
        exact absurd c_3 (nI_ge hi1 (by first | decide | omega))
      · skip
        refine g_iload_n (i := 1) dX6_dearestBut_9 rfl rfl ?_
        refine g_iconst (1) rfl dX6_dearestBut_10 ?_
        refine g_iload_n (i := 3) dX6_dearestBut_11 rfl rfl ?_
        refine g_ishl dX6_dearestBut_12 ?_
        refine g_iand dX6_dearestBut_13 ?_
        refine g_if_ne 38 dX6_dearestBut_14 (by decide) (fun c_4 => ?_) (fun c_4 => ?_)
        · skip
          refine g_iinc (1) dX6_dearestBut_38 rfl rfl (by decide) ?_
          refine g_goto 4 dX6_dearestBut_41 (by decide) ?_
          first | (refine g_to _ _ (ihi1 trivial) rfl (by show gSub _ [(0, .ref (a 206)), (1, .int d), (2, .int (oI (dbO T d (i1 + 1)))), (3, .int (nI (i1 + 1)))]; rw [dbS, hdb]; dsimp only; rw [if_pos (by assumption)]; exact ⟨rfl, rfl, rfl, (by rw [← nI_1]; rfl), trivial⟩)) | (refine g_to _ _ (ihi1 trivial) rfl (by show gSub _ [(0, .ref (a 206)), (1, .int d), (2, .int (oI (dbO T d (i1 + 1)))), (3, .int (nI (i1 + 1)))]; rw [dbS, hdb]; dsimp only; rw [if_neg (by assumption)]; exact ⟨rfl, rfl, rfl, (by rw [← nI_1]; rfl), trivial⟩)) | (refine g_to _ _ (ihi1 trivial) rfl (by show gSub _ [(0, .ref (a 206)), (1, .int d), (2, .int (oI (dbO T d (i1 + 1)))), (3, .int (nI (i1 + 1)))]; rw [dbS, hdb]; dsimp only; rw [if_pos ⟨by assumption, Int32.not_le.mp (by assumption)⟩]; exact ⟨rfl, rfl, rfl, (by rw [← nI_1]; rfl), trivial⟩)) | (refine g_to _ _ (ihi1 trivial) rfl (by show gSub _ [(0, .ref (a 206)), (1, .int d), (2, .int (oI (dbO T d (i1 + 1)))), (3, .int (nI (i1 + 1)))]; rw [dbS, hdb]; dsimp only; rw [if_neg (by intro h9; exact absurd h9.1 (by assumption))]; exact ⟨rfl, rfl, rfl, (by rw [← nI_1]; rfl), trivial⟩)) | (refine g_to _ _ (ihi1 trivial) rfl (by show gSub _ [(0, .ref (a 206)), (1, .int d), (2, .int (oI (dbO T d (i1 + 1)))), (3, .int (nI (i1 + 1)))]; rw [dbS, hdb]; dsimp only; rw [if_neg (by intro h9; exact absurd h9.2 (Int32.not_lt.mpr (by assumption)))]; exact ⟨rfl, rfl, rfl, (by rw [← nI_1]; rfl), trivial⟩))
        · skip
          refine g_iload_n (i := 2) dX6_dearestBut_17 rfl rfl ?_
          refine g_if_lt 36 dX6_dearestBut_18 (by decide) (fun _ => ?_) (fun h9 => absurd h9 (by decide))
          refine g_iload_n (i := 3) dX6_dearestBut_36 rfl rfl ?_
          refine g_istore_n (i := 2) dX6_dearestBut_37 rfl (by decide) ?_
          refine g_iinc (1) dX6_dearestBut_38 rfl rfl (by decide) ?_
          refine g_goto 4 dX6_dearestBut_41 (by decide) ?_
          first | (refine g_to _ _ (ihi1 trivial) rfl (by show gSub _ [(0, .ref (a 206)), (1, .int d), (2, .int (oI (dbO T d (i1 + 1)))), (3, .int (nI (i1 + 1)))]; rw [dbS, hdb]; dsimp only; rw [if_pos (by assumption)]; exact ⟨rfl, rfl, rfl, (by rw [← nI_1]; rfl), trivial⟩)) | (refine g_to _ _ (ihi1 trivial) rfl (by show gSub _ [(0, .ref (a 206)), (1, .int d), (2, .int (oI (dbO T d (i1 + 1)))), (3, .int (nI (i1 + 1)))]; rw [dbS, hdb]; dsimp only; rw [if_neg (by assumption)]; exact ⟨rfl, rfl, rfl, (by rw [← nI_1]; rfl), trivial⟩)) | (refine g_to _ _ (ihi1 trivial) rfl (by show gSub _ [(0, .ref (a 206)), (1, .int d), (2, .int (oI (dbO T d (i1 + 1)))), (3, .int (nI (i1 + 1)))]; rw [dbS, hdb]; dsimp only; rw [if_pos ⟨by assumption, Int32.not_le.mp (by assumption)⟩]; exact ⟨rfl, rfl, rfl, (by rw [← nI_1]; rfl), trivial⟩)) | (refine g_to _ _ (ihi1 trivial) rfl (by show gSub _ [(0, .ref (a 206)), (1, .int d), (2, .int (oI (dbO T d (i1 + 1)))), (3, .int (nI (i1 + 1)))]; rw [dbS, hdb]; dsimp only; rw [if_neg (by intro h9; exact absurd h9.1 (by assumption))]; exact ⟨rfl, rfl, rfl, (by rw [← nI_1]; rfl), trivial⟩)) | (refine g_to _ _ (ihi1 trivial) rfl (by show gSub _ [(0, .ref (a 206)), (1, .int d), (2, .int (oI (dbO T d (i1 + 1)))), (3, .int (nI (i1 + 1)))]; rw [dbS, hdb]; dsimp only; rw [if_neg (by intro h9; exact absurd h9.2 (Int32.not_lt.mpr (by assumption)))]; exact ⟨rfl, rfl, rfl, (by rw [← nI_1]; rfl), trivial⟩))
    | some b =>
      have hb4 := dbO_lt hdb
      refine g_nrm [(0, .ref (a 206)), (1, .int d), (2, .int (nI b)), (3, .int (nI i1))] ⟨rfl, rfl, rfl, rfl, trivial⟩ ?_
      refine g_iload_n (i := 3) dX6_dearestBut_4 rfl rfl ?_
      refine g_iconst (4) rfl dX6_dearestBut_5 ?_
      refine g_icmp_ge 44 dX6_dearestBut_6 (by decide) (fun c_6 => ?_) (fun c_6 => ?_)
      · skip
        exact absurd c_6 (nI_ge hi1 (by first | decide | omega))
      · skip
        refine g_iload_n (i := 1) dX6_dearestBut_9 rfl rfl ?_
        refine g_iconst (1) rfl dX6_dearestBut_10 ?_
        refine g_iload_n (i := 3) dX6_dearestBut_11 rfl rfl ?_
        refine g_ishl dX6_dearestBut_12 ?_
        refine g_iand dX6_dearestBut_13 ?_
        refine g_if_ne 38 dX6_dearestBut_14 (by decide) (fun c_7 => ?_) (fun c_7 => ?_)
        · skip
          refine g_iinc (1) dX6_dearestBut_38 rfl rfl (by decide) ?_
          refine g_goto 4 dX6_dearestBut_41 (by decide) ?_
          first | (refine g_to _ _ (ihi1 trivial) rfl (by show gSub _ [(0, .ref (a 206)), (1, .int d), (2, .int (oI (dbO T d (i1 + 1)))), (3, .int (nI (i1 + 1)))]; rw [dbS, hdb]; dsimp only; rw [if_pos (by assumption)]; exact ⟨rfl, rfl, rfl, (by rw [← nI_1]; rfl), trivial⟩)) | (refine g_to _ _ (ihi1 trivial) rfl (by show gSub _ [(0, .ref (a 206)), (1, .int d), (2, .int (oI (dbO T d (i1 + 1)))), (3, .int (nI (i1 + 1)))]; rw [dbS, hdb]; dsimp only; rw [if_neg (by assumption)]; exact ⟨rfl, rfl, rfl, (by rw [← nI_1]; rfl), trivial⟩)) | (refine g_to _ _ (ihi1 trivial) rfl (by show gSub _ [(0, .ref (a 206)), (1, .int d), (2, .int (oI (dbO T d (i1 + 1)))), (3, .int (nI (i1 + 1)))]; rw [dbS, hdb]; dsimp only; rw [if_pos ⟨by assumption, Int32.not_le.mp (by assumption)⟩]; exact ⟨rfl, rfl, rfl, (by rw [← nI_1]; rfl), trivial⟩)) | (refine g_to _ _ (ihi1 trivial) rfl (by show gSub _ [(0, .ref (a 206)), (1, .int d), (2, .int (oI (dbO T d (i1 + 1)))), (3, .int (nI (i1 + 1)))]; rw [dbS, hdb]; dsimp only; rw [if_neg (by intro h9; exact absurd h9.1 (by assumption))]; exact ⟨rfl, rfl, rfl, (by rw [← nI_1]; rfl), trivial⟩)) | (refine g_to _ _ (ihi1 trivial) rfl (by show gSub _ [(0, .ref (a 206)), (1, .int d), (2, .int (oI (dbO T d (i1 + 1)))), (3, .int (nI (i1 + 1)))]; rw [dbS, hdb]; dsimp only; rw [if_neg (by intro h9; exact absurd h9.2 (Int32.not_lt.mpr (by assumption)))]; exact ⟨rfl, rfl, rfl, (by rw [← nI_1]; rfl), trivial⟩))
        · skip
          refine g_iload_n (i := 2) dX6_dearestBut_17 rfl rfl ?_
          refine g_if_lt 36 dX6_dearestBut_18 (by decide) (fun c_8 => ?_) (fun c_8 => ?_)
          · skip
            exact absurd c_8 (nI_nneg (by omega))
          · skip
            refine g_aload_n (i := 0) dX6_dearestBut_21 rfl rfl ?_
            refine g_get 29 0 dX6_dearestBut_22 (List.mem_of_getElem? (i := 1) rfl) (fun w h => List.mem_cons_of_mem _ (List.mem_append_right _ h)) (cO_purses _ _ _ _) rfl (by decide) rfl ?_
            refine g_iload_n (i := 3) dX6_dearestBut_25 rfl rfl ?_
            refine c_aldN_55 dX6_dearestBut_26 (by omega) ?_
            refine g_aload_n (i := 0) dX6_dearestBut_27 rfl rfl ?_
            refine g_get 29 0 dX6_dearestBut_28 (List.mem_of_getElem? (i := 1) rfl) (fun w h => List.mem_cons_of_mem _ (List.mem_append_right _ h)) (cO_purses _ _ _ _) rfl (by decide) rfl ?_
            refine g_iload_n (i := 2) dX6_dearestBut_31 rfl rfl ?_
            refine c_aldN_55 dX6_dearestBut_32 (by omega) ?_
            refine g_icmp_le 38 dX6_dearestBut_33 (by decide) (fun c_9 => ?_) (fun c_9 => ?_)
            · skip
              refine g_iinc (1) dX6_dearestBut_38 rfl rfl (by decide) ?_
              refine g_goto 4 dX6_dearestBut_41 (by decide) ?_
              first | (refine g_to _ _ (ihi1 trivial) rfl (by show gSub _ [(0, .ref (a 206)), (1, .int d), (2, .int (oI (dbO T d (i1 + 1)))), (3, .int (nI (i1 + 1)))]; rw [dbS, hdb]; dsimp only; rw [if_pos (by assumption)]; exact ⟨rfl, rfl, rfl, (by rw [← nI_1]; rfl), trivial⟩)) | (refine g_to _ _ (ihi1 trivial) rfl (by show gSub _ [(0, .ref (a 206)), (1, .int d), (2, .int (oI (dbO T d (i1 + 1)))), (3, .int (nI (i1 + 1)))]; rw [dbS, hdb]; dsimp only; rw [if_neg (by assumption)]; exact ⟨rfl, rfl, rfl, (by rw [← nI_1]; rfl), trivial⟩)) | (refine g_to _ _ (ihi1 trivial) rfl (by show gSub _ [(0, .ref (a 206)), (1, .int d), (2, .int (oI (dbO T d (i1 + 1)))), (3, .int (nI (i1 + 1)))]; rw [dbS, hdb]; dsimp only; rw [if_pos ⟨by assumption, Int32.not_le.mp (by assumption)⟩]; exact ⟨rfl, rfl, rfl, (by rw [← nI_1]; rfl), trivial⟩)) | (refine g_to _ _ (ihi1 trivial) rfl (by show gSub _ [(0, .ref (a 206)), (1, .int d), (2, .int (oI (dbO T d (i1 + 1)))), (3, .int (nI (i1 + 1)))]; rw [dbS, hdb]; dsimp only; rw [if_neg (by intro h9; exact absurd h9.1 (by assumption))]; exact ⟨rfl, rfl, rfl, (by rw [← nI_1]; rfl), trivial⟩)) | (refine g_to _ _ (ihi1 trivial) rfl (by show gSub _ [(0, .ref (a 206)), (1, .int d), (2, .int (oI (dbO T d (i1 + 1)))), (3, .int (nI (i1 + 1)))]; rw [dbS, hdb]; dsimp only; rw [if_neg (by intro h9; exact absurd h9.2 (Int32.not_lt.mpr (by assumption)))]; exact ⟨rfl, rfl, rfl, (by rw [← nI_1]; rfl), trivial⟩))
            · skip
              refine g_iload_n (i := 3) dX6_dearestBut_36 rfl rfl ?_
              refine g_istore_n (i := 2) dX6_dearestBut_37 rfl (by decide) ?_
              refine g_iinc (1) dX6_dearestBut_38 rfl rfl (by decide) ?_
              refine g_goto 4 dX6_dearestBut_41 (by decide) ?_
              first | (refine g_to _ _ (ihi1 trivial) rfl (by show gSub _ [(0, .ref (a 206)), (1, .int d), (2, .int (oI (dbO T d (i1 + 1)))), (3, .int (nI (i1 + 1)))]; rw [dbS, hdb]; dsimp only; rw [if_pos (by assumption)]; exact ⟨rfl, rfl, rfl, (by rw [← nI_1]; rfl), trivial⟩)) | (refine g_to _ _ (ihi1 trivial) rfl (by show gSub _ [(0, .ref (a 206)), (1, .int d), (2, .int (oI (dbO T d (i1 + 1)))), (3, .int (nI (i1 + 1)))]; rw [dbS, hdb]; dsimp only; rw [if_neg (by assumption)]; exact ⟨rfl, rfl, rfl, (by rw [← nI_1]; rfl), trivial⟩)) | (refine g_to _ _ (ihi1 trivial) rfl (by show gSub _ [(0, .ref (a 206)), (1, .int d), (2, .int (oI (dbO T d (i1 + 1)))), (3, .int (nI (i1 + 1)))]; rw [dbS, hdb]; dsimp only; rw [if_pos ⟨by assumption, Int32.not_le.mp (by assumption)⟩]; exact ⟨rfl, rfl, rfl, (by rw [← nI_1]; rfl), trivial⟩)) | (refine g_to _ _ (ihi1 trivial) rfl (by show gSub _ [(0, .ref (a 206)), (1, .int d), (2, .int (oI (dbO T d (i1 + 1)))), (3, .int (nI (i1 + 1)))]; rw [dbS, hdb]; dsimp only; rw [if_neg (by intro h9; exact absurd h9.1 (by assumption))]; exact ⟨rfl, rfl, rfl, (by rw [← nI_1]; rfl), trivial⟩)) | (refine g_to _ _ (ihi1 trivial) rfl (by show gSub _ [(0, .ref (a 206)), (1, .int d), (2, .int (oI (dbO T d (i1 + 1)))), (3, .int (nI (i1 + 1)))]; rw [dbS, hdb]; dsimp only; rw [if_neg (by intro h9; exact absurd h9.2 (Int32.not_lt.mpr (by assumption)))]; exact ⟨rfl, rfl, rfl, (by rw [← nI_1]; rfl), trivial⟩))

/-- how many coins of kind k move -/
def hoM (T : MS) (h q : Int32) (k : Nat) (l : Int64) : Int32 := (if l / (T.2.2.1 55 k).toInt64 < (if 1000 - T.2.2.1 (110 + q.toNatClampNeg) k < T.2.2.1 (110 + h.toNatClampNeg) k then 1000 - T.2.2.1 (110 + q.toNatClampNeg) k else T.2.2.1 (110 + h.toNatClampNeg) k).toInt64 then l / (T.2.2.1 55 k).toInt64 else (if 1000 - T.2.2.1 (110 + q.toNatClampNeg) k < T.2.2.1 (110 + h.toNatClampNeg) k then 1000 - T.2.2.1 (110 + q.toNatClampNeg) k else T.2.2.1 (110 + h.toNatClampNeg) k).toInt64).toInt32
def hoT (T : MS) (h q : Int32) (k : Nat) (v : Int32) : MS := sA (sA T (110 + h.toNatClampNeg) k (T.2.2.1 (110 + h.toNatClampNeg) k - v)) (110 + q.toNatClampNeg) k ((sA T (110 + h.toNatClampNeg) k (T.2.2.1 (110 + h.toNatClampNeg) k - v)).2.2.1 (110 + q.toNatClampNeg) k + v)
theorem hoT_55 (T : MS) (h q : Int32) (k : Nat) (v : Int32) : (hoT T h q k v).2.2.1 55 = T.2.2.1 55 := by
  unfold hoT sA
  dsimp only
  rw [if_neg (by omega), if_neg (by omega)]
def hoR (h q : Int32) : Nat → MS → Int32 → Int64 → Int64 × MS
  | 0, T, _, l => (l, T)
  | n + 1, T, d, l => match dbO T d 4 with
    | none => (l, T)
    | some k => if T.2.2.1 55 k ≤ 0 then (l, T) else hoR h q n (hoT T h q k (hoM T h q k l)) (d ||| bt1 k) (l - (hoM T h q k l).toInt64 * (T.2.2.1 55 k).toInt64)
theorem hoRn {h q : Int32} {n : Nat} {T : MS} {d : Int32} {l : Int64} {X : Int64 × MS} (e : dbO T d 4 = none) (g : hoR h q (n + 1) T d l = X) : (l, T) = X := by
  rw [← g]
  show _ = (match dbO T d 4 with | none => (l, T) | some k => _)
  rw [e]
theorem hoR0 {h q : Int32} {n k : Nat} {T : MS} {d : Int32} {l : Int64} {X : Int64 × MS} (e : dbO T d 4 = some k) (hw : T.2.2.1 55 k ≤ 0) (g : hoR h q (n + 1) T d l = X) : (l, T) = X := by
  rw [← g]
  show _ = (match dbO T d 4 with | none => (l, T) | some k => _)
  rw [e]
  exact (if_pos hw).symm
theorem hoR1 {h q : Int32} {n k : Nat} {T : MS} {d : Int32} {l : Int64} {X : Int64 × MS} (e : dbO T d 4 = some k) (hw : ¬ T.2.2.1 55 k ≤ 0) (g : hoR h q (n + 1) T d l = X) : hoR h q n (hoT T h q k (hoM T h q k l)) (d ||| bt1 k) (l - (hoM T h q k l).toInt64 * (T.2.2.1 55 k).toInt64) = X := by
  rw [← g]
  show _ = (match dbO T d 4 with | none => (l, T) | some k => _)
  rw [e]
  exact (if_neg hw).symm
theorem w64 {x : Int32} (h : 0 < x) : ¬ x.toInt64 = 0 := by
  intro e
  have h1 := congrArg Int64.toInt e
  rw [Int32.toInt_toInt64] at h1
  rw [Int32.lt_iff_toInt_lt] at h
  have : (0 : Int32).toInt = 0 := by decide
  have : (0 : Int64).toInt = 0 := by decide
  omega
set_option maxHeartbeats 4000000 in
set_option maxRecDepth 100000 in
/-- handOver -/
theorem K_ho (l : Launch) (D : va_G) (cy : Nat → ClassId) (a : Nat → Nat) (T : MS) (B : List BL) (h q : Int32) (dbt : Int64) (hh : vp_in h 10) (hq : vp_in q 10) : Ct l D clx (tyx cy) yX6_handOver wsX6_handOver (rmC 1) 0 0 [.ref (a 206), .int h, .int q, .long dbt] (CW cy a T B) (fun r9 w9 => r9 = some (.long (hoR h q 4 T 0 dbt).1) ∧ w9 = CW cy a (hoR h q 4 T 0 dbt).2 B) := by
  refine g_start (cc := cX6_handOver) (maxL := 12) (ret := (some .long)) (by decide) rfl (Nat.le_of_ble_eq_true rfl) (fun v w1 h => by obtain ⟨rfl, -⟩ := h; exact rfl) (fun Γ hlΓ => ?_)
  subst hlΓ
  refine g_lload_n (i := 3) dX6_handOver_0 rfl rfl ?_
  refine g_lstore dX6_handOver_1 (by decide) ?_
  refine g_iconst (0) rfl dX6_handOver_3 ?_
  refine g_istore dX6_handOver_4 (by decide) ?_
  refine g_iconst (0) rfl dX6_handOver_6 ?_
  refine g_istore dX6_handOver_7 (by decide) ?_
  refine g_whl (σ := Nat × MS × Int32 × Int64) (fun x => x.1) (fun x => x.1 ≤ 4 ∧ hoR h q x.1 x.2.1 x.2.2.1 x.2.2.2 = hoR h q 4 T 0 dbt) (fun x => CW cy a x.2.1 B) (fun x => [(0, .ref (a 206)), (1, .int h), (2, .int q), (5, .long x.2.2.2), (7, .int x.2.2.1), (8, .int (nI (4 - x.1)))]) (4, T, 0, dbt) ⟨Nat.le_refl 4, rfl⟩ rfl ⟨rfl, rfl, rfl, rfl, rfl, rfl, trivial⟩ (fun x gx ih => ?_)
  obtain ⟨n, U, d, l⟩ := x
  obtain ⟨hn, gx⟩ := gx
  replace hn : n ≤ 4 := hn
  replace gx : hoR h q n U d l = hoR h q 4 T 0 dbt := gx
  rcases n with _ | m
  · refine g_nrm [(0, .ref (a 206)), (1, .int h), (2, .int q), (5, .long l), (7, .int d), (8, .int (nI 4))] ⟨rfl, rfl, rfl, rfl, rfl, rfl, trivial⟩ ?_
    refine g_iload dX6_handOver_9 rfl ?_
    refine g_iconst (4) rfl dX6_handOver_11 ?_
    refine g_icmp_ge 148 dX6_handOver_12 (by decide) (fun _ => ?_) (fun h9 => absurd h9 (by decide))
    refine g_lload dX6_handOver_148 rfl ?_
    refine g_lret dX6_handOver_150 ?_
    first | exact ⟨congrArg (fun z => some (Value.long z.1)) (hoRn hdb gx), congrArg (fun z => CW cy a z.2 B) (hoRn hdb gx)⟩ | exact ⟨congrArg (fun z => some (Value.long z.1)) (hoR0 hdb (Int32.not_lt.mp (by assumption)) gx), congrArg (fun z => CW cy a z.2 B) (hoR0 hdb (Int32.not_lt.mp (by assumption)) gx)⟩ | exact ⟨congrArg (fun z => some (Value.long z.1)) (gx), congrArg (fun z => CW cy a z.2 B) (gx)⟩
  · refine g_nrm [(0, .ref (a 206)), (1, .int h), (2, .int q), (5, .long l), (7, .int d), (8, .int (nI (4 - (m + 1))))] ⟨rfl, rfl, rfl, rfl, rfl, rfl, trivial⟩ ?_
    refine g_iload dX6_handOver_9 rfl ?_
    refine g_iconst (4) rfl dX6_handOver_11 ?_
    refine g_icmp_ge 148 dX6_handOver_12 (by decide) (fun c_3 => ?_) (fun c_3 => ?_)
    · skip
      exact absurd c_3 (nI_ge (b := 4) (by omega) (by decide))
    · skip
      refine g_aload_n (i := 0) dX6_handOver_15 rfl rfl ?_
      refine g_iload dX6_handOver_16 rfl ?_
      refine g_callVf 1 29 gX6_handOver_X6_dearestBut rfl rfl rfl ⟨Nat.le_of_ble_eq_true rfl, Nat.le_of_ble_eq_true rfl⟩ ⟨Nat.le_of_ble_eq_true rfl, Nat.le_of_ble_eq_true rfl⟩ (by exact Nat.le_of_ble_eq_true rfl) (by decide +kernel) rfl (cO_purses _ _ _ _) rfl dX6_handOver_18 (K_db _ D cy a _ _ _) rfl (fun vu_4 wu_4 hu_4 => ?_)
      obtain ⟨rfl, rfl⟩ := hu_4
      cases hdb : dbO U d 4 with
        | none =>
          refine g_ste (st2 := .int (-1) :: []) ?_ rfl
          refine g_istore dX6_handOver_21 (by decide) ?_
          refine g_iload dX6_handOver_23 rfl ?_
          refine g_if_lt 38 dX6_handOver_25 (by decide) (fun _ => ?_) (fun h9 => absurd h9 (by decide))
          refine g_lload dX6_handOver_38 rfl ?_
          refine g_lret dX6_handOver_40 ?_
          first | exact ⟨congrArg (fun z => some (Value.long z.1)) (hoRn hdb gx), congrArg (fun z => CW cy a z.2 B) (hoRn hdb gx)⟩ | exact ⟨congrArg (fun z => some (Value.long z.1)) (hoR0 hdb (Int32.not_lt.mp (by assumption)) gx), congrArg (fun z => CW cy a z.2 B) (hoR0 hdb (Int32.not_lt.mp (by assumption)) gx)⟩ | exact ⟨congrArg (fun z => some (Value.long z.1)) (gx), congrArg (fun z => CW cy a z.2 B) (gx)⟩
        | some k =>
          have hk4 := dbO_lt hdb
          refine g_ste (st2 := .int (nI k) :: []) ?_ rfl
          refine g_istore dX6_handOver_21 (by decide) ?_
          refine g_iload dX6_handOver_23 rfl ?_
          refine g_if_lt 38 dX6_handOver_25 (by decide) (fun c_6 => ?_) (fun c_6 => ?_)
          · skip
            exact absurd c_6 (nI_nneg (by omega))
          · skip
            refine g_aload_n (i := 0) dX6_handOver_28 rfl rfl ?_
            refine g_get 29 0 dX6_handOver_29 (List.mem_of_getElem? (i := 1) rfl) (fun w h => List.mem_cons_of_mem _ (List.mem_append_right _ h)) (cO_purses _ _ _ _) rfl (by decide) rfl ?_
            refine g_iload dX6_handOver_32 rfl ?_
            refine c_aldN_55 dX6_handOver_34 (by omega) ?_
            refine g_if_gt 41 dX6_handOver_35 (by decide) (fun c_7 => ?_) (fun c_7 => ?_)
            · skip
              have hw9 := c_7
              refine g_iload dX6_handOver_41 rfl ?_
              refine g_iconst (1) rfl dX6_handOver_43 ?_
              refine g_iload dX6_handOver_44 rfl ?_
              refine g_ishl dX6_handOver_46 ?_
              refine g_ior dX6_handOver_47 ?_
              refine g_istore dX6_handOver_48 (by decide) ?_
              refine g_aload_n (i := 0) dX6_handOver_50 rfl rfl ?_
              refine g_get 29 1 dX6_handOver_51 (List.mem_of_getElem? (i := 2) rfl) (fun w h => List.mem_cons_of_mem _ (List.mem_append_right _ h)) (cO_purses _ _ _ _) rfl (by decide) rfl ?_
              refine g_iload_n (i := 1) dX6_handOver_54 rfl rfl ?_
              refine c_aald_56 dX6_handOver_55 hh ?_
              refine g_iload dX6_handOver_56 rfl ?_
              refine c_rldN_56 dX6_handOver_58 (vp_nat hh) (by omega) ?_
              refine g_sipush (1000) rfl dX6_handOver_59 ?_
              refine g_aload_n (i := 0) dX6_handOver_62 rfl rfl ?_
              refine g_get 29 1 dX6_handOver_63 (List.mem_of_getElem? (i := 2) rfl) (fun w h => List.mem_cons_of_mem _ (List.mem_append_right _ h)) (cO_purses _ _ _ _) rfl (by decide) rfl ?_
              refine g_iload_n (i := 2) dX6_handOver_66 rfl rfl ?_
              refine c_aald_56 dX6_handOver_67 hq ?_
              refine g_iload dX6_handOver_68 rfl ?_
              refine c_rldN_56 dX6_handOver_70 (vp_nat hq) (by omega) ?_
              refine g_isub dX6_handOver_71 ?_
              refine g_mmin (List.mem_of_getElem? (i := 3) rfl) (List.mem_of_getElem? (i := 4) rfl) (List.mem_of_getElem? (i := 5) rfl) (List.mem_of_getElem? (i := 6) rfl) (Nat.le_of_ble_eq_true rfl) (by exact Nat.le_of_ble_eq_true rfl) (Nat.le_of_ble_eq_true rfl) (Nat.le_of_ble_eq_true rfl) dX6_handOver_72 ?_
              refine g_istore dX6_handOver_75 (by decide) ?_
              refine g_iload dX6_handOver_77 rfl ?_
              refine g_i2l dX6_handOver_79 ?_
              refine g_lload dX6_handOver_80 rfl ?_
              refine g_aload_n (i := 0) dX6_handOver_82 rfl rfl ?_
              refine g_get 29 0 dX6_handOver_83 (List.mem_of_getElem? (i := 1) rfl) (fun w h => List.mem_cons_of_mem _ (List.mem_append_right _ h)) (cO_purses _ _ _ _) rfl (by decide) rfl ?_
              refine g_iload dX6_handOver_86 rfl ?_
              refine c_aldN_55 dX6_handOver_88 (by omega) ?_
              refine g_i2l dX6_handOver_89 ?_
              refine g_ldiv (w64 hw9) dX6_handOver_90 ?_
              refine g_mminL (List.mem_of_getElem? (i := 7) rfl) (List.mem_of_getElem? (i := 8) rfl) (List.mem_of_getElem? (i := 5) rfl) (List.mem_of_getElem? (i := 9) rfl) (Nat.le_of_ble_eq_true rfl) (by exact Nat.le_of_ble_eq_true rfl) (Nat.le_of_ble_eq_true rfl) (Nat.le_of_ble_eq_true rfl) dX6_handOver_91 ?_
              refine g_l2i dX6_handOver_94 ?_
              refine g_istore dX6_handOver_95 (by decide) ?_
              refine g_aload_n (i := 0) dX6_handOver_97 rfl rfl ?_
              refine g_get 29 1 dX6_handOver_98 (List.mem_of_getElem? (i := 2) rfl) (fun w h => List.mem_cons_of_mem _ (List.mem_append_right _ h)) (cO_purses _ _ _ _) rfl (by decide) rfl ?_
              refine g_iload_n (i := 1) dX6_handOver_101 rfl rfl ?_
              refine c_aald_56 dX6_handOver_102 hh ?_
              refine g_iload dX6_handOver_103 rfl ?_
              refine g_dup2_11 rfl rfl dX6_handOver_105 ?_
              refine c_rldN_56 dX6_handOver_106 (vp_nat hh) (by omega) ?_
              refine g_iload dX6_handOver_107 rfl ?_
              refine g_isub dX6_handOver_109 ?_
              refine c_rstN_56 dX6_handOver_110 (vp_nat hh) (by omega) ?_
              refine g_aload_n (i := 0) dX6_handOver_111 rfl rfl ?_
              refine g_get 29 1 dX6_handOver_112 (List.mem_of_getElem? (i := 2) rfl) (fun w h => List.mem_cons_of_mem _ (List.mem_append_right _ h)) (cO_purses _ _ _ _) rfl (by decide) rfl ?_
              refine g_iload_n (i := 2) dX6_handOver_115 rfl rfl ?_
              refine c_aald_56 dX6_handOver_116 hq ?_
              refine g_iload dX6_handOver_117 rfl ?_
              refine g_dup2_11 rfl rfl dX6_handOver_119 ?_
              refine c_rldN_56 dX6_handOver_120 (vp_nat hq) (by omega) ?_
              refine g_iload dX6_handOver_121 rfl ?_
              refine g_iadd dX6_handOver_123 ?_
              refine c_rstN_56 dX6_handOver_124 (vp_nat hq) (by omega) ?_
              refine g_lload dX6_handOver_125 rfl ?_
              refine g_iload dX6_handOver_127 rfl ?_
              refine g_i2l dX6_handOver_129 ?_
              refine g_aload_n (i := 0) dX6_handOver_130 rfl rfl ?_
              refine g_get 29 0 dX6_handOver_131 (List.mem_of_getElem? (i := 1) rfl) (fun w h => List.mem_cons_of_mem _ (List.mem_append_right _ h)) (cO_purses _ _ _ _) rfl (by decide) rfl ?_
              refine g_iload dX6_handOver_134 rfl ?_
              refine c_aldN_55 dX6_handOver_136 (by omega) ?_
              refine g_ste (st2 := .int (U.2.2.1 55 k) :: .long (hoM U h q k l).toInt64 :: .long l :: []) ?_ (by show [Value.int ((hoT U h q k (hoM U h q k l)).2.2.1 55 k), Value.long (hoM U h q k l).toInt64, Value.long l] = _; rw [hoT_55])
              refine g_i2l dX6_handOver_137 ?_
              refine g_lmul dX6_handOver_138 ?_
              refine g_lsub dX6_handOver_139 ?_
              refine g_lstore dX6_handOver_140 (by decide) ?_
              refine g_iinc (1) dX6_handOver_142 rfl rfl (by decide) ?_
              refine g_goto 9 dX6_handOver_145 (by decide) ?_
              exact g_to _ _ (ih (m, hoT U h q k (hoM U h q k l), d ||| bt1 k, l - (hoM U h q k l).toInt64 * (U.2.2.1 55 k).toInt64) ⟨by show m ≤ 4; omega, hoR1 hdb (Int32.not_le.mpr hw9) gx⟩ (Nat.lt_succ_self m)) rfl ⟨rfl, rfl, rfl, rfl, rfl, (by show some (Value.int (nI (4 - (m + 1)) + 1)) = _; rw [nI_1, show 4 - (m + 1) + 1 = 4 - m by omega]), trivial⟩
            · skip
              refine g_lload dX6_handOver_38 rfl ?_
              refine g_lret dX6_handOver_40 ?_
              first | exact ⟨congrArg (fun z => some (Value.long z.1)) (hoRn hdb gx), congrArg (fun z => CW cy a z.2 B) (hoRn hdb gx)⟩ | exact ⟨congrArg (fun z => some (Value.long z.1)) (hoR0 hdb (Int32.not_lt.mp (by assumption)) gx), congrArg (fun z => CW cy a z.2 B) (hoR0 hdb (Int32.not_lt.mp (by assumption)) gx)⟩ | exact ⟨congrArg (fun z => some (Value.long z.1)) (gx), congrArg (fun z => CW cy a z.2 B) (gx)⟩

