def btR (T : MS) (n : Nat) (sc : Int64) (s0 : Int64 × Int32) : Nat → Int64 × Int32
  | 0 => s0
  | i + 1 => if sc * cprod T i n ≤ (btR T n sc s0 i).1 then btR T n sc s0 i else (sc * cprod T i n, cfig i n)
theorem btS0 {T : MS} {n i : Nat} {sc : Int64} {s0 : Int64 × Int32} (h : sc * cprod T i n ≤ (btR T n sc s0 i).1) : btR T n sc s0 (i + 1) = btR T n sc s0 i := if_pos h
theorem btS1 {T : MS} {n i : Nat} {sc : Int64} {s0 : Int64 × Int32} (h : ¬ sc * cprod T i n ≤ (btR T n sc s0 i).1) : btR T n sc s0 (i + 1) = (sc * cprod T i n, cfig i n) := if_neg h
def bt2 (T : MS) : Int64 × Int32 := btR T 2 100000000 (10000000000000000, 0) 25
def bt3 (T : MS) : Int64 × Int32 := btR T 3 10000 (bt2 T) 125
def bt4 (T : MS) : Int64 × Int32 := btR T 4 1 (bt3 T) 625
def cf_best (T : MS) : Int32 := (bt4 T).2
set_option maxHeartbeats 4000000 in
set_option maxRecDepth 100000 in
/-- bestTurn -/
theorem K_best (l : Launch) (D : va_G) (cy : Nat → ClassId) (a : Nat → Nat) (T : MS) (B : List BL) : Ct l D clx (tyx cy) yX7_bestTurn wsX7_bestTurn (rmC 1) 0 0 [.ref (a 207)] (CW cy a T B) (fun r9 w9 => r9 = some (.int (cf_best T)) ∧ w9 = CW cy a T B) := by
  refine g_start (cc := cX7_bestTurn) (maxL := 11) (ret := (some .int)) (by decide) rfl (Nat.le_of_ble_eq_true rfl) (fun v w1 h => by obtain ⟨rfl, -⟩ := h; exact ⟨.int, rfl, rfl⟩) (fun Γ hlΓ => ?_)
  subst hlΓ
  refine g_ldc2 (10000000000000000) (List.mem_of_getElem? (i := 1) rfl) dX7_bestTurn_0 ?_
  refine g_lstore_n (i := 1) dX7_bestTurn_3 rfl (by decide) ?_
  refine g_iconst (0) rfl dX7_bestTurn_4 ?_
  refine g_istore_n (i := 3) dX7_bestTurn_5 rfl (by decide) ?_
  refine g_ldc2 (100000000) (List.mem_of_getElem? (i := 2) rfl) dX7_bestTurn_6 ?_
  refine g_lstore dX7_bestTurn_9 (by decide) ?_
  refine g_bipush (25) rfl dX7_bestTurn_11 ?_
  refine g_istore dX7_bestTurn_13 (by decide) ?_
  refine g_iconst (2) rfl dX7_bestTurn_15 ?_
  refine g_istore dX7_bestTurn_16 (by decide) ?_
  refine g_iload dX7_bestTurn_18 rfl ?_
  refine g_iconst (4) rfl dX7_bestTurn_20 ?_
  refine g_icmp_gt 91 dX7_bestTurn_21 (by decide) (fun h9 => absurd h9 (by decide)) (fun _ => ?_)
  refine g_iconst (0) rfl dX7_bestTurn_24 ?_
  refine g_istore dX7_bestTurn_25 (by decide) ?_
  refine g_cnt 25 (fun i => True) (fun i => CW cy a T B) (fun i => [(0, .ref (a 207)), (1, .long (btR T 2 100000000 (10000000000000000, 0) i).1), (3, .int (btR T 2 100000000 (10000000000000000, 0) i).2), (4, .long 100000000), (6, .int (nI 25)), (7, .int 2), (8, .int (nI i))]) 0 (by decide) trivial rfl ⟨rfl, rfl, rfl, rfl, rfl, rfl, rfl, trivial⟩ ?_ (fun i2 hi2 gi2 ihi2 => ?_)
  · intro gNi2
    obtain ⟨Z2, hZ2⟩ : ∃ Z, Z = btR T 2 100000000 (10000000000000000, 0) 25 := ⟨_, rfl⟩
    rw [← hZ2]
    refine g_iload dX7_bestTurn_27 rfl ?_
    refine g_iload dX7_bestTurn_29 rfl ?_
    refine g_icmp_ge 71 dX7_bestTurn_31 (by decide) (fun c_3 => ?_) (fun c_3 => ?_)
    · skip
      refine g_lload dX7_bestTurn_71 rfl ?_
      refine g_ldc2 (10000) (List.mem_of_getElem? (i := 3) rfl) dX7_bestTurn_73 ?_
      refine g_ldiv (by decide) dX7_bestTurn_76 ?_
      refine g_lstore dX7_bestTurn_77 (by decide) ?_
      refine g_iload dX7_bestTurn_79 rfl ?_
      refine g_iconst (5) rfl dX7_bestTurn_81 ?_
      refine g_imul dX7_bestTurn_82 ?_
      refine g_istore dX7_bestTurn_83 (by decide) ?_
      refine g_iinc (1) dX7_bestTurn_85 rfl rfl (by decide) ?_
      refine g_goto 18 dX7_bestTurn_88 (by decide) ?_
      refine g_iload dX7_bestTurn_18 rfl ?_
      refine g_iconst (4) rfl dX7_bestTurn_20 ?_
      refine g_icmp_gt 91 dX7_bestTurn_21 (by decide) (fun h9 => absurd h9 (by decide)) (fun _ => ?_)
      refine g_iconst (0) rfl dX7_bestTurn_24 ?_
      refine g_istore dX7_bestTurn_25 (by decide) ?_
      refine g_cnt 125 (fun i => True) (fun i => CW cy a T B) (fun i => [(0, .ref (a 207)), (1, .long (btR T 3 10000 Z2 i).1), (3, .int (btR T 3 10000 Z2 i).2), (4, .long 10000), (6, .int (nI 125)), (7, .int 3), (8, .int (nI i))]) 0 (by decide) trivial rfl ⟨rfl, rfl, rfl, (congrArg (fun z => some (Value.long z)) (by decide)), (congrArg (fun z => some (Value.int z)) (by decide)), (congrArg (fun z => some (Value.int z)) (by decide)), rfl, trivial⟩ ?_ (fun i5 hi5 gi5 ihi5 => ?_)
      · intro gNi5
        obtain ⟨Z3, hZ3⟩ : ∃ Z, Z = btR T 3 10000 Z2 125 := ⟨_, rfl⟩
        rw [← hZ3]
        refine g_iload dX7_bestTurn_27 rfl ?_
        refine g_iload dX7_bestTurn_29 rfl ?_
        refine g_icmp_ge 71 dX7_bestTurn_31 (by decide) (fun c_6 => ?_) (fun c_6 => ?_)
        · skip
          refine g_lload dX7_bestTurn_71 rfl ?_
          refine g_ldc2 (10000) (List.mem_of_getElem? (i := 3) rfl) dX7_bestTurn_73 ?_
          refine g_ldiv (by decide) dX7_bestTurn_76 ?_
          refine g_lstore dX7_bestTurn_77 (by decide) ?_
          refine g_iload dX7_bestTurn_79 rfl ?_
          refine g_iconst (5) rfl dX7_bestTurn_81 ?_
          refine g_imul dX7_bestTurn_82 ?_
          refine g_istore dX7_bestTurn_83 (by decide) ?_
          refine g_iinc (1) dX7_bestTurn_85 rfl rfl (by decide) ?_
          refine g_goto 18 dX7_bestTurn_88 (by decide) ?_
          refine g_iload dX7_bestTurn_18 rfl ?_
          refine g_iconst (4) rfl dX7_bestTurn_20 ?_
          refine g_icmp_gt 91 dX7_bestTurn_21 (by decide) (fun h9 => absurd h9 (by decide)) (fun _ => ?_)
          refine g_iconst (0) rfl dX7_bestTurn_24 ?_
          refine g_istore dX7_bestTurn_25 (by decide) ?_
          refine g_cnt 625 (fun i => True) (fun i => CW cy a T B) (fun i => [(0, .ref (a 207)), (1, .long (btR T 4 1 Z3 i).1), (3, .int (btR T 4 1 Z3 i).2), (4, .long 1), (6, .int (nI 625)), (7, .int 4), (8, .int (nI i))]) 0 (by decide) trivial rfl ⟨rfl, rfl, rfl, (congrArg (fun z => some (Value.long z)) (by decide)), (congrArg (fun z => some (Value.int z)) (by decide)), (congrArg (fun z => some (Value.int z)) (by decide)), rfl, trivial⟩ ?_ (fun i8 hi8 gi8 ihi8 => ?_)
          · intro gNi8
            obtain ⟨Z4, hZ4⟩ : ∃ Z, Z = btR T 4 1 Z3 625 := ⟨_, rfl⟩
            rw [← hZ4]
            refine g_iload dX7_bestTurn_27 rfl ?_
            refine g_iload dX7_bestTurn_29 rfl ?_
            refine g_icmp_ge 71 dX7_bestTurn_31 (by decide) (fun c_9 => ?_) (fun c_9 => ?_)
            · skip
              refine g_lload dX7_bestTurn_71 rfl ?_
              refine g_ldc2 (10000) (List.mem_of_getElem? (i := 3) rfl) dX7_bestTurn_73 ?_
              refine g_ldiv (by decide) dX7_bestTurn_76 ?_
              refine g_lstore dX7_bestTurn_77 (by decide) ?_
              refine g_iload dX7_bestTurn_79 rfl ?_
              refine g_iconst (5) rfl dX7_bestTurn_81 ?_
              refine g_imul dX7_bestTurn_82 ?_
              refine g_istore dX7_bestTurn_83 (by decide) ?_
              refine g_iinc (1) dX7_bestTurn_85 rfl rfl (by decide) ?_
              refine g_goto 18 dX7_bestTurn_88 (by decide) ?_
              refine g_iload dX7_bestTurn_18 rfl ?_
              refine g_iconst (4) rfl dX7_bestTurn_20 ?_
              refine g_icmp_gt 91 dX7_bestTurn_21 (by decide) (fun _ => ?_) (fun h9 => absurd h9 (by decide))
              refine g_iload_n (i := 3) dX7_bestTurn_91 rfl rfl ?_
              refine g_iret dX7_bestTurn_92 ?_
              exact ⟨(by unfold cf_best bt4 bt3 bt2; rw [← hZ2, ← hZ3, ← hZ4]), rfl⟩
            · skip
              exact absurd (nI_le (a := 625) (b := 625) (Nat.le_refl _) (by decide)) c_9
          · skip
            refine g_iload dX7_bestTurn_27 rfl ?_
            refine g_iload dX7_bestTurn_29 rfl ?_
            refine g_icmp_ge 71 dX7_bestTurn_31 (by decide) (fun c_11 => ?_) (fun c_11 => ?_)
            · skip
              exact absurd c_11 (nI_ge (b := 625) hi8 (by decide))
            · skip
              refine g_lload dX7_bestTurn_34 rfl ?_
              refine g_aload_n (i := 0) dX7_bestTurn_36 rfl rfl ?_
              refine g_iload dX7_bestTurn_37 rfl ?_
              refine g_iload dX7_bestTurn_39 rfl ?_
              refine g_callVf 2 42 gX7_bestTurn_X7_productOf rfl rfl rfl ⟨Nat.le_of_ble_eq_true rfl, Nat.le_of_ble_eq_true rfl⟩ ⟨Nat.le_of_ble_eq_true rfl, Nat.le_of_ble_eq_true rfl⟩ (by exact Nat.le_of_ble_eq_true rfl) (by decide +kernel) rfl (cO_rates _ _ _ _) rfl dX7_bestTurn_41 (K_prod _ D cy a _ _ i8 4 (by omega) (by decide) (by decide)) rfl (fun vu_12 wu_12 hu_12 => ?_)
              obtain ⟨rfl, rfl⟩ := hu_12
              refine g_lmul dX7_bestTurn_44 ?_
              refine g_lstore dX7_bestTurn_45 (by decide) ?_
              refine g_lload dX7_bestTurn_47 rfl ?_
              refine g_lload_n (i := 1) dX7_bestTurn_49 rfl rfl ?_
              refine g_lcmp_le 65 dX7_bestTurn_50 dX7_bestTurn_51 (by decide) (fun c_13 => ?_) (fun c_13 => ?_)
              · skip
                have hbt := c_13
                refine g_iinc (1) dX7_bestTurn_65 rfl rfl (by decide) ?_
                refine g_goto 27 dX7_bestTurn_68 (by decide) ?_
                first | (refine g_to _ _ (ihi8 trivial) rfl (by show gSub _ [(0, .ref (a 207)), (1, .long (btR T 4 1 Z3 (i8 + 1)).1), (3, .int (btR T 4 1 Z3 (i8 + 1)).2), (4, .long 1), (6, .int (nI 625)), (7, .int 4), (8, .int (nI (i8 + 1)))]; rw [btS0 hbt]; exact ⟨rfl, rfl, rfl, rfl, rfl, rfl, (by rw [← nI_1]; rfl), trivial⟩)) | (refine g_to _ _ (ihi8 trivial) rfl (by show gSub _ [(0, .ref (a 207)), (1, .long (btR T 4 1 Z3 (i8 + 1)).1), (3, .int (btR T 4 1 Z3 (i8 + 1)).2), (4, .long 1), (6, .int (nI 625)), (7, .int 4), (8, .int (nI (i8 + 1)))]; rw [btS1 hbt]; exact ⟨rfl, rfl, rfl, rfl, rfl, rfl, (by rw [← nI_1]; rfl), trivial⟩))
              · skip
                have hbt := c_13
                refine g_lload dX7_bestTurn_54 rfl ?_
                refine g_lstore_n (i := 1) dX7_bestTurn_56 rfl (by decide) ?_
                refine g_iload dX7_bestTurn_57 rfl ?_
                refine g_iload dX7_bestTurn_59 rfl ?_
                refine g_callSf 2 gX7_bestTurn_X7_figuresOf rfl rfl rfl ⟨Nat.le_of_ble_eq_true rfl, Nat.le_of_ble_eq_true rfl⟩ ⟨Nat.le_of_ble_eq_true rfl, Nat.le_of_ble_eq_true rfl⟩ (by exact Nat.le_of_ble_eq_true rfl) (by decide +kernel) rfl dX7_bestTurn_61 (K_fig _ D cy a _ _ i8 4 (by omega) (by decide)) rfl (fun vu_14 wu_14 hu_14 => ?_)
                obtain ⟨rfl, rfl⟩ := hu_14
                refine g_istore_n (i := 3) dX7_bestTurn_64 rfl (by decide) ?_
                refine g_iinc (1) dX7_bestTurn_65 rfl rfl (by decide) ?_
                refine g_goto 27 dX7_bestTurn_68 (by decide) ?_
                first | (refine g_to _ _ (ihi8 trivial) rfl (by show gSub _ [(0, .ref (a 207)), (1, .long (btR T 4 1 Z3 (i8 + 1)).1), (3, .int (btR T 4 1 Z3 (i8 + 1)).2), (4, .long 1), (6, .int (nI 625)), (7, .int 4), (8, .int (nI (i8 + 1)))]; rw [btS0 hbt]; exact ⟨rfl, rfl, rfl, rfl, rfl, rfl, (by rw [← nI_1]; rfl), trivial⟩)) | (refine g_to _ _ (ihi8 trivial) rfl (by show gSub _ [(0, .ref (a 207)), (1, .long (btR T 4 1 Z3 (i8 + 1)).1), (3, .int (btR T 4 1 Z3 (i8 + 1)).2), (4, .long 1), (6, .int (nI 625)), (7, .int 4), (8, .int (nI (i8 + 1)))]; rw [btS1 hbt]; exact ⟨rfl, rfl, rfl, rfl, rfl, rfl, (by rw [← nI_1]; rfl), trivial⟩))
        · skip
          exact absurd (nI_le (a := 125) (b := 125) (Nat.le_refl _) (by decide)) c_6
      · skip
        refine g_iload dX7_bestTurn_27 rfl ?_
        refine g_iload dX7_bestTurn_29 rfl ?_
        refine g_icmp_ge 71 dX7_bestTurn_31 (by decide) (fun c_15 => ?_) (fun c_15 => ?_)
        · skip
          exact absurd c_15 (nI_ge (b := 125) hi5 (by decide))
        · skip
          refine g_lload dX7_bestTurn_34 rfl ?_
          refine g_aload_n (i := 0) dX7_bestTurn_36 rfl rfl ?_
          refine g_iload dX7_bestTurn_37 rfl ?_
          refine g_iload dX7_bestTurn_39 rfl ?_
          refine g_callVf 2 42 gX7_bestTurn_X7_productOf rfl rfl rfl ⟨Nat.le_of_ble_eq_true rfl, Nat.le_of_ble_eq_true rfl⟩ ⟨Nat.le_of_ble_eq_true rfl, Nat.le_of_ble_eq_true rfl⟩ (by exact Nat.le_of_ble_eq_true rfl) (by decide +kernel) rfl (cO_rates _ _ _ _) rfl dX7_bestTurn_41 (K_prod _ D cy a _ _ i5 3 (by omega) (by decide) (by decide)) rfl (fun vu_16 wu_16 hu_16 => ?_)
          obtain ⟨rfl, rfl⟩ := hu_16
          refine g_lmul dX7_bestTurn_44 ?_
          refine g_lstore dX7_bestTurn_45 (by decide) ?_
          refine g_lload dX7_bestTurn_47 rfl ?_
          refine g_lload_n (i := 1) dX7_bestTurn_49 rfl rfl ?_
          refine g_lcmp_le 65 dX7_bestTurn_50 dX7_bestTurn_51 (by decide) (fun c_17 => ?_) (fun c_17 => ?_)
          · skip
            have hbt := c_17
            refine g_iinc (1) dX7_bestTurn_65 rfl rfl (by decide) ?_
            refine g_goto 27 dX7_bestTurn_68 (by decide) ?_
            first | (refine g_to _ _ (ihi5 trivial) rfl (by show gSub _ [(0, .ref (a 207)), (1, .long (btR T 3 10000 Z2 (i5 + 1)).1), (3, .int (btR T 3 10000 Z2 (i5 + 1)).2), (4, .long 10000), (6, .int (nI 125)), (7, .int 3), (8, .int (nI (i5 + 1)))]; rw [btS0 hbt]; exact ⟨rfl, rfl, rfl, rfl, rfl, rfl, (by rw [← nI_1]; rfl), trivial⟩)) | (refine g_to _ _ (ihi5 trivial) rfl (by show gSub _ [(0, .ref (a 207)), (1, .long (btR T 3 10000 Z2 (i5 + 1)).1), (3, .int (btR T 3 10000 Z2 (i5 + 1)).2), (4, .long 10000), (6, .int (nI 125)), (7, .int 3), (8, .int (nI (i5 + 1)))]; rw [btS1 hbt]; exact ⟨rfl, rfl, rfl, rfl, rfl, rfl, (by rw [← nI_1]; rfl), trivial⟩))
          · skip
            have hbt := c_17
            refine g_lload dX7_bestTurn_54 rfl ?_
            refine g_lstore_n (i := 1) dX7_bestTurn_56 rfl (by decide) ?_
            refine g_iload dX7_bestTurn_57 rfl ?_
            refine g_iload dX7_bestTurn_59 rfl ?_
            refine g_callSf 2 gX7_bestTurn_X7_figuresOf rfl rfl rfl ⟨Nat.le_of_ble_eq_true rfl, Nat.le_of_ble_eq_true rfl⟩ ⟨Nat.le_of_ble_eq_true rfl, Nat.le_of_ble_eq_true rfl⟩ (by exact Nat.le_of_ble_eq_true rfl) (by decide +kernel) rfl dX7_bestTurn_61 (K_fig _ D cy a _ _ i5 3 (by omega) (by decide)) rfl (fun vu_18 wu_18 hu_18 => ?_)
            obtain ⟨rfl, rfl⟩ := hu_18
            refine g_istore_n (i := 3) dX7_bestTurn_64 rfl (by decide) ?_
            refine g_iinc (1) dX7_bestTurn_65 rfl rfl (by decide) ?_
            refine g_goto 27 dX7_bestTurn_68 (by decide) ?_
            first | (refine g_to _ _ (ihi5 trivial) rfl (by show gSub _ [(0, .ref (a 207)), (1, .long (btR T 3 10000 Z2 (i5 + 1)).1), (3, .int (btR T 3 10000 Z2 (i5 + 1)).2), (4, .long 10000), (6, .int (nI 125)), (7, .int 3), (8, .int (nI (i5 + 1)))]; rw [btS0 hbt]; exact ⟨rfl, rfl, rfl, rfl, rfl, rfl, (by rw [← nI_1]; rfl), trivial⟩)) | (refine g_to _ _ (ihi5 trivial) rfl (by show gSub _ [(0, .ref (a 207)), (1, .long (btR T 3 10000 Z2 (i5 + 1)).1), (3, .int (btR T 3 10000 Z2 (i5 + 1)).2), (4, .long 10000), (6, .int (nI 125)), (7, .int 3), (8, .int (nI (i5 + 1)))]; rw [btS1 hbt]; exact ⟨rfl, rfl, rfl, rfl, rfl, rfl, (by rw [← nI_1]; rfl), trivial⟩))
    · skip
      exact absurd (nI_le (a := 25) (b := 25) (Nat.le_refl _) (by decide)) c_3
  · skip
    refine g_iload dX7_bestTurn_27 rfl ?_
    refine g_iload dX7_bestTurn_29 rfl ?_
    refine g_icmp_ge 71 dX7_bestTurn_31 (by decide) (fun c_19 => ?_) (fun c_19 => ?_)
    · skip
      exact absurd c_19 (nI_ge (b := 25) hi2 (by decide))
    · skip
      refine g_lload dX7_bestTurn_34 rfl ?_
      refine g_aload_n (i := 0) dX7_bestTurn_36 rfl rfl ?_
      refine g_iload dX7_bestTurn_37 rfl ?_
      refine g_iload dX7_bestTurn_39 rfl ?_
      refine g_callVf 2 42 gX7_bestTurn_X7_productOf rfl rfl rfl ⟨Nat.le_of_ble_eq_true rfl, Nat.le_of_ble_eq_true rfl⟩ ⟨Nat.le_of_ble_eq_true rfl, Nat.le_of_ble_eq_true rfl⟩ (by exact Nat.le_of_ble_eq_true rfl) (by decide +kernel) rfl (cO_rates _ _ _ _) rfl dX7_bestTurn_41 (K_prod _ D cy a _ _ i2 2 (by omega) (by decide) (by decide)) rfl (fun vu_20 wu_20 hu_20 => ?_)
      obtain ⟨rfl, rfl⟩ := hu_20
      refine g_lmul dX7_bestTurn_44 ?_
      refine g_lstore dX7_bestTurn_45 (by decide) ?_
      refine g_lload dX7_bestTurn_47 rfl ?_
      refine g_lload_n (i := 1) dX7_bestTurn_49 rfl rfl ?_
      refine g_lcmp_le 65 dX7_bestTurn_50 dX7_bestTurn_51 (by decide) (fun c_21 => ?_) (fun c_21 => ?_)
      · skip
        have hbt := c_21
        refine g_iinc (1) dX7_bestTurn_65 rfl rfl (by decide) ?_
        refine g_goto 27 dX7_bestTurn_68 (by decide) ?_
        first | (refine g_to _ _ (ihi2 trivial) rfl (by show gSub _ [(0, .ref (a 207)), (1, .long (btR T 2 100000000 (10000000000000000, 0) (i2 + 1)).1), (3, .int (btR T 2 100000000 (10000000000000000, 0) (i2 + 1)).2), (4, .long 100000000), (6, .int (nI 25)), (7, .int 2), (8, .int (nI (i2 + 1)))]; rw [btS0 hbt]; exact ⟨rfl, rfl, rfl, rfl, rfl, rfl, (by rw [← nI_1]; rfl), trivial⟩)) | (refine g_to _ _ (ihi2 trivial) rfl (by show gSub _ [(0, .ref (a 207)), (1, .long (btR T 2 100000000 (10000000000000000, 0) (i2 + 1)).1), (3, .int (btR T 2 100000000 (10000000000000000, 0) (i2 + 1)).2), (4, .long 100000000), (6, .int (nI 25)), (7, .int 2), (8, .int (nI (i2 + 1)))]; rw [btS1 hbt]; exact ⟨rfl, rfl, rfl, rfl, rfl, rfl, (by rw [← nI_1]; rfl), trivial⟩))
      · skip
        have hbt := c_21
        refine g_lload dX7_bestTurn_54 rfl ?_
        refine g_lstore_n (i := 1) dX7_bestTurn_56 rfl (by decide) ?_
        refine g_iload dX7_bestTurn_57 rfl ?_
        refine g_iload dX7_bestTurn_59 rfl ?_
        refine g_callSf 2 gX7_bestTurn_X7_figuresOf rfl rfl rfl ⟨Nat.le_of_ble_eq_true rfl, Nat.le_of_ble_eq_true rfl⟩ ⟨Nat.le_of_ble_eq_true rfl, Nat.le_of_ble_eq_true rfl⟩ (by exact Nat.le_of_ble_eq_true rfl) (by decide +kernel) rfl dX7_bestTurn_61 (K_fig _ D cy a _ _ i2 2 (by omega) (by decide)) rfl (fun vu_22 wu_22 hu_22 => ?_)
        obtain ⟨rfl, rfl⟩ := hu_22
        refine g_istore_n (i := 3) dX7_bestTurn_64 rfl (by decide) ?_
        refine g_iinc (1) dX7_bestTurn_65 rfl rfl (by decide) ?_
        refine g_goto 27 dX7_bestTurn_68 (by decide) ?_
        first | (refine g_to _ _ (ihi2 trivial) rfl (by show gSub _ [(0, .ref (a 207)), (1, .long (btR T 2 100000000 (10000000000000000, 0) (i2 + 1)).1), (3, .int (btR T 2 100000000 (10000000000000000, 0) (i2 + 1)).2), (4, .long 100000000), (6, .int (nI 25)), (7, .int 2), (8, .int (nI (i2 + 1)))]; rw [btS0 hbt]; exact ⟨rfl, rfl, rfl, rfl, rfl, rfl, (by rw [← nI_1]; rfl), trivial⟩)) | (refine g_to _ _ (ihi2 trivial) rfl (by show gSub _ [(0, .ref (a 207)), (1, .long (btR T 2 100000000 (10000000000000000, 0) (i2 + 1)).1), (3, .int (btR T 2 100000000 (10000000000000000, 0) (i2 + 1)).2), (4, .long 100000000), (6, .int (nI 25)), (7, .int 2), (8, .int (nI (i2 + 1)))]; rw [btS1 hbt]; exact ⟨rfl, rfl, rfl, rfl, rfl, rfl, (by rw [← nI_1]; rfl), trivial⟩))

def cf_turn (T : MS) : Int64 × MS := if cf_best T = 0 then cf_fd T 2 else ((cf_best T).toInt64, T)
set_option maxHeartbeats 4000000 in
set_option maxRecDepth 100000 in
/-- turn -/
theorem K_turn (l : Launch) (D : va_G) (cy : Nat → ClassId) (a : Nat → Nat) (T : MS) (B : List BL) : Ct l D clx (tyx cy) yX8_turn wsX8_turn (rmC 3) 0 0 [.ref (a 200)] (CW cy a T B) (fun r9 w9 => r9 = some (.long (cf_turn T).1) ∧ w9 = CW cy a (cf_turn T).2 B) := by
  refine g_start (cc := cX8_turn) (maxL := 2) (ret := (some .long)) (by decide) rfl (Nat.le_of_ble_eq_true rfl) (fun v w1 h => by obtain ⟨rfl, -⟩ := h; exact rfl) (fun Γ hlΓ => ?_)
  subst hlΓ
  obtain ⟨Z, hZ⟩ : ∃ Z, Z = cf_best T := ⟨_, rfl⟩
  refine g_aload_n (i := 0) dX8_turn_0 rfl rfl ?_
  refine g_get 0 10 dX8_turn_1 (List.mem_of_getElem? (i := 1) rfl) (fun w h => List.mem_cons_of_mem _ (List.mem_append_left _ (List.mem_append_right _ h))) (cO_main _ _ _ _) rfl (by decide) rfl ?_
  refine g_callVf 0 42 gX8_turn_X7_bestTurn rfl rfl rfl ⟨Nat.le_of_ble_eq_true rfl, Nat.le_of_ble_eq_true rfl⟩ ⟨Nat.le_of_ble_eq_true rfl, Nat.le_of_ble_eq_true rfl⟩ (by exact Nat.le_of_ble_eq_true rfl) (by decide +kernel) rfl (cO_rates _ _ _ _) rfl dX8_turn_4 (K_best _ D cy a _ _) rfl (fun vu_1 wu_1 hu_1 => ?_)
  obtain ⟨rfl, rfl⟩ := hu_1
  rw [← hZ]
  refine g_istore_n (i := 1) dX8_turn_7 rfl (by decide) ?_
  refine g_iload_n (i := 1) dX8_turn_8 rfl rfl ?_
  refine g_if_ne 20 dX8_turn_9 (by decide) (fun c_2 => ?_) (fun c_2 => ?_)
  · skip
    refine g_iload_n (i := 1) dX8_turn_20 rfl rfl ?_
    refine g_i2l dX8_turn_21 ?_
    refine g_lret dX8_turn_22 ?_
    unfold cf_turn; rw [← hZ]; clear hZ; first | (rw [if_pos (by assumption)]; exact ⟨rfl, rfl⟩) | (rw [if_neg (by assumption)]; exact ⟨rfl, rfl⟩)
  · skip
    refine g_aload_n (i := 0) dX8_turn_12 rfl rfl ?_
    refine g_iconst (2) rfl dX8_turn_13 ?_
    refine g_callVf 1 0 gX8_turn_X8_finding rfl rfl rfl ⟨Nat.le_of_ble_eq_true rfl, Nat.le_of_ble_eq_true rfl⟩ ⟨Nat.le_of_ble_eq_true rfl, Nat.le_of_ble_eq_true rfl⟩ (by exact Nat.le_of_ble_eq_true rfl) (by decide +kernel) rfl (cO_main _ _ _ _) rfl dX8_turn_14 (K_finding _ D cy a _ _ _ (by unfold vp_in; decide)) rfl (fun vu_3 wu_3 hu_3 => ?_)
    obtain ⟨rfl, rfl⟩ := hu_3
    refine g_goto 22 dX8_turn_17 (by decide) ?_
    refine g_lret dX8_turn_22 ?_
    unfold cf_turn; rw [← hZ]; clear hZ; first | (rw [if_pos (by assumption)]; exact ⟨rfl, rfl⟩) | (rw [if_neg (by assumption)]; exact ⟨rfl, rfl⟩)

