/-- the nets are read -/
def rnF (T : MS) : Nat → MS
  | 0 => T
  | i + 1 => sB (rnF T i) 42 i (cnetT (rnF T i) (nI i) 10)
def rnA (T : MS) : Nat → Int32
  | 0 => 0
  | i + 1 => if (rnF T (i + 1)).2.2.2 42 i = 0 then rnA T i else rnA T i ||| bt1 i
theorem rnA0 {T : MS} {i : Nat} (h : (rnF T (i + 1)).2.2.2 42 i = 0) : rnA T i = rnA T (i + 1) := (if_pos h).symm
theorem rnA1 {T : MS} {i : Nat} (h : ¬ (rnF T (i + 1)).2.2.2 42 i = 0) : rnA T i ||| bt1 i = rnA T (i + 1) := (if_neg h).symm
set_option maxHeartbeats 4000000 in
set_option maxRecDepth 100000 in
/-- readNets -/
theorem K_readNets (l : Launch) (D : va_G) (cy : Nat → ClassId) (a : Nat → Nat) (T : MS) (B : List BL) : Ct l D clx (tyx cy) yX5_readNets wsX5_readNets (rmC 1) 0 0 [.ref (a 205), .ref (a 201)] (CW cy a T B) (fun r9 w9 => r9 = some (.int (rnA T 10)) ∧ w9 = CW cy a (rnF T 10) B) := by
  refine g_start (cc := cX5_readNets) (maxL := 4) (ret := (some .int)) (by decide) rfl (Nat.le_of_ble_eq_true rfl) (fun v w1 h => by obtain ⟨rfl, -⟩ := h; exact ⟨.int, rfl, rfl⟩) (fun Γ hlΓ => ?_)
  subst hlΓ
  refine g_iconst (0) rfl dX5_readNets_0 ?_
  refine g_istore_n (i := 2) dX5_readNets_1 rfl (by decide) ?_
  refine g_iconst (0) rfl dX5_readNets_2 ?_
  refine g_istore_n (i := 3) dX5_readNets_3 rfl (by decide) ?_
  refine g_cnt 10 (fun i => True) (fun i => CW cy a (rnF T i) B) (fun i => [(0, .ref (a 205)), (1, .ref (a 201)), (2, .int (rnA T i)), (3, .int (nI i))]) 0 (by first | decide | omega) trivial (by rfl) (by refine ⟨rfl, rfl, rfl, rfl, trivial⟩) ?_ (fun i1 hi1 gi1 ihi1 => ?_)
  · intro gNi1
    refine g_iload_n (i := 3) dX5_readNets_4 rfl rfl ?_
    refine g_bipush (10) rfl dX5_readNets_5 ?_
    refine g_icmp_ge 44 dX5_readNets_7 (by decide) (fun c_2 => ?_) (fun c_2 => ?_)
    · skip
      refine g_iload_n (i := 2) dX5_readNets_44 rfl rfl ?_
      refine g_iret dX5_readNets_45 ?_
      exact ⟨rfl, rfl⟩
    · skip
      exact absurd (nI_le (Nat.le_refl _) (by first | decide | omega)) c_2
  · skip
    refine g_iload_n (i := 3) dX5_readNets_4 rfl rfl ?_
    refine g_bipush (10) rfl dX5_readNets_5 ?_
    refine g_icmp_ge 44 dX5_readNets_7 (by decide) (fun c_3 => ?_) (fun c_3 => ?_)
    · skip
      exact absurd c_3 (nI_ge hi1 (by first | decide | omega))
    · skip
      refine g_aload_n (i := 0) dX5_readNets_10 rfl rfl ?_
      refine g_get 21 2 dX5_readNets_11 (List.mem_of_getElem? (i := 1) rfl) (fun w h => List.mem_cons_of_mem _ (List.mem_append_left _ (List.mem_append_right _ h))) (cO_plan _ _ _ _) rfl (by decide) rfl ?_
      refine g_iload_n (i := 3) dX5_readNets_14 rfl rfl ?_
      refine g_aload_n (i := 1) dX5_readNets_15 rfl rfl ?_
      refine g_iload_n (i := 3) dX5_readNets_16 rfl rfl ?_
      refine g_callVf 1 9 gX5_readNets_X1_balance rfl rfl rfl ⟨Nat.le_of_ble_eq_true rfl, Nat.le_of_ble_eq_true rfl⟩ ⟨Nat.le_of_ble_eq_true rfl, Nat.le_of_ble_eq_true rfl⟩ (by exact Nat.le_of_ble_eq_true rfl) (by decide +kernel) rfl (cO_book _ _ _ _) rfl dX5_readNets_17 (K_balance _ D cy a _ _ _ (by first | assumption | exact vpi10 (by assumption) | exact vp_in_nI (by assumption) (by decide))) rfl (fun vu_4 wu_4 hu_4 => ?_)
      obtain ⟨rfl, rfl⟩ := hu_4
      refine c_astN_42 dX5_readNets_20 (by omega) ?_
      refine g_aload_n (i := 0) dX5_readNets_21 rfl rfl ?_
      refine g_get 21 2 dX5_readNets_22 (List.mem_of_getElem? (i := 1) rfl) (fun w h => List.mem_cons_of_mem _ (List.mem_append_left _ (List.mem_append_right _ h))) (cO_plan _ _ _ _) rfl (by decide) rfl ?_
      refine g_iload_n (i := 3) dX5_readNets_25 rfl rfl ?_
      refine c_aldN_42 dX5_readNets_26 (by omega) ?_
      refine g_lconst 0 rfl dX5_readNets_27 ?_
      refine g_lcmp_eq 38 dX5_readNets_28 dX5_readNets_29 (by decide) (fun c_5 => ?_) (fun c_5 => ?_)
      · skip
        refine g_iinc (1) dX5_readNets_38 rfl rfl (by decide) ?_
        refine g_goto 4 dX5_readNets_41 (by decide) ?_
        first | exact g_to _ _ (ihi1 trivial) rfl ⟨rfl, rfl, (congrArg (fun z => some (Value.int z)) (rnA0 (T := T) (i := i1) (by assumption))), (by rw [← nI_1]; rfl), trivial⟩ | exact g_to _ _ (ihi1 trivial) rfl ⟨rfl, rfl, (congrArg (fun z => some (Value.int z)) (rnA1 (T := T) (i := i1) (by assumption))), (by rw [← nI_1]; rfl), trivial⟩
      · skip
        refine g_iload_n (i := 2) dX5_readNets_32 rfl rfl ?_
        refine g_iconst (1) rfl dX5_readNets_33 ?_
        refine g_iload_n (i := 3) dX5_readNets_34 rfl rfl ?_
        refine g_ishl dX5_readNets_35 ?_
        refine g_ior dX5_readNets_36 ?_
        refine g_istore_n (i := 2) dX5_readNets_37 rfl (by decide) ?_
        refine g_iinc (1) dX5_readNets_38 rfl rfl (by decide) ?_
        refine g_goto 4 dX5_readNets_41 (by decide) ?_
        first | exact g_to _ _ (ihi1 trivial) rfl ⟨rfl, rfl, (congrArg (fun z => some (Value.int z)) (rnA0 (T := T) (i := i1) (by assumption))), (by rw [← nI_1]; rfl), trivial⟩ | exact g_to _ _ (ihi1 trivial) rfl ⟨rfl, rfl, (congrArg (fun z => some (Value.int z)) (rnA1 (T := T) (i := i1) (by assumption))), (by rw [← nI_1]; rfl), trivial⟩

theorem bt1_eq {h : Nat} (hh : h < 10) : bt1 h = nI (2 ^ h) := by
  have : ∀ k : Fin 10, bt1 k.1 = nI (2 ^ k.1) := by decide
  exact this ⟨h, hh⟩
theorem nx_or (a b : Nat) : nI a ||| nI b = nI (a ||| b) := by
  apply Int32.toBitVec_inj.mp
  show (BitVec.ofNat 32 a ||| BitVec.ofNat 32 b) = BitVec.ofNat 32 (a ||| b)
  apply BitVec.eq_of_toNat_eq
  simp [Nat.or_mod_two_pow]
theorem or_add {s h : Nat} (hs : s < 2 ^ h) : s ||| 2 ^ h = s + 2 ^ h := by
  have e := Nat.two_pow_add_eq_or_of_lt hs 1
  rw [Nat.mul_one] at e
  rw [Nat.or_comm, ← e, Nat.add_comm]
/-- the sums over sets: house h comes to the first s sets -/
def auS (T : MS) (h s : Nat) : MS := sB T 43 (s + 2 ^ h) (T.2.2.2 43 s + T.2.2.2 42 h)
def auI (T : MS) (h : Nat) : Nat → MS
  | 0 => T
  | s + 1 => auS (auI T h s) h s
def auO (T : MS) : Nat → MS
  | 0 => T
  | h + 1 => auI (auO T h) h (2 ^ h)
theorem p2le {h : Nat} (hh : h < 10) : 2 ^ h ≤ 512 := Nat.pow_le_pow_right (by decide) (show h ≤ 9 by omega)
set_option maxHeartbeats 4000000 in
set_option maxRecDepth 100000 in
/-- addUp -/
theorem K_addUp (l : Launch) (D : va_G) (cy : Nat → ClassId) (a : Nat → Nat) (T : MS) (B : List BL) : Ct l D clx (tyx cy) yX5_addUp wsX5_addUp (rmC 0) 0 0 [.ref (a 205)] (CW cy a T B) (fun r9 w9 => r9 = none ∧ w9 = CW cy a (auO T 10) B) := by
  refine g_start (cc := cX5_addUp) (maxL := 4) (ret := none) (by decide) rfl (Nat.le_of_ble_eq_true rfl) (fun v w1 h => by obtain ⟨rfl, -⟩ := h; exact rfl) (fun Γ hlΓ => ?_)
  subst hlΓ
  refine g_iconst (0) rfl dX5_addUp_0 ?_
  refine g_istore_n (i := 1) dX5_addUp_1 rfl (by decide) ?_
  refine g_cnt 10 (fun i => True) (fun i => CW cy a (auO T i) B) (fun i => [(0, .ref (a 205)), (1, .int (nI i))]) 0 (by first | decide | omega) trivial (by rfl) (by refine ⟨rfl, rfl, trivial⟩) ?_ (fun i1 hi1 gi1 ihi1 => ?_)
  · intro gNi1
    refine g_iload_n (i := 1) dX5_addUp_2 rfl rfl ?_
    refine g_bipush (10) rfl dX5_addUp_3 ?_
    refine g_icmp_ge 52 dX5_addUp_5 (by decide) (fun c_2 => ?_) (fun c_2 => ?_)
    · skip
      refine g_vret dX5_addUp_52 ?_
      exact ⟨rfl, rfl⟩
    · skip
      exact absurd (nI_le (Nat.le_refl _) (by first | decide | omega)) c_2
  · skip
    have hp9 := p2le hi1
    refine g_iload_n (i := 1) dX5_addUp_2 rfl rfl ?_
    refine g_bipush (10) rfl dX5_addUp_3 ?_
    refine g_icmp_ge 52 dX5_addUp_5 (by decide) (fun c_3 => ?_) (fun c_3 => ?_)
    · skip
      exact absurd c_3 (nI_ge hi1 (by first | decide | omega))
    · skip
      refine g_iconst (1) rfl dX5_addUp_8 ?_
      refine g_iload_n (i := 1) dX5_addUp_9 rfl rfl ?_
      refine g_ishl dX5_addUp_10 ?_
      refine g_istore_n (i := 2) dX5_addUp_11 rfl (by decide) ?_
      refine g_iconst (0) rfl dX5_addUp_12 ?_
      refine g_istore_n (i := 3) dX5_addUp_13 rfl (by decide) ?_
      refine g_cnt (2 ^ i1) (fun i => True) (fun i => CW cy a (auI (auO T i1) i1 i) B) (fun i => [(0, .ref (a 205)), (1, .int (nI i1)), (2, .int (nI (2 ^ i1))), (3, .int (nI i))]) 0 (Nat.zero_le _) trivial (by rfl) (by refine ⟨rfl, rfl, congrArg (fun z => some (Value.int z)) (bt1_eq (by assumption)), rfl, trivial⟩) ?_ (fun i4 hi4 gi4 ihi4 => ?_)
      · intro gNi4
        refine g_iload_n (i := 3) dX5_addUp_14 rfl rfl ?_
        refine g_iload_n (i := 2) dX5_addUp_15 rfl rfl ?_
        refine g_icmp_ge 46 dX5_addUp_16 (by decide) (fun c_5 => ?_) (fun c_5 => ?_)
        · skip
          refine g_iinc (1) dX5_addUp_46 rfl rfl (by decide) ?_
          refine g_goto 2 dX5_addUp_49 (by decide) ?_
          refine g_to _ _ (ihi1 (trivial)) rfl (by refine ⟨(by first | rfl | (rw [← nI_1]; rfl)), (by first | rfl | (rw [← nI_1]; rfl)), trivial⟩)
        · skip
          exact absurd (nI_le (Nat.le_refl _) (by omega)) c_5
      · skip
        refine g_iload_n (i := 3) dX5_addUp_14 rfl rfl ?_
        refine g_iload_n (i := 2) dX5_addUp_15 rfl rfl ?_
        refine g_icmp_ge 46 dX5_addUp_16 (by decide) (fun c_6 => ?_) (fun c_6 => ?_)
        · skip
          exact absurd c_6 (nI_ge hi4 (by omega))
        · skip
          refine g_aload_n (i := 0) dX5_addUp_19 rfl rfl ?_
          refine g_get 21 3 dX5_addUp_20 (List.mem_of_getElem? (i := 1) rfl) (fun w h => List.mem_cons_of_mem _ (List.mem_append_right _ h)) (cO_plan _ _ _ _) rfl (by decide) rfl ?_
          refine g_iload_n (i := 3) dX5_addUp_23 rfl rfl ?_
          refine g_iload_n (i := 2) dX5_addUp_24 rfl rfl ?_
          refine g_ior dX5_addUp_25 ?_
          refine g_ste (st2 := .int (nI (i4 + 2 ^ i1)) :: .ref (a 43) :: []) ?_ (by rw [nx_or, or_add (by assumption)])
          refine g_aload_n (i := 0) dX5_addUp_26 rfl rfl ?_
          refine g_get 21 3 dX5_addUp_27 (List.mem_of_getElem? (i := 1) rfl) (fun w h => List.mem_cons_of_mem _ (List.mem_append_right _ h)) (cO_plan _ _ _ _) rfl (by decide) rfl ?_
          refine g_iload_n (i := 3) dX5_addUp_30 rfl rfl ?_
          refine c_aldN_43 dX5_addUp_31 (by omega) ?_
          refine g_aload_n (i := 0) dX5_addUp_32 rfl rfl ?_
          refine g_get 21 2 dX5_addUp_33 (List.mem_of_getElem? (i := 2) rfl) (fun w h => List.mem_cons_of_mem _ (List.mem_append_right _ h)) (cO_plan _ _ _ _) rfl (by decide) rfl ?_
          refine g_iload_n (i := 1) dX5_addUp_36 rfl rfl ?_
          refine c_aldN_42 dX5_addUp_37 (by omega) ?_
          refine g_ladd dX5_addUp_38 ?_
          refine c_astN_43 dX5_addUp_39 (by omega) ?_
          refine g_iinc (1) dX5_addUp_40 rfl rfl (by decide) ?_
          refine g_goto 14 dX5_addUp_43 (by decide) ?_
          refine g_to _ _ (ihi4 (trivial)) rfl (by refine ⟨(by first | rfl | (rw [← nI_1]; rfl)), (by first | rfl | (rw [← nI_1]; rfl)), (by first | rfl | (rw [← nI_1]; rfl)), (by first | rfl | (rw [← nI_1]; rfl)), trivial⟩)

abbrev lzP (T : MS) (A s : Nat) : Prop := nI s &&& nI A = nI s ∧ T.2.2.2 43 s = 0
def lzS (T : MS) (s : Nat) : MS := sI (sA T 44 (T.1 49).toNatClampNeg (nI s)) 49 ((sA T 44 (T.1 49).toNatClampNeg (nI s)).1 49 + 1)
def lzR (T : MS) (A : Nat) : Nat → MS
  | 0 => sI T 49 0
  | s + 1 => if lzP (lzR T A s) A (s + 1) then lzS (lzR T A s) (s + 1) else lzR T A s
theorem lz0 {T : MS} {A s : Nat} (h : lzP (lzR T A s) A (s + 1)) : lzR T A (s + 1) = lzS (lzR T A s) (s + 1) := if_pos h
theorem lz1 {T : MS} {A s : Nat} (h : ¬ lzP (lzR T A s) A (s + 1)) : lzR T A (s + 1) = lzR T A s := if_neg h
/-- how many they are, and that each is a set -/
theorem lz_inv (T : MS) (A : Nat) : ∀ s, s < 1024 → ∃ c, c ≤ s ∧ (lzR T A s).1 49 = nI c ∧ ∀ j, j < c → vp_in ((lzR T A s).2.2.1 44 j) 1024
  | 0, _ => ⟨0, Nat.le_refl 0, rfl, fun j h => absurd h (Nat.not_lt_zero j)⟩
  | s + 1, hs => by
    obtain ⟨c, hc, e, hz⟩ := lz_inv T A s (by omega)
    by_cases h : lzP (lzR T A s) A (s + 1)
    · rw [lz0 h]
      refine ⟨c + 1, by omega, ?_, fun j hj => ?_⟩
      · show (lzR T A s).1 49 + 1 = _
        rw [e, nI_1]
      · show vp_in (upd ((lzR T A s).2.2.1 44) ((lzR T A s).1 49).toNatClampNeg (nI (s + 1)) j) 1024
        rw [e, nI_clamp (by omega)]
        by_cases ej : j = c
        · subst ej
          rw [pk_us]
          exact vp_in_nI (by omega) (by decide)
        · rw [pk_un ej]
          exact hz j (by omega)
    · rw [lz1 h]
      exact ⟨c, by omega, e, hz⟩
set_option maxHeartbeats 4000000 in
set_option maxRecDepth 100000 in
/-- listZeroSets -/
theorem K_lz (l : Launch) (D : va_G) (cy : Nat → ClassId) (a : Nat → Nat) (T : MS) (B : List BL) (A : Nat) (hA : A < 1024) : Ct l D clx (tyx cy) yX5_listZeroSets wsX5_listZeroSets (rmC 0) 0 0 [.ref (a 205), .int (nI A)] (CW cy a T B) (fun r9 w9 => r9 = none ∧ w9 = CW cy a (lzR T A A) B) := by
  refine g_start (cc := cX5_listZeroSets) (maxL := 3) (ret := none) (by decide) rfl (Nat.le_of_ble_eq_true rfl) (fun v w1 h => by obtain ⟨rfl, -⟩ := h; exact rfl) (fun Γ hlΓ => ?_)
  subst hlΓ
  refine g_aload_n (i := 0) dX5_listZeroSets_0 rfl rfl ?_
  refine g_iconst (0) rfl dX5_listZeroSets_1 ?_
  refine g_put 21 9 _ tyX5 tyX5_ok nmX5 dX5_listZeroSets_2 (List.mem_of_getElem? (i := 1) rfl) (fun w h => List.mem_cons_of_mem _ (List.mem_append_right _ h)) (cO_plan _ _ _ _) rfl (by decide) rfl (tyX5_ok 9 (by decide)) rfl rfl (Nat.le_of_ble_eq_true rfl) (cwI_49 _ _ _ _ _) ?_
  refine g_iconst (1) rfl dX5_listZeroSets_5 ?_
  refine g_istore_n (i := 2) dX5_listZeroSets_6 rfl (by decide) ?_
  refine g_cnt A (fun i => True) (fun i => CW cy a (lzR T A i) B) (fun i => [(0, .ref (a 205)), (1, .int (nI A)), (2, .int (nI (i + 1)))]) 0 (Nat.zero_le _) trivial rfl ⟨rfl, rfl, rfl, trivial⟩ ?_ (fun i1 hi1 gi1 ihi1 => ?_)
  · intro gN
    refine g_iload_n (i := 2) dX5_listZeroSets_7 rfl rfl ?_
    refine g_iload_n (i := 1) dX5_listZeroSets_8 rfl rfl ?_
    refine g_icmp_gt 56 dX5_listZeroSets_9 (by decide) (fun c_2 => ?_) (fun c_2 => ?_)
    · skip
      refine g_vret dX5_listZeroSets_56 ?_
      exact ⟨rfl, rfl⟩
    · skip
      exact absurd (nI_lt (a := A) (b := A + 1) (by omega) (by omega)) c_2
  · obtain ⟨c9, hc9, ec9, -⟩ := lz_inv T A i1 (by omega)
    refine g_iload_n (i := 2) dX5_listZeroSets_7 rfl rfl ?_
    refine g_iload_n (i := 1) dX5_listZeroSets_8 rfl rfl ?_
    refine g_icmp_gt 56 dX5_listZeroSets_9 (by decide) (fun c_3 => ?_) (fun c_3 => ?_)
    · skip
      exact absurd c_3 (nI_nlt (by omega) (by omega))
    · skip
      refine g_iload_n (i := 2) dX5_listZeroSets_12 rfl rfl ?_
      refine g_iload_n (i := 1) dX5_listZeroSets_13 rfl rfl ?_
      refine g_iand dX5_listZeroSets_14 ?_
      refine g_iload_n (i := 2) dX5_listZeroSets_15 rfl rfl ?_
      refine g_icmp_ne 50 dX5_listZeroSets_16 (by decide) (fun c_4 => ?_) (fun c_4 => ?_)
      · skip
        refine g_iinc (1) dX5_listZeroSets_50 rfl rfl (by decide) ?_
        refine g_goto 7 dX5_listZeroSets_53 (by decide) ?_
        first | (refine g_to _ _ (ihi1 trivial) (congrArg (fun z => CW cy a z B) (lz0 ⟨by assumption, by assumption⟩).symm) ⟨rfl, rfl, (by rw [← nI_1 (i1 + 1)]; rfl), trivial⟩) | (refine g_to _ _ (ihi1 trivial) (congrArg (fun z => CW cy a z B) (lz1 (by intro h9; exact absurd h9.1 (by assumption))).symm) ⟨rfl, rfl, (by rw [← nI_1 (i1 + 1)]; rfl), trivial⟩) | (refine g_to _ _ (ihi1 trivial) (congrArg (fun z => CW cy a z B) (lz1 (by intro h9; exact absurd h9.2 (by assumption))).symm) ⟨rfl, rfl, (by rw [← nI_1 (i1 + 1)]; rfl), trivial⟩)
      · skip
        refine g_aload_n (i := 0) dX5_listZeroSets_19 rfl rfl ?_
        refine g_get 21 3 dX5_listZeroSets_20 (List.mem_of_getElem? (i := 2) rfl) (fun w h => List.mem_cons_of_mem _ (List.mem_append_right _ h)) (cO_plan _ _ _ _) rfl (by decide) rfl ?_
        refine g_iload_n (i := 2) dX5_listZeroSets_23 rfl rfl ?_
        refine c_aldN_43 dX5_listZeroSets_24 (by omega) ?_
        refine g_lconst 0 rfl dX5_listZeroSets_25 ?_
        refine g_lcmp_ne 50 dX5_listZeroSets_26 dX5_listZeroSets_27 (by decide) (fun c_5 => ?_) (fun c_5 => ?_)
        · skip
          refine g_iinc (1) dX5_listZeroSets_50 rfl rfl (by decide) ?_
          refine g_goto 7 dX5_listZeroSets_53 (by decide) ?_
          first | (refine g_to _ _ (ihi1 trivial) (congrArg (fun z => CW cy a z B) (lz0 ⟨by assumption, by assumption⟩).symm) ⟨rfl, rfl, (by rw [← nI_1 (i1 + 1)]; rfl), trivial⟩) | (refine g_to _ _ (ihi1 trivial) (congrArg (fun z => CW cy a z B) (lz1 (by intro h9; exact absurd h9.1 (by assumption))).symm) ⟨rfl, rfl, (by rw [← nI_1 (i1 + 1)]; rfl), trivial⟩) | (refine g_to _ _ (ihi1 trivial) (congrArg (fun z => CW cy a z B) (lz1 (by intro h9; exact absurd h9.2 (by assumption))).symm) ⟨rfl, rfl, (by rw [← nI_1 (i1 + 1)]; rfl), trivial⟩)
        · skip
          refine g_aload_n (i := 0) dX5_listZeroSets_30 rfl rfl ?_
          refine g_get 21 4 dX5_listZeroSets_31 (List.mem_of_getElem? (i := 3) rfl) (fun w h => List.mem_cons_of_mem _ (List.mem_append_right _ h)) (cO_plan _ _ _ _) rfl (by decide) rfl ?_
          refine g_aload_n (i := 0) dX5_listZeroSets_34 rfl rfl ?_
          refine g_get 21 9 dX5_listZeroSets_35 (List.mem_of_getElem? (i := 1) rfl) (fun w h => List.mem_cons_of_mem _ (List.mem_append_right _ h)) (cO_plan _ _ _ _) rfl (by decide) rfl ?_
          refine g_iload_n (i := 2) dX5_listZeroSets_38 rfl rfl ?_
          refine c_ast_44 dX5_listZeroSets_39 (by rw [ec9]; exact vp_in_nI (by omega) (by decide)) ?_
          refine g_aload_n (i := 0) dX5_listZeroSets_40 rfl rfl ?_
          refine g_dup rfl dX5_listZeroSets_41 ?_
          refine g_get 21 9 dX5_listZeroSets_42 (List.mem_of_getElem? (i := 1) rfl) (fun w h => List.mem_cons_of_mem _ (List.mem_append_right _ h)) (cO_plan _ _ _ _) rfl (by decide) rfl ?_
          refine g_iconst (1) rfl dX5_listZeroSets_45 ?_
          refine g_iadd dX5_listZeroSets_46 ?_
          refine g_put 21 9 _ tyX5 tyX5_ok nmX5 dX5_listZeroSets_47 (List.mem_of_getElem? (i := 1) rfl) (fun w h => List.mem_cons_of_mem _ (List.mem_append_right _ h)) (cO_plan _ _ _ _) rfl (by decide) rfl (tyX5_ok 9 (by decide)) rfl rfl (Nat.le_of_ble_eq_true rfl) (cwI_49 _ _ _ _ _) ?_
          refine g_iinc (1) dX5_listZeroSets_50 rfl rfl (by decide) ?_
          refine g_goto 7 dX5_listZeroSets_53 (by decide) ?_
          first | (refine g_to _ _ (ihi1 trivial) (congrArg (fun z => CW cy a z B) (lz0 ⟨by assumption, by assumption⟩).symm) ⟨rfl, rfl, (by rw [← nI_1 (i1 + 1)]; rfl), trivial⟩) | (refine g_to _ _ (ihi1 trivial) (congrArg (fun z => CW cy a z B) (lz1 (by intro h9; exact absurd h9.1 (by assumption))).symm) ⟨rfl, rfl, (by rw [← nI_1 (i1 + 1)]; rfl), trivial⟩) | (refine g_to _ _ (ihi1 trivial) (congrArg (fun z => CW cy a z B) (lz1 (by intro h9; exact absurd h9.2 (by assumption))).symm) ⟨rfl, rfl, (by rw [← nI_1 (i1 + 1)]; rfl), trivial⟩)

abbrev mbf (s w : Int32) : Prop := s &&& w = s ∧ ¬ s &&& (w &&& -w) = 0
set_option maxHeartbeats 4000000 in
set_option maxRecDepth 100000 in
/-- mayBeFirst -/
theorem K_mbf (l : Launch) (D : va_G) (cy : Nat → ClassId) (a : Nat → Nat) (T : MS) (B : List BL) (s w : Int32) : Ct l D clx (tyx cy) yX5_mayBeFirst wsX5_mayBeFirst (rmC 0) 0 0 [.int s, .int w] (CW cy a T B) (fun r9 w9 => (r9 = some (.int 1) ∧ (mbf s w) ∧ w9 = CW cy a T B) ∨ (r9 = some (.int 0) ∧ ¬ (mbf s w) ∧ w9 = CW cy a T B)) := by
  refine g_start (cc := cX5_mayBeFirst) (maxL := 3) (ret := (some .boolean)) (by decide) rfl (Nat.le_of_ble_eq_true rfl) (fun v w1 h => by rcases h with ⟨rfl, -, -⟩ | ⟨rfl, -, -⟩ <;> exact ⟨.boolean, rfl, rfl⟩) (fun Γ hlΓ => ?_)
  subst hlΓ
  refine g_iload_n (i := 1) dX5_mayBeFirst_0 rfl rfl ?_
  refine g_iload_n (i := 1) dX5_mayBeFirst_1 rfl rfl ?_
  refine g_ineg dX5_mayBeFirst_2 ?_
  refine g_iand dX5_mayBeFirst_3 ?_
  refine g_istore_n (i := 2) dX5_mayBeFirst_4 rfl (by decide) ?_
  refine g_iload_n (i := 0) dX5_mayBeFirst_5 rfl rfl ?_
  refine g_iload_n (i := 1) dX5_mayBeFirst_6 rfl rfl ?_
  refine g_iand dX5_mayBeFirst_7 ?_
  refine g_iload_n (i := 0) dX5_mayBeFirst_8 rfl rfl ?_
  refine g_icmp_ne 22 dX5_mayBeFirst_9 (by decide) (fun c_1 => ?_) (fun c_1 => ?_)
  · skip
    refine g_iconst (0) rfl dX5_mayBeFirst_22 ?_
    refine g_iret dX5_mayBeFirst_23 ?_
    first | exact Or.inl ⟨rfl, ⟨by assumption, by assumption⟩, rfl⟩ | exact Or.inr ⟨rfl, fun h9 => absurd h9.1 (by assumption), rfl⟩ | exact Or.inr ⟨rfl, fun h9 => absurd (by assumption) h9.2, rfl⟩
  · skip
    refine g_iload_n (i := 0) dX5_mayBeFirst_12 rfl rfl ?_
    refine g_iload_n (i := 2) dX5_mayBeFirst_13 rfl rfl ?_
    refine g_iand dX5_mayBeFirst_14 ?_
    refine g_if_eq 22 dX5_mayBeFirst_15 (by decide) (fun c_2 => ?_) (fun c_2 => ?_)
    · skip
      refine g_iconst (0) rfl dX5_mayBeFirst_22 ?_
      refine g_iret dX5_mayBeFirst_23 ?_
      first | exact Or.inl ⟨rfl, ⟨by assumption, by assumption⟩, rfl⟩ | exact Or.inr ⟨rfl, fun h9 => absurd h9.1 (by assumption), rfl⟩ | exact Or.inr ⟨rfl, fun h9 => absurd (by assumption) h9.2, rfl⟩
    · skip
      refine g_iconst (1) rfl dX5_mayBeFirst_18 ?_
      refine g_goto 23 dX5_mayBeFirst_19 (by decide) ?_
      refine g_iret dX5_mayBeFirst_23 ?_
      first | exact Or.inl ⟨rfl, ⟨by assumption, by assumption⟩, rfl⟩ | exact Or.inr ⟨rfl, fun h9 => absurd h9.1 (by assumption), rfl⟩ | exact Or.inr ⟨rfl, fun h9 => absurd (by assumption) h9.2, rfl⟩

/-- the most groups of w, seen among the first j sets -/
def cgI (T : MS) (w : Int32) : Nat → Int32
  | 0 => 1
  | j + 1 => if mbf (T.2.2.1 44 j) w then (if cgI T w j < 1 + T.2.2.1 45 (w ^^^ T.2.2.1 44 j).toNatClampNeg then 1 + T.2.2.1 45 (w ^^^ T.2.2.1 44 j).toNatClampNeg else cgI T w j) else cgI T w j
def cgO (T : MS) : Nat → MS
  | 0 => T
  | i + 1 => sA (cgO T i) 45 ((cgO T i).2.2.1 44 i).toNatClampNeg (cgI (cgO T i) ((cgO T i).2.2.1 44 i) i)
theorem cgO_44 (T : MS) : ∀ i, (cgO T i).2.2.1 44 = T.2.2.1 44
  | 0 => rfl
  | i + 1 => cgO_44 T i
theorem cgO_1 (T : MS) : ∀ i, (cgO T i).1 = T.1
  | 0 => rfl
  | i + 1 => cgO_1 T i
theorem xorvv {x y : Int32} (hx : vp_in x 1024) (hy : vp_in y 1024) : vp_in (x ^^^ y) 1024 := by
  obtain ⟨j, hj, rfl⟩ := vp_in_of hy (by decide)
  exact xorv hx hj
theorem cgI0 {T : MS} {w : Int32} {j : Nat} (h : mbf (T.2.2.1 44 j) w) : (if cgI T w j < 1 + T.2.2.1 45 (w ^^^ T.2.2.1 44 j).toNatClampNeg then 1 + T.2.2.1 45 (w ^^^ T.2.2.1 44 j).toNatClampNeg else cgI T w j) = cgI T w (j + 1) := (if_pos h).symm
theorem cgI1 {T : MS} {w : Int32} {j : Nat} (h : ¬ mbf (T.2.2.1 44 j) w) : cgI T w j = cgI T w (j + 1) := (if_neg h).symm
set_option maxHeartbeats 4000000 in
set_option maxRecDepth 100000 in
/-- countGroups -/
theorem K_cg (l : Launch) (D : va_G) (cy : Nat → ClassId) (a : Nat → Nat) (T : MS) (B : List BL) (C : Nat) (hC : C < 1024) (eC : T.1 49 = nI C) (hz : ∀ j, j < C → vp_in (T.2.2.1 44 j) 1024) : Ct l D clx (tyx cy) yX5_countGroups wsX5_countGroups (rmC 1) 0 0 [.ref (a 205)] (CW cy a T B) (fun r9 w9 => r9 = none ∧ w9 = CW cy a (cgO T C) B) := by
  refine g_start (cc := cX5_countGroups) (maxL := 5) (ret := none) (by decide) rfl (Nat.le_of_ble_eq_true rfl) (fun v w1 h => by obtain ⟨rfl, -⟩ := h; exact rfl) (fun Γ hlΓ => ?_)
  subst hlΓ
  refine g_iconst (0) rfl dX5_countGroups_0 ?_
  refine g_istore_n (i := 1) dX5_countGroups_1 rfl (by decide) ?_
  refine g_cnt C (fun i => True) (fun i => CW cy a (cgO T i) B) (fun i => [(0, .ref (a 205)), (1, .int (nI i))]) 0 (by first | decide | omega) trivial (by rfl) (by refine ⟨rfl, rfl, trivial⟩) ?_ (fun i1 hi1 gi1 ihi1 => ?_)
  · intro gNi1
    refine g_iload_n (i := 1) dX5_countGroups_2 rfl rfl ?_
    refine g_aload_n (i := 0) dX5_countGroups_3 rfl rfl ?_
    refine g_get 21 9 dX5_countGroups_4 (List.mem_of_getElem? (i := 1) rfl) (fun w h => List.mem_cons_of_mem _ (List.mem_append_right _ h)) (cO_plan _ _ _ _) rfl (by decide) rfl ?_
    refine g_icmp_ge 82 dX5_countGroups_7 (by decide) (fun c_2 => ?_) (fun c_2 => ?_)
    · skip
      refine g_vret dX5_countGroups_82 ?_
      exact ⟨rfl, rfl⟩
    · skip
      exact absurd (by rw [cgO_1, eC]; exact nI_le (Nat.le_refl _) (by omega)) c_2
  · skip
    have hw9 : vp_in ((cgO T i1).2.2.1 44 i1) 1024 := (by rw [cgO_44]; exact hz _ (by assumption))
    refine g_iload_n (i := 1) dX5_countGroups_2 rfl rfl ?_
    refine g_aload_n (i := 0) dX5_countGroups_3 rfl rfl ?_
    refine g_get 21 9 dX5_countGroups_4 (List.mem_of_getElem? (i := 1) rfl) (fun w h => List.mem_cons_of_mem _ (List.mem_append_right _ h)) (cO_plan _ _ _ _) rfl (by decide) rfl ?_
    refine g_icmp_ge 82 dX5_countGroups_7 (by decide) (fun c_3 => ?_) (fun c_3 => ?_)
    · skip
      exact absurd c_3 (by rw [cgO_1, eC]; exact nI_ge hi1 (by omega))
    · skip
      refine g_aload_n (i := 0) dX5_countGroups_10 rfl rfl ?_
      refine g_get 21 4 dX5_countGroups_11 (List.mem_of_getElem? (i := 2) rfl) (fun w h => List.mem_cons_of_mem _ (List.mem_append_right _ h)) (cO_plan _ _ _ _) rfl (by decide) rfl ?_
      refine g_iload_n (i := 1) dX5_countGroups_14 rfl rfl ?_
      refine c_aldN_44 dX5_countGroups_15 (by omega) ?_
      refine g_istore_n (i := 2) dX5_countGroups_16 rfl (by decide) ?_
      refine g_iconst (1) rfl dX5_countGroups_17 ?_
      refine g_istore_n (i := 3) dX5_countGroups_18 rfl (by decide) ?_
      refine g_iconst (0) rfl dX5_countGroups_19 ?_
      refine g_istore dX5_countGroups_20 (by decide) ?_
      refine g_cnt i1 (fun i => True) (fun i => CW cy a (cgO T i1) B) (fun i => [(0, .ref (a 205)), (1, .int (nI i1)), (2, .int ((cgO T i1).2.2.1 44 i1)), (3, .int (cgI (cgO T i1) ((cgO T i1).2.2.1 44 i1) i)), (4, .int (nI i))]) 0 (Nat.zero_le _) trivial (by rfl) (by refine ⟨rfl, rfl, rfl, rfl, rfl, trivial⟩) ?_ (fun i4 hi4 gi4 ihi4 => ?_)
      · intro gNi4
        refine g_iload dX5_countGroups_22 rfl ?_
        refine g_iload_n (i := 1) dX5_countGroups_24 rfl rfl ?_
        refine g_icmp_ge 69 dX5_countGroups_25 (by decide) (fun c_5 => ?_) (fun c_5 => ?_)
        · skip
          refine g_aload_n (i := 0) dX5_countGroups_69 rfl rfl ?_
          refine g_get 21 5 dX5_countGroups_70 (List.mem_of_getElem? (i := 3) rfl) (fun w h => List.mem_cons_of_mem _ (List.mem_append_right _ h)) (cO_plan _ _ _ _) rfl (by decide) rfl ?_
          refine g_iload_n (i := 2) dX5_countGroups_73 rfl rfl ?_
          refine g_iload_n (i := 3) dX5_countGroups_74 rfl rfl ?_
          refine c_ast_45 dX5_countGroups_75 hw9 ?_
          refine g_iinc (1) dX5_countGroups_76 rfl rfl (by decide) ?_
          refine g_goto 2 dX5_countGroups_79 (by decide) ?_
          refine g_to _ _ (ihi1 (trivial)) rfl (by refine ⟨(by first | rfl | (rw [← nI_1]; rfl)), (by first | rfl | (rw [← nI_1]; rfl)), trivial⟩)
        · skip
          exact absurd (nI_le (Nat.le_refl _) (by omega)) c_5
      · skip
        have hj9 : vp_in ((cgO T i1).2.2.1 44 i4) 1024 := (by rw [cgO_44]; exact hz _ (by omega))
        refine g_iload dX5_countGroups_22 rfl ?_
        refine g_iload_n (i := 1) dX5_countGroups_24 rfl rfl ?_
        refine g_icmp_ge 69 dX5_countGroups_25 (by decide) (fun c_6 => ?_) (fun c_6 => ?_)
        · skip
          exact absurd c_6 (nI_ge hi4 (by omega))
        · skip
          refine g_aload_n (i := 0) dX5_countGroups_28 rfl rfl ?_
          refine g_get 21 4 dX5_countGroups_29 (List.mem_of_getElem? (i := 2) rfl) (fun w h => List.mem_cons_of_mem _ (List.mem_append_right _ h)) (cO_plan _ _ _ _) rfl (by decide) rfl ?_
          refine g_iload dX5_countGroups_32 rfl ?_
          refine c_aldN_44 dX5_countGroups_34 (by omega) ?_
          refine g_iload_n (i := 2) dX5_countGroups_35 rfl rfl ?_
          refine g_callSf 2 gX5_countGroups_X5_mayBeFirst rfl rfl rfl ⟨Nat.le_of_ble_eq_true rfl, Nat.le_of_ble_eq_true rfl⟩ ⟨Nat.le_of_ble_eq_true rfl, Nat.le_of_ble_eq_true rfl⟩ (by exact Nat.le_of_ble_eq_true rfl) (by decide +kernel) rfl dX5_countGroups_36 (K_mbf _ D cy a _ _ _ _) rfl (fun vu_7 wu_7 hu_7 => ?_)
          rcases hu_7 with ⟨rfl, hu_7, rfl⟩ | ⟨rfl, hu_7, rfl⟩
          · skip
            refine g_if_eq 63 dX5_countGroups_39 (by decide) (fun h9 => absurd h9 (by decide)) (fun _ => ?_)
            refine g_iload_n (i := 3) dX5_countGroups_42 rfl rfl ?_
            refine g_iconst (1) rfl dX5_countGroups_43 ?_
            refine g_aload_n (i := 0) dX5_countGroups_44 rfl rfl ?_
            refine g_get 21 5 dX5_countGroups_45 (List.mem_of_getElem? (i := 3) rfl) (fun w h => List.mem_cons_of_mem _ (List.mem_append_right _ h)) (cO_plan _ _ _ _) rfl (by decide) rfl ?_
            refine g_iload_n (i := 2) dX5_countGroups_48 rfl rfl ?_
            refine g_aload_n (i := 0) dX5_countGroups_49 rfl rfl ?_
            refine g_get 21 4 dX5_countGroups_50 (List.mem_of_getElem? (i := 2) rfl) (fun w h => List.mem_cons_of_mem _ (List.mem_append_right _ h)) (cO_plan _ _ _ _) rfl (by decide) rfl ?_
            refine g_iload dX5_countGroups_53 rfl ?_
            refine c_aldN_44 dX5_countGroups_55 (by omega) ?_
            refine g_ixor dX5_countGroups_56 ?_
            refine c_ald_45 dX5_countGroups_57 (xorvv hw9 hj9) ?_
            refine g_iadd dX5_countGroups_58 ?_
            refine g_mmax (List.mem_of_getElem? (i := 4) rfl) (List.mem_of_getElem? (i := 5) rfl) (List.mem_of_getElem? (i := 6) rfl) (List.mem_of_getElem? (i := 7) rfl) (Nat.le_of_ble_eq_true rfl) (by exact Nat.le_of_ble_eq_true rfl) (Nat.le_of_ble_eq_true rfl) (Nat.le_of_ble_eq_true rfl) dX5_countGroups_59 ?_
            refine g_istore_n (i := 3) dX5_countGroups_62 rfl (by decide) ?_
            refine g_iinc (1) dX5_countGroups_63 rfl rfl (by decide) ?_
            refine g_goto 22 dX5_countGroups_66 (by decide) ?_
            first | exact g_to _ _ (ihi4 trivial) rfl ⟨rfl, rfl, rfl, congrArg (fun z => some (Value.int z)) (cgI0 (by assumption)), (by rw [← nI_1]; rfl), trivial⟩ | exact g_to _ _ (ihi4 trivial) rfl ⟨rfl, rfl, rfl, congrArg (fun z => some (Value.int z)) (cgI1 (by assumption)), (by rw [← nI_1]; rfl), trivial⟩
          · skip
            refine g_if_eq 63 dX5_countGroups_39 (by decide) (fun _ => ?_) (fun h9 => absurd h9 (by decide))
            refine g_iinc (1) dX5_countGroups_63 rfl rfl (by decide) ?_
            refine g_goto 22 dX5_countGroups_66 (by decide) ?_
            first | exact g_to _ _ (ihi4 trivial) rfl ⟨rfl, rfl, rfl, congrArg (fun z => some (Value.int z)) (cgI0 (by assumption)), (by rw [← nI_1]; rfl), trivial⟩ | exact g_to _ _ (ihi4 trivial) rfl ⟨rfl, rfl, rfl, congrArg (fun z => some (Value.int z)) (cgI1 (by assumption)), (by rw [← nI_1]; rfl), trivial⟩

abbrev fgP (T : MS) (r : Int32) (i : Nat) : Prop := mbf (T.2.2.1 44 i) r ∧ T.2.2.1 45 (r ^^^ T.2.2.1 44 i).toNatClampNeg + 1 = T.2.2.1 45 r.toNatClampNeg
/-- the first group of r: n sets to go, from set i on -/
def fgC (T : MS) (r : Int32) : Nat → Nat → Int32
  | 0, _ => r
  | n + 1, i => if fgP T r i then T.2.2.1 44 i else fgC T r n (i + 1)
theorem fgC1 {T : MS} {r : Int32} {C i : Nat} (hi : i < C) (h : ¬ fgP T r i) (g : fgC T r (C - i) i = fgC T r C 0) : fgC T r (C - (i + 1)) (i + 1) = fgC T r C 0 := by
  rw [← g, show C - i = (C - (i + 1)) + 1 by omega]
  exact (if_neg h).symm
theorem fgC2 {T : MS} {r : Int32} {C i : Nat} (hi : i < C) (h : fgP T r i) (g : fgC T r (C - i) i = fgC T r C 0) : T.2.2.1 44 i = fgC T r C 0 := by
  rw [← g, show C - i = (C - (i + 1)) + 1 by omega]
  exact (if_pos h).symm
theorem fgC3 {T : MS} {r : Int32} {C : Nat} (g : fgC T r (C - C) C = fgC T r C 0) : r = fgC T r C 0 := by
  rw [← g, Nat.sub_self]
  rfl
theorem fgCv {T : MS} {r : Int32} (hr : vp_in r 1024) : ∀ (n i : Nat), (∀ j, j < n + i → vp_in (T.2.2.1 44 j) 1024) → vp_in (fgC T r n i) 1024
  | 0, _, _ => hr
  | n + 1, i, h => by
    have e : fgC T r (n + 1) i = if fgP T r i then T.2.2.1 44 i else fgC T r n (i + 1) := rfl
    rw [e]
    split
    · exact h i (by omega)
    · exact fgCv hr n (i + 1) (fun j hj => h j (by omega))
set_option maxHeartbeats 4000000 in
set_option maxRecDepth 100000 in
/-- firstGroup -/
theorem K_fg (l : Launch) (D : va_G) (cy : Nat → ClassId) (a : Nat → Nat) (T : MS) (B : List BL) (C : Nat) (hC : C < 1024) (eC : T.1 49 = nI C) (hz : ∀ j, j < C → vp_in (T.2.2.1 44 j) 1024) (r : Int32) (hr : vp_in r 1024) : Ct l D clx (tyx cy) yX5_firstGroup wsX5_firstGroup (rmC 1) 0 0 [.ref (a 205), .int r] (CW cy a T B) (fun r9 w9 => r9 = some (.int (fgC T r C 0)) ∧ w9 = CW cy a T B) := by
  refine g_start (cc := cX5_firstGroup) (maxL := 4) (ret := (some .int)) (by decide) rfl (Nat.le_of_ble_eq_true rfl) (fun v w1 h => by obtain ⟨rfl, -⟩ := h; exact ⟨.int, rfl, rfl⟩) (fun Γ hlΓ => ?_)
  subst hlΓ
  refine g_iconst (0) rfl dX5_firstGroup_0 ?_
  refine g_istore_n (i := 2) dX5_firstGroup_1 rfl (by decide) ?_
  refine g_cnt C (fun i => fgC T r (C - i) i = fgC T r C 0) (fun i => CW cy a T B) (fun i => [(0, .ref (a 205)), (1, .int r), (2, .int (nI i))]) 0 (by first | decide | omega) rfl (by rfl) (by refine ⟨rfl, rfl, rfl, trivial⟩) ?_ (fun i1 hi1 gi1 ihi1 => ?_)
  · intro gNi1
    refine g_iload_n (i := 2) dX5_firstGroup_2 rfl rfl ?_
    refine g_aload_n (i := 0) dX5_firstGroup_3 rfl rfl ?_
    refine g_get 21 9 dX5_firstGroup_4 (List.mem_of_getElem? (i := 1) rfl) (fun w h => List.mem_cons_of_mem _ (List.mem_append_right _ h)) (cO_plan _ _ _ _) rfl (by decide) rfl ?_
    refine g_icmp_ge 52 dX5_firstGroup_7 (by decide) (fun c_2 => ?_) (fun c_2 => ?_)
    · skip
      refine g_iload_n (i := 1) dX5_firstGroup_52 rfl rfl ?_
      refine g_iret dX5_firstGroup_53 ?_
      exact ⟨congrArg (fun z => some (Value.int z)) (fgC3 (by assumption)), rfl⟩
    · skip
      exact absurd (by rw [eC]; exact nI_le (Nat.le_refl _) (by omega)) c_2
  · skip
    have hj9 := hz i1 (by omega)
    refine g_iload_n (i := 2) dX5_firstGroup_2 rfl rfl ?_
    refine g_aload_n (i := 0) dX5_firstGroup_3 rfl rfl ?_
    refine g_get 21 9 dX5_firstGroup_4 (List.mem_of_getElem? (i := 1) rfl) (fun w h => List.mem_cons_of_mem _ (List.mem_append_right _ h)) (cO_plan _ _ _ _) rfl (by decide) rfl ?_
    refine g_icmp_ge 52 dX5_firstGroup_7 (by decide) (fun c_3 => ?_) (fun c_3 => ?_)
    · skip
      exact absurd c_3 (by rw [eC]; exact nI_ge hi1 (by omega))
    · skip
      refine g_aload_n (i := 0) dX5_firstGroup_10 rfl rfl ?_
      refine g_get 21 4 dX5_firstGroup_11 (List.mem_of_getElem? (i := 2) rfl) (fun w h => List.mem_cons_of_mem _ (List.mem_append_right _ h)) (cO_plan _ _ _ _) rfl (by decide) rfl ?_
      refine g_iload_n (i := 2) dX5_firstGroup_14 rfl rfl ?_
      refine c_aldN_44 dX5_firstGroup_15 (by omega) ?_
      refine g_istore_n (i := 3) dX5_firstGroup_16 rfl (by decide) ?_
      refine g_iload_n (i := 3) dX5_firstGroup_17 rfl rfl ?_
      refine g_iload_n (i := 1) dX5_firstGroup_18 rfl rfl ?_
      refine g_callSf 2 gX5_firstGroup_X5_mayBeFirst rfl rfl rfl ⟨Nat.le_of_ble_eq_true rfl, Nat.le_of_ble_eq_true rfl⟩ ⟨Nat.le_of_ble_eq_true rfl, Nat.le_of_ble_eq_true rfl⟩ (by exact Nat.le_of_ble_eq_true rfl) (by decide +kernel) rfl dX5_firstGroup_19 (K_mbf _ D cy a _ _ _ _) rfl (fun vu_4 wu_4 hu_4 => ?_)
      rcases hu_4 with ⟨rfl, hu_4, rfl⟩ | ⟨rfl, hu_4, rfl⟩
      · skip
        refine g_if_eq 46 dX5_firstGroup_22 (by decide) (fun h9 => absurd h9 (by decide)) (fun _ => ?_)
        refine g_aload_n (i := 0) dX5_firstGroup_25 rfl rfl ?_
        refine g_get 21 5 dX5_firstGroup_26 (List.mem_of_getElem? (i := 3) rfl) (fun w h => List.mem_cons_of_mem _ (List.mem_append_right _ h)) (cO_plan _ _ _ _) rfl (by decide) rfl ?_
        refine g_iload_n (i := 1) dX5_firstGroup_29 rfl rfl ?_
        refine g_iload_n (i := 3) dX5_firstGroup_30 rfl rfl ?_
        refine g_ixor dX5_firstGroup_31 ?_
        refine c_ald_45 dX5_firstGroup_32 (xorvv hr hj9) ?_
        refine g_iconst (1) rfl dX5_firstGroup_33 ?_
        refine g_iadd dX5_firstGroup_34 ?_
        refine g_aload_n (i := 0) dX5_firstGroup_35 rfl rfl ?_
        refine g_get 21 5 dX5_firstGroup_36 (List.mem_of_getElem? (i := 3) rfl) (fun w h => List.mem_cons_of_mem _ (List.mem_append_right _ h)) (cO_plan _ _ _ _) rfl (by decide) rfl ?_
        refine g_iload_n (i := 1) dX5_firstGroup_39 rfl rfl ?_
        refine c_ald_45 dX5_firstGroup_40 hr ?_
        refine g_icmp_ne 46 dX5_firstGroup_41 (by decide) (fun c_6 => ?_) (fun c_6 => ?_)
        · skip
          refine g_iinc (1) dX5_firstGroup_46 rfl rfl (by decide) ?_
          refine g_goto 2 dX5_firstGroup_49 (by decide) ?_
          refine g_to _ _ (ihi1 (fgC1 hi1 (by first | exact fun h9 => absurd h9.1 (by assumption) | exact fun h9 => absurd h9.2 (by assumption)) gi1)) rfl (by refine ⟨(by first | rfl | (rw [← nI_1]; rfl)), (by first | rfl | (rw [← nI_1]; rfl)), (by first | rfl | (rw [← nI_1]; rfl)), trivial⟩)
        · skip
          refine g_iload_n (i := 3) dX5_firstGroup_44 rfl rfl ?_
          refine g_iret dX5_firstGroup_45 ?_
          exact ⟨congrArg (fun z => some (Value.int z)) (fgC2 (by assumption) ⟨by assumption, by assumption⟩ (by assumption)), rfl⟩
      · skip
        refine g_if_eq 46 dX5_firstGroup_22 (by decide) (fun _ => ?_) (fun h9 => absurd h9 (by decide))
        refine g_iinc (1) dX5_firstGroup_46 rfl rfl (by decide) ?_
        refine g_goto 2 dX5_firstGroup_49 (by decide) ?_
        refine g_to _ _ (ihi1 (fgC1 hi1 (by first | exact fun h9 => absurd h9.1 (by assumption) | exact fun h9 => absurd h9.2 (by assumption)) gi1)) rfl (by refine ⟨(by first | rfl | (rw [← nI_1]; rfl)), (by first | rfl | (rw [← nI_1]; rfl)), (by first | rfl | (rw [← nI_1]; rfl)), trivial⟩)

abbrev lsP (T : MS) (g sd : Int32) (i : Nat) : Prop := ¬ g &&& bt1 i = 0 ∧ 0 < T.2.2.2 42 i * sd.toInt64
def lsC (T : MS) (g sd : Int32) : Nat → Nat → Option Nat
  | 0, _ => none
  | n + 1, i => if lsP T g sd i then some i else lsC T g sd n (i + 1)
theorem lsC1 {T : MS} {g sd : Int32} {i : Nat} {X : Option Nat} (hi : i < 10) (h : ¬ lsP T g sd i) (e : lsC T g sd (10 - i) i = X) : lsC T g sd (10 - (i + 1)) (i + 1) = X := by
  rw [← e, show 10 - i = (10 - (i + 1)) + 1 by omega]
  exact (if_neg h).symm
theorem lsC2 {T : MS} {g sd : Int32} {i : Nat} {X : Option Nat} (hi : i < 10) (h : lsP T g sd i) (e : lsC T g sd (10 - i) i = X) : nI i = oI X := by
  rw [← e, show 10 - i = (10 - (i + 1)) + 1 by omega]
  exact (congrArg oI (show lsC T g sd (10 - (i + 1) + 1) i = some i from if_pos h)).symm
theorem lsC_lt {T : MS} {g sd : Int32} : ∀ {n i b : Nat}, lsC T g sd n i = some b → b < n + i
  | 0, _, _, h => by cases h
  | n + 1, i, b, h => by
    have h0 : (if lsP T g sd i then some i else lsC T g sd n (i + 1)) = some b := h
    split at h0
    · cases h0; omega
    · have := lsC_lt h0
      omega
set_option maxHeartbeats 4000000 in
set_option maxRecDepth 100000 in
/-- leastOf -/
theorem K_ls (l : Launch) (D : va_G) (cy : Nat → ClassId) (a : Nat → Nat) (T : MS) (B : List BL) (g sd : Int32) : Ct l D clx (tyx cy) yX5_leastOf wsX5_leastOf (rmC 0) 0 0 [.ref (a 205), .int g, .int sd] (CW cy a T B) (fun r9 w9 => r9 = some (.int (oI (lsC T g sd 10 0))) ∧ w9 = CW cy a T B) := by
  refine g_start (cc := cX5_leastOf) (maxL := 4) (ret := (some .int)) (by decide) rfl (Nat.le_of_ble_eq_true rfl) (fun v w1 h => by obtain ⟨rfl, -⟩ := h; exact ⟨.int, rfl, rfl⟩) (fun Γ hlΓ => ?_)
  subst hlΓ
  refine g_iconst (0) rfl dX5_leastOf_0 ?_
  refine g_istore_n (i := 3) dX5_leastOf_1 rfl (by decide) ?_
  refine g_cnt 10 (fun i => lsC T g sd (10 - i) i = lsC T g sd 10 0) (fun i => CW cy a T B) (fun i => [(0, .ref (a 205)), (1, .int g), (2, .int sd), (3, .int (nI i))]) 0 (by first | decide | omega) rfl (by rfl) (by refine ⟨rfl, rfl, rfl, rfl, trivial⟩) ?_ (fun i1 hi1 gi1 ihi1 => ?_)
  · intro gNi1
    refine g_iload_n (i := 3) dX5_leastOf_2 rfl rfl ?_
    refine g_bipush (10) rfl dX5_leastOf_3 ?_
    refine g_icmp_ge 38 dX5_leastOf_5 (by decide) (fun c_2 => ?_) (fun c_2 => ?_)
    · skip
      refine g_iconst (-1) rfl dX5_leastOf_38 ?_
      refine g_iret dX5_leastOf_39 ?_
      exact ⟨congrArg (fun z => some (Value.int z)) (show (-1 : Int32) = oI (lsC T g sd 10 0) from congrArg oI (by assumption : lsC T g sd (10 - 10) 10 = lsC T g sd 10 0)), rfl⟩
    · skip
      exact absurd (nI_le (Nat.le_refl _) (by first | decide | omega)) c_2
  · skip
    refine g_iload_n (i := 3) dX5_leastOf_2 rfl rfl ?_
    refine g_bipush (10) rfl dX5_leastOf_3 ?_
    refine g_icmp_ge 38 dX5_leastOf_5 (by decide) (fun c_3 => ?_) (fun c_3 => ?_)
    · skip
      exact absurd c_3 (nI_ge hi1 (by first | decide | omega))
    · skip
      refine g_iload_n (i := 1) dX5_leastOf_8 rfl rfl ?_
      refine g_iconst (1) rfl dX5_leastOf_9 ?_
      refine g_iload_n (i := 3) dX5_leastOf_10 rfl rfl ?_
      refine g_ishl dX5_leastOf_11 ?_
      refine g_iand dX5_leastOf_12 ?_
      refine g_if_eq 32 dX5_leastOf_13 (by decide) (fun c_4 => ?_) (fun c_4 => ?_)
      · skip
        refine g_iinc (1) dX5_leastOf_32 rfl rfl (by decide) ?_
        refine g_goto 2 dX5_leastOf_35 (by decide) ?_
        refine g_to _ _ (ihi1 (lsC1 hi1 (by first | exact fun h9 => h9.1 (by assumption) | exact fun h9 => absurd h9.2 (Int64.not_lt.mpr (by assumption))) gi1)) rfl (by refine ⟨(by first | rfl | (rw [← nI_1]; rfl)), (by first | rfl | (rw [← nI_1]; rfl)), (by first | rfl | (rw [← nI_1]; rfl)), (by first | rfl | (rw [← nI_1]; rfl)), trivial⟩)
      · skip
        refine g_aload_n (i := 0) dX5_leastOf_16 rfl rfl ?_
        refine g_get 21 2 dX5_leastOf_17 (List.mem_of_getElem? (i := 1) rfl) (fun w h => List.mem_cons_of_mem _ (List.mem_append_right _ h)) (cO_plan _ _ _ _) rfl (by decide) rfl ?_
        refine g_iload_n (i := 3) dX5_leastOf_20 rfl rfl ?_
        refine c_aldN_42 dX5_leastOf_21 (by omega) ?_
        refine g_iload_n (i := 2) dX5_leastOf_22 rfl rfl ?_
        refine g_i2l dX5_leastOf_23 ?_
        refine g_lmul dX5_leastOf_24 ?_
        refine g_lconst 0 rfl dX5_leastOf_25 ?_
        refine g_lcmp_le 32 dX5_leastOf_26 dX5_leastOf_27 (by decide) (fun c_5 => ?_) (fun c_5 => ?_)
        · skip
          refine g_iinc (1) dX5_leastOf_32 rfl rfl (by decide) ?_
          refine g_goto 2 dX5_leastOf_35 (by decide) ?_
          refine g_to _ _ (ihi1 (lsC1 hi1 (by first | exact fun h9 => h9.1 (by assumption) | exact fun h9 => absurd h9.2 (Int64.not_lt.mpr (by assumption))) gi1)) rfl (by refine ⟨(by first | rfl | (rw [← nI_1]; rfl)), (by first | rfl | (rw [← nI_1]; rfl)), (by first | rfl | (rw [← nI_1]; rfl)), (by first | rfl | (rw [← nI_1]; rfl)), trivial⟩)
        · skip
          refine g_iload_n (i := 3) dX5_leastOf_30 rfl rfl ?_
          refine g_iret dX5_leastOf_31 ?_
          exact ⟨congrArg (fun z => some (Value.int z)) (lsC2 (by assumption) ⟨by assumption, Int64.not_le.mp (by assumption)⟩ (by assumption)), rfl⟩

abbrev pwV (T : MS) (p q : Nat) : Int64 := if T.2.2.2 42 q < -T.2.2.2 42 p then T.2.2.2 42 q else -T.2.2.2 42 p
def pw1 (T : MS) (p : Nat) (v : Int64) : MS := sB T 42 p (T.2.2.2 42 p + v)
def pw2 (T : MS) (q : Nat) (v : Int64) : MS := sB T 42 q (T.2.2.2 42 q - v)
def pw3 (T : MS) (p q : Nat) (v : Int64) : MS := sI (sB (sA (sA T 46 (T.1 41).toNatClampNeg (nI p)) 47 (T.1 41).toNatClampNeg (nI q)) 48 (T.1 41).toNatClampNeg v) 41 (T.1 41 + 1)
def pwS (T : MS) (p q : Nat) : MS := pw3 (pw2 (pw1 T p (pwV T p q)) q (pwV T p q)) p q (pwV T p q)
def pwR (g : Int32) : Nat → MS → MS
  | 0, T => T
  | n + 1, T => match lsC T g (-1) 10 0, lsC T g 1 10 0 with
    | some p, some q => if T.1 41 < 10 then pwR g n (pwS T p q) else T
    | _, _ => T
theorem pwRa {g : Int32} {n : Nat} {T X : MS} (h : lsC T g (-1) 10 0 = none) (e : pwR g (n + 1) T = X) : T = X := by
  rw [← e]
  show _ = (match lsC T g (-1) 10 0, lsC T g 1 10 0 with | some p, some q => _ | _, _ => T)
  rw [h]
theorem pwRb {g : Int32} {n p : Nat} {T X : MS} (h : lsC T g (-1) 10 0 = some p) (h2 : lsC T g 1 10 0 = none) (e : pwR g (n + 1) T = X) : T = X := by
  rw [← e]
  show _ = (match lsC T g (-1) 10 0, lsC T g 1 10 0 with | some p, some q => _ | _, _ => T)
  rw [h, h2]
theorem pwRc {g : Int32} {n p q : Nat} {T X : MS} (h : lsC T g (-1) 10 0 = some p) (h2 : lsC T g 1 10 0 = some q) (h3 : ¬ T.1 41 < 10) (e : pwR g (n + 1) T = X) : T = X := by
  rw [← e]
  show _ = (match lsC T g (-1) 10 0, lsC T g 1 10 0 with | some p, some q => _ | _, _ => T)
  rw [h, h2]
  exact (if_neg h3).symm
theorem pwRd {g : Int32} {n p q : Nat} {T X : MS} (h : lsC T g (-1) 10 0 = some p) (h2 : lsC T g 1 10 0 = some q) (h3 : T.1 41 < 10) (e : pwR g (n + 1) T = X) : pwR g n (pwS T p q) = X := by
  rw [← e]
  show _ = (match lsC T g (-1) 10 0, lsC T g 1 10 0 with | some p, some q => _ | _, _ => T)
  rw [h, h2]
  exact (if_pos h3).symm
theorem p41 {T : MS} {c : Nat} (e : T.1 41 = nI c) (hc : c ≤ 10) (h : T.1 41 < 10) : c < 10 := by
  rw [e, Int32.lt_iff_toInt_lt, nI_toInt (by omega)] at h
  have : (10 : Int32).toInt = 10 := by decide
  omega
set_option maxHeartbeats 4000000 in
set_option maxRecDepth 100000 in
/-- payWithin -/
theorem K_pw (l : Launch) (D : va_G) (cy : Nat → ClassId) (a : Nat → Nat) (T : MS) (B : List BL) (g : Int32) (c0 : Nat) (hc0 : c0 ≤ 10) (ec0 : T.1 41 = nI c0) : Ct l D clx (tyx cy) yX5_payWithin wsX5_payWithin (rmC 1) 0 0 [.ref (a 205), .int g] (CW cy a T B) (fun r9 w9 => r9 = none ∧ w9 = CW cy a (pwR g 10 T) B) := by
  refine g_start (cc := cX5_payWithin) (maxL := 7) (ret := none) (by decide) rfl (Nat.le_of_ble_eq_true rfl) (fun v w1 h => by obtain ⟨rfl, -⟩ := h; exact rfl) (fun Γ hlΓ => ?_)
  subst hlΓ
  refine g_iconst (0) rfl dX5_payWithin_0 ?_
  refine g_istore_n (i := 2) dX5_payWithin_1 rfl (by decide) ?_
  refine g_whl (σ := Nat × MS × Nat) (fun x => x.1) (fun x => x.1 ≤ 10 ∧ x.2.2 ≤ 10 ∧ x.2.1.1 41 = nI x.2.2 ∧ pwR g x.1 x.2.1 = pwR g 10 T) (fun x => CW cy a x.2.1 B) (fun x => [(0, .ref (a 205)), (1, .int g), (2, .int (nI (10 - x.1)))]) (10, T, c0) ⟨Nat.le_refl 10, hc0, ec0, rfl⟩ rfl ⟨rfl, rfl, rfl, trivial⟩ (fun x gx ih => ?_)
  obtain ⟨n, U, c⟩ := x
  obtain ⟨hn, hc, ec, gx⟩ := gx
  replace hn : n ≤ 10 := hn
  replace hc : c ≤ 10 := hc
  replace ec : U.1 41 = nI c := ec
  replace gx : pwR g n U = pwR g 10 T := gx
  rcases n with _ | m
  · refine g_nrm [(0, .ref (a 205)), (1, .int g), (2, .int (nI 10))] ⟨rfl, rfl, rfl, trivial⟩ ?_
    refine g_iload_n (i := 2) dX5_payWithin_2 rfl rfl ?_
    refine g_bipush (10) rfl dX5_payWithin_3 ?_
    refine g_icmp_ge 132 dX5_payWithin_5 (by decide) (fun _ => ?_) (fun h9 => absurd h9 (by decide))
    refine g_vret dX5_payWithin_132 ?_
    first | exact ⟨rfl, congrArg (fun z => CW cy a z B) gx⟩ | exact ⟨rfl, congrArg (fun z => CW cy a z B) (pwRa hp9 gx)⟩ | exact ⟨rfl, congrArg (fun z => CW cy a z B) (pwRb hp9 hq9 gx)⟩ | exact ⟨rfl, congrArg (fun z => CW cy a z B) (pwRc hp9 hq9 (by assumption) gx)⟩
  · refine g_nrm [(0, .ref (a 205)), (1, .int g), (2, .int (nI (10 - (m + 1))))] ⟨rfl, rfl, rfl, trivial⟩ ?_
    refine g_iload_n (i := 2) dX5_payWithin_2 rfl rfl ?_
    refine g_bipush (10) rfl dX5_payWithin_3 ?_
    refine g_icmp_ge 132 dX5_payWithin_5 (by decide) (fun c_3 => ?_) (fun c_3 => ?_)
    · skip
      exact absurd c_3 (nI_ge (b := 10) (by omega) (by decide))
    · skip
      refine g_aload_n (i := 0) dX5_payWithin_8 rfl rfl ?_
      refine g_iload_n (i := 1) dX5_payWithin_9 rfl rfl ?_
      refine g_iconst (-1) rfl dX5_payWithin_10 ?_
      refine g_callVf 2 21 gX5_payWithin_X5_leastOf rfl rfl rfl ⟨Nat.le_of_ble_eq_true rfl, Nat.le_of_ble_eq_true rfl⟩ ⟨Nat.le_of_ble_eq_true rfl, Nat.le_of_ble_eq_true rfl⟩ (by exact Nat.le_of_ble_eq_true rfl) (by decide +kernel) rfl (cO_plan _ _ _ _) rfl dX5_payWithin_11 (K_ls _ D cy a _ _ _ _) rfl (fun vu_4 wu_4 hu_4 => ?_)
      obtain ⟨rfl, rfl⟩ := hu_4
      cases hp9 : lsC U g (-1) 10 0 with
        | none =>
          refine g_ste (st2 := .int (-1) :: []) ?_ rfl
          refine g_istore_n (i := 3) dX5_payWithin_14 rfl (by decide) ?_
          refine g_aload_n (i := 0) dX5_payWithin_15 rfl rfl ?_
          refine g_iload_n (i := 1) dX5_payWithin_16 rfl rfl ?_
          refine g_iconst (1) rfl dX5_payWithin_17 ?_
          refine g_callVf 2 21 gX5_payWithin_X5_leastOf rfl rfl rfl ⟨Nat.le_of_ble_eq_true rfl, Nat.le_of_ble_eq_true rfl⟩ ⟨Nat.le_of_ble_eq_true rfl, Nat.le_of_ble_eq_true rfl⟩ (by exact Nat.le_of_ble_eq_true rfl) (by decide +kernel) rfl (cO_plan _ _ _ _) rfl dX5_payWithin_18 (K_ls _ D cy a _ _ _ _) rfl (fun vu_5 wu_5 hu_5 => ?_)
          obtain ⟨rfl, rfl⟩ := hu_5
          cases hq9 : lsC U g (1) 10 0 with
            | none =>
              refine g_ste (st2 := .int (-1) :: []) ?_ rfl
              refine g_istore dX5_payWithin_21 (by decide) ?_
              refine g_iload_n (i := 3) dX5_payWithin_23 rfl rfl ?_
              refine g_if_lt 41 dX5_payWithin_24 (by decide) (fun _ => ?_) (fun h9 => absurd h9 (by decide))
              refine g_vret dX5_payWithin_41 ?_
              first | exact ⟨rfl, congrArg (fun z => CW cy a z B) gx⟩ | exact ⟨rfl, congrArg (fun z => CW cy a z B) (pwRa hp9 gx)⟩ | exact ⟨rfl, congrArg (fun z => CW cy a z B) (pwRb hp9 hq9 gx)⟩ | exact ⟨rfl, congrArg (fun z => CW cy a z B) (pwRc hp9 hq9 (by assumption) gx)⟩
            | some q =>
              have hq8 := lsC_lt hq9
              refine g_ste (st2 := .int (nI q) :: []) ?_ rfl
              refine g_istore dX5_payWithin_21 (by decide) ?_
              refine g_iload_n (i := 3) dX5_payWithin_23 rfl rfl ?_
              refine g_if_lt 41 dX5_payWithin_24 (by decide) (fun _ => ?_) (fun h9 => absurd h9 (by decide))
              refine g_vret dX5_payWithin_41 ?_
              first | exact ⟨rfl, congrArg (fun z => CW cy a z B) gx⟩ | exact ⟨rfl, congrArg (fun z => CW cy a z B) (pwRa hp9 gx)⟩ | exact ⟨rfl, congrArg (fun z => CW cy a z B) (pwRb hp9 hq9 gx)⟩ | exact ⟨rfl, congrArg (fun z => CW cy a z B) (pwRc hp9 hq9 (by assumption) gx)⟩
        | some p =>
          have hp8 := lsC_lt hp9
          refine g_ste (st2 := .int (nI p) :: []) ?_ rfl
          refine g_istore_n (i := 3) dX5_payWithin_14 rfl (by decide) ?_
          refine g_aload_n (i := 0) dX5_payWithin_15 rfl rfl ?_
          refine g_iload_n (i := 1) dX5_payWithin_16 rfl rfl ?_
          refine g_iconst (1) rfl dX5_payWithin_17 ?_
          refine g_callVf 2 21 gX5_payWithin_X5_leastOf rfl rfl rfl ⟨Nat.le_of_ble_eq_true rfl, Nat.le_of_ble_eq_true rfl⟩ ⟨Nat.le_of_ble_eq_true rfl, Nat.le_of_ble_eq_true rfl⟩ (by exact Nat.le_of_ble_eq_true rfl) (by decide +kernel) rfl (cO_plan _ _ _ _) rfl dX5_payWithin_18 (K_ls _ D cy a _ _ _ _) rfl (fun vu_8 wu_8 hu_8 => ?_)
          obtain ⟨rfl, rfl⟩ := hu_8
          cases hq9 : lsC U g (1) 10 0 with
            | none =>
              refine g_ste (st2 := .int (-1) :: []) ?_ rfl
              refine g_istore dX5_payWithin_21 (by decide) ?_
              refine g_iload_n (i := 3) dX5_payWithin_23 rfl rfl ?_
              refine g_if_lt 41 dX5_payWithin_24 (by decide) (fun c_9 => ?_) (fun c_9 => ?_)
              · skip
                exact absurd c_9 (nI_nneg (by omega))
              · skip
                refine g_iload dX5_payWithin_27 rfl ?_
                refine g_if_lt 41 dX5_payWithin_29 (by decide) (fun _ => ?_) (fun h9 => absurd h9 (by decide))
                refine g_vret dX5_payWithin_41 ?_
                first | exact ⟨rfl, congrArg (fun z => CW cy a z B) gx⟩ | exact ⟨rfl, congrArg (fun z => CW cy a z B) (pwRa hp9 gx)⟩ | exact ⟨rfl, congrArg (fun z => CW cy a z B) (pwRb hp9 hq9 gx)⟩ | exact ⟨rfl, congrArg (fun z => CW cy a z B) (pwRc hp9 hq9 (by assumption) gx)⟩
            | some q =>
              have hq8 := lsC_lt hq9
              refine g_ste (st2 := .int (nI q) :: []) ?_ rfl
              refine g_istore dX5_payWithin_21 (by decide) ?_
              refine g_iload_n (i := 3) dX5_payWithin_23 rfl rfl ?_
              refine g_if_lt 41 dX5_payWithin_24 (by decide) (fun c_11 => ?_) (fun c_11 => ?_)
              · skip
                exact absurd c_11 (nI_nneg (by omega))
              · skip
                refine g_iload dX5_payWithin_27 rfl ?_
                refine g_if_lt 41 dX5_payWithin_29 (by decide) (fun c_12 => ?_) (fun c_12 => ?_)
                · skip
                  exact absurd c_12 (nI_nneg (by omega))
                · skip
                  refine g_aload_n (i := 0) dX5_payWithin_32 rfl rfl ?_
                  refine g_get 21 1 dX5_payWithin_33 (List.mem_of_getElem? (i := 1) rfl) (fun w h => List.mem_cons_of_mem _ (List.mem_append_right _ h)) (cO_plan _ _ _ _) rfl (by decide) rfl ?_
                  refine g_bipush (10) rfl dX5_payWithin_36 ?_
                  refine g_icmp_lt 42 dX5_payWithin_38 (by decide) (fun c_13 => ?_) (fun c_13 => ?_)
                  · skip
                    refine g_aload_n (i := 0) dX5_payWithin_42 rfl rfl ?_
                    refine g_get 21 2 dX5_payWithin_43 (List.mem_of_getElem? (i := 2) rfl) (fun w h => List.mem_cons_of_mem _ (List.mem_append_right _ h)) (cO_plan _ _ _ _) rfl (by decide) rfl ?_
                    refine g_iload_n (i := 3) dX5_payWithin_46 rfl rfl ?_
                    refine c_aldN_42 dX5_payWithin_47 (by omega) ?_
                    refine g_lneg dX5_payWithin_48 ?_
                    refine g_aload_n (i := 0) dX5_payWithin_49 rfl rfl ?_
                    refine g_get 21 2 dX5_payWithin_50 (List.mem_of_getElem? (i := 2) rfl) (fun w h => List.mem_cons_of_mem _ (List.mem_append_right _ h)) (cO_plan _ _ _ _) rfl (by decide) rfl ?_
                    refine g_iload dX5_payWithin_53 rfl ?_
                    refine c_aldN_42 dX5_payWithin_55 (by omega) ?_
                    refine g_mminL (List.mem_of_getElem? (i := 3) rfl) (List.mem_of_getElem? (i := 4) rfl) (List.mem_of_getElem? (i := 5) rfl) (List.mem_of_getElem? (i := 6) rfl) (Nat.le_of_ble_eq_true rfl) (by exact Nat.le_of_ble_eq_true rfl) (Nat.le_of_ble_eq_true rfl) (Nat.le_of_ble_eq_true rfl) dX5_payWithin_56 ?_
                    refine g_lstore dX5_payWithin_59 (by decide) ?_
                    refine g_aload_n (i := 0) dX5_payWithin_61 rfl rfl ?_
                    refine g_get 21 2 dX5_payWithin_62 (List.mem_of_getElem? (i := 2) rfl) (fun w h => List.mem_cons_of_mem _ (List.mem_append_right _ h)) (cO_plan _ _ _ _) rfl (by decide) rfl ?_
                    refine g_iload_n (i := 3) dX5_payWithin_65 rfl rfl ?_
                    refine g_dup2_11 rfl rfl dX5_payWithin_66 ?_
                    refine c_aldN_42 dX5_payWithin_67 (by omega) ?_
                    refine g_lload dX5_payWithin_68 rfl ?_
                    refine g_ladd dX5_payWithin_70 ?_
                    refine c_astN_42 dX5_payWithin_71 (by omega) ?_
                    refine g_aload_n (i := 0) dX5_payWithin_72 rfl rfl ?_
                    refine g_get 21 2 dX5_payWithin_73 (List.mem_of_getElem? (i := 2) rfl) (fun w h => List.mem_cons_of_mem _ (List.mem_append_right _ h)) (cO_plan _ _ _ _) rfl (by decide) rfl ?_
                    refine g_iload dX5_payWithin_76 rfl ?_
                    refine g_dup2_11 rfl rfl dX5_payWithin_78 ?_
                    refine c_aldN_42 dX5_payWithin_79 (by omega) ?_
                    refine g_lload dX5_payWithin_80 rfl ?_
                    refine g_lsub dX5_payWithin_82 ?_
                    refine c_astN_42 dX5_payWithin_83 (by omega) ?_
                    refine g_aload_n (i := 0) dX5_payWithin_84 rfl rfl ?_
                    refine g_get 21 6 dX5_payWithin_85 (List.mem_of_getElem? (i := 7) rfl) (fun w h => List.mem_cons_of_mem _ (List.mem_append_right _ h)) (cO_plan _ _ _ _) rfl (by decide) rfl ?_
                    refine g_aload_n (i := 0) dX5_payWithin_88 rfl rfl ?_
                    refine g_get 21 1 dX5_payWithin_89 (List.mem_of_getElem? (i := 1) rfl) (fun w h => List.mem_cons_of_mem _ (List.mem_append_right _ h)) (cO_plan _ _ _ _) rfl (by decide) rfl ?_
                    refine g_iload_n (i := 3) dX5_payWithin_92 rfl rfl ?_
                    refine c_ast_46 dX5_payWithin_93 (by show vp_in (U.1 41) 10; rw [ec]; exact vp_in_nI (p41 ec hc (by assumption)) (by decide)) ?_
                    refine g_aload_n (i := 0) dX5_payWithin_94 rfl rfl ?_
                    refine g_get 21 7 dX5_payWithin_95 (List.mem_of_getElem? (i := 8) rfl) (fun w h => List.mem_cons_of_mem _ (List.mem_append_right _ h)) (cO_plan _ _ _ _) rfl (by decide) rfl ?_
                    refine g_aload_n (i := 0) dX5_payWithin_98 rfl rfl ?_
                    refine g_get 21 1 dX5_payWithin_99 (List.mem_of_getElem? (i := 1) rfl) (fun w h => List.mem_cons_of_mem _ (List.mem_append_right _ h)) (cO_plan _ _ _ _) rfl (by decide) rfl ?_
                    refine g_iload dX5_payWithin_102 rfl ?_
                    refine c_ast_47 dX5_payWithin_104 (by show vp_in (U.1 41) 10; rw [ec]; exact vp_in_nI (p41 ec hc (by assumption)) (by decide)) ?_
                    refine g_aload_n (i := 0) dX5_payWithin_105 rfl rfl ?_
                    refine g_get 21 8 dX5_payWithin_106 (List.mem_of_getElem? (i := 9) rfl) (fun w h => List.mem_cons_of_mem _ (List.mem_append_right _ h)) (cO_plan _ _ _ _) rfl (by decide) rfl ?_
                    refine g_aload_n (i := 0) dX5_payWithin_109 rfl rfl ?_
                    refine g_get 21 1 dX5_payWithin_110 (List.mem_of_getElem? (i := 1) rfl) (fun w h => List.mem_cons_of_mem _ (List.mem_append_right _ h)) (cO_plan _ _ _ _) rfl (by decide) rfl ?_
                    refine g_lload dX5_payWithin_113 rfl ?_
                    refine c_ast_48 dX5_payWithin_115 (by show vp_in (U.1 41) 10; rw [ec]; exact vp_in_nI (p41 ec hc (by assumption)) (by decide)) ?_
                    refine g_aload_n (i := 0) dX5_payWithin_116 rfl rfl ?_
                    refine g_dup rfl dX5_payWithin_117 ?_
                    refine g_get 21 1 dX5_payWithin_118 (List.mem_of_getElem? (i := 1) rfl) (fun w h => List.mem_cons_of_mem _ (List.mem_append_right _ h)) (cO_plan _ _ _ _) rfl (by decide) rfl ?_
                    refine g_iconst (1) rfl dX5_payWithin_121 ?_
                    refine g_iadd dX5_payWithin_122 ?_
                    refine g_put 21 1 _ tyX5 tyX5_ok nmX5 dX5_payWithin_123 (List.mem_of_getElem? (i := 1) rfl) (fun w h => List.mem_cons_of_mem _ (List.mem_append_right _ h)) (cO_plan _ _ _ _) rfl (by decide) rfl (tyX5_ok 1 (by decide)) rfl rfl (Nat.le_of_ble_eq_true rfl) (cwI_41 _ _ _ _ _) ?_
                    refine g_iinc (1) dX5_payWithin_126 rfl rfl (by decide) ?_
                    refine g_goto 2 dX5_payWithin_129 (by decide) ?_
                    exact g_to _ _ (ih (m, pwS U p q, c + 1) ⟨by show m ≤ 10; omega, (by show c + 1 ≤ 10; have := p41 ec hc (by assumption); omega), (by show U.1 41 + 1 = _; rw [ec, nI_1]), pwRd hp9 hq9 (by assumption) gx⟩ (Nat.lt_succ_self m)) rfl ⟨rfl, rfl, (by show some (Value.int (nI (10 - (m + 1)) + 1)) = _; rw [nI_1, show 10 - (m + 1) + 1 = 10 - m by omega]), trivial⟩
                  · skip
                    refine g_vret dX5_payWithin_41 ?_
                    first | exact ⟨rfl, congrArg (fun z => CW cy a z B) gx⟩ | exact ⟨rfl, congrArg (fun z => CW cy a z B) (pwRa hp9 gx)⟩ | exact ⟨rfl, congrArg (fun z => CW cy a z B) (pwRb hp9 hq9 gx)⟩ | exact ⟨rfl, congrArg (fun z => CW cy a z B) (pwRc hp9 hq9 (by assumption) gx)⟩

