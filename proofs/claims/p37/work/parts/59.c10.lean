theorem rnA_in (T : MS) : ∀ i, i ≤ 10 → ∃ A, A < 2 ^ i ∧ rnA T i = nI A
  | 0, _ => ⟨0, by decide, rfl⟩
  | i + 1, h => by
    obtain ⟨A, hA, e⟩ := rnA_in T i (by omega)
    have h2 : 2 ^ (i + 1) = 2 ^ i + 2 ^ i := by rw [Nat.pow_succ]; omega
    have e0 : rnA T (i + 1) = if (rnF T (i + 1)).2.2.2 42 i = 0 then rnA T i else rnA T i ||| bt1 i := rfl
    rw [e0]
    split
    · exact ⟨A, by omega, e⟩
    · refine ⟨A + 2 ^ i, by omega, ?_⟩
      rw [e, bt1_eq (by omega), nx_or, or_add hA]
def pwok (T : MS) : Prop := ∃ c, c ≤ 10 ∧ T.1 41 = nI c
/-- payments leave the sets and how many they are -/
theorem pwR_kp (g : Int32) : ∀ (n : Nat) (T : MS), (pwR g n T).2.2.1 44 = T.2.2.1 44 ∧ (pwR g n T).2.2.1 45 = T.2.2.1 45 ∧ (pwR g n T).1 49 = T.1 49 ∧ (pwok T → pwok (pwR g n T))
  | 0, _ => ⟨rfl, rfl, rfl, id⟩
  | n + 1, T => by
    cases h1 : lsC T g (-1) 10 0 with
    | none => rw [← pwRa h1 rfl]; exact ⟨rfl, rfl, rfl, id⟩
    | some p =>
      cases h2 : lsC T g 1 10 0 with
      | none => rw [← pwRb h1 h2 rfl]; exact ⟨rfl, rfl, rfl, id⟩
      | some q =>
        by_cases h3 : T.1 41 < 10
        · rw [← pwRd h1 h2 h3 rfl]
          obtain ⟨a1, a2, a3, a4⟩ := pwR_kp g n (pwS T p q)
          refine ⟨a1, a2, a3, fun hc => a4 ?_⟩
          obtain ⟨c, hc, e⟩ := hc
          refine ⟨c + 1, by have := p41 e hc h3; omega, ?_⟩
          show T.1 41 + 1 = _
          rw [e, nI_1]
        · rw [← pwRc h1 h2 h3 rfl]; exact ⟨rfl, rfl, rfl, id⟩
def rfS (T : MS) (g : Int32) : MS := sI (pwR g 10 T) 40 ((pwR g 10 T).1 40 + 1)
/-- the groups of r are found and paid, n at most -/
def rfR (C : Nat) : Nat → Int32 → MS → MS
  | 0, _, T => T
  | n + 1, r, T => if r = 0 then T else rfR C n (r ^^^ fgC T r C 0) (rfS T (fgC T r C 0))
theorem rfR0 {C n : Nat} {r : Int32} {T X : MS} (h : r = 0) (e : rfR C (n + 1) r T = X) : T = X := (if_pos h).symm.trans e
theorem rfR1 {C n : Nat} {r : Int32} {T X : MS} (h : ¬ r = 0) (e : rfR C (n + 1) r T = X) : rfR C n (r ^^^ fgC T r C 0) (rfS T (fgC T r C 0)) = X := (if_neg h).symm.trans e
def rf1 (T : MS) : MS := sI (sI (sL T 50 (T.2.1 30)) 40 0) 41 0
def rf4 (T : MS) : MS := lzR (auO (rnF (rf1 T) 10) 10) (rnA (rf1 T) 10).toNatClampNeg (rnA (rf1 T) 10).toNatClampNeg
def rfC (T : MS) : Nat := ((rf4 T).1 49).toNatClampNeg
def rf5 (T : MS) : MS := cgO (rf4 T) (rfC T)
def cf_ref (T : MS) : MS := if T.2.1 50 = T.2.1 30 then T else rfR (rfC T) 10 (rnA (rf1 T) 10) (rf5 T)
theorem cf_ref_eq {T R0 R1 R2 R3 : MS} {A C : Nat} (hne : ¬ T.2.1 50 = T.2.1 30) (e0 : R0 = rnF (rf1 T) 10) (eA : rnA (rf1 T) 10 = nI A) (hA : A < 1024) (e1 : R1 = auO R0 10) (e2 : R2 = lzR R1 A A) (eC : R2.1 49 = nI C) (hC : C < 1024) (e3 : R3 = cgO R2 C) : rfR C 10 (nI A) R3 = cf_ref T := by
  unfold cf_ref
  rw [if_neg hne]
  have h4 : rf4 T = R2 := by unfold rf4; rw [eA, nI_clamp (by omega), ← e0, ← e1, ← e2]
  have hC2 : rfC T = C := by unfold rfC; rw [h4, eC, nI_clamp (by omega)]
  unfold rf5
  rw [h4, hC2, eA, ← e3]
theorem rnF_1 (T : MS) : ∀ i, (rnF T i).1 = T.1
  | 0 => rfl
  | i + 1 => rnF_1 T i
theorem auI_1 (T : MS) (h : Nat) : ∀ i, (auI T h i).1 = T.1
  | 0 => rfl
  | i + 1 => auI_1 T h i
theorem auO_1 (T : MS) : ∀ i, (auO T i).1 = T.1
  | 0 => rfl
  | i + 1 => (auI_1 (auO T i) i (2 ^ i)).trans (auO_1 T i)
theorem lzR_41 (T : MS) (A : Nat) : ∀ s, (lzR T A s).1 41 = T.1 41
  | 0 => rfl
  | s + 1 => by
    by_cases h : lzP (lzR T A s) A (s + 1)
    · rw [lz0 h]; exact lzR_41 T A s
    · rw [lz1 h]; exact lzR_41 T A s
set_option maxHeartbeats 4000000 in
set_option maxRecDepth 100000 in
/-- refresh -/
theorem K_ref (l : Launch) (D : va_G) (cy : Nat → ClassId) (a : Nat → Nat) (T : MS) (B : List BL) : Ct l D clx (tyx cy) yX5_refresh wsX5_refresh (rmC 2) 0 0 [.ref (a 205), .ref (a 201)] (CW cy a T B) (fun r9 w9 => r9 = none ∧ w9 = CW cy a (cf_ref T) B) := by
  refine g_start (cc := cX5_refresh) (maxL := 5) (ret := none) (by decide) rfl (Nat.le_of_ble_eq_true rfl) (fun v w1 h => by obtain ⟨rfl, -⟩ := h; exact rfl) (fun Γ hlΓ => ?_)
  subst hlΓ
  refine g_aload_n (i := 0) dX5_refresh_0 rfl rfl ?_
  refine g_get 21 10 dX5_refresh_1 (List.mem_of_getElem? (i := 1) rfl) (fun w h => List.mem_cons_of_mem _ (List.mem_append_left _ (List.mem_append_right _ h))) (cO_plan _ _ _ _) rfl (by decide) rfl ?_
  refine g_aload_n (i := 1) dX5_refresh_4 rfl rfl ?_
  refine g_get 9 0 dX5_refresh_5 (List.mem_of_getElem? (i := 2) rfl) (fun w h => List.mem_cons_of_mem _ (List.mem_append_right _ h)) (cO_book _ _ _ _) rfl (by decide) rfl ?_
  refine g_lcmp_ne 13 dX5_refresh_8 dX5_refresh_9 (by decide) (fun c_1 => ?_) (fun c_1 => ?_)
  · skip
    have hne := c_1
    refine g_aload_n (i := 0) dX5_refresh_13 rfl rfl ?_
    refine g_aload_n (i := 1) dX5_refresh_14 rfl rfl ?_
    refine g_get 9 0 dX5_refresh_15 (List.mem_of_getElem? (i := 2) rfl) (fun w h => List.mem_cons_of_mem _ (List.mem_append_right _ h)) (cO_book _ _ _ _) rfl (by decide) rfl ?_
    refine g_put 21 10 _ tyX5 tyX5_ok nmX5 dX5_refresh_18 (List.mem_of_getElem? (i := 1) rfl) (fun w h => List.mem_cons_of_mem _ (List.mem_append_left _ (List.mem_append_right _ h))) (cO_plan _ _ _ _) rfl (by decide) rfl (tyX5_ok 10 (by decide)) rfl rfl (Nat.le_of_ble_eq_true rfl) (cwI_50 _ _ _ _ _) ?_
    refine g_aload_n (i := 0) dX5_refresh_21 rfl rfl ?_
    refine g_iconst (0) rfl dX5_refresh_22 ?_
    refine g_put 21 0 _ tyX5 tyX5_ok nmX5 dX5_refresh_23 (List.mem_of_getElem? (i := 3) rfl) (fun w h => List.mem_cons_of_mem _ (List.mem_append_left _ (List.mem_append_right _ h))) (cO_plan _ _ _ _) rfl (by decide) rfl (tyX5_ok 0 (by decide)) rfl rfl (Nat.le_of_ble_eq_true rfl) (cwI_40 _ _ _ _ _) ?_
    refine g_aload_n (i := 0) dX5_refresh_26 rfl rfl ?_
    refine g_iconst (0) rfl dX5_refresh_27 ?_
    refine g_put 21 1 _ tyX5 tyX5_ok nmX5 dX5_refresh_28 (List.mem_of_getElem? (i := 4) rfl) (fun w h => List.mem_cons_of_mem _ (List.mem_append_left _ (List.mem_append_right _ h))) (cO_plan _ _ _ _) rfl (by decide) rfl (tyX5_ok 1 (by decide)) rfl rfl (Nat.le_of_ble_eq_true rfl) (cwI_41 _ _ _ _ _) ?_
    refine g_aload_n (i := 0) dX5_refresh_31 rfl rfl ?_
    refine g_aload_n (i := 1) dX5_refresh_32 rfl rfl ?_
    refine g_callVf 1 21 gX5_refresh_X5_readNets rfl rfl rfl ⟨Nat.le_of_ble_eq_true rfl, Nat.le_of_ble_eq_true rfl⟩ ⟨Nat.le_of_ble_eq_true rfl, Nat.le_of_ble_eq_true rfl⟩ (by exact Nat.le_of_ble_eq_true rfl) (by decide +kernel) rfl (cO_plan _ _ _ _) rfl dX5_refresh_33 (K_readNets _ D cy a _ _) rfl (fun vu_2 wu_2 hu_2 => ?_)
    obtain ⟨rfl, rfl⟩ := hu_2
    obtain ⟨R0, hR0⟩ : ∃ R, R = rnF (rf1 T) 10 := ⟨_, rfl⟩
    obtain ⟨A, hA, eA⟩ := rnA_in (rf1 T) 10 (Nat.le_refl 10)
    refine g_weq (CW cy a R0 B) (congrArg (fun z => CW cy a z B) hR0.symm) ?_
    refine g_istore_n (i := 2) dX5_refresh_36 rfl (by decide) ?_
    refine g_nrm [(0, .ref (a 205)), (1, .ref (a 201)), (2, .int (nI A))] ⟨rfl, rfl, congrArg (fun z => some (Value.int z)) eA, trivial⟩ ?_
    refine g_aload_n (i := 0) dX5_refresh_37 rfl rfl ?_
    refine g_callVf 0 21 gX5_refresh_X5_addUp rfl rfl rfl ⟨Nat.le_of_ble_eq_true rfl, Nat.le_of_ble_eq_true rfl⟩ ⟨Nat.le_of_ble_eq_true rfl, Nat.le_of_ble_eq_true rfl⟩ (by exact Nat.le_of_ble_eq_true rfl) (by decide +kernel) rfl (cO_plan _ _ _ _) rfl dX5_refresh_38 (K_addUp _ D cy a _ _) rfl (fun vu_3 wu_3 hu_3 => ?_)
    obtain ⟨rfl, rfl⟩ := hu_3
    obtain ⟨R1, hR1⟩ : ∃ R, R = auO R0 10 := ⟨_, rfl⟩
    rw [← hR1]
    refine g_aload_n (i := 0) dX5_refresh_41 rfl rfl ?_
    refine g_iload_n (i := 2) dX5_refresh_42 rfl rfl ?_
    refine g_callVf 1 21 gX5_refresh_X5_listZeroSets rfl rfl rfl ⟨Nat.le_of_ble_eq_true rfl, Nat.le_of_ble_eq_true rfl⟩ ⟨Nat.le_of_ble_eq_true rfl, Nat.le_of_ble_eq_true rfl⟩ (by exact Nat.le_of_ble_eq_true rfl) (by decide +kernel) rfl (cO_plan _ _ _ _) rfl dX5_refresh_43 (K_lz _ D cy a _ _ _ hA) rfl (fun vu_4 wu_4 hu_4 => ?_)
    obtain ⟨rfl, rfl⟩ := hu_4
    obtain ⟨R2, hR2⟩ : ∃ R, R = lzR R1 A A := ⟨_, rfl⟩
    obtain ⟨C, hCA, eC, hz⟩ := lz_inv R1 A A hA
    rw [← hR2] at eC hz ⊢
    have hC : C < 1024 := (by omega)
    refine g_aload_n (i := 0) dX5_refresh_46 rfl rfl ?_
    refine g_callVf 0 21 gX5_refresh_X5_countGroups rfl rfl rfl ⟨Nat.le_of_ble_eq_true rfl, Nat.le_of_ble_eq_true rfl⟩ ⟨Nat.le_of_ble_eq_true rfl, Nat.le_of_ble_eq_true rfl⟩ (by exact Nat.le_of_ble_eq_true rfl) (by decide +kernel) rfl (cO_plan _ _ _ _) rfl dX5_refresh_47 (K_cg _ D cy a _ _ _ hC eC hz) rfl (fun vu_5 wu_5 hu_5 => ?_)
    obtain ⟨rfl, rfl⟩ := hu_5
    obtain ⟨R3, hR3⟩ : ∃ R, R = cgO R2 C := ⟨_, rfl⟩
    rw [← hR3]
    refine g_iconst (0) rfl dX5_refresh_50 ?_
    refine g_istore_n (i := 3) dX5_refresh_51 rfl (by decide) ?_
    have hR41 : R3.1 41 = nI 0 := (by rw [hR3, cgO_1, hR2, lzR_41, hR1, auO_1, hR0, rnF_1]; rfl)
    have hR49 : R3.1 49 = nI C := (by rw [hR3, cgO_1]; exact eC)
    have hR44 : ∀ j, j < C → vp_in (R3.2.2.1 44 j) 1024 := (by intro j hj; rw [hR3, cgO_44]; exact hz j hj)
    refine g_whl (σ := Nat × Int32 × MS) (fun x => x.1) (fun x => x.1 ≤ 10 ∧ vp_in x.2.1 1024 ∧ pwok x.2.2 ∧ x.2.2.1 49 = nI C ∧ (∀ j, j < C → vp_in (x.2.2.2.2.1 44 j) 1024) ∧ rfR C x.1 x.2.1 x.2.2 = rfR C 10 (nI A) R3) (fun x => CW cy a x.2.2 B) (fun x => [(0, .ref (a 205)), (1, .ref (a 201)), (2, .int x.2.1), (3, .int (nI (10 - x.1)))]) (10, nI A, R3) ⟨Nat.le_refl 10, vp_in_nI hA (by decide), ⟨0, by decide, hR41⟩, hR49, hR44, rfl⟩ rfl ⟨rfl, rfl, rfl, rfl, trivial⟩ (fun x gx ih => ?_)
    obtain ⟨n, r, U⟩ := x
    obtain ⟨hn, hr, hok, h49, h44, gx⟩ := gx
    replace hn : n ≤ 10 := hn
    replace hr : vp_in r 1024 := hr
    replace hok : pwok U := hok
    replace h49 : U.1 49 = nI C := h49
    replace h44 : ∀ j, j < C → vp_in (U.2.2.1 44 j) 1024 := h44
    replace gx : rfR C n r U = rfR C 10 (nI A) R3 := gx
    rcases n with _ | m
    · refine g_nrm [(0, .ref (a 205)), (1, .ref (a 201)), (2, .int r), (3, .int (nI 10))] ⟨rfl, rfl, rfl, rfl, trivial⟩ ?_
      refine g_iload_n (i := 3) dX5_refresh_52 rfl rfl ?_
      refine g_bipush (10) rfl dX5_refresh_53 ?_
      refine g_icmp_ge 96 dX5_refresh_55 (by decide) (fun _ => ?_) (fun h9 => absurd h9 (by decide))
      refine g_vret dX5_refresh_96 ?_
      first | exact ⟨rfl, congrArg (fun z => CW cy a z B) ((rfR0 hr0 gx).trans (cf_ref_eq hne hR0 eA hA hR1 hR2 eC hC hR3))⟩ | exact ⟨rfl, congrArg (fun z => CW cy a z B) (gx.trans (cf_ref_eq hne hR0 eA hA hR1 hR2 eC hC hR3))⟩
    · refine g_nrm [(0, .ref (a 205)), (1, .ref (a 201)), (2, .int r), (3, .int (nI (10 - (m + 1))))] ⟨rfl, rfl, rfl, rfl, trivial⟩ ?_
      refine g_iload_n (i := 3) dX5_refresh_52 rfl rfl ?_
      refine g_bipush (10) rfl dX5_refresh_53 ?_
      refine g_icmp_ge 96 dX5_refresh_55 (by decide) (fun c_8 => ?_) (fun c_8 => ?_)
      · skip
        exact absurd c_8 (nI_ge (b := 10) (by omega) (by decide))
      · skip
        refine g_iload_n (i := 2) dX5_refresh_58 rfl rfl ?_
        refine g_if_eq 96 dX5_refresh_59 (by decide) (fun c_9 => ?_) (fun c_9 => ?_)
        · skip
          have hr0 := c_9
          refine g_vret dX5_refresh_96 ?_
          first | exact ⟨rfl, congrArg (fun z => CW cy a z B) ((rfR0 hr0 gx).trans (cf_ref_eq hne hR0 eA hA hR1 hR2 eC hC hR3))⟩ | exact ⟨rfl, congrArg (fun z => CW cy a z B) (gx.trans (cf_ref_eq hne hR0 eA hA hR1 hR2 eC hC hR3))⟩
        · skip
          have hr0 := c_9
          refine g_aload_n (i := 0) dX5_refresh_62 rfl rfl ?_
          refine g_iload_n (i := 2) dX5_refresh_63 rfl rfl ?_
          refine g_callVf 1 21 gX5_refresh_X5_firstGroup rfl rfl rfl ⟨Nat.le_of_ble_eq_true rfl, Nat.le_of_ble_eq_true rfl⟩ ⟨Nat.le_of_ble_eq_true rfl, Nat.le_of_ble_eq_true rfl⟩ (by exact Nat.le_of_ble_eq_true rfl) (by decide +kernel) rfl (cO_plan _ _ _ _) rfl dX5_refresh_64 (K_fg _ D cy a _ _ _ hC h49 h44 _ hr) rfl (fun vu_10 wu_10 hu_10 => ?_)
          obtain ⟨rfl, rfl⟩ := hu_10
          have hfv := fgCv (T := U) hr C 0 (by intro j hj; exact h44 j (by omega))
          refine g_istore dX5_refresh_67 (by decide) ?_
          refine g_aload_n (i := 0) dX5_refresh_69 rfl rfl ?_
          refine g_iload dX5_refresh_70 rfl ?_
          refine g_callVf 1 21 gX5_refresh_X5_payWithin rfl rfl rfl ⟨Nat.le_of_ble_eq_true rfl, Nat.le_of_ble_eq_true rfl⟩ ⟨Nat.le_of_ble_eq_true rfl, Nat.le_of_ble_eq_true rfl⟩ (by exact Nat.le_of_ble_eq_true rfl) (by decide +kernel) rfl (cO_plan _ _ _ _) rfl dX5_refresh_72 (K_pw _ D cy a _ _ _ _ hok.choose_spec.1 hok.choose_spec.2) rfl (fun vu_11 wu_11 hu_11 => ?_)
          obtain ⟨rfl, rfl⟩ := hu_11
          refine g_aload_n (i := 0) dX5_refresh_75 rfl rfl ?_
          refine g_dup rfl dX5_refresh_76 ?_
          refine g_get 21 0 dX5_refresh_77 (List.mem_of_getElem? (i := 3) rfl) (fun w h => List.mem_cons_of_mem _ (List.mem_append_left _ (List.mem_append_right _ h))) (cO_plan _ _ _ _) rfl (by decide) rfl ?_
          refine g_iconst (1) rfl dX5_refresh_80 ?_
          refine g_iadd dX5_refresh_81 ?_
          refine g_put 21 0 _ tyX5 tyX5_ok nmX5 dX5_refresh_82 (List.mem_of_getElem? (i := 3) rfl) (fun w h => List.mem_cons_of_mem _ (List.mem_append_left _ (List.mem_append_right _ h))) (cO_plan _ _ _ _) rfl (by decide) rfl (tyX5_ok 0 (by decide)) rfl rfl (Nat.le_of_ble_eq_true rfl) (cwI_40 _ _ _ _ _) ?_
          refine g_iload_n (i := 2) dX5_refresh_85 rfl rfl ?_
          refine g_iload dX5_refresh_86 rfl ?_
          refine g_ixor dX5_refresh_88 ?_
          refine g_istore_n (i := 2) dX5_refresh_89 rfl (by decide) ?_
          refine g_iinc (1) dX5_refresh_90 rfl rfl (by decide) ?_
          refine g_goto 52 dX5_refresh_93 (by decide) ?_
          obtain ⟨q1, q2, q3, q4⟩ := pwR_kp (fgC U r C 0) 10 U
          exact g_to _ _ (ih (m, r ^^^ fgC U r C 0, rfS U (fgC U r C 0)) ⟨by show m ≤ 10; omega, xorvv hr hfv, q4 hok, q3.trans h49, (by intro j hj; show vp_in ((pwR (fgC U r C 0) 10 U).2.2.1 44 j) 1024; rw [q1]; exact h44 j hj), rfR1 hr0 gx⟩ (Nat.lt_succ_self m)) rfl ⟨rfl, rfl, rfl, (by show some (Value.int (nI (10 - (m + 1)) + 1)) = _; rw [nI_1, show 10 - (m + 1) + 1 = 10 - m by omega]), trivial⟩
  · skip
    refine g_vret dX5_refresh_12 ?_
    unfold cf_ref; rw [if_pos (by assumption)]; exact ⟨rfl, rfl⟩

set_option maxHeartbeats 4000000 in
set_option maxRecDepth 100000 in
/-- hasPayment -/
theorem K_hasP (l : Launch) (D : va_G) (cy : Nat → ClassId) (a : Nat → Nat) (T : MS) (B : List BL) (i : Int32) : Ct l D clx (tyx cy) yX5_hasPayment wsX5_hasPayment (rmC 0) 0 0 [.ref (a 205), .int i] (CW cy a T B) (fun r9 w9 => (r9 = some (.int 1) ∧ (0 ≤ i ∧ i < T.1 41) ∧ w9 = CW cy a T B) ∨ (r9 = some (.int 0) ∧ ¬ (0 ≤ i ∧ i < T.1 41) ∧ w9 = CW cy a T B)) := by
  refine g_start (cc := cX5_hasPayment) (maxL := 2) (ret := (some .boolean)) (by decide) rfl (Nat.le_of_ble_eq_true rfl) (fun v w1 h => by rcases h with ⟨rfl, -, -⟩ | ⟨rfl, -, -⟩ <;> exact ⟨.boolean, rfl, rfl⟩) (fun Γ hlΓ => ?_)
  subst hlΓ
  refine g_iload_n (i := 1) dX5_hasPayment_0 rfl rfl ?_
  refine g_if_lt 16 dX5_hasPayment_1 (by decide) (fun c_1 => ?_) (fun c_1 => ?_)
  · skip
    refine g_iconst (0) rfl dX5_hasPayment_16 ?_
    refine g_iret dX5_hasPayment_17 ?_
    first | exact Or.inl ⟨rfl, ⟨Int32.not_lt.mp c_1, Int32.not_le.mp c_2⟩, rfl⟩ | exact Or.inr ⟨rfl, fun h => absurd h.1 (Int32.not_le.mpr c_1), rfl⟩ | exact Or.inr ⟨rfl, fun h => absurd c_2 (Int32.not_le.mpr h.2), rfl⟩
  · skip
    refine g_iload_n (i := 1) dX5_hasPayment_4 rfl rfl ?_
    refine g_aload_n (i := 0) dX5_hasPayment_5 rfl rfl ?_
    refine g_get 21 1 dX5_hasPayment_6 (List.mem_of_getElem? (i := 1) rfl) (fun w h => List.mem_cons_of_mem _ (List.mem_append_right _ h)) (cO_plan _ _ _ _) rfl (by decide) rfl ?_
    refine g_icmp_ge 16 dX5_hasPayment_9 (by decide) (fun c_2 => ?_) (fun c_2 => ?_)
    · skip
      refine g_iconst (0) rfl dX5_hasPayment_16 ?_
      refine g_iret dX5_hasPayment_17 ?_
      first | exact Or.inl ⟨rfl, ⟨Int32.not_lt.mp c_1, Int32.not_le.mp c_2⟩, rfl⟩ | exact Or.inr ⟨rfl, fun h => absurd h.1 (Int32.not_le.mpr c_1), rfl⟩ | exact Or.inr ⟨rfl, fun h => absurd c_2 (Int32.not_le.mpr h.2), rfl⟩
    · skip
      refine g_iconst (1) rfl dX5_hasPayment_12 ?_
      refine g_goto 17 dX5_hasPayment_13 (by decide) ?_
      refine g_iret dX5_hasPayment_17 ?_
      first | exact Or.inl ⟨rfl, ⟨Int32.not_lt.mp c_1, Int32.not_le.mp c_2⟩, rfl⟩ | exact Or.inr ⟨rfl, fun h => absurd h.1 (Int32.not_le.mpr c_1), rfl⟩ | exact Or.inr ⟨rfl, fun h => absurd c_2 (Int32.not_le.mpr h.2), rfl⟩

def cfgr (T : MS) (i w : Int32) : Int64 := if 0 ≤ i ∧ i < T.1 41 then (if w = 0 then (T.2.2.1 46 i.toNatClampNeg).toInt64 else if w = 1 then (T.2.2.1 47 i.toNatClampNeg).toInt64 else T.2.2.2 48 i.toNatClampNeg) else 0
theorem pw_in {T : MS} (h : pwok T) {i : Int32} (hi : 0 ≤ i ∧ i < T.1 41) : vp_in i 10 := by
  obtain ⟨c, hc, e⟩ := h
  have h1 := hi.1
  have h2 := hi.2
  rw [e, Int32.lt_iff_toInt_lt, nI_toInt (by omega)] at h2
  rw [Int32.le_iff_toInt_le] at h1
  have : (0 : Int32).toInt = 0 := by decide
  rw [vp_in_iff]
  omega
set_option maxHeartbeats 4000000 in
set_option maxRecDepth 100000 in
/-- figure -/
theorem K_figure (l : Launch) (D : va_G) (cy : Nat → ClassId) (a : Nat → Nat) (T : MS) (B : List BL) (hp : pwok T) (i w : Int32) : Ct l D clx (tyx cy) yX5_figure wsX5_figure (rmC 1) 0 0 [.ref (a 205), .int i, .int w] (CW cy a T B) (fun r9 w9 => r9 = some (.long (cfgr T i w)) ∧ w9 = CW cy a T B) := by
  refine g_start (cc := cX5_figure) (maxL := 3) (ret := (some .long)) (by decide) rfl (Nat.le_of_ble_eq_true rfl) (fun v w1 h => by obtain ⟨rfl, -⟩ := h; exact rfl) (fun Γ hlΓ => ?_)
  subst hlΓ
  refine g_aload_n (i := 0) dX5_figure_0 rfl rfl ?_
  refine g_iload_n (i := 1) dX5_figure_1 rfl rfl ?_
  refine g_callVf 1 21 gX5_figure_X5_hasPayment rfl rfl rfl ⟨Nat.le_of_ble_eq_true rfl, Nat.le_of_ble_eq_true rfl⟩ ⟨Nat.le_of_ble_eq_true rfl, Nat.le_of_ble_eq_true rfl⟩ (by exact Nat.le_of_ble_eq_true rfl) (by decide +kernel) rfl (cO_plan _ _ _ _) rfl dX5_figure_2 (K_hasP _ D cy a _ _ _) rfl (fun vu_1 wu_1 hu_1 => ?_)
  rcases hu_1 with ⟨rfl, hu_1, rfl⟩ | ⟨rfl, hu_1, rfl⟩
  · skip
    refine g_if_ne 10 dX5_figure_5 (by decide) (fun _ => ?_) (fun h9 => absurd h9 (by decide))
    refine g_iload_n (i := 2) dX5_figure_10 rfl rfl ?_
    by_cases h5 : w = 0
    · subst h5
      refine g_lksw 36 dX5_figure_11 (by decide) rfl (by decide) ?_
      refine g_aload_n (i := 0) dX5_figure_36 rfl rfl ?_
      refine g_get 21 6 dX5_figure_37 (List.mem_of_getElem? (i := 1) rfl) (fun w h => List.mem_cons_of_mem _ (List.mem_append_right _ h)) (cO_plan _ _ _ _) rfl (by decide) rfl ?_
      refine g_iload_n (i := 1) dX5_figure_40 rfl rfl ?_
      refine c_ald_46 dX5_figure_41 (pw_in hp (by assumption)) ?_
      refine g_i2l dX5_figure_42 ?_
      refine g_lret dX5_figure_43 ?_
      unfold cfgr; first | (rw [if_neg (by assumption)]; exact ⟨rfl, rfl⟩) | (rw [if_pos (by assumption), if_pos rfl]; exact ⟨rfl, rfl⟩) | (rw [if_pos (by assumption), if_neg (by decide), if_pos rfl]; exact ⟨rfl, rfl⟩) | (rw [if_pos (by assumption), if_neg (by assumption), if_neg (by assumption)]; exact ⟨rfl, rfl⟩)
    by_cases h6 : w = 1
    · subst h6
      refine g_lksw 44 dX5_figure_11 (by decide) rfl (by decide) ?_
      refine g_aload_n (i := 0) dX5_figure_44 rfl rfl ?_
      refine g_get 21 7 dX5_figure_45 (List.mem_of_getElem? (i := 2) rfl) (fun w h => List.mem_cons_of_mem _ (List.mem_append_right _ h)) (cO_plan _ _ _ _) rfl (by decide) rfl ?_
      refine g_iload_n (i := 1) dX5_figure_48 rfl rfl ?_
      refine c_ald_47 dX5_figure_49 (pw_in hp (by assumption)) ?_
      refine g_i2l dX5_figure_50 ?_
      refine g_lret dX5_figure_51 ?_
      unfold cfgr; first | (rw [if_neg (by assumption)]; exact ⟨rfl, rfl⟩) | (rw [if_pos (by assumption), if_pos rfl]; exact ⟨rfl, rfl⟩) | (rw [if_pos (by assumption), if_neg (by decide), if_pos rfl]; exact ⟨rfl, rfl⟩) | (rw [if_pos (by assumption), if_neg (by assumption), if_neg (by assumption)]; exact ⟨rfl, rfl⟩)
    refine g_lksw (off := 41) 52 dX5_figure_11 (by decide) ((lv_osw h5 rfl).trans ((lv_osw h6 rfl).trans rfl)) (by decide) ?_
    refine g_aload_n (i := 0) dX5_figure_52 rfl rfl ?_
    refine g_get 21 8 dX5_figure_53 (List.mem_of_getElem? (i := 3) rfl) (fun w h => List.mem_cons_of_mem _ (List.mem_append_right _ h)) (cO_plan _ _ _ _) rfl (by decide) rfl ?_
    refine g_iload_n (i := 1) dX5_figure_56 rfl rfl ?_
    refine c_ald_48 dX5_figure_57 (pw_in hp (by assumption)) ?_
    refine g_lret dX5_figure_58 ?_
    unfold cfgr; first | (rw [if_neg (by assumption)]; exact ⟨rfl, rfl⟩) | (rw [if_pos (by assumption), if_pos rfl]; exact ⟨rfl, rfl⟩) | (rw [if_pos (by assumption), if_neg (by decide), if_pos rfl]; exact ⟨rfl, rfl⟩) | (rw [if_pos (by assumption), if_neg (by assumption), if_neg (by assumption)]; exact ⟨rfl, rfl⟩)
  · skip
    refine g_if_ne 10 dX5_figure_5 (by decide) (fun h9 => absurd h9 (by decide)) (fun _ => ?_)
    refine g_lconst 0 rfl dX5_figure_8 ?_
    refine g_lret dX5_figure_9 ?_
    unfold cfgr; first | (rw [if_neg (by assumption)]; exact ⟨rfl, rfl⟩) | (rw [if_pos (by assumption), if_pos rfl]; exact ⟨rfl, rfl⟩) | (rw [if_pos (by assumption), if_neg (by decide), if_pos rfl]; exact ⟨rfl, rfl⟩) | (rw [if_pos (by assumption), if_neg (by assumption), if_neg (by assumption)]; exact ⟨rfl, rfl⟩)

def cf_plan (T : MS) (g : Int32) : Int64 × MS := if g = 0 then (((cf_ref T).1 41).toInt64, cf_ref T) else (((cf_ref T).1 40).toInt64, cf_ref T)
set_option maxHeartbeats 4000000 in
set_option maxRecDepth 100000 in
/-- plan -/
theorem K_plan (l : Launch) (D : va_G) (cy : Nat → ClassId) (a : Nat → Nat) (T : MS) (B : List BL) (g : Int32) : Ct l D clx (tyx cy) yX8_plan wsX8_plan (rmC 3) 0 0 [.ref (a 200), .int g] (CW cy a T B) (fun r9 w9 => r9 = some (.long (cf_plan T g).1) ∧ w9 = CW cy a (cf_plan T g).2 B) := by
  refine g_start (cc := cX8_plan) (maxL := 2) (ret := (some .long)) (by decide) rfl (Nat.le_of_ble_eq_true rfl) (fun v w1 h => by obtain ⟨rfl, -⟩ := h; exact rfl) (fun Γ hlΓ => ?_)
  subst hlΓ
  refine g_aload_n (i := 0) dX8_plan_0 rfl rfl ?_
  refine g_get 0 8 dX8_plan_1 (List.mem_of_getElem? (i := 1) rfl) (fun w h => List.mem_cons_of_mem _ (List.mem_append_left _ (List.mem_append_left _ (List.mem_append_right _ h)))) (cO_main _ _ _ _) rfl (by decide) rfl ?_
  refine g_aload_n (i := 0) dX8_plan_4 rfl rfl ?_
  refine g_get 0 7 dX8_plan_5 (List.mem_of_getElem? (i := 2) rfl) (fun w h => List.mem_cons_of_mem _ (List.mem_append_left _ (List.mem_append_left _ (List.mem_append_right _ h)))) (cO_main _ _ _ _) rfl (by decide) rfl ?_
  refine g_callVf 1 21 gX8_plan_X5_refresh rfl rfl rfl ⟨Nat.le_of_ble_eq_true rfl, Nat.le_of_ble_eq_true rfl⟩ ⟨Nat.le_of_ble_eq_true rfl, Nat.le_of_ble_eq_true rfl⟩ (by exact Nat.le_of_ble_eq_true rfl) (by decide +kernel) rfl (cO_plan _ _ _ _) rfl dX8_plan_8 (K_ref _ D cy a _ _) rfl (fun vu_1 wu_1 hu_1 => ?_)
  obtain ⟨rfl, rfl⟩ := hu_1
  obtain ⟨U, hU⟩ : ∃ R, R = cf_ref T := ⟨_, rfl⟩
  rw [← hU]
  refine g_iload_n (i := 1) dX8_plan_11 rfl rfl ?_
  refine g_if_eq 26 dX8_plan_12 (by decide) (fun c_2 => ?_) (fun c_2 => ?_)
  · skip
    refine g_aload_n (i := 0) dX8_plan_26 rfl rfl ?_
    refine g_get 0 8 dX8_plan_27 (List.mem_of_getElem? (i := 1) rfl) (fun w h => List.mem_cons_of_mem _ (List.mem_append_left _ (List.mem_append_left _ (List.mem_append_right _ h)))) (cO_main _ _ _ _) rfl (by decide) rfl ?_
    refine g_get 21 1 dX8_plan_30 (List.mem_of_getElem? (i := 4) rfl) (fun w h => List.mem_cons_of_mem _ (List.mem_append_left _ (List.mem_append_right _ h))) (cO_plan _ _ _ _) rfl (by decide) rfl ?_
    refine g_i2l dX8_plan_33 ?_
    refine g_lret dX8_plan_34 ?_
    unfold cf_plan; rw [← hU]; clear hU; first | (rw [if_pos (by assumption)]; exact ⟨rfl, rfl⟩) | (rw [if_neg (by assumption)]; exact ⟨rfl, rfl⟩)
  · skip
    refine g_aload_n (i := 0) dX8_plan_15 rfl rfl ?_
    refine g_get 0 8 dX8_plan_16 (List.mem_of_getElem? (i := 1) rfl) (fun w h => List.mem_cons_of_mem _ (List.mem_append_left _ (List.mem_append_left _ (List.mem_append_right _ h)))) (cO_main _ _ _ _) rfl (by decide) rfl ?_
    refine g_get 21 0 dX8_plan_19 (List.mem_of_getElem? (i := 3) rfl) (fun w h => List.mem_cons_of_mem _ (List.mem_append_left _ (List.mem_append_right _ h))) (cO_plan _ _ _ _) rfl (by decide) rfl ?_
    refine g_i2l dX8_plan_22 ?_
    refine g_goto 34 dX8_plan_23 (by decide) ?_
    refine g_lret dX8_plan_34 ?_
    unfold cf_plan; rw [← hU]; clear hU; first | (rw [if_pos (by assumption)]; exact ⟨rfl, rfl⟩) | (rw [if_neg (by assumption)]; exact ⟨rfl, rfl⟩)

theorem rfR_ok (C : Nat) : ∀ (n : Nat) (r : Int32) (T : MS), pwok T → pwok (rfR C n r T)
  | 0, _, _, h => h
  | n + 1, r, T, h => by
    by_cases hr : r = 0
    · rw [← rfR0 hr rfl]; exact h
    · rw [← rfR1 hr rfl]
      exact rfR_ok C n _ _ ((pwR_kp _ 10 T).2.2.2 h)
theorem ref_ok {T : MS} (h : pwok T) : pwok (cf_ref T) := by
  unfold cf_ref
  split
  · exact h
  · refine rfR_ok _ _ _ _ ⟨0, by decide, ?_⟩
    unfold rf5 rf4
    rw [cgO_1, lzR_41, auO_1, rnF_1]
    rfl
def cf_payment (T : MS) (i w : Int32) : Int64 × MS := if 0 ≤ w ∧ w ≤ 2 then (if 0 ≤ i ∧ i < (cf_ref T).1 41 then (cfgr (cf_ref T) i w, cf_ref T) else cf_fd (cf_ref T) 2) else cf_fd T 1
set_option maxHeartbeats 4000000 in
set_option maxRecDepth 100000 in
/-- payment -/
theorem K_payment (l : Launch) (D : va_G) (cy : Nat → ClassId) (a : Nat → Nat) (T : MS) (B : List BL) (hp0 : pwok T) (i w : Int32) : Ct l D clx (tyx cy) yX8_payment wsX8_payment (rmC 3) 0 0 [.ref (a 200), .int i, .int w] (CW cy a T B) (fun r9 w9 => r9 = some (.long (cf_payment T i w).1) ∧ w9 = CW cy a (cf_payment T i w).2 B) := by
  refine g_start (cc := cX8_payment) (maxL := 3) (ret := (some .long)) (by decide) rfl (Nat.le_of_ble_eq_true rfl) (fun v w1 h => by obtain ⟨rfl, -⟩ := h; exact rfl) (fun Γ hlΓ => ?_)
  subst hlΓ
  refine g_iload_n (i := 2) dX8_payment_0 rfl rfl ?_
  refine g_if_lt 9 dX8_payment_1 (by decide) (fun c_1 => ?_) (fun c_1 => ?_)
  · skip
    refine g_aload_n (i := 0) dX8_payment_9 rfl rfl ?_
    refine g_iconst (1) rfl dX8_payment_10 ?_
    refine g_callVf 1 0 gX8_payment_X8_finding rfl rfl rfl ⟨Nat.le_of_ble_eq_true rfl, Nat.le_of_ble_eq_true rfl⟩ ⟨Nat.le_of_ble_eq_true rfl, Nat.le_of_ble_eq_true rfl⟩ (by exact Nat.le_of_ble_eq_true rfl) (by decide +kernel) rfl (cO_main _ _ _ _) rfl dX8_payment_11 (K_finding _ D cy a _ _ _ (by unfold vp_in; decide)) rfl (fun vu_2 wu_2 hu_2 => ?_)
    obtain ⟨rfl, rfl⟩ := hu_2
    refine g_lret dX8_payment_14 ?_
    unfold cf_payment; rw [if_neg (by intro h9; first | exact absurd h9.1 (Int32.not_le.mpr (by assumption)) | exact absurd h9.2 (by assumption))]; exact ⟨rfl, rfl⟩
  · skip
    refine g_iload_n (i := 2) dX8_payment_4 rfl rfl ?_
    refine g_iconst (2) rfl dX8_payment_5 ?_
    refine g_icmp_le 15 dX8_payment_6 (by decide) (fun c_3 => ?_) (fun c_3 => ?_)
    · skip
      refine g_aload_n (i := 0) dX8_payment_15 rfl rfl ?_
      refine g_get 0 8 dX8_payment_16 (List.mem_of_getElem? (i := 1) rfl) (fun w h => List.mem_cons_of_mem _ (List.mem_append_left _ (List.mem_append_left _ (List.mem_append_right _ h)))) (cO_main _ _ _ _) rfl (by decide) rfl ?_
      refine g_aload_n (i := 0) dX8_payment_19 rfl rfl ?_
      refine g_get 0 7 dX8_payment_20 (List.mem_of_getElem? (i := 2) rfl) (fun w h => List.mem_cons_of_mem _ (List.mem_append_left _ (List.mem_append_left _ (List.mem_append_right _ h)))) (cO_main _ _ _ _) rfl (by decide) rfl ?_
      refine g_callVf 1 21 gX8_payment_X5_refresh rfl rfl rfl ⟨Nat.le_of_ble_eq_true rfl, Nat.le_of_ble_eq_true rfl⟩ ⟨Nat.le_of_ble_eq_true rfl, Nat.le_of_ble_eq_true rfl⟩ (by exact Nat.le_of_ble_eq_true rfl) (by decide +kernel) rfl (cO_plan _ _ _ _) rfl dX8_payment_23 (K_ref _ D cy a _ _) rfl (fun vu_4 wu_4 hu_4 => ?_)
      obtain ⟨rfl, rfl⟩ := hu_4
      have hp := ref_ok hp0
      obtain ⟨U, hU⟩ : ∃ R, R = cf_ref T := ⟨_, rfl⟩
      rw [← hU] at hp ⊢
      refine g_aload_n (i := 0) dX8_payment_26 rfl rfl ?_
      refine g_get 0 8 dX8_payment_27 (List.mem_of_getElem? (i := 1) rfl) (fun w h => List.mem_cons_of_mem _ (List.mem_append_left _ (List.mem_append_left _ (List.mem_append_right _ h)))) (cO_main _ _ _ _) rfl (by decide) rfl ?_
      refine g_iload_n (i := 1) dX8_payment_30 rfl rfl ?_
      refine g_callVf 1 21 gX8_payment_X5_hasPayment rfl rfl rfl ⟨Nat.le_of_ble_eq_true rfl, Nat.le_of_ble_eq_true rfl⟩ ⟨Nat.le_of_ble_eq_true rfl, Nat.le_of_ble_eq_true rfl⟩ (by exact Nat.le_of_ble_eq_true rfl) (by decide +kernel) rfl (cO_plan _ _ _ _) rfl dX8_payment_31 (K_hasP _ D cy a _ _ _) rfl (fun vu_5 wu_5 hu_5 => ?_)
      rcases hu_5 with ⟨rfl, hu_5, rfl⟩ | ⟨rfl, hu_5, rfl⟩
      · skip
        refine g_if_ne 43 dX8_payment_34 (by decide) (fun _ => ?_) (fun h9 => absurd h9 (by decide))
        refine g_aload_n (i := 0) dX8_payment_43 rfl rfl ?_
        refine g_get 0 8 dX8_payment_44 (List.mem_of_getElem? (i := 1) rfl) (fun w h => List.mem_cons_of_mem _ (List.mem_append_left _ (List.mem_append_left _ (List.mem_append_right _ h)))) (cO_main _ _ _ _) rfl (by decide) rfl ?_
        refine g_iload_n (i := 1) dX8_payment_47 rfl rfl ?_
        refine g_iload_n (i := 2) dX8_payment_48 rfl rfl ?_
        refine g_callVf 2 21 gX8_payment_X5_figure rfl rfl rfl ⟨Nat.le_of_ble_eq_true rfl, Nat.le_of_ble_eq_true rfl⟩ ⟨Nat.le_of_ble_eq_true rfl, Nat.le_of_ble_eq_true rfl⟩ (by exact Nat.le_of_ble_eq_true rfl) (by decide +kernel) rfl (cO_plan _ _ _ _) rfl dX8_payment_49 (K_figure _ D cy a _ _ hp _ _) rfl (fun vu_7 wu_7 hu_7 => ?_)
        obtain ⟨rfl, rfl⟩ := hu_7
        refine g_lret dX8_payment_52 ?_
        unfold cf_payment; rw [← hU]; clear hU; rw [if_pos ⟨Int32.not_lt.mp (by assumption), by assumption⟩]; first | (rw [if_neg (by assumption)]; exact ⟨rfl, rfl⟩) | (rw [if_pos (by assumption)]; exact ⟨rfl, rfl⟩)
      · skip
        refine g_if_ne 43 dX8_payment_34 (by decide) (fun h9 => absurd h9 (by decide)) (fun _ => ?_)
        refine g_aload_n (i := 0) dX8_payment_37 rfl rfl ?_
        refine g_iconst (2) rfl dX8_payment_38 ?_
        refine g_callVf 1 0 gX8_payment_X8_finding rfl rfl rfl ⟨Nat.le_of_ble_eq_true rfl, Nat.le_of_ble_eq_true rfl⟩ ⟨Nat.le_of_ble_eq_true rfl, Nat.le_of_ble_eq_true rfl⟩ (by exact Nat.le_of_ble_eq_true rfl) (by decide +kernel) rfl (cO_main _ _ _ _) rfl dX8_payment_39 (K_finding _ D cy a _ _ _ (by unfold vp_in; decide)) rfl (fun vu_9 wu_9 hu_9 => ?_)
        obtain ⟨rfl, rfl⟩ := hu_9
        refine g_lret dX8_payment_42 ?_
        unfold cf_payment; rw [← hU]; clear hU; rw [if_pos ⟨Int32.not_lt.mp (by assumption), by assumption⟩]; first | (rw [if_neg (by assumption)]; exact ⟨rfl, rfl⟩) | (rw [if_pos (by assumption)]; exact ⟨rfl, rfl⟩)
    · skip
      refine g_aload_n (i := 0) dX8_payment_9 rfl rfl ?_
      refine g_iconst (1) rfl dX8_payment_10 ?_
      refine g_callVf 1 0 gX8_payment_X8_finding rfl rfl rfl ⟨Nat.le_of_ble_eq_true rfl, Nat.le_of_ble_eq_true rfl⟩ ⟨Nat.le_of_ble_eq_true rfl, Nat.le_of_ble_eq_true rfl⟩ (by exact Nat.le_of_ble_eq_true rfl) (by decide +kernel) rfl (cO_main _ _ _ _) rfl dX8_payment_11 (K_finding _ D cy a _ _ _ (by unfold vp_in; decide)) rfl (fun vu_10 wu_10 hu_10 => ?_)
      obtain ⟨rfl, rfl⟩ := hu_10
      refine g_lret dX8_payment_14 ?_
      unfold cf_payment; rw [if_neg (by intro h9; first | exact absurd h9.1 (Int32.not_le.mpr (by assumption)) | exact absurd h9.2 (by assumption))]; exact ⟨rfl, rfl⟩

