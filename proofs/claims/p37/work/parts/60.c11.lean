theorem ciP_pw {T : MS} (h : ciP T) : pwok T := h.1
theorem pwR_P (g : Int32) : ∀ (n : Nat) (T : MS), ciP T → ciP (pwR g n T)
  | 0, _, h => h
  | n + 1, T, h => by
    cases h1 : lsC T g (-1) 10 0 with
    | none => rw [← pwRa h1 rfl]; exact h
    | some p =>
      cases h2 : lsC T g 1 10 0 with
      | none => rw [← pwRb h1 h2 rfl]; exact h
      | some q =>
        by_cases h3 : T.1 41 < 10
        · rw [← pwRd h1 h2 h3 rfl]
          refine pwR_P g n (pwS T p q) ?_
          obtain ⟨⟨c, hc, e⟩, hv⟩ := h
          have hp := lsC_lt h1
          have hq := lsC_lt h2
          refine ⟨⟨c + 1, by have := p41 e hc h3; omega, by show T.1 41 + 1 = _; rw [e, nI_1]⟩, fun i hi => ⟨?_, ?_⟩⟩
          · show vp_in (upd (T.2.2.1 46) (T.1 41).toNatClampNeg (nI p) i) 10
            by_cases ei : i = (T.1 41).toNatClampNeg
            · subst ei; rw [pk_us]; exact vp_in_nI (by omega) (by decide)
            · rw [pk_un ei]; exact (hv i hi).1
          · show vp_in (upd (T.2.2.1 47) (T.1 41).toNatClampNeg (nI q) i) 10
            by_cases ei : i = (T.1 41).toNatClampNeg
            · subst ei; rw [pk_us]; exact vp_in_nI (by omega) (by decide)
            · rw [pk_un ei]; exact (hv i hi).2
        · rw [← pwRc h1 h2 h3 rfl]; exact h
theorem rfR_P (C : Nat) : ∀ (n : Nat) (r : Int32) (T : MS), ciP T → ciP (rfR C n r T)
  | 0, _, _, h => h
  | n + 1, r, T, h => by
    by_cases hr : r = 0
    · rw [← rfR0 hr rfl]; exact h
    · rw [← rfR1 hr rfl]
      exact rfR_P C n _ _ (pwR_P _ 10 T h)
theorem rnF_46 (T : MS) : ∀ i, (rnF T i).2.2.1 = T.2.2.1
  | 0 => rfl
  | i + 1 => rnF_46 T i
theorem auI_46 (T : MS) (h : Nat) : ∀ i, (auI T h i).2.2.1 = T.2.2.1
  | 0 => rfl
  | i + 1 => auI_46 T h i
theorem auO_46 (T : MS) : ∀ i, (auO T i).2.2.1 = T.2.2.1
  | 0 => rfl
  | i + 1 => (auI_46 (auO T i) i (2 ^ i)).trans (auO_46 T i)
theorem lzR_46 (T : MS) (A : Nat) : ∀ s, (lzR T A s).2.2.1 46 = T.2.2.1 46 ∧ (lzR T A s).2.2.1 47 = T.2.2.1 47
  | 0 => ⟨rfl, rfl⟩
  | s + 1 => by
    by_cases h : lzP (lzR T A s) A (s + 1)
    · rw [lz0 h]; exact lzR_46 T A s
    · rw [lz1 h]; exact lzR_46 T A s
theorem cgO_46 (T : MS) : ∀ i, (cgO T i).2.2.1 46 = T.2.2.1 46 ∧ (cgO T i).2.2.1 47 = T.2.2.1 47
  | 0 => ⟨rfl, rfl⟩
  | i + 1 => cgO_46 T i
theorem ref_P {T : MS} (h : ciP T) : ciP (cf_ref T) := by
  unfold cf_ref
  split
  · exact h
  · refine rfR_P _ _ _ _ ⟨⟨0, by decide, ?_⟩, fun i hi => ?_⟩
    · unfold rf5 rf4
      rw [cgO_1, lzR_41, auO_1, rnF_1]
      rfl
    · unfold rf5 rf4
      rw [(cgO_46 _ _).1, (cgO_46 _ _).2, (lzR_46 _ _ _).1, (lzR_46 _ _ _).2, auO_46, rnF_46]
      exact h.2 i hi
/-- payment after payment is charged on the wiped book -/
def clS (V : MS) (i : Nat) : MS := cf_charge V (cfgr V (nI i) 0).toInt32 (cfgr V (nI i) 1).toInt32 (cfgr V (nI i) 2)
def ccl (U : MS) : Nat → MS
  | 0 => cf_wipe U
  | i + 1 => clS (ccl U i) i
theorem ccl_1 (U : MS) : ∀ i, (ccl U i).1 = U.1
  | 0 => rfl
  | i + 1 => ccl_1 U i
theorem ccl_3 (U : MS) : ∀ i, (ccl U i).2.2.1 = U.2.2.1
  | 0 => rfl
  | i + 1 => ccl_3 U i
theorem ccl_P {U : MS} (h : ciP U) (i : Nat) : ciP (ccl U i) := by
  unfold ciP
  rw [ccl_1, ccl_3]
  exact h
theorem t64 (x : Int32) : x.toInt64.toInt32 = x := by
  apply Int32.toInt_inj.mp
  simp
theorem fig_in {V : MS} (h : ciP V) {i c : Nat} (hi : i < c) (hc : c ≤ 10) (e : V.1 41 = nI c) : vp_in (cfgr V (nI i) 0).toInt32 10 ∧ vp_in (cfgr V (nI i) 1).toInt32 10 := by
  have hc1 : 0 ≤ nI i ∧ nI i < V.1 41 := by
    rw [e]
    exact ⟨nI_pos' (by omega), nI_lt hi (by omega)⟩
  constructor
  · unfold cfgr
    rw [if_pos hc1, if_pos rfl, t64, nI_clamp (by omega)]
    exact (h.2 i (by omega)).1
  · unfold cfgr
    rw [if_pos hc1, if_neg (by decide), if_pos rfl, t64, nI_clamp (by omega)]
    exact (h.2 i (by omega)).2
def cf_clear (T : MS) : Int64 × MS := (ctot (ccl (cf_ref T) ((cf_ref T).1 41).toNatClampNeg) 100, ccl (cf_ref T) ((cf_ref T).1 41).toNatClampNeg)
set_option maxHeartbeats 4000000 in
set_option maxRecDepth 100000 in
/-- clear -/
theorem K_clear (l : Launch) (D : va_G) (cy : Nat → ClassId) (a : Nat → Nat) (T : MS) (B : List BL) (hp0 : ciP T) : Ct l D clx (tyx cy) yX8_clear wsX8_clear (rmC 3) 0 0 [.ref (a 200)] (CW cy a T B) (fun r9 w9 => r9 = some (.long (cf_clear T).1) ∧ w9 = CW cy a (cf_clear T).2 B) := by
  refine g_start (cc := cX8_clear) (maxL := 2) (ret := (some .long)) (by decide) rfl (Nat.le_of_ble_eq_true rfl) (fun v w1 h => by obtain ⟨rfl, -⟩ := h; exact rfl) (fun Γ hlΓ => ?_)
  subst hlΓ
  refine g_aload_n (i := 0) dX8_clear_0 rfl rfl ?_
  refine g_get 0 8 dX8_clear_1 (List.mem_of_getElem? (i := 1) rfl) (fun w h => List.mem_cons_of_mem _ (List.mem_append_left _ (List.mem_append_left _ (List.mem_append_right _ h)))) (cO_main _ _ _ _) rfl (by decide) rfl ?_
  refine g_aload_n (i := 0) dX8_clear_4 rfl rfl ?_
  refine g_get 0 7 dX8_clear_5 (List.mem_of_getElem? (i := 2) rfl) (fun w h => List.mem_cons_of_mem _ (List.mem_append_left _ (List.mem_append_left _ (List.mem_append_right _ h)))) (cO_main _ _ _ _) rfl (by decide) rfl ?_
  refine g_callVf 1 21 gX8_clear_X5_refresh rfl rfl rfl ⟨Nat.le_of_ble_eq_true rfl, Nat.le_of_ble_eq_true rfl⟩ ⟨Nat.le_of_ble_eq_true rfl, Nat.le_of_ble_eq_true rfl⟩ (by exact Nat.le_of_ble_eq_true rfl) (by decide +kernel) rfl (cO_plan _ _ _ _) rfl dX8_clear_8 (K_ref _ D cy a _ _) rfl (fun vu_1 wu_1 hu_1 => ?_)
  obtain ⟨rfl, rfl⟩ := hu_1
  have hp := ref_P hp0
  obtain ⟨U, hU⟩ : ∃ R, R = cf_ref T := ⟨_, rfl⟩
  rw [← hU] at hp ⊢
  obtain ⟨N9, hN8, hN9⟩ := hp.1
  refine g_aload_n (i := 0) dX8_clear_11 rfl rfl ?_
  refine g_get 0 7 dX8_clear_12 (List.mem_of_getElem? (i := 2) rfl) (fun w h => List.mem_cons_of_mem _ (List.mem_append_left _ (List.mem_append_left _ (List.mem_append_right _ h)))) (cO_main _ _ _ _) rfl (by decide) rfl ?_
  refine g_callVf 0 9 gX8_clear_X1_wipe rfl rfl rfl ⟨Nat.le_of_ble_eq_true rfl, Nat.le_of_ble_eq_true rfl⟩ ⟨Nat.le_of_ble_eq_true rfl, Nat.le_of_ble_eq_true rfl⟩ (by exact Nat.le_of_ble_eq_true rfl) (by decide +kernel) rfl (cO_book _ _ _ _) rfl dX8_clear_15 (K_wipe _ D cy a _ _) rfl (fun vu_2 wu_2 hu_2 => ?_)
  obtain ⟨rfl, rfl⟩ := hu_2
  refine g_iconst (0) rfl dX8_clear_18 ?_
  refine g_istore_n (i := 1) dX8_clear_19 rfl (by decide) ?_
  refine g_cnt N9 (fun i => True) (fun i => CW cy a (ccl U i) B) (fun i => [(0, .ref (a 200)), (1, .int (nI i))]) 0 (by first | decide | omega) trivial (by rfl) (by refine ⟨rfl, rfl, trivial⟩) ?_ (fun i3 hi3 gi3 ihi3 => ?_)
  · intro gNi3
    refine g_iload_n (i := 1) dX8_clear_20 rfl rfl ?_
    refine g_aload_n (i := 0) dX8_clear_21 rfl rfl ?_
    refine g_get 0 8 dX8_clear_22 (List.mem_of_getElem? (i := 1) rfl) (fun w h => List.mem_cons_of_mem _ (List.mem_append_left _ (List.mem_append_left _ (List.mem_append_right _ h)))) (cO_main _ _ _ _) rfl (by decide) rfl ?_
    refine g_get 21 1 dX8_clear_25 (List.mem_of_getElem? (i := 3) rfl) (fun w h => List.mem_cons_of_mem _ (List.mem_append_left _ (List.mem_append_right _ h))) (cO_plan _ _ _ _) rfl (by decide) rfl ?_
    refine g_icmp_ge 73 dX8_clear_28 (by decide) (fun c_4 => ?_) (fun c_4 => ?_)
    · skip
      refine g_aload_n (i := 0) dX8_clear_73 rfl rfl ?_
      refine g_get 0 7 dX8_clear_74 (List.mem_of_getElem? (i := 2) rfl) (fun w h => List.mem_cons_of_mem _ (List.mem_append_left _ (List.mem_append_left _ (List.mem_append_right _ h)))) (cO_main _ _ _ _) rfl (by decide) rfl ?_
      refine g_callVf 0 9 gX8_clear_X1_total rfl rfl rfl ⟨Nat.le_of_ble_eq_true rfl, Nat.le_of_ble_eq_true rfl⟩ ⟨Nat.le_of_ble_eq_true rfl, Nat.le_of_ble_eq_true rfl⟩ (by exact Nat.le_of_ble_eq_true rfl) (by decide +kernel) rfl (cO_book _ _ _ _) rfl dX8_clear_77 (K_total _ D cy a _ _) rfl (fun vu_5 wu_5 hu_5 => ?_)
      obtain ⟨rfl, rfl⟩ := hu_5
      refine g_lret dX8_clear_80 ?_
      unfold cf_clear; rw [← hU, hN9, nI_clamp (by omega)]; exact ⟨rfl, rfl⟩
    · skip
      exact absurd (by rw [ccl_1, hN9]; exact nI_le (Nat.le_refl _) (by omega)) c_4
  · skip
    have hq9 := ccl_P hp i3
    have hf9 := fig_in hq9 hi3 hN8 (by rw [ccl_1]; exact hN9)
    refine g_iload_n (i := 1) dX8_clear_20 rfl rfl ?_
    refine g_aload_n (i := 0) dX8_clear_21 rfl rfl ?_
    refine g_get 0 8 dX8_clear_22 (List.mem_of_getElem? (i := 1) rfl) (fun w h => List.mem_cons_of_mem _ (List.mem_append_left _ (List.mem_append_left _ (List.mem_append_right _ h)))) (cO_main _ _ _ _) rfl (by decide) rfl ?_
    refine g_get 21 1 dX8_clear_25 (List.mem_of_getElem? (i := 3) rfl) (fun w h => List.mem_cons_of_mem _ (List.mem_append_left _ (List.mem_append_right _ h))) (cO_plan _ _ _ _) rfl (by decide) rfl ?_
    refine g_icmp_ge 73 dX8_clear_28 (by decide) (fun c_6 => ?_) (fun c_6 => ?_)
    · skip
      exact absurd c_6 (by rw [ccl_1, hN9]; exact nI_ge hi3 (by omega))
    · skip
      refine g_aload_n (i := 0) dX8_clear_31 rfl rfl ?_
      refine g_get 0 7 dX8_clear_32 (List.mem_of_getElem? (i := 2) rfl) (fun w h => List.mem_cons_of_mem _ (List.mem_append_left _ (List.mem_append_left _ (List.mem_append_right _ h)))) (cO_main _ _ _ _) rfl (by decide) rfl ?_
      refine g_aload_n (i := 0) dX8_clear_35 rfl rfl ?_
      refine g_get 0 8 dX8_clear_36 (List.mem_of_getElem? (i := 1) rfl) (fun w h => List.mem_cons_of_mem _ (List.mem_append_left _ (List.mem_append_left _ (List.mem_append_right _ h)))) (cO_main _ _ _ _) rfl (by decide) rfl ?_
      refine g_iload_n (i := 1) dX8_clear_39 rfl rfl ?_
      refine g_iconst (0) rfl dX8_clear_40 ?_
      refine g_callVf 2 21 gX8_clear_X5_figure rfl rfl rfl ⟨Nat.le_of_ble_eq_true rfl, Nat.le_of_ble_eq_true rfl⟩ ⟨Nat.le_of_ble_eq_true rfl, Nat.le_of_ble_eq_true rfl⟩ (by exact Nat.le_of_ble_eq_true rfl) (by decide +kernel) rfl (cO_plan _ _ _ _) rfl dX8_clear_41 (K_figure _ D cy a _ _ hq9.1 _ _) rfl (fun vu_7 wu_7 hu_7 => ?_)
      obtain ⟨rfl, rfl⟩ := hu_7
      refine g_l2i dX8_clear_44 ?_
      refine g_aload_n (i := 0) dX8_clear_45 rfl rfl ?_
      refine g_get 0 8 dX8_clear_46 (List.mem_of_getElem? (i := 1) rfl) (fun w h => List.mem_cons_of_mem _ (List.mem_append_left _ (List.mem_append_left _ (List.mem_append_right _ h)))) (cO_main _ _ _ _) rfl (by decide) rfl ?_
      refine g_iload_n (i := 1) dX8_clear_49 rfl rfl ?_
      refine g_iconst (1) rfl dX8_clear_50 ?_
      refine g_callVf 2 21 gX8_clear_X5_figure rfl rfl rfl ⟨Nat.le_of_ble_eq_true rfl, Nat.le_of_ble_eq_true rfl⟩ ⟨Nat.le_of_ble_eq_true rfl, Nat.le_of_ble_eq_true rfl⟩ (by exact Nat.le_of_ble_eq_true rfl) (by decide +kernel) rfl (cO_plan _ _ _ _) rfl dX8_clear_51 (K_figure _ D cy a _ _ hq9.1 _ _) rfl (fun vu_8 wu_8 hu_8 => ?_)
      obtain ⟨rfl, rfl⟩ := hu_8
      refine g_l2i dX8_clear_54 ?_
      refine g_aload_n (i := 0) dX8_clear_55 rfl rfl ?_
      refine g_get 0 8 dX8_clear_56 (List.mem_of_getElem? (i := 1) rfl) (fun w h => List.mem_cons_of_mem _ (List.mem_append_left _ (List.mem_append_left _ (List.mem_append_right _ h)))) (cO_main _ _ _ _) rfl (by decide) rfl ?_
      refine g_iload_n (i := 1) dX8_clear_59 rfl rfl ?_
      refine g_iconst (2) rfl dX8_clear_60 ?_
      refine g_callVf 2 21 gX8_clear_X5_figure rfl rfl rfl ⟨Nat.le_of_ble_eq_true rfl, Nat.le_of_ble_eq_true rfl⟩ ⟨Nat.le_of_ble_eq_true rfl, Nat.le_of_ble_eq_true rfl⟩ (by exact Nat.le_of_ble_eq_true rfl) (by decide +kernel) rfl (cO_plan _ _ _ _) rfl dX8_clear_61 (K_figure _ D cy a _ _ hq9.1 _ _) rfl (fun vu_9 wu_9 hu_9 => ?_)
      obtain ⟨rfl, rfl⟩ := hu_9
      refine g_callVf 3 9 gX8_clear_X1_charge rfl rfl rfl ⟨Nat.le_of_ble_eq_true rfl, Nat.le_of_ble_eq_true rfl⟩ ⟨Nat.le_of_ble_eq_true rfl, Nat.le_of_ble_eq_true rfl⟩ (by exact Nat.le_of_ble_eq_true rfl) (by decide +kernel) rfl (cO_book _ _ _ _) rfl dX8_clear_64 (K_charge _ D cy a _ _ _ _ hf9.1 hf9.2 _) rfl (fun vu_10 wu_10 hu_10 => ?_)
      obtain ⟨rfl, rfl⟩ := hu_10
      refine g_iinc (1) dX8_clear_67 rfl rfl (by decide) ?_
      refine g_goto 20 dX8_clear_70 (by decide) ?_
      refine g_to _ _ (ihi3 (trivial)) rfl (by refine ⟨(by first | rfl | (rw [← nI_1]; rfl)), (by first | rfl | (rw [← nI_1]; rfl)), trivial⟩)

abbrev tp1 (T : MS) (i : Nat) (j : Nat) : Prop := (T.2.2.1 5 (3 * i + j)).toInt64 = cfgr T (nI i) (nI j)
def tpP (T : MS) (i w : Nat) : Prop := 3 * i + 3 ≤ w ∧ ∀ j, j < 3 → tp1 T i j
theorem n3c (i j : Nat) : 3 * nI i + nI j = nI (3 * i + j) := by
  rw [show (3 : Int32) = nI 3 from rfl, pk_mul, nI_add]
theorem tp_s {T : MS} {i k : Nat} (h : ∀ j, j < k → tp1 T i j) (h2 : tp1 T i k) : ∀ j, j < k + 1 → tp1 T i j := by
  intro j hj
  by_cases e : j = k
  · subst e; exact h2
  · exact h j (by omega)
set_option maxHeartbeats 4000000 in
set_option maxRecDepth 100000 in
/-- toldPayment -/
theorem K_tp (l : Launch) (D : va_G) (cy : Nat → ClassId) (a : Nat → Nat) (T : MS) (B : List BL) (hp : pwok T) (i w : Nat) (hi : i < 10) (hw : w ≤ 30) : Ct l D clx (tyx cy) yX8_toldPayment wsX8_toldPayment (rmC 2) 0 0 [.ref (a 200), .int (nI i), .int (nI w)] (CW cy a T B) (fun r9 w9 => (r9 = some (.int 1) ∧ (tpP T i w) ∧ w9 = CW cy a T B) ∨ (r9 = some (.int 0) ∧ ¬ (tpP T i w) ∧ w9 = CW cy a T B)) := by
  refine g_start (cc := cX8_toldPayment) (maxL := 4) (ret := (some .boolean)) (by decide) rfl (Nat.le_of_ble_eq_true rfl) (fun v w1 h => by rcases h with ⟨rfl, -, -⟩ | ⟨rfl, -, -⟩ <;> exact ⟨.boolean, rfl, rfl⟩) (fun Γ hlΓ => ?_)
  subst hlΓ
  refine g_iconst (3) rfl dX8_toldPayment_0 ?_
  refine g_iload_n (i := 1) dX8_toldPayment_1 rfl rfl ?_
  refine g_imul dX8_toldPayment_2 ?_
  refine g_iconst (3) rfl dX8_toldPayment_3 ?_
  refine g_iadd dX8_toldPayment_4 ?_
  refine g_iload_n (i := 2) dX8_toldPayment_5 rfl rfl ?_
  refine g_icmp_le 11 dX8_toldPayment_6 (by decide) (fun c_1 => ?_) (fun c_1 => ?_)
  · skip
    have h3w : 3 * i + 3 ≤ w := (by have h9 : nI (3 * i + 3) ≤ nI w := (n3c i 3) ▸ c_1; exact (nI_leI (by omega) (by omega)).mp h9)
    refine g_iconst (0) rfl dX8_toldPayment_11 ?_
    refine g_istore_n (i := 3) dX8_toldPayment_12 rfl (by decide) ?_
    refine g_cnt 3 (fun z => ∀ j, j < z → tp1 T i j) (fun z => CW cy a T B) (fun z => [(0, .ref (a 200)), (1, .int (nI i)), (2, .int (nI w)), (3, .int (nI z))]) 0 (by decide) (fun j h => absurd h (Nat.not_lt_zero j)) rfl ⟨rfl, rfl, rfl, rfl, trivial⟩ ?_ (fun i2 hi2 gi2 ihi2 => ?_)
    · intro gN
      refine g_iload_n (i := 3) dX8_toldPayment_13 rfl rfl ?_
      refine g_iconst (3) rfl dX8_toldPayment_14 ?_
      refine g_icmp_ge 50 dX8_toldPayment_15 (by decide) (fun c_3 => ?_) (fun c_3 => ?_)
      · skip
        refine g_iconst (1) rfl dX8_toldPayment_50 ?_
        refine g_iret dX8_toldPayment_51 ?_
        exact Or.inl ⟨rfl, ⟨h3w, by assumption⟩, rfl⟩
      · skip
        exact absurd (nI_le (Nat.le_refl _) (by first | decide | omega)) c_3
    · skip
      refine g_iload_n (i := 3) dX8_toldPayment_13 rfl rfl ?_
      refine g_iconst (3) rfl dX8_toldPayment_14 ?_
      refine g_icmp_ge 50 dX8_toldPayment_15 (by decide) (fun c_4 => ?_) (fun c_4 => ?_)
      · skip
        exact absurd c_4 (nI_ge hi2 (by first | decide | omega))
      · skip
        refine g_aload_n (i := 0) dX8_toldPayment_18 rfl rfl ?_
        refine g_get 0 5 dX8_toldPayment_19 (List.mem_of_getElem? (i := 1) rfl) (fun w h => List.mem_cons_of_mem _ (List.mem_append_left _ (List.mem_append_right _ h))) (cO_main _ _ _ _) rfl (by decide) rfl ?_
        refine g_iconst (3) rfl dX8_toldPayment_22 ?_
        refine g_iload_n (i := 1) dX8_toldPayment_23 rfl rfl ?_
        refine g_imul dX8_toldPayment_24 ?_
        refine g_iload_n (i := 3) dX8_toldPayment_25 rfl rfl ?_
        refine g_iadd dX8_toldPayment_26 ?_
        refine g_ste (st2 := .int (nI (3 * i + i2)) :: .ref (a 5) :: []) ?_ (by rw [n3c])
        refine c_aldN_5 dX8_toldPayment_27 (by omega) ?_
        refine g_i2l dX8_toldPayment_28 ?_
        refine g_aload_n (i := 0) dX8_toldPayment_29 rfl rfl ?_
        refine g_get 0 8 dX8_toldPayment_30 (List.mem_of_getElem? (i := 2) rfl) (fun w h => List.mem_cons_of_mem _ (List.mem_append_left _ (List.mem_append_right _ h))) (cO_main _ _ _ _) rfl (by decide) rfl ?_
        refine g_iload_n (i := 1) dX8_toldPayment_33 rfl rfl ?_
        refine g_iload_n (i := 3) dX8_toldPayment_34 rfl rfl ?_
        refine g_callVf 2 21 gX8_toldPayment_X5_figure rfl rfl rfl ⟨Nat.le_of_ble_eq_true rfl, Nat.le_of_ble_eq_true rfl⟩ ⟨Nat.le_of_ble_eq_true rfl, Nat.le_of_ble_eq_true rfl⟩ (by exact Nat.le_of_ble_eq_true rfl) (by decide +kernel) rfl (cO_plan _ _ _ _) rfl dX8_toldPayment_35 (K_figure _ D cy a _ _ hp _ _) rfl (fun vu_5 wu_5 hu_5 => ?_)
        obtain ⟨rfl, rfl⟩ := hu_5
        refine g_lcmp_eq 44 dX8_toldPayment_38 dX8_toldPayment_39 (by decide) (fun c_6 => ?_) (fun c_6 => ?_)
        · skip
          refine g_iinc (1) dX8_toldPayment_44 rfl rfl (by decide) ?_
          refine g_goto 13 dX8_toldPayment_47 (by decide) ?_
          refine g_to _ _ (ihi2 (tp_s gi2 (by assumption))) rfl (by refine ⟨(by first | rfl | (rw [← nI_1]; rfl)), (by first | rfl | (rw [← nI_1]; rfl)), (by first | rfl | (rw [← nI_1]; rfl)), (by first | rfl | (rw [← nI_1]; rfl)), trivial⟩)
        · skip
          refine g_iconst (0) rfl dX8_toldPayment_42 ?_
          refine g_iret dX8_toldPayment_43 ?_
          exact Or.inr ⟨rfl, fun h9 => absurd (h9.2 _ (by assumption)) (by assumption), rfl⟩
  · skip
    have h3w : ¬ 3 * i + 3 ≤ w := (fun q9 => c_1 (by have h9 : nI (3 * i + 3) ≤ nI w := nI_le q9 (by omega); rw [← n3c] at h9; exact h9))
    refine g_iconst (0) rfl dX8_toldPayment_9 ?_
    refine g_iret dX8_toldPayment_10 ?_
    exact Or.inr ⟨rfl, fun h9 => h3w h9.1, rfl⟩

noncomputable def cck (T : MS) (w N : Nat) : Nat → Nat → Int64
  | 0, _ => if 3 * N < w then 99 else 0
  | n + 1, i => @ite _ (tpP T i w) (Classical.propDecidable _) (cck T w N n (i + 1)) (1 + nI i).toInt64
theorem cck1 {T : MS} {w N i : Nat} (hi : i < N) (h : tpP T i w) (g : cck T w N (N - i) i = cck T w N N 0) : cck T w N (N - (i + 1)) (i + 1) = cck T w N N 0 := by
  rw [← g, show N - i = (N - (i + 1)) + 1 by omega]
  exact (if_pos h).symm
theorem cck2 {T : MS} {w N i : Nat} (hi : i < N) (h : ¬ tpP T i w) (g : cck T w N (N - i) i = cck T w N N 0) : (1 + nI i).toInt64 = cck T w N N 0 := by
  rw [← g, show N - i = (N - (i + 1)) + 1 by omega]
  exact (if_neg h).symm
theorem cck3 {T : MS} {w N : Nat} (g : cck T w N (N - N) N = cck T w N N 0) : (if 3 * N < w then (99 : Int64) else 0) = cck T w N N 0 := by
  rw [← g, Nat.sub_self]
  rfl
noncomputable def cf_check (T : MS) : Int64 × MS := (cck (sI (cf_ref T) 17 0) ((cf_ref T).1 17).toNatClampNeg ((cf_ref T).1 41).toNatClampNeg ((cf_ref T).1 41).toNatClampNeg 0, sI (cf_ref T) 17 0)
theorem pwR_17 (g : Int32) : ∀ (n : Nat) (T : MS), (pwR g n T).1 17 = T.1 17
  | 0, _ => rfl
  | n + 1, T => by
    cases h1 : lsC T g (-1) 10 0 with
    | none => rw [← pwRa h1 rfl]
    | some p =>
      cases h2 : lsC T g 1 10 0 with
      | none => rw [← pwRb h1 h2 rfl]
      | some q =>
        by_cases h3 : T.1 41 < 10
        · rw [← pwRd h1 h2 h3 rfl]; exact pwR_17 g n (pwS T p q)
        · rw [← pwRc h1 h2 h3 rfl]
theorem rfR_17 (C : Nat) : ∀ (n : Nat) (r : Int32) (T : MS), (rfR C n r T).1 17 = T.1 17
  | 0, _, _ => rfl
  | n + 1, r, T => by
    by_cases hr : r = 0
    · rw [← rfR0 hr rfl]
    · rw [← rfR1 hr rfl]
      exact (rfR_17 C n _ _).trans (pwR_17 _ 10 T)
theorem lzR_17 (T : MS) (A : Nat) : ∀ s, (lzR T A s).1 17 = T.1 17
  | 0 => rfl
  | s + 1 => by
    by_cases h : lzP (lzR T A s) A (s + 1)
    · rw [lz0 h]; exact lzR_17 T A s
    · rw [lz1 h]; exact lzR_17 T A s
theorem ref_17 (T : MS) : (cf_ref T).1 17 = T.1 17 := by
  unfold cf_ref
  split
  · rfl
  · rw [rfR_17]
    unfold rf5 rf4
    rw [cgO_1, lzR_17, auO_1, rnF_1]
    rfl
set_option maxHeartbeats 4000000 in
set_option maxRecDepth 100000 in
/-- check -/
theorem K_check (l : Launch) (D : va_G) (cy : Nat → ClassId) (a : Nat → Nat) (T : MS) (B : List BL) (hp0 : pwok T) (hT : ciT T) : Ct l D clx (tyx cy) yX8_check wsX8_check (rmC 3) 0 0 [.ref (a 200)] (CW cy a T B) (fun r9 w9 => r9 = some (.long (cf_check T).1) ∧ w9 = CW cy a (cf_check T).2 B) := by
  refine g_start (cc := cX8_check) (maxL := 3) (ret := (some .long)) (by decide) rfl (Nat.le_of_ble_eq_true rfl) (fun v w1 h => by obtain ⟨rfl, -⟩ := h; exact rfl) (fun Γ hlΓ => ?_)
  subst hlΓ
  refine g_aload_n (i := 0) dX8_check_0 rfl rfl ?_
  refine g_get 0 8 dX8_check_1 (List.mem_of_getElem? (i := 1) rfl) (fun w h => List.mem_cons_of_mem _ (List.mem_append_left _ (List.mem_append_left _ (List.mem_append_right _ h)))) (cO_main _ _ _ _) rfl (by decide) rfl ?_
  refine g_aload_n (i := 0) dX8_check_4 rfl rfl ?_
  refine g_get 0 7 dX8_check_5 (List.mem_of_getElem? (i := 2) rfl) (fun w h => List.mem_cons_of_mem _ (List.mem_append_left _ (List.mem_append_left _ (List.mem_append_right _ h)))) (cO_main _ _ _ _) rfl (by decide) rfl ?_
  refine g_callVf 1 21 gX8_check_X5_refresh rfl rfl rfl ⟨Nat.le_of_ble_eq_true rfl, Nat.le_of_ble_eq_true rfl⟩ ⟨Nat.le_of_ble_eq_true rfl, Nat.le_of_ble_eq_true rfl⟩ (by exact Nat.le_of_ble_eq_true rfl) (by decide +kernel) rfl (cO_plan _ _ _ _) rfl dX8_check_8 (K_ref _ D cy a _ _) rfl (fun vu_1 wu_1 hu_1 => ?_)
  obtain ⟨rfl, rfl⟩ := hu_1
  have hp := ref_ok hp0
  have hw0 := ref_17 T
  obtain ⟨U, hU⟩ : ∃ R, R = cf_ref T := ⟨_, rfl⟩
  rw [← hU] at hp hw0 ⊢
  obtain ⟨N9, hN8, hN9⟩ := hp
  obtain ⟨w9, hw8, hw7⟩ := hT
  have hw9 : U.1 17 = nI w9 := hw0.trans hw7
  refine g_aload_n (i := 0) dX8_check_11 rfl rfl ?_
  refine g_get 0 17 dX8_check_12 (List.mem_of_getElem? (i := 3) rfl) (fun w h => List.mem_cons_of_mem _ (List.mem_append_left _ (List.mem_append_left _ (List.mem_append_right _ h)))) (cO_main _ _ _ _) rfl (by decide) rfl ?_
  refine g_istore_n (i := 1) dX8_check_15 rfl (by decide) ?_
  refine g_aload_n (i := 0) dX8_check_16 rfl rfl ?_
  refine g_iconst (0) rfl dX8_check_17 ?_
  refine g_put 0 17 _ tyX8 tyX8_ok nmX8 dX8_check_18 (List.mem_of_getElem? (i := 3) rfl) (fun w h => List.mem_cons_of_mem _ (List.mem_append_left _ (List.mem_append_left _ (List.mem_append_right _ h)))) (cO_main _ _ _ _) rfl (by decide) rfl (tyX8_ok 17 (by decide)) rfl rfl (Nat.le_of_ble_eq_true rfl) (cwI_17 _ _ _ _ _) ?_
  obtain ⟨V, hV⟩ : ∃ V, V = sI U 17 0 := ⟨_, rfl⟩
  have hN7 : V.1 41 = nI N9 := (by rw [hV]; exact hN9)
  have hpV : pwok V := ⟨N9, hN8, hN7⟩
  refine g_weq (CW cy a V B) (congrArg (fun z => CW cy a z B) hV.symm) ?_
  refine g_nrm [(0, .ref (a 200)), (1, .int (nI w9))] ⟨rfl, congrArg (fun z => some (Value.int z)) hw9, trivial⟩ ?_
  refine g_iconst (0) rfl dX8_check_21 ?_
  refine g_istore_n (i := 2) dX8_check_22 rfl (by decide) ?_
  refine g_cnt N9 (fun i => cck V w9 N9 (N9 - i) i = cck V w9 N9 N9 0) (fun i => CW cy a V B) (fun i => [(0, .ref (a 200)), (1, .int (nI w9)), (2, .int (nI i))]) 0 (by first | decide | omega) rfl (by rfl) (by refine ⟨rfl, rfl, rfl, trivial⟩) ?_ (fun i2 hi2 gi2 ihi2 => ?_)
  · intro gNi2
    refine g_iload_n (i := 2) dX8_check_23 rfl rfl ?_
    refine g_aload_n (i := 0) dX8_check_24 rfl rfl ?_
    refine g_get 0 8 dX8_check_25 (List.mem_of_getElem? (i := 1) rfl) (fun w h => List.mem_cons_of_mem _ (List.mem_append_left _ (List.mem_append_left _ (List.mem_append_right _ h)))) (cO_main _ _ _ _) rfl (by decide) rfl ?_
    refine g_get 21 1 dX8_check_28 (List.mem_of_getElem? (i := 4) rfl) (fun w h => List.mem_cons_of_mem _ (List.mem_append_left _ (List.mem_append_right _ h))) (cO_plan _ _ _ _) rfl (by decide) rfl ?_
    refine g_icmp_ge 54 dX8_check_31 (by decide) (fun c_3 => ?_) (fun c_3 => ?_)
    · skip
      refine g_iload_n (i := 1) dX8_check_54 rfl rfl ?_
      refine g_iconst (3) rfl dX8_check_55 ?_
      refine g_aload_n (i := 0) dX8_check_56 rfl rfl ?_
      refine g_get 0 8 dX8_check_57 (List.mem_of_getElem? (i := 1) rfl) (fun w h => List.mem_cons_of_mem _ (List.mem_append_left _ (List.mem_append_left _ (List.mem_append_right _ h)))) (cO_main _ _ _ _) rfl (by decide) rfl ?_
      refine g_get 21 1 dX8_check_60 (List.mem_of_getElem? (i := 4) rfl) (fun w h => List.mem_cons_of_mem _ (List.mem_append_left _ (List.mem_append_right _ h))) (cO_plan _ _ _ _) rfl (by decide) rfl ?_
      refine g_imul dX8_check_63 ?_
      refine g_ste (st2 := .int (nI (3 * N9)) :: .int (nI w9) :: []) ?_ (by rw [hN7, show (3 : Int32) = nI 3 from rfl, pk_mul]; rfl)
      refine g_icmp_le 73 dX8_check_64 (by decide) (fun c_4 => ?_) (fun c_4 => ?_)
      · skip
        refine g_lconst 0 rfl dX8_check_73 ?_
        refine g_lret dX8_check_74 ?_
        unfold cf_check; rw [← hU, hN9, hw9, nI_clamp (by omega), nI_clamp (by omega), ← hV]; rw [← cck3 (by assumption)]; first | (rw [if_pos (by have h9 : ¬ nI w9 ≤ nI (3 * N9) := (by assumption); exact Nat.not_le.mp (fun q => h9 (nI_le q (by omega))))]; exact ⟨rfl, rfl⟩) | (rw [if_neg (by have h9 : nI w9 ≤ nI (3 * N9) := (by assumption); exact Nat.not_lt.mpr ((nI_leI (by omega) (by omega)).mp h9))]; exact ⟨rfl, rfl⟩)
      · skip
        refine g_ldc2 (99) (List.mem_of_getElem? (i := 5) rfl) dX8_check_67 ?_
        refine g_goto 74 dX8_check_70 (by decide) ?_
        refine g_lret dX8_check_74 ?_
        unfold cf_check; rw [← hU, hN9, hw9, nI_clamp (by omega), nI_clamp (by omega), ← hV]; rw [← cck3 (by assumption)]; first | (rw [if_pos (by have h9 : ¬ nI w9 ≤ nI (3 * N9) := (by assumption); exact Nat.not_le.mp (fun q => h9 (nI_le q (by omega))))]; exact ⟨rfl, rfl⟩) | (rw [if_neg (by have h9 : nI w9 ≤ nI (3 * N9) := (by assumption); exact Nat.not_lt.mpr ((nI_leI (by omega) (by omega)).mp h9))]; exact ⟨rfl, rfl⟩)
    · skip
      exact absurd (by rw [hN7]; exact nI_le (Nat.le_refl _) (by omega)) c_3
  · skip
    refine g_iload_n (i := 2) dX8_check_23 rfl rfl ?_
    refine g_aload_n (i := 0) dX8_check_24 rfl rfl ?_
    refine g_get 0 8 dX8_check_25 (List.mem_of_getElem? (i := 1) rfl) (fun w h => List.mem_cons_of_mem _ (List.mem_append_left _ (List.mem_append_left _ (List.mem_append_right _ h)))) (cO_main _ _ _ _) rfl (by decide) rfl ?_
    refine g_get 21 1 dX8_check_28 (List.mem_of_getElem? (i := 4) rfl) (fun w h => List.mem_cons_of_mem _ (List.mem_append_left _ (List.mem_append_right _ h))) (cO_plan _ _ _ _) rfl (by decide) rfl ?_
    refine g_icmp_ge 54 dX8_check_31 (by decide) (fun c_5 => ?_) (fun c_5 => ?_)
    · skip
      exact absurd c_5 (by rw [hN7]; exact nI_ge hi2 (by omega))
    · skip
      refine g_aload_n (i := 0) dX8_check_34 rfl rfl ?_
      refine g_iload_n (i := 2) dX8_check_35 rfl rfl ?_
      refine g_iload_n (i := 1) dX8_check_36 rfl rfl ?_
      refine g_callVf 2 0 gX8_check_X8_toldPayment rfl rfl rfl ⟨Nat.le_of_ble_eq_true rfl, Nat.le_of_ble_eq_true rfl⟩ ⟨Nat.le_of_ble_eq_true rfl, Nat.le_of_ble_eq_true rfl⟩ (by exact Nat.le_of_ble_eq_true rfl) (by decide +kernel) rfl (cO_main _ _ _ _) rfl dX8_check_37 (K_tp _ D cy a _ _ hpV _ _ (by omega) hw8) rfl (fun vu_6 wu_6 hu_6 => ?_)
      rcases hu_6 with ⟨rfl, hu_6, rfl⟩ | ⟨rfl, hu_6, rfl⟩
      · skip
        refine g_if_ne 48 dX8_check_40 (by decide) (fun _ => ?_) (fun h9 => absurd h9 (by decide))
        refine g_iinc (1) dX8_check_48 rfl rfl (by decide) ?_
        refine g_goto 23 dX8_check_51 (by decide) ?_
        refine g_to _ _ (ihi2 (cck1 hi2 (by assumption) gi2)) rfl (by refine ⟨(by first | rfl | (rw [← nI_1]; rfl)), (by first | rfl | (rw [← nI_1]; rfl)), (by first | rfl | (rw [← nI_1]; rfl)), trivial⟩)
      · skip
        refine g_if_ne 48 dX8_check_40 (by decide) (fun h9 => absurd h9 (by decide)) (fun _ => ?_)
        refine g_iconst (1) rfl dX8_check_43 ?_
        refine g_iload_n (i := 2) dX8_check_44 rfl rfl ?_
        refine g_iadd dX8_check_45 ?_
        refine g_i2l dX8_check_46 ?_
        refine g_lret dX8_check_47 ?_
        unfold cf_check; rw [← hU, hN9, hw9, nI_clamp (by omega), nI_clamp (by omega), ← hV]; exact ⟨congrArg (fun z => some (Value.long z)) (cck2 (by assumption) (by assumption) (by assumption)), rfl⟩

