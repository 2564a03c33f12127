/-- T is the state behind findPlan() -/
def plRun (S T : MS) : Prop := ∃ (X : MS) (N : Nat), N ≤ 10 ∧ fgRun 10 (npA S 10) (mpl0 S) X ∧ X.1 44 = nI N ∧ (∀ j, j < N → poOk ((ppF X j).2.2.1 45 j) 10 (ppF X j)) ∧ T = ppF X N
theorem M_findPlan2 (l : Launch) (D : va_G) (cy : Nat → ClassId) (a : Nat → Nat) (S T : MS) (h : plRun S T) : Ct l D clx (tyx cy) yX9_findPlan wsX9_findPlan (rmD 2) 0 0 [.ref (a 0)] (MW cy a S) (fun r9 w9 => r9 = none ∧ w9 = MW cy a T) := by
  obtain ⟨X, N, h1, h2, h3, h4, rfl⟩ := h
  exact M_findPlan l D cy a S X N h1 h2 h3 h4
/-- the plan's payments: how many, who, whom -/
def plOk (T : MS) (N : Nat) : Prop := N ≤ 10 ∧ T.1 46 = nI N ∧ ∀ j, j < N → vp_in (T.2.2.1 47 j) 10 ∧ vp_in (T.2.2.1 48 j) 10
def mf_plan (T : MS) (g : Int32) : Int64 × MS := if g = 0 then ((T.1 46).toInt64, T) else ((T.1 44).toInt64, T)
def mf_payment (S T : MS) (i x : Int32) : Int64 × MS := if 0 ≤ x ∧ x ≤ 2 then (if 0 ≤ i ∧ i ≤ T.1 46 - 1 then (mpay T i x, T) else mf_finding T (-1000000000002)) else mf_finding S (-1000000000001)
theorem plIx {T : MS} {N : Nat} (h : plOk T N) {i : Int32} (hi : 0 ≤ i ∧ i ≤ T.1 46 - 1) : vp_in i 10 := by
  obtain ⟨h1, h2, -⟩ := h
  have h3 := hi.1
  have h4 := hi.2
  rw [h2] at h4
  rw [Int32.le_iff_toInt_le] at h3 h4
  have e0 : (0 : Int32).toInt = 0 := by decide
  have e1 : (nI N - 1).toInt = (N : Int) - 1 := by
    rw [Int32.toInt_sub, nI_toInt (by omega)]
    have : (1 : Int32).toInt = 1 := by decide
    rw [this]
    apply Int.bmod_eq_of_le <;> omega
  rw [vp_in_iff]
  omega

set_option maxHeartbeats 4000000 in
set_option maxRecDepth 100000 in
/-- plan -/
theorem M_plan (l : Launch) (D : va_G) (cy : Nat → ClassId) (a : Nat → Nat) (S : MS) (T : MS) (hPl : plRun S T) (g : Int32) : Ct l D clx (tyx cy) yX9_plan wsX9_plan (rmD 3) 0 0 [.ref (a 0), .int g] (MW cy a S) (fun r9 w9 => r9 = some (.long (mf_plan T g).1) ∧ w9 = MW cy a (mf_plan T g).2) := by
  refine g_start (cc := cX9_plan) (maxL := 2) (ret := (some .long)) (by decide) rfl (Nat.le_of_ble_eq_true rfl) (fun v w1 h => by obtain ⟨rfl, -⟩ := h; exact rfl) (fun Γ hlΓ => ?_)
  subst hlΓ
  refine g_aload_n (i := 0) dX9_plan_0 rfl rfl ?_
  refine g_callVf 0 0 gX9_plan_X9_findPlan rfl rfl rfl ⟨Nat.le_of_ble_eq_true rfl, Nat.le_of_ble_eq_true rfl⟩ ⟨Nat.le_of_ble_eq_true rfl, Nat.le_of_ble_eq_true rfl⟩ (by exact Nat.le_of_ble_eq_true rfl) (by decide +kernel) rfl rfl rfl dX9_plan_1 (M_findPlan2 _ D cy a S T hPl) rfl (fun vu_1 wu_1 hu_1 => ?_)
  obtain ⟨rfl, rfl⟩ := hu_1
  refine g_iload_n (i := 1) dX9_plan_4 rfl rfl ?_
  refine g_if_eq 16 dX9_plan_5 (by decide) (fun c_2 => ?_) (fun c_2 => ?_)
  · skip
    refine g_aload_n (i := 0) dX9_plan_16 rfl rfl ?_
    refine m_get 46 dX9_plan_17 (List.mem_of_getElem? (i := 2) rfl) (fun w h => List.mem_cons_of_mem _ (List.mem_append_right _ h)) (by decide) rfl ?_
    refine g_i2l dX9_plan_20 ?_
    refine g_lret dX9_plan_21 ?_
    unfold mf_plan; first | (rw [if_pos (by with_reducible assumption)]; with_reducible exact ⟨rfl, rfl⟩) | (rw [if_neg (by with_reducible assumption)]; with_reducible exact ⟨rfl, rfl⟩)
  · skip
    refine g_aload_n (i := 0) dX9_plan_8 rfl rfl ?_
    refine m_get 44 dX9_plan_9 (List.mem_of_getElem? (i := 1) rfl) (fun w h => List.mem_cons_of_mem _ (List.mem_append_right _ h)) (by decide) rfl ?_
    refine g_i2l dX9_plan_12 ?_
    refine g_goto 21 dX9_plan_13 (by decide) ?_
    refine g_lret dX9_plan_21 ?_
    unfold mf_plan; first | (rw [if_pos (by with_reducible assumption)]; with_reducible exact ⟨rfl, rfl⟩) | (rw [if_neg (by with_reducible assumption)]; with_reducible exact ⟨rfl, rfl⟩)

set_option maxHeartbeats 4000000 in
set_option maxRecDepth 100000 in
/-- payment -/
theorem M_payment (l : Launch) (D : va_G) (cy : Nat → ClassId) (a : Nat → Nat) (S : MS) (T : MS) (hPl : plRun S T) (N : Nat) (hOk : plOk T N) (i x : Int32) : Ct l D clx (tyx cy) yX9_payment wsX9_payment (rmD 3) 0 0 [.ref (a 0), .int i, .int x] (MW cy a S) (fun r9 w9 => r9 = some (.long (mf_payment S T i x).1) ∧ w9 = MW cy a (mf_payment S T i x).2) := by
  refine g_start (cc := cX9_payment) (maxL := 3) (ret := (some .long)) (by decide) rfl (Nat.le_of_ble_eq_true rfl) (fun v w1 h => by obtain ⟨rfl, -⟩ := h; exact rfl) (fun Γ hlΓ => ?_)
  subst hlΓ
  refine g_iload_n (i := 2) dX9_payment_0 rfl rfl ?_
  refine g_iconst (0) rfl dX9_payment_1 ?_
  refine g_iconst (2) rfl dX9_payment_2 ?_
  refine g_callSf 3 gX9_payment_X9_in rfl rfl rfl ⟨Nat.le_of_ble_eq_true rfl, Nat.le_of_ble_eq_true rfl⟩ ⟨Nat.le_of_ble_eq_true rfl, Nat.le_of_ble_eq_true rfl⟩ (by exact Nat.le_of_ble_eq_true rfl) (by decide +kernel) rfl dX9_payment_3 (M_in _ D cy a _ _ _ _) rfl (fun vu_1 wu_1 hu_1 => ?_)
  rcases hu_1 with ⟨rfl, hu_1, rfl⟩ | ⟨rfl, hu_1, rfl⟩
  · skip
    refine g_if_ne 17 dX9_payment_6 (by decide) (fun _ => ?_) (fun h9 => absurd h9 (by decide))
    refine g_aload_n (i := 0) dX9_payment_17 rfl rfl ?_
    refine g_callVf 0 0 gX9_payment_X9_findPlan rfl rfl rfl ⟨Nat.le_of_ble_eq_true rfl, Nat.le_of_ble_eq_true rfl⟩ ⟨Nat.le_of_ble_eq_true rfl, Nat.le_of_ble_eq_true rfl⟩ (by exact Nat.le_of_ble_eq_true rfl) (by decide +kernel) rfl rfl rfl dX9_payment_18 (M_findPlan2 _ D cy a S T hPl) rfl (fun vu_3 wu_3 hu_3 => ?_)
    obtain ⟨rfl, rfl⟩ := hu_3
    refine g_iload_n (i := 1) dX9_payment_21 rfl rfl ?_
    refine g_iconst (0) rfl dX9_payment_22 ?_
    refine g_aload_n (i := 0) dX9_payment_23 rfl rfl ?_
    refine m_get 46 dX9_payment_24 (List.mem_of_getElem? (i := 2) rfl) (fun w h => List.mem_cons_of_mem _ (List.mem_append_right _ h)) (by decide) rfl ?_
    refine g_iconst (1) rfl dX9_payment_27 ?_
    refine g_isub dX9_payment_28 ?_
    refine g_callSf 3 gX9_payment_X9_in rfl rfl rfl ⟨Nat.le_of_ble_eq_true rfl, Nat.le_of_ble_eq_true rfl⟩ ⟨Nat.le_of_ble_eq_true rfl, Nat.le_of_ble_eq_true rfl⟩ (by exact Nat.le_of_ble_eq_true rfl) (by decide +kernel) rfl dX9_payment_29 (M_in _ D cy a _ _ _ _) rfl (fun vu_4 wu_4 hu_4 => ?_)
    rcases hu_4 with ⟨rfl, hu_4, rfl⟩ | ⟨rfl, hu_4, rfl⟩
    · skip
      refine g_if_eq 44 dX9_payment_32 (by decide) (fun h9 => absurd h9 (by decide)) (fun _ => ?_)
      refine g_aload_n (i := 0) dX9_payment_35 rfl rfl ?_
      refine g_iload_n (i := 1) dX9_payment_36 rfl rfl ?_
      refine g_iload_n (i := 2) dX9_payment_37 rfl rfl ?_
      refine g_callVf 2 0 gX9_payment_X9_paymentOf rfl rfl rfl ⟨Nat.le_of_ble_eq_true rfl, Nat.le_of_ble_eq_true rfl⟩ ⟨Nat.le_of_ble_eq_true rfl, Nat.le_of_ble_eq_true rfl⟩ (by exact Nat.le_of_ble_eq_true rfl) (by decide +kernel) rfl rfl rfl dX9_payment_38 (M_paymentOf _ D cy a _ _ _ (plIx hOk (by with_reducible assumption))) rfl (fun vu_6 wu_6 hu_6 => ?_)
      obtain ⟨rfl, rfl⟩ := hu_6
      refine g_goto 51 dX9_payment_41 (by decide) ?_
      refine g_lret dX9_payment_51 ?_
      unfold mf_payment; first | (rw [if_neg (by with_reducible assumption)]; with_reducible exact ⟨rfl, rfl⟩) | (rw [if_pos (by with_reducible assumption), if_pos (by with_reducible assumption)]; with_reducible exact ⟨rfl, rfl⟩) | (rw [if_pos (by with_reducible assumption), if_neg (by with_reducible assumption)]; with_reducible exact ⟨rfl, rfl⟩)
    · skip
      refine g_if_eq 44 dX9_payment_32 (by decide) (fun _ => ?_) (fun h9 => absurd h9 (by decide))
      refine g_aload_n (i := 0) dX9_payment_44 rfl rfl ?_
      refine g_ldc2 (-1000000000002) (List.mem_of_getElem? (i := 3) rfl) dX9_payment_45 ?_
      refine g_callVf 1 0 gX9_payment_X9_finding rfl rfl rfl ⟨Nat.le_of_ble_eq_true rfl, Nat.le_of_ble_eq_true rfl⟩ ⟨Nat.le_of_ble_eq_true rfl, Nat.le_of_ble_eq_true rfl⟩ (by exact Nat.le_of_ble_eq_true rfl) (by decide +kernel) rfl rfl rfl dX9_payment_48 (M_finding _ D cy a _ _ (by unfold vp_in; decide)) rfl (fun vu_8 wu_8 hu_8 => ?_)
      obtain ⟨rfl, rfl⟩ := hu_8
      refine g_lret dX9_payment_51 ?_
      unfold mf_payment; first | (rw [if_neg (by with_reducible assumption)]; with_reducible exact ⟨rfl, rfl⟩) | (rw [if_pos (by with_reducible assumption), if_pos (by with_reducible assumption)]; with_reducible exact ⟨rfl, rfl⟩) | (rw [if_pos (by with_reducible assumption), if_neg (by with_reducible assumption)]; with_reducible exact ⟨rfl, rfl⟩)
  · skip
    refine g_if_ne 17 dX9_payment_6 (by decide) (fun h9 => absurd h9 (by decide)) (fun _ => ?_)
    refine g_aload_n (i := 0) dX9_payment_9 rfl rfl ?_
    refine g_ldc2 (-1000000000001) (List.mem_of_getElem? (i := 1) rfl) dX9_payment_10 ?_
    refine g_callVf 1 0 gX9_payment_X9_finding rfl rfl rfl ⟨Nat.le_of_ble_eq_true rfl, Nat.le_of_ble_eq_true rfl⟩ ⟨Nat.le_of_ble_eq_true rfl, Nat.le_of_ble_eq_true rfl⟩ (by exact Nat.le_of_ble_eq_true rfl) (by decide +kernel) rfl rfl rfl dX9_payment_13 (M_finding _ D cy a _ _ (by unfold vp_in; decide)) rfl (fun vu_10 wu_10 hu_10 => ?_)
    obtain ⟨rfl, rfl⟩ := hu_10
    refine g_lret dX9_payment_16 ?_
    unfold mf_payment; first | (rw [if_neg (by with_reducible assumption)]; with_reducible exact ⟨rfl, rfl⟩) | (rw [if_pos (by with_reducible assumption), if_pos (by with_reducible assumption)]; with_reducible exact ⟨rfl, rfl⟩) | (rw [if_pos (by with_reducible assumption), if_neg (by with_reducible assumption)]; with_reducible exact ⟨rfl, rfl⟩)

def clZ (T : MS) : Nat → MS
  | 0 => T
  | i + 1 => sB (clZ T i) 15 i 0
def clP (T : MS) : Nat → MS
  | 0 => clZ T 100
  | i + 1 => sB (clP T i) 15 (10 * (clP T i).2.2.1 47 i + (clP T i).2.2.1 48 i).toNatClampNeg ((clP T i).2.2.2 49 i)
def mf_clear (T : MS) (N : Nat) : Int64 × MS := (mall (clP T N) 100, clP T N)
theorem clZ_k (T : MS) : ∀ i, (clZ T i).1 = T.1 ∧ (clZ T i).2.2.1 = T.2.2.1
  | 0 => ⟨rfl, rfl⟩
  | i + 1 => ⟨(clZ_k T i).1, (clZ_k T i).2⟩
theorem clP_k (T : MS) : ∀ i, (clP T i).1 = T.1 ∧ (clP T i).2.2.1 = T.2.2.1
  | 0 => clZ_k T 100
  | i + 1 => ⟨(clP_k T i).1, (clP_k T i).2⟩
theorem clX {T : MS} {N i : Nat} (h : plOk T N) (hi : i < N) : vp_in (10 * (clP T i).2.2.1 47 i + (clP T i).2.2.1 48 i) 100 := by
  rw [(clP_k T i).2]
  exact ix100 (h.2.2 i hi).1 (h.2.2 i hi).2

set_option maxHeartbeats 4000000 in
set_option maxRecDepth 100000 in
/-- clear -/
theorem M_clear (l : Launch) (D : va_G) (cy : Nat → ClassId) (a : Nat → Nat) (S : MS) (T : MS) (hPl : plRun S T) (N : Nat) (hOk : plOk T N) : Ct l D clx (tyx cy) yX9_clear wsX9_clear (rmD 3) 0 0 [.ref (a 0)] (MW cy a S) (fun r9 w9 => r9 = some (.long (mf_clear T N).1) ∧ w9 = MW cy a (mf_clear T N).2) := by
  refine g_start (cc := cX9_clear) (maxL := 2) (ret := (some .long)) (by decide) rfl (Nat.le_of_ble_eq_true rfl) (fun v w1 h => by obtain ⟨rfl, -⟩ := h; exact rfl) (fun Γ hlΓ => ?_)
  subst hlΓ
  have hN10 : N ≤ 10 := hOk.1
  refine g_aload_n (i := 0) dX9_clear_0 rfl rfl ?_
  refine g_callVf 0 0 gX9_clear_X9_findPlan rfl rfl rfl ⟨Nat.le_of_ble_eq_true rfl, Nat.le_of_ble_eq_true rfl⟩ ⟨Nat.le_of_ble_eq_true rfl, Nat.le_of_ble_eq_true rfl⟩ (by exact Nat.le_of_ble_eq_true rfl) (by decide +kernel) rfl rfl rfl dX9_clear_1 (M_findPlan2 _ D cy a S T hPl) rfl (fun vu_1 wu_1 hu_1 => ?_)
  obtain ⟨rfl, rfl⟩ := hu_1
  refine g_iconst (0) rfl dX9_clear_4 ?_
  refine g_istore_n (i := 1) dX9_clear_5 rfl (by decide) ?_
  refine g_cnt 100 (fun i => True) (fun i => MW cy a (clZ T i)) (fun i => [(0, .ref (a 0)), (1, .int (nI i))]) 0 (by first | decide | omega) trivial (by rfl) (by refine ⟨rfl, rfl, trivial⟩) ?_ (fun i2 hi2 gi2 ihi2 => ?_)
  · intro gN
    refine g_iload_n (i := 1) dX9_clear_6 rfl rfl ?_
    refine g_bipush (100) rfl dX9_clear_7 ?_
    refine g_icmp_ge 25 dX9_clear_9 (by decide) (fun c_3 => ?_) (fun c_3 => ?_)
    · skip
      refine g_iconst (0) rfl dX9_clear_25 ?_
      refine g_istore_n (i := 1) dX9_clear_26 rfl (by decide) ?_
      refine g_cnt N (fun i => True) (fun i => MW cy a (clP T i)) (fun i => [(0, .ref (a 0)), (1, .int (nI i))]) 0 (by first | decide | omega) trivial (by rfl) (by refine ⟨rfl, rfl, trivial⟩) ?_ (fun i4 hi4 gi4 ihi4 => ?_)
      · intro gN
        refine g_iload_n (i := 1) dX9_clear_27 rfl rfl ?_
        refine g_aload_n (i := 0) dX9_clear_28 rfl rfl ?_
        refine m_get 46 dX9_clear_29 (List.mem_of_getElem? (i := 2) rfl) (fun w h => List.mem_cons_of_mem _ (List.mem_append_right _ h)) (by decide) rfl ?_
        refine g_icmp_ge 68 dX9_clear_32 (by decide) (fun c_5 => ?_) (fun c_5 => ?_)
        · skip
          refine g_aload_n (i := 0) dX9_clear_68 rfl rfl ?_
          refine g_callVf 0 0 gX9_clear_X9_owedInAll rfl rfl rfl ⟨Nat.le_of_ble_eq_true rfl, Nat.le_of_ble_eq_true rfl⟩ ⟨Nat.le_of_ble_eq_true rfl, Nat.le_of_ble_eq_true rfl⟩ (by exact Nat.le_of_ble_eq_true rfl) (by decide +kernel) rfl rfl rfl dX9_clear_69 (M_owedInAll _ D cy a _) rfl (fun vu_6 wu_6 hu_6 => ?_)
          obtain ⟨rfl, rfl⟩ := hu_6
          refine g_lret dX9_clear_72 ?_
          unfold mf_clear; with_reducible exact ⟨rfl, rfl⟩
        · skip
          exact absurd (by rw [(clP_k T _).1, hOk.2.1]; exact nI_le (Nat.le_refl _) (by have := hOk.1; omega)) c_5
      · skip
        refine g_iload_n (i := 1) dX9_clear_27 rfl rfl ?_
        refine g_aload_n (i := 0) dX9_clear_28 rfl rfl ?_
        refine m_get 46 dX9_clear_29 (List.mem_of_getElem? (i := 2) rfl) (fun w h => List.mem_cons_of_mem _ (List.mem_append_right _ h)) (by decide) rfl ?_
        refine g_icmp_ge 68 dX9_clear_32 (by decide) (fun c_7 => ?_) (fun c_7 => ?_)
        · skip
          exact absurd c_7 (by rw [(clP_k T _).1, hOk.2.1]; exact nI_ge hi4 (by have := hOk.1; omega))
        · skip
          refine g_aload_n (i := 0) dX9_clear_35 rfl rfl ?_
          refine m_get 15 dX9_clear_36 (List.mem_of_getElem? (i := 1) rfl) (fun w h => List.mem_cons_of_mem _ (List.mem_append_right _ h)) (by decide) rfl ?_
          refine g_bipush (10) rfl dX9_clear_39 ?_
          refine g_aload_n (i := 0) dX9_clear_41 rfl rfl ?_
          refine m_get 47 dX9_clear_42 (List.mem_of_getElem? (i := 3) rfl) (fun w h => List.mem_cons_of_mem _ (List.mem_append_right _ h)) (by decide) rfl ?_
          refine g_iload_n (i := 1) dX9_clear_45 rfl rfl ?_
          refine m_ialdN 47 34 10 dX9_clear_46 rfl (by omega) (by decide) ?_
          refine g_imul dX9_clear_47 ?_
          refine g_aload_n (i := 0) dX9_clear_48 rfl rfl ?_
          refine m_get 48 dX9_clear_49 (List.mem_of_getElem? (i := 4) rfl) (fun w h => List.mem_cons_of_mem _ (List.mem_append_right _ h)) (by decide) rfl ?_
          refine g_iload_n (i := 1) dX9_clear_52 rfl rfl ?_
          refine m_ialdN 48 35 10 dX9_clear_53 rfl (by omega) (by decide) ?_
          refine g_iadd dX9_clear_54 ?_
          refine g_aload_n (i := 0) dX9_clear_55 rfl rfl ?_
          refine m_get 49 dX9_clear_56 (List.mem_of_getElem? (i := 5) rfl) (fun w h => List.mem_cons_of_mem _ (List.mem_append_right _ h)) (by decide) rfl ?_
          refine g_iload_n (i := 1) dX9_clear_59 rfl rfl ?_
          refine m_laldN 49 36 10 dX9_clear_60 rfl (by omega) (by decide) ?_
          refine m_last 15 13 100 dX9_clear_61 rfl (clX hOk (by with_reducible assumption)) (wsA_15 _ _ _ _ _) ?_
          refine g_iinc (1) dX9_clear_62 rfl rfl (by decide) ?_
          refine g_goto 27 dX9_clear_65 (by decide) ?_
          refine g_to _ _ (ihi4 (trivial)) rfl (by refine ⟨(by first | rfl | (rw [← nI_1]; rfl) | (rw [← nI_1]; rfl)), (by first | rfl | (rw [← nI_1]; rfl) | (rw [← nI_1]; rfl)), trivial⟩)
    · skip
      exact absurd (nI_le (Nat.le_refl _) (by first | decide | omega)) c_3
  · skip
    refine g_iload_n (i := 1) dX9_clear_6 rfl rfl ?_
    refine g_bipush (100) rfl dX9_clear_7 ?_
    refine g_icmp_ge 25 dX9_clear_9 (by decide) (fun c_8 => ?_) (fun c_8 => ?_)
    · skip
      exact absurd c_8 (nI_ge hi2 (by first | decide | omega))
    · skip
      refine g_aload_n (i := 0) dX9_clear_12 rfl rfl ?_
      refine m_get 15 dX9_clear_13 (List.mem_of_getElem? (i := 1) rfl) (fun w h => List.mem_cons_of_mem _ (List.mem_append_right _ h)) (by decide) rfl ?_
      refine g_iload_n (i := 1) dX9_clear_16 rfl rfl ?_
      refine g_lconst 0 rfl dX9_clear_17 ?_
      refine m_lastN 15 13 100 dX9_clear_18 rfl (by omega) (by decide) (wsA_15 _ _ _ _ _) ?_
      refine g_iinc (1) dX9_clear_19 rfl rfl (by decide) ?_
      refine g_goto 6 dX9_clear_22 (by decide) ?_
      refine g_to _ _ (ihi2 (trivial)) rfl (by refine ⟨(by first | rfl | (rw [← nI_1]; rfl) | (rw [← nI_1]; rfl)), (by first | rfl | (rw [← nI_1]; rfl) | (rw [← nI_1]; rfl)), trivial⟩)

