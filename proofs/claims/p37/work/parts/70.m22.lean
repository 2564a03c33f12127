/-- go changes the reader's ints alone -/
theorem gx_sk : ∀ (f : Nat) (T : MS), (skR f T).2 = T.2 ∧ ∀ j, j ≠ 39 → (skR f T).1 j = T.1 j
  | 0, _ => ⟨rfl, fun _ _ => rfl⟩
  | f + 1, T => by
    show (if mat T (T.1 39) = 32 then skR f (sI T 39 (T.1 39 + 1)) else T).2 = T.2 ∧ ∀ j, j ≠ 39 → (if mat T (T.1 39) = 32 then skR f (sI T 39 (T.1 39 + 1)) else T).1 j = T.1 j
    split
    · have h := gx_sk f (sI T 39 (T.1 39 + 1))
      exact ⟨h.1, fun j hj => (h.2 j hj).trans (if_neg hj)⟩
    · exact ⟨rfl, fun _ _ => rfl⟩
theorem gx_lt : ∀ (f : Nat) (c : Int64) (T : MS), (ltR f c T).2.2 = T.2 ∧ ∀ j, j ≠ 39 → (ltR f c T).2.1 j = T.1 j
  | 0, _, _ => ⟨rfl, fun _ _ => rfl⟩
  | f + 1, c, T => by
    show (if isLet T then ltR f (lt2 T c) (sI T 39 (T.1 39 + 1)) else (c, T)).2.2 = T.2 ∧ ∀ j, j ≠ 39 → (if isLet T then ltR f (lt2 T c) (sI T 39 (T.1 39 + 1)) else (c, T)).2.1 j = T.1 j
    split
    · have h := gx_lt f (lt2 T c) (sI T 39 (T.1 39 + 1))
      exact ⟨h.1, fun j hj => (h.2 j hj).trans (if_neg hj)⟩
    · exact ⟨rfl, fun _ _ => rfl⟩
theorem gx_fg : ∀ (f : Nat) (T : MS), (fgR f T).2 = T.2 ∧ ∀ j, j ≠ 39 → j ≠ 41 → (fgR f T).1 j = T.1 j
  | 0, _ => ⟨rfl, fun _ _ _ => rfl⟩
  | f + 1, T => by
    show (if isFig T then fgR f (fgN T) else T).2 = T.2 ∧ ∀ j, j ≠ 39 → j ≠ 41 → (if isFig T then fgR f (fgN T) else T).1 j = T.1 j
    split
    · have h := gx_fg f (fgN T)
      exact ⟨h.1, fun j hj h1 => (h.2 j hj h1).trans ((if_neg hj).trans (if_neg h1))⟩
    · exact ⟨rfl, fun _ _ _ => rfl⟩
theorem gx_mwd (T : MS) (c : Int64) : (mwd T c).2.2 = T.2 ∧ ∀ j, j ≠ 41 → (mwd T c).2.1 j = T.1 j := by
  unfold mwd
  repeat' split
  all_goals first | exact ⟨rfl, fun j hj => rfl⟩ | exact ⟨rfl, fun j hj => if_neg hj⟩
theorem gx_let (S : MS) : (mf_letters S).2 = S.2 ∧ ∀ j, j ≠ 39 → j ≠ 40 → j ≠ 41 → (mf_letters S).1 j = S.1 j := by
  unfold mf_letters
  have h := gx_lt 401 0 S
  generalize ltR 401 0 S = X at h
  unfold ltE
  have h2 := gx_mwd X.2 X.1
  split
  · exact ⟨h2.1.trans h.1, fun j h39 h40 h41 => (if_neg h40).trans ((h2.2 j h41).trans (h.2 j h39))⟩
  · exact ⟨h.1, fun j h39 h40 h41 => (if_neg h40).trans (h.2 j h39)⟩
theorem gx_B (T : MS) : (goB T).2 = T.2 ∧ ∀ j, j ≠ 38 → j ≠ 39 → j ≠ 40 → j ≠ 41 → (goB T).1 j = T.1 j := by
  have hI : ∀ j, j ≠ 38 → j ≠ 41 → (goI T).1 j = T.1 j := fun j h38 h41 => (if_neg h41).trans (if_neg h38)
  unfold goB
  split
  · split
    · have h := gx_let (goI T)
      exact ⟨h.1, fun j h38 h39 h40 h41 => (h.2 j h39 h40 h41).trans (hI j h38 h41)⟩
    · split
      · have h := gx_fg 401 (goI T)
        exact ⟨h.1, fun j h38 h39 h40 h41 => (if_neg h40).trans ((h.2 j h39 h41).trans (hI j h38 h41))⟩
      · exact ⟨rfl, fun j h38 h39 h40 h41 => (if_neg h39).trans ((if_neg h40).trans (hI j h38 h41))⟩
  · exact ⟨rfl, fun j h38 h39 h40 h41 => (if_neg h40).trans (hI j h38 h41)⟩
theorem gx_go (S : MS) : (mf_go S).2 = S.2 ∧ ∀ j, j ≠ 38 → j ≠ 39 → j ≠ 40 → j ≠ 41 → (mf_go S).1 j = S.1 j := by
  unfold mf_go
  have h := gx_sk 401 S
  have h2 := gx_B (skR 401 S)
  exact ⟨h2.1.trans h.1, fun j h38 h39 h40 h41 => (h2.2 j h38 h39 h40 h41).trans (h.2 j h39)⟩
theorem go_r (S : MS) (q : Nat) : (mf_go S).2.2.1 q = S.2.2.1 q := by rw [(gx_go S).1]
theorem go_29 (S : MS) : (mf_go S).1 29 = S.1 29 := (gx_go S).2 29 (by decide) (by decide) (by decide) (by decide)
/-- the new clauses: tests and verdicts are in their bounds -/
def ninv (S : MS) : Prop := ∀ c, c < 8 → (∃ k, k ≤ 4 ∧ S.2.2.1 31 c = nI k) ∧ (S.2.2.1 30 c = 0 ∨ S.2.2.1 30 c = 1)
def rdJ (n : Nat) (S : MS) : Prop := tpI S 401 ∧ ninv S ∧ S.1 29 = nI n ∧ n ≤ 8
theorem ninv_go {S : MS} (h : ninv S) : ninv (mf_go S) := by
  intro c hc
  rw [go_r, go_r]
  exact h c hc
theorem rd_go {n : Nat} {S : MS} (h : rdJ n S) : rdJ n (mf_go S) := ⟨tp_mfgo h.1, ninv_go h.2.1, (go_29 S).trans h.2.2.1, h.2.2.2⟩
theorem rd_ix {n : Nat} {S : MS} (h : rdJ (n + 1) S) : vp_in (S.1 29 - 1) 8 ∧ (S.1 29 - 1).toNatClampNeg = n := by
  have h8 := h.2.2.2
  rw [h.2.2.1, nI_pred]
  exact ⟨vp_in_nI (by omega) (by omega), nI_clamp (by omega)⟩
def mwr (S : MS) : MS := sL S 37 (S.1 38).toInt64
theorem rd_wr {n : Nat} {S : MS} (h : rdJ n S) : rdJ n (mwr S) := h
/-- a test's place -/
def mtA (S : MS) : Int32 := 4 * (S.1 29 - 1) + S.2.2.1 31 (S.1 29 - 1).toNatClampNeg
theorem mtA_eq {n k : Nat} {S : MS} (h : rdJ (n + 1) S) (e31 : S.2.2.1 31 n = nI k) : mtA S = nI (4 * n + k) := by
  unfold mtA
  rw [(rd_ix h).2, e31, h.2.2.1, nI_pred, show (4 : Int32) = nI 4 from by decide, nI_mul, nI_add]
theorem mtA_in {n k : Nat} {S : MS} (h : rdJ (n + 1) S) (hk : k < 4) (e31 : S.2.2.1 31 n = nI k) : vp_in (mtA S) 32 := by
  rw [mtA_eq h e31]
  have := h.2.2.2
  exact vp_in_nI (by omega) (by omega)
def mtN (A : Nat) (X : MS) : MS := sA (sA X 34 A (X.1 41)) 31 (X.1 29 - 1).toNatClampNeg ((sA X 34 A (X.1 41)).2.2.1 31 (X.1 29 - 1).toNatClampNeg + 1)
def mtT3 (A : Nat) (X : MS) : Int32 × MS := if X.1 40 = 7 then (1, mf_go (mtN A X)) else (0, mwr X)
def mtT2 (A : Nat) (X : MS) : Int32 × MS := if X.1 40 = 60 ∨ X.1 40 = 61 ∨ X.1 40 = 62 then mtT3 A (mf_go (sA X 33 A (X.1 40))) else (0, mwr X)
def mf_test (S : MS) : Int32 × MS := if S.1 40 = 6 then mtT2 (mtA S).toNatClampNeg (mf_go (sA S 32 (mtA S).toNatClampNeg (S.1 41))) else (0, mwr S)
theorem rd_32 {n : Nat} {S : MS} {i : Nat} {v : Int32} (h : rdJ n S) : rdJ n (sA S 32 i v) := h
theorem rd_33 {n : Nat} {S : MS} {i : Nat} {v : Int32} (h : rdJ n S) : rdJ n (sA S 33 i v) := h
theorem rd_34 {n : Nat} {S : MS} {i : Nat} {v : Int32} (h : rdJ n S) : rdJ n (sA S 34 i v) := h
theorem ninv_31 {S : MS} {i k : Nat} (h : ninv S) (hk : k ≤ 4) : ninv (sA S 31 i (nI k)) := by
  intro c hc
  refine ⟨?_, (h c hc).2⟩
  show ∃ q, q ≤ 4 ∧ upd (S.2.2.1 31) i (nI k) c = nI q
  unfold upd
  split
  · exact ⟨k, hk, rfl⟩
  · exact (h c hc).1
theorem rd_31 {n : Nat} {S : MS} {i k : Nat} (h : rdJ n S) (hk : k ≤ 4) : rdJ n (sA S 31 i (nI k)) := ⟨h.1, ninv_31 h.2.1 hk, h.2.2.1, h.2.2.2⟩
theorem mtN_eq {n k : Nat} {S : MS} (A : Nat) (h : rdJ (n + 1) S) (e31 : S.2.2.1 31 n = nI k) : mtN A S = sA (sA S 34 A (S.1 41)) 31 n (nI (k + 1)) := by
  unfold mtN
  rw [(rd_ix h).2, show (sA S 34 A (S.1 41)).2.2.1 31 n = nI k from e31, nI_1]
theorem ts_rd {n k : Nat} {S : MS} (h : rdJ (n + 1) S) (hk : k < 4) (e31 : S.2.2.1 31 n = nI k) : rdJ (n + 1) (mf_test S).2 ∧ ((mf_test S).1 = 0 ∨ ((mf_test S).1 = 1 ∧ (mf_test S).2.2.2.1 31 n = nI (k + 1))) := by
  unfold mf_test
  split
  · have h1 : rdJ (n + 1) (mf_go (sA S 32 (mtA S).toNatClampNeg (S.1 41))) := rd_go (rd_32 h)
    have e1 : (mf_go (sA S 32 (mtA S).toNatClampNeg (S.1 41))).2.2.1 31 n = nI k := by rw [go_r]; exact e31
    generalize mf_go (sA S 32 (mtA S).toNatClampNeg (S.1 41)) = X at h1 e1
    generalize (mtA S).toNatClampNeg = A
    unfold mtT2
    split
    · have h2 : rdJ (n + 1) (mf_go (sA X 33 A (X.1 40))) := rd_go (rd_33 h1)
      have e2 : (mf_go (sA X 33 A (X.1 40))).2.2.1 31 n = nI k := by rw [go_r]; exact e1
      generalize mf_go (sA X 33 A (X.1 40)) = Y at h2 e2
      unfold mtT3
      split
      · have h3 : rdJ (n + 1) (mf_go (mtN A Y)) := by
          rw [mtN_eq A h2 e2]
          exact rd_go (rd_31 (rd_34 h2) (by omega))
        have e3 : (mf_go (mtN A Y)).2.2.1 31 n = nI (k + 1) := by
          rw [go_r, mtN_eq A h2 e2]
          show upd (Y.2.2.1 31) n (nI (k + 1)) n = nI (k + 1)
          exact if_pos rfl
        generalize mf_go (mtN A Y) = Q at h3 e3
        exact ⟨h3, Or.inr ⟨rfl, e3⟩⟩
      · exact ⟨h2, Or.inl rfl⟩
    · exact ⟨h1, Or.inl rfl⟩
  · exact ⟨h, Or.inl rfl⟩

theorem M_goX (l : Launch) (D : va_G) (cy : Nat → ClassId) (a : Nat → Nat) (S X : MS) (hT : tpI S 401) (e : X = mf_go S) : Ct l D clx (tyx cy) yX9_go wsX9_go (rmD 2) 0 0 [.ref (a 0)] (MW cy a S) (fun r9 w9 => r9 = none ∧ w9 = MW cy a X) := by
  rw [e]
  exact M_go l D cy a S hT
theorem mtN_rd {n k A : Nat} {S : MS} (h : rdJ (n + 1) S) (hk : k < 4) (e31 : S.2.2.1 31 n = nI k) : rdJ (n + 1) (mtN A S) := by
  rw [mtN_eq A h e31]
  exact rd_31 (rd_34 h) (by omega)

set_option maxHeartbeats 4000000 in
set_option maxRecDepth 100000 in
/-- a test is read -/
theorem M_testX (l : Launch) (D : va_G) (cy : Nat → ClassId) (a : Nat → Nat) (S : MS) (X : Int32 × MS) (eX : X = mf_test S) (n k : Nat) (hJ : rdJ (n + 1) S) (hk : k < 4) (e31 : S.2.2.1 31 n = nI k) : Ct l D clx (tyx cy) yX9_test wsX9_test (rmD 3) 0 0 [.ref (a 0)] (MW cy a S) (fun r9 w9 => (r9 = some (.int 1) ∧ X.1 = 1 ∧ w9 = MW cy a X.2) ∨ (r9 = some (.int 0) ∧ X.1 = 0 ∧ w9 = MW cy a X.2)) := by
  refine g_start (cc := cX9_test) (maxL := 2) (ret := (some .boolean)) (by decide) rfl (Nat.le_of_ble_eq_true rfl) (fun v w1 h => by rcases h with ⟨rfl, -, -⟩ | ⟨rfl, -, -⟩ <;> exact ⟨.boolean, rfl, rfl⟩) (fun Γ hlΓ => ?_)
  subst hlΓ
  have hA := mtA_in hJ hk e31
  have hi8 := (rd_ix hJ).1
  obtain ⟨X1, eX1⟩ : ∃ Z : MS, Z = mf_go (sA S 32 (mtA S).toNatClampNeg (S.1 41)) := ⟨_, rfl⟩
  have hJ1 : rdJ (n + 1) X1 := by rw [eX1]; exact rd_go (rd_32 hJ)
  have e1 : X1.2.2.1 31 n = nI k := by rw [eX1, go_r]; exact e31
  obtain ⟨X2, eX2⟩ : ∃ Z : MS, Z = mf_go (sA X1 33 (mtA S).toNatClampNeg (X1.1 40)) := ⟨_, rfl⟩
  have hJ2 : rdJ (n + 1) X2 := by rw [eX2]; exact rd_go (rd_33 hJ1)
  have e2 : X2.2.2.1 31 n = nI k := by rw [eX2, go_r]; exact e1
  have hi9 := (rd_ix hJ2).1
  obtain ⟨X3, eX3⟩ : ∃ Z : MS, Z = mf_go (mtN (mtA S).toNatClampNeg X2) := ⟨_, rfl⟩
  have hT0 : tpI (sA S 32 (mtA S).toNatClampNeg (S.1 41)) 401 := (rd_32 hJ).1
  have hT1 : tpI (sA X1 33 (mtA S).toNatClampNeg (X1.1 40)) 401 := (rd_33 hJ1).1
  have hT2 : tpI (mtN (mtA S).toNatClampNeg X2) 401 := (mtN_rd hJ2 hk e2).1
  refine g_iconst (4) rfl dX9_test_0 ?_
  refine g_aload_n (i := 0) dX9_test_1 rfl rfl ?_
  refine m_get 29 dX9_test_2 (List.mem_of_getElem? (i := 1) rfl) (fun w h => List.mem_cons_of_mem _ (List.mem_append_right _ h)) (by decide) rfl ?_
  refine g_iconst (1) rfl dX9_test_5 ?_
  refine g_isub dX9_test_6 ?_
  refine g_imul dX9_test_7 ?_
  refine g_aload_n (i := 0) dX9_test_8 rfl rfl ?_
  refine m_get 31 dX9_test_9 (List.mem_of_getElem? (i := 2) rfl) (fun w h => List.mem_cons_of_mem _ (List.mem_append_right _ h)) (by decide) rfl ?_
  refine g_aload_n (i := 0) dX9_test_12 rfl rfl ?_
  refine m_get 29 dX9_test_13 (List.mem_of_getElem? (i := 1) rfl) (fun w h => List.mem_cons_of_mem _ (List.mem_append_right _ h)) (by decide) rfl ?_
  refine g_iconst (1) rfl dX9_test_16 ?_
  refine g_isub dX9_test_17 ?_
  refine m_iald 31 26 8 dX9_test_18 rfl hi8 ?_
  refine g_iadd dX9_test_19 ?_
  refine g_istore_n (i := 1) dX9_test_20 rfl (by decide) ?_
  refine g_aload_n (i := 0) dX9_test_21 rfl rfl ?_
  refine m_get 40 dX9_test_22 (List.mem_of_getElem? (i := 3) rfl) (fun w h => List.mem_cons_of_mem _ (List.mem_append_right _ h)) (by decide) rfl ?_
  refine g_bipush (6) rfl dX9_test_25 ?_
  refine g_icmp_eq 35 dX9_test_27 (by decide) (fun c_1 => ?_) (fun c_1 => ?_)
  · skip
    refine g_aload_n (i := 0) dX9_test_35 rfl rfl ?_
    refine m_get 32 dX9_test_36 (List.mem_of_getElem? (i := 4) rfl) (fun w h => List.mem_cons_of_mem _ (List.mem_append_right _ h)) (by decide) rfl ?_
    refine g_iload_n (i := 1) dX9_test_39 rfl rfl ?_
    refine g_aload_n (i := 0) dX9_test_40 rfl rfl ?_
    refine m_get 41 dX9_test_41 (List.mem_of_getElem? (i := 5) rfl) (fun w h => List.mem_cons_of_mem _ (List.mem_append_right _ h)) (by decide) rfl ?_
    refine m_iast 32 27 32 dX9_test_44 rfl hA (wsA_32 _ _ _ _ _) ?_
    refine g_aload_n (i := 0) dX9_test_45 rfl rfl ?_
    refine g_callVf 0 0 gX9_test_X9_go rfl rfl rfl ⟨Nat.le_of_ble_eq_true rfl, Nat.le_of_ble_eq_true rfl⟩ ⟨Nat.le_of_ble_eq_true rfl, Nat.le_of_ble_eq_true rfl⟩ (by exact Nat.le_of_ble_eq_true rfl) (by decide +kernel) rfl rfl rfl dX9_test_46 (M_goX _ D cy a (sA S 32 (mtA S).toNatClampNeg (S.1 41)) X1 hT0 eX1) rfl (fun vu_2 wu_2 hu_2 => ?_)
    obtain ⟨rfl, rfl⟩ := hu_2
    refine g_aload_n (i := 0) dX9_test_49 rfl rfl ?_
    refine m_get 40 dX9_test_50 (List.mem_of_getElem? (i := 3) rfl) (fun w h => List.mem_cons_of_mem _ (List.mem_append_right _ h)) (by decide) rfl ?_
    refine g_bipush (60) rfl dX9_test_53 ?_
    refine g_icmp_eq 81 dX9_test_55 (by decide) (fun c_3 => ?_) (fun c_3 => ?_)
    · skip
      have hor : X1.1 40 = 60 ∨ X1.1 40 = 61 ∨ X1.1 40 = 62 := Or.inl c_3
      refine g_aload_n (i := 0) dX9_test_81 rfl rfl ?_
      refine m_get 33 dX9_test_82 (List.mem_of_getElem? (i := 6) rfl) (fun w h => List.mem_cons_of_mem _ (List.mem_append_right _ h)) (by decide) rfl ?_
      refine g_iload_n (i := 1) dX9_test_85 rfl rfl ?_
      refine g_aload_n (i := 0) dX9_test_86 rfl rfl ?_
      refine m_get 40 dX9_test_87 (List.mem_of_getElem? (i := 3) rfl) (fun w h => List.mem_cons_of_mem _ (List.mem_append_right _ h)) (by decide) rfl ?_
      refine m_iast 33 28 32 dX9_test_90 rfl hA (wsA_33 _ _ _ _ _) ?_
      refine g_aload_n (i := 0) dX9_test_91 rfl rfl ?_
      refine g_callVf 0 0 gX9_test_X9_go rfl rfl rfl ⟨Nat.le_of_ble_eq_true rfl, Nat.le_of_ble_eq_true rfl⟩ ⟨Nat.le_of_ble_eq_true rfl, Nat.le_of_ble_eq_true rfl⟩ (by exact Nat.le_of_ble_eq_true rfl) (by decide +kernel) rfl rfl rfl dX9_test_92 (M_goX _ D cy a (sA X1 33 (mtA S).toNatClampNeg (X1.1 40)) X2 hT1 eX2) rfl (fun vu_4 wu_4 hu_4 => ?_)
      obtain ⟨rfl, rfl⟩ := hu_4
      refine g_aload_n (i := 0) dX9_test_95 rfl rfl ?_
      refine m_get 40 dX9_test_96 (List.mem_of_getElem? (i := 3) rfl) (fun w h => List.mem_cons_of_mem _ (List.mem_append_right _ h)) (by decide) rfl ?_
      refine g_bipush (7) rfl dX9_test_99 ?_
      refine g_icmp_eq 109 dX9_test_101 (by decide) (fun c_5 => ?_) (fun c_5 => ?_)
      · skip
        refine g_aload_n (i := 0) dX9_test_109 rfl rfl ?_
        refine m_get 34 dX9_test_110 (List.mem_of_getElem? (i := 7) rfl) (fun w h => List.mem_cons_of_mem _ (List.mem_append_right _ h)) (by decide) rfl ?_
        refine g_iload_n (i := 1) dX9_test_113 rfl rfl ?_
        refine g_aload_n (i := 0) dX9_test_114 rfl rfl ?_
        refine m_get 41 dX9_test_115 (List.mem_of_getElem? (i := 5) rfl) (fun w h => List.mem_cons_of_mem _ (List.mem_append_right _ h)) (by decide) rfl ?_
        refine m_iast 34 29 32 dX9_test_118 rfl hA (wsA_34 _ _ _ _ _) ?_
        refine g_aload_n (i := 0) dX9_test_119 rfl rfl ?_
        refine m_get 31 dX9_test_120 (List.mem_of_getElem? (i := 2) rfl) (fun w h => List.mem_cons_of_mem _ (List.mem_append_right _ h)) (by decide) rfl ?_
        refine g_aload_n (i := 0) dX9_test_123 rfl rfl ?_
        refine m_get 29 dX9_test_124 (List.mem_of_getElem? (i := 1) rfl) (fun w h => List.mem_cons_of_mem _ (List.mem_append_right _ h)) (by decide) rfl ?_
        refine g_iconst (1) rfl dX9_test_127 ?_
        refine g_isub dX9_test_128 ?_
        refine g_dup2_11 rfl rfl dX9_test_129 ?_
        refine m_iald 31 26 8 dX9_test_130 rfl hi9 ?_
        refine g_iconst (1) rfl dX9_test_131 ?_
        refine g_iadd dX9_test_132 ?_
        refine m_iast 31 26 8 dX9_test_133 rfl hi9 (wsA_31 _ _ _ _ _) ?_
        refine g_aload_n (i := 0) dX9_test_134 rfl rfl ?_
        refine g_callVf 0 0 gX9_test_X9_go rfl rfl rfl ⟨Nat.le_of_ble_eq_true rfl, Nat.le_of_ble_eq_true rfl⟩ ⟨Nat.le_of_ble_eq_true rfl, Nat.le_of_ble_eq_true rfl⟩ (by exact Nat.le_of_ble_eq_true rfl) (by decide +kernel) rfl rfl rfl dX9_test_135 (M_goX _ D cy a (mtN (mtA S).toNatClampNeg X2) X3 hT2 eX3) rfl (fun vu_6 wu_6 hu_6 => ?_)
        obtain ⟨rfl, rfl⟩ := hu_6
        refine g_iconst (1) rfl dX9_test_138 ?_
        refine g_iret dX9_test_139 ?_
        refine Or.inl ⟨rfl, ?_⟩
        rw [eX]
        unfold mf_test
        rw [if_pos (by assumption), ← eX1]
        unfold mtT2
        rw [if_pos hor, ← eX2]
        unfold mtT3
        rw [if_pos (by assumption), ← eX3]
        exact ⟨rfl, rfl⟩
      · skip
        refine g_aload_n (i := 0) dX9_test_104 rfl rfl ?_
        refine g_callVf 0 0 gX9_test_X9_wrong rfl rfl rfl ⟨Nat.le_of_ble_eq_true rfl, Nat.le_of_ble_eq_true rfl⟩ ⟨Nat.le_of_ble_eq_true rfl, Nat.le_of_ble_eq_true rfl⟩ (by exact Nat.le_of_ble_eq_true rfl) (by decide +kernel) rfl rfl rfl dX9_test_105 (M_wrong _ D cy a _) rfl (fun vu_7 wu_7 hu_7 => ?_)
        obtain ⟨rfl, rfl⟩ := hu_7
        refine g_iret dX9_test_108 ?_
        refine Or.inr ⟨rfl, ?_⟩
        rw [eX]
        unfold mf_test
        rw [if_pos (by assumption), ← eX1]
        unfold mtT2
        rw [if_pos hor, ← eX2]
        unfold mtT3
        rw [if_neg (by assumption)]
        exact ⟨rfl, rfl⟩
    · skip
      refine g_aload_n (i := 0) dX9_test_58 rfl rfl ?_
      refine m_get 40 dX9_test_59 (List.mem_of_getElem? (i := 3) rfl) (fun w h => List.mem_cons_of_mem _ (List.mem_append_right _ h)) (by decide) rfl ?_
      refine g_bipush (61) rfl dX9_test_62 ?_
      refine g_icmp_eq 81 dX9_test_64 (by decide) (fun c_8 => ?_) (fun c_8 => ?_)
      · skip
        have hor : X1.1 40 = 60 ∨ X1.1 40 = 61 ∨ X1.1 40 = 62 := Or.inr (Or.inl c_8)
        refine g_aload_n (i := 0) dX9_test_81 rfl rfl ?_
        refine m_get 33 dX9_test_82 (List.mem_of_getElem? (i := 6) rfl) (fun w h => List.mem_cons_of_mem _ (List.mem_append_right _ h)) (by decide) rfl ?_
        refine g_iload_n (i := 1) dX9_test_85 rfl rfl ?_
        refine g_aload_n (i := 0) dX9_test_86 rfl rfl ?_
        refine m_get 40 dX9_test_87 (List.mem_of_getElem? (i := 3) rfl) (fun w h => List.mem_cons_of_mem _ (List.mem_append_right _ h)) (by decide) rfl ?_
        refine m_iast 33 28 32 dX9_test_90 rfl hA (wsA_33 _ _ _ _ _) ?_
        refine g_aload_n (i := 0) dX9_test_91 rfl rfl ?_
        refine g_callVf 0 0 gX9_test_X9_go rfl rfl rfl ⟨Nat.le_of_ble_eq_true rfl, Nat.le_of_ble_eq_true rfl⟩ ⟨Nat.le_of_ble_eq_true rfl, Nat.le_of_ble_eq_true rfl⟩ (by exact Nat.le_of_ble_eq_true rfl) (by decide +kernel) rfl rfl rfl dX9_test_92 (M_goX _ D cy a (sA X1 33 (mtA S).toNatClampNeg (X1.1 40)) X2 hT1 eX2) rfl (fun vu_9 wu_9 hu_9 => ?_)
        obtain ⟨rfl, rfl⟩ := hu_9
        refine g_aload_n (i := 0) dX9_test_95 rfl rfl ?_
        refine m_get 40 dX9_test_96 (List.mem_of_getElem? (i := 3) rfl) (fun w h => List.mem_cons_of_mem _ (List.mem_append_right _ h)) (by decide) rfl ?_
        refine g_bipush (7) rfl dX9_test_99 ?_
        refine g_icmp_eq 109 dX9_test_101 (by decide) (fun c_10 => ?_) (fun c_10 => ?_)
        · skip
          refine g_aload_n (i := 0) dX9_test_109 rfl rfl ?_
          refine m_get 34 dX9_test_110 (List.mem_of_getElem? (i := 7) rfl) (fun w h => List.mem_cons_of_mem _ (List.mem_append_right _ h)) (by decide) rfl ?_
          refine g_iload_n (i := 1) dX9_test_113 rfl rfl ?_
          refine g_aload_n (i := 0) dX9_test_114 rfl rfl ?_
          refine m_get 41 dX9_test_115 (List.mem_of_getElem? (i := 5) rfl) (fun w h => List.mem_cons_of_mem _ (List.mem_append_right _ h)) (by decide) rfl ?_
          refine m_iast 34 29 32 dX9_test_118 rfl hA (wsA_34 _ _ _ _ _) ?_
          refine g_aload_n (i := 0) dX9_test_119 rfl rfl ?_
          refine m_get 31 dX9_test_120 (List.mem_of_getElem? (i := 2) rfl) (fun w h => List.mem_cons_of_mem _ (List.mem_append_right _ h)) (by decide) rfl ?_
          refine g_aload_n (i := 0) dX9_test_123 rfl rfl ?_
          refine m_get 29 dX9_test_124 (List.mem_of_getElem? (i := 1) rfl) (fun w h => List.mem_cons_of_mem _ (List.mem_append_right _ h)) (by decide) rfl ?_
          refine g_iconst (1) rfl dX9_test_127 ?_
          refine g_isub dX9_test_128 ?_
          refine g_dup2_11 rfl rfl dX9_test_129 ?_
          refine m_iald 31 26 8 dX9_test_130 rfl hi9 ?_
          refine g_iconst (1) rfl dX9_test_131 ?_
          refine g_iadd dX9_test_132 ?_
          refine m_iast 31 26 8 dX9_test_133 rfl hi9 (wsA_31 _ _ _ _ _) ?_
          refine g_aload_n (i := 0) dX9_test_134 rfl rfl ?_
          refine g_callVf 0 0 gX9_test_X9_go rfl rfl rfl ⟨Nat.le_of_ble_eq_true rfl, Nat.le_of_ble_eq_true rfl⟩ ⟨Nat.le_of_ble_eq_true rfl, Nat.le_of_ble_eq_true rfl⟩ (by exact Nat.le_of_ble_eq_true rfl) (by decide +kernel) rfl rfl rfl dX9_test_135 (M_goX _ D cy a (mtN (mtA S).toNatClampNeg X2) X3 hT2 eX3) rfl (fun vu_11 wu_11 hu_11 => ?_)
          obtain ⟨rfl, rfl⟩ := hu_11
          refine g_iconst (1) rfl dX9_test_138 ?_
          refine g_iret dX9_test_139 ?_
          refine Or.inl ⟨rfl, ?_⟩
          rw [eX]
          unfold mf_test
          rw [if_pos (by assumption), ← eX1]
          unfold mtT2
          rw [if_pos hor, ← eX2]
          unfold mtT3
          rw [if_pos (by assumption), ← eX3]
          exact ⟨rfl, rfl⟩
        · skip
          refine g_aload_n (i := 0) dX9_test_104 rfl rfl ?_
          refine g_callVf 0 0 gX9_test_X9_wrong rfl rfl rfl ⟨Nat.le_of_ble_eq_true rfl, Nat.le_of_ble_eq_true rfl⟩ ⟨Nat.le_of_ble_eq_true rfl, Nat.le_of_ble_eq_true rfl⟩ (by exact Nat.le_of_ble_eq_true rfl) (by decide +kernel) rfl rfl rfl dX9_test_105 (M_wrong _ D cy a _) rfl (fun vu_12 wu_12 hu_12 => ?_)
          obtain ⟨rfl, rfl⟩ := hu_12
          refine g_iret dX9_test_108 ?_
          refine Or.inr ⟨rfl, ?_⟩
          rw [eX]
          unfold mf_test
          rw [if_pos (by assumption), ← eX1]
          unfold mtT2
          rw [if_pos hor, ← eX2]
          unfold mtT3
          rw [if_neg (by assumption)]
          exact ⟨rfl, rfl⟩
      · skip
        refine g_aload_n (i := 0) dX9_test_67 rfl rfl ?_
        refine m_get 40 dX9_test_68 (List.mem_of_getElem? (i := 3) rfl) (fun w h => List.mem_cons_of_mem _ (List.mem_append_right _ h)) (by decide) rfl ?_
        refine g_bipush (62) rfl dX9_test_71 ?_
        refine g_icmp_eq 81 dX9_test_73 (by decide) (fun c_13 => ?_) (fun c_13 => ?_)
        · skip
          have hor : X1.1 40 = 60 ∨ X1.1 40 = 61 ∨ X1.1 40 = 62 := Or.inr (Or.inr c_13)
          refine g_aload_n (i := 0) dX9_test_81 rfl rfl ?_
          refine m_get 33 dX9_test_82 (List.mem_of_getElem? (i := 6) rfl) (fun w h => List.mem_cons_of_mem _ (List.mem_append_right _ h)) (by decide) rfl ?_
          refine g_iload_n (i := 1) dX9_test_85 rfl rfl ?_
          refine g_aload_n (i := 0) dX9_test_86 rfl rfl ?_
          refine m_get 40 dX9_test_87 (List.mem_of_getElem? (i := 3) rfl) (fun w h => List.mem_cons_of_mem _ (List.mem_append_right _ h)) (by decide) rfl ?_
          refine m_iast 33 28 32 dX9_test_90 rfl hA (wsA_33 _ _ _ _ _) ?_
          refine g_aload_n (i := 0) dX9_test_91 rfl rfl ?_
          refine g_callVf 0 0 gX9_test_X9_go rfl rfl rfl ⟨Nat.le_of_ble_eq_true rfl, Nat.le_of_ble_eq_true rfl⟩ ⟨Nat.le_of_ble_eq_true rfl, Nat.le_of_ble_eq_true rfl⟩ (by exact Nat.le_of_ble_eq_true rfl) (by decide +kernel) rfl rfl rfl dX9_test_92 (M_goX _ D cy a (sA X1 33 (mtA S).toNatClampNeg (X1.1 40)) X2 hT1 eX2) rfl (fun vu_14 wu_14 hu_14 => ?_)
          obtain ⟨rfl, rfl⟩ := hu_14
          refine g_aload_n (i := 0) dX9_test_95 rfl rfl ?_
          refine m_get 40 dX9_test_96 (List.mem_of_getElem? (i := 3) rfl) (fun w h => List.mem_cons_of_mem _ (List.mem_append_right _ h)) (by decide) rfl ?_
          refine g_bipush (7) rfl dX9_test_99 ?_
          refine g_icmp_eq 109 dX9_test_101 (by decide) (fun c_15 => ?_) (fun c_15 => ?_)
          · skip
            refine g_aload_n (i := 0) dX9_test_109 rfl rfl ?_
            refine m_get 34 dX9_test_110 (List.mem_of_getElem? (i := 7) rfl) (fun w h => List.mem_cons_of_mem _ (List.mem_append_right _ h)) (by decide) rfl ?_
            refine g_iload_n (i := 1) dX9_test_113 rfl rfl ?_
            refine g_aload_n (i := 0) dX9_test_114 rfl rfl ?_
            refine m_get 41 dX9_test_115 (List.mem_of_getElem? (i := 5) rfl) (fun w h => List.mem_cons_of_mem _ (List.mem_append_right _ h)) (by decide) rfl ?_
            refine m_iast 34 29 32 dX9_test_118 rfl hA (wsA_34 _ _ _ _ _) ?_
            refine g_aload_n (i := 0) dX9_test_119 rfl rfl ?_
            refine m_get 31 dX9_test_120 (List.mem_of_getElem? (i := 2) rfl) (fun w h => List.mem_cons_of_mem _ (List.mem_append_right _ h)) (by decide) rfl ?_
            refine g_aload_n (i := 0) dX9_test_123 rfl rfl ?_
            refine m_get 29 dX9_test_124 (List.mem_of_getElem? (i := 1) rfl) (fun w h => List.mem_cons_of_mem _ (List.mem_append_right _ h)) (by decide) rfl ?_
            refine g_iconst (1) rfl dX9_test_127 ?_
            refine g_isub dX9_test_128 ?_
            refine g_dup2_11 rfl rfl dX9_test_129 ?_
            refine m_iald 31 26 8 dX9_test_130 rfl hi9 ?_
            refine g_iconst (1) rfl dX9_test_131 ?_
            refine g_iadd dX9_test_132 ?_
            refine m_iast 31 26 8 dX9_test_133 rfl hi9 (wsA_31 _ _ _ _ _) ?_
            refine g_aload_n (i := 0) dX9_test_134 rfl rfl ?_
            refine g_callVf 0 0 gX9_test_X9_go rfl rfl rfl ⟨Nat.le_of_ble_eq_true rfl, Nat.le_of_ble_eq_true rfl⟩ ⟨Nat.le_of_ble_eq_true rfl, Nat.le_of_ble_eq_true rfl⟩ (by exact Nat.le_of_ble_eq_true rfl) (by decide +kernel) rfl rfl rfl dX9_test_135 (M_goX _ D cy a (mtN (mtA S).toNatClampNeg X2) X3 hT2 eX3) rfl (fun vu_16 wu_16 hu_16 => ?_)
            obtain ⟨rfl, rfl⟩ := hu_16
            refine g_iconst (1) rfl dX9_test_138 ?_
            refine g_iret dX9_test_139 ?_
            refine Or.inl ⟨rfl, ?_⟩
            rw [eX]
            unfold mf_test
            rw [if_pos (by assumption), ← eX1]
            unfold mtT2
            rw [if_pos hor, ← eX2]
            unfold mtT3
            rw [if_pos (by assumption), ← eX3]
            exact ⟨rfl, rfl⟩
          · skip
            refine g_aload_n (i := 0) dX9_test_104 rfl rfl ?_
            refine g_callVf 0 0 gX9_test_X9_wrong rfl rfl rfl ⟨Nat.le_of_ble_eq_true rfl, Nat.le_of_ble_eq_true rfl⟩ ⟨Nat.le_of_ble_eq_true rfl, Nat.le_of_ble_eq_true rfl⟩ (by exact Nat.le_of_ble_eq_true rfl) (by decide +kernel) rfl rfl rfl dX9_test_105 (M_wrong _ D cy a _) rfl (fun vu_17 wu_17 hu_17 => ?_)
            obtain ⟨rfl, rfl⟩ := hu_17
            refine g_iret dX9_test_108 ?_
            refine Or.inr ⟨rfl, ?_⟩
            rw [eX]
            unfold mf_test
            rw [if_pos (by assumption), ← eX1]
            unfold mtT2
            rw [if_pos hor, ← eX2]
            unfold mtT3
            rw [if_neg (by assumption)]
            exact ⟨rfl, rfl⟩
        · skip
          refine g_aload_n (i := 0) dX9_test_76 rfl rfl ?_
          refine g_callVf 0 0 gX9_test_X9_wrong rfl rfl rfl ⟨Nat.le_of_ble_eq_true rfl, Nat.le_of_ble_eq_true rfl⟩ ⟨Nat.le_of_ble_eq_true rfl, Nat.le_of_ble_eq_true rfl⟩ (by exact Nat.le_of_ble_eq_true rfl) (by decide +kernel) rfl rfl rfl dX9_test_77 (M_wrong _ D cy a _) rfl (fun vu_18 wu_18 hu_18 => ?_)
          obtain ⟨rfl, rfl⟩ := hu_18
          refine g_iret dX9_test_80 ?_
          refine Or.inr ⟨rfl, ?_⟩
          rw [eX]
          unfold mf_test
          rw [if_pos (by assumption), ← eX1]
          unfold mtT2
          rw [if_neg (by intro h9; rcases h9 with h9 | h9 | h9 <;> contradiction)]
          exact ⟨rfl, rfl⟩
  · skip
    refine g_aload_n (i := 0) dX9_test_30 rfl rfl ?_
    refine g_callVf 0 0 gX9_test_X9_wrong rfl rfl rfl ⟨Nat.le_of_ble_eq_true rfl, Nat.le_of_ble_eq_true rfl⟩ ⟨Nat.le_of_ble_eq_true rfl, Nat.le_of_ble_eq_true rfl⟩ (by exact Nat.le_of_ble_eq_true rfl) (by decide +kernel) rfl rfl rfl dX9_test_31 (M_wrong _ D cy a _) rfl (fun vu_19 wu_19 hu_19 => ?_)
    obtain ⟨rfl, rfl⟩ := hu_19
    refine g_iret dX9_test_34 ?_
    refine Or.inr ⟨rfl, ?_⟩
    rw [eX]
    unfold mf_test
    rw [if_neg (by assumption)]
    exact ⟨rfl, rfl⟩

def mc1 (S : MS) (v : Int32) : MS := sI (sA (sA S 30 (S.1 29).toNatClampNeg (vp_nar .boolean v)) 31 (S.1 29).toNatClampNeg 0) 29 (S.1 29 + 1)
/-- tests behind the first -/
def mcL : Nat → Int32 × MS → Int32 × MS
  | 0, Y => Y
  | f + 1, Y => if Y.1 = 0 then (0, Y.2) else if Y.2.1 40 = 5 then (if Y.2.2.2.1 31 (Y.2.1 29 - 1).toNatClampNeg = 4 then (0, mwr Y.2) else mcL f (mf_test (mf_go Y.2))) else (1, Y.2)
def mcB (X : MS) : Int32 × MS := if X.1 40 = 4 then mcL 4 (mf_test (mf_go X)) else (1, X)
def mf_clause (S : MS) : Int32 × MS := if S.1 40 = 2 then mcB (mf_go (mc1 S 1)) else if S.1 40 = 3 then mcB (mf_go (mc1 S 0)) else (0, mwr S)
theorem mcL0 (f : Nat) (Y : MS) : mcL f (0, Y) = (0, Y) := by
  cases f with
  | zero => rfl
  | succ f => exact if_pos rfl
theorem mcL1 {f : Nat} {Y : MS} (h : ¬ Y.1 40 = 5) : mcL (f + 1) (1, Y) = (1, Y) := (if_neg (show ¬ (1 : Int32) = 0 by decide)).trans (if_neg h)
theorem mcL2 {f : Nat} {Y : MS} (h : Y.1 40 = 5) (h4 : Y.2.2.1 31 (Y.1 29 - 1).toNatClampNeg = 4) : mcL (f + 1) (1, Y) = (0, mwr Y) := (if_neg (show ¬ (1 : Int32) = 0 by decide)).trans ((if_pos h).trans (if_pos h4))
theorem mcL3 {f : Nat} {Y : MS} (h : Y.1 40 = 5) (h4 : ¬ Y.2.2.1 31 (Y.1 29 - 1).toNatClampNeg = 4) : mcL (f + 1) (1, Y) = mcL f (mf_test (mf_go Y)) := (if_neg (show ¬ (1 : Int32) = 0 by decide)).trans ((if_pos h).trans (if_neg h4))
/-- between the tests of clause n -/
def clI (n f : Nat) (g : Int32) (Y : MS) : Prop := rdJ (n + 1) Y ∧ (g = 0 ∨ (g = 1 ∧ ∃ k, k ≤ 4 ∧ k + f = 5 ∧ Y.2.2.1 31 n = nI k))
theorem clI_t {n k f : Nat} {S : MS} (h : rdJ (n + 1) S) (hk : k < 4) (e31 : S.2.2.1 31 n = nI k) (hf : k + 1 + f = 5) : clI n f (mf_test S).1 (mf_test S).2 := by
  obtain ⟨h1, h2⟩ := ts_rd h hk e31
  refine ⟨h1, ?_⟩
  rcases h2 with h2 | ⟨h2, h3⟩
  · exact Or.inl h2
  · exact Or.inr ⟨h2, k + 1, by omega, by omega, h3⟩
theorem mcL_rd {n : Nat} : ∀ (f : Nat) (X : Int32 × MS), clI n f X.1 X.2 → rdJ (n + 1) (mcL f X).2 ∧ ((mcL f X).1 = 0 ∨ (mcL f X).1 = 1)
  | 0, X, h => ⟨h.1, by rcases h.2 with h2 | ⟨h2, -⟩; exact Or.inl h2; exact Or.inr h2⟩
  | f + 1, X, h => by
    obtain ⟨g, Y⟩ := X
    replace h : clI n (f + 1) g Y := h
    rcases h.2 with rfl | ⟨rfl, k, hk4, hkf, hk31⟩
    · rw [mcL0]
      exact ⟨h.1, Or.inl rfl⟩
    · by_cases h5 : Y.1 40 = 5
      · by_cases h4 : Y.2.2.1 31 (Y.1 29 - 1).toNatClampNeg = 4
        · rw [mcL2 h5 h4]
          exact ⟨h.1, Or.inl rfl⟩
        · rw [mcL3 h5 h4]
          have hk : k < 4 := by
            rw [(rd_ix h.1).2, hk31, show (4 : Int32) = nI 4 from by decide, nI_eq (by omega) (by decide)] at h4
            omega
          have q := clI_t (f := f) (rd_go h.1) hk (by rw [go_r]; exact hk31) (by omega)
          generalize mf_test (mf_go Y) = Z at q
          exact mcL_rd f Z q
      · rw [mcL1 h5]
        exact ⟨h.1, Or.inr rfl⟩
theorem rd_c1 {n : Nat} {S : MS} (h : rdJ n S) (hn : n < 8) (v : Int32) (hv : vp_nar .boolean v = 0 ∨ vp_nar .boolean v = 1) : rdJ (n + 1) (mc1 S v) ∧ (mc1 S v).2.2.1 31 n = nI 0 := by
  have ec : (S.1 29).toNatClampNeg = n := by rw [h.2.2.1, nI_clamp (by omega)]
  have e : mc1 S v = sI (sA (sA S 30 n (vp_nar .boolean v)) 31 n (nI 0)) 29 (nI (n + 1)) := by
    unfold mc1
    rw [ec, h.2.2.1, nI_1, show (0 : Int32) = nI 0 from by decide]
  rw [e]
  refine ⟨⟨h.1, ?_, rfl, by omega⟩, ?_⟩
  · intro c hc
    have k := ninv_31 (S := sA S 30 n (vp_nar .boolean v)) (i := n) (k := 0) (by
      intro q hq
      refine ⟨(h.2.1 q hq).1, ?_⟩
      show upd (S.2.2.1 30) n (vp_nar .boolean v) q = 0 ∨ upd (S.2.2.1 30) n (vp_nar .boolean v) q = 1
      unfold upd
      split
      · exact hv
      · exact (h.2.1 q hq).2) (by omega)
    exact k c hc
  · show upd (S.2.2.1 31) n (nI 0) n = nI 0
    exact if_pos rfl
theorem vn1 : vp_nar .boolean 1 = 1 := by decide
theorem vn0 : vp_nar .boolean 0 = 0 := by decide
theorem mcB_rd {n : Nat} {X : MS} (h : rdJ (n + 1) X) (e31 : X.2.2.1 31 n = nI 0) : rdJ (n + 1) (mcB X).2 ∧ ((mcB X).1 = 0 ∨ (mcB X).1 = 1) := by
  have q := clI_t (k := 0) (f := 4) (rd_go h) (by omega) (by rw [go_r]; exact e31) (by omega)
  unfold mcB
  generalize mf_test (mf_go X) = Z at q
  split
  · exact mcL_rd 4 Z q
  · exact ⟨h, Or.inr rfl⟩
theorem cl_rd {n : Nat} {S : MS} (h : rdJ n S) (hn : n < 8) : ((mf_clause S).1 = 0 ∧ ∃ m, rdJ m (mf_clause S).2) ∨ ((mf_clause S).1 = 1 ∧ rdJ (n + 1) (mf_clause S).2) := by
  have key : ∀ v, (vp_nar .boolean v = 0 ∨ vp_nar .boolean v = 1) → ((mcB (mf_go (mc1 S v))).1 = 0 ∧ ∃ m, rdJ m (mcB (mf_go (mc1 S v))).2) ∨ ((mcB (mf_go (mc1 S v))).1 = 1 ∧ rdJ (n + 1) (mcB (mf_go (mc1 S v))).2) := by
    intro v hv
    obtain ⟨k1, k2⟩ := rd_c1 h hn v hv
    obtain ⟨k3, k4⟩ := mcB_rd (rd_go k1) (by rw [go_r]; exact k2)
    generalize mcB (mf_go (mc1 S v)) = Z at k3 k4
    rcases k4 with k4 | k4
    · exact Or.inl ⟨k4, _, k3⟩
    · exact Or.inr ⟨k4, k3⟩
  unfold mf_clause
  split
  · exact key 1 (Or.inr vn1)
  · split
    · exact key 0 (Or.inl vn0)
    · exact Or.inl ⟨rfl, n, h⟩

set_option maxHeartbeats 4000000 in
set_option maxRecDepth 100000 in
/-- a clause is read -/
theorem M_clauseX (l : Launch) (D : va_G) (cy : Nat → ClassId) (a : Nat → Nat) (S : MS) (X : Int32 × MS) (eX : X = mf_clause S) (n : Nat) (hJ : rdJ n S) (hn : n < 8) : Ct l D clx (tyx cy) yX9_clause wsX9_clause (rmD 4) 0 0 [.ref (a 0)] (MW cy a S) (fun r9 w9 => (r9 = some (.int 1) ∧ X.1 = 1 ∧ w9 = MW cy a X.2) ∨ (r9 = some (.int 0) ∧ X.1 = 0 ∧ w9 = MW cy a X.2)) := by
  refine g_start (cc := cX9_clause) (maxL := 2) (ret := (some .boolean)) (by decide) rfl (Nat.le_of_ble_eq_true rfl) (fun v w1 h => by rcases h with ⟨rfl, -, -⟩ | ⟨rfl, -, -⟩ <;> exact ⟨.boolean, rfl, rfl⟩) (fun Γ hlΓ => ?_)
  subst hlΓ
  have hi0 : vp_in (S.1 29) 8 := by rw [hJ.2.2.1]; exact vp_in_nI hn (by decide)
  refine g_aload_n (i := 0) dX9_clause_0 rfl rfl ?_
  refine m_get 40 dX9_clause_1 (List.mem_of_getElem? (i := 1) rfl) (fun w h => List.mem_cons_of_mem _ (List.mem_append_right _ h)) (by decide) rfl ?_
  refine g_iconst (2) rfl dX9_clause_4 ?_
  refine g_icmp_eq 21 dX9_clause_5 (by decide) (fun c_1 => ?_) (fun c_1 => ?_)
  · skip
    have hw2 : S.1 40 = 2 := c_1
    refine g_aload_n (i := 0) dX9_clause_21 rfl rfl ?_
    refine m_get 30 dX9_clause_22 (List.mem_of_getElem? (i := 2) rfl) (fun w h => List.mem_cons_of_mem _ (List.mem_append_right _ h)) (by decide) rfl ?_
    refine g_aload_n (i := 0) dX9_clause_25 rfl rfl ?_
    refine m_get 29 dX9_clause_26 (List.mem_of_getElem? (i := 3) rfl) (fun w h => List.mem_cons_of_mem _ (List.mem_append_right _ h)) (by decide) rfl ?_
    refine g_aload_n (i := 0) dX9_clause_29 rfl rfl ?_
    refine m_get 40 dX9_clause_30 (List.mem_of_getElem? (i := 1) rfl) (fun w h => List.mem_cons_of_mem _ (List.mem_append_right _ h)) (by decide) rfl ?_
    refine g_iconst (2) rfl dX9_clause_33 ?_
    refine g_icmp_ne 41 dX9_clause_34 (by decide) (fun c_2 => ?_) (fun c_2 => ?_)
    · skip
      exact absurd hw2 c_2
    · skip
      obtain ⟨hJ0, e0⟩ := rd_c1 hJ hn 1 (Or.inr vn1)
      obtain ⟨X1, eX1⟩ : ∃ Z : MS, Z = mf_go (mc1 S 1) := ⟨_, rfl⟩
      have hJ1 : rdJ (n + 1) X1 := (by rw [eX1]; exact rd_go hJ0)
      have e1 : X1.2.2.1 31 n = nI 0 := (by rw [eX1, go_r]; exact e0)
      obtain ⟨X2, eX2⟩ : ∃ Z : MS, Z = mf_go X1 := ⟨_, rfl⟩
      have hJ9 : rdJ (n + 1) X2 := (by rw [eX2]; exact rd_go hJ1)
      have hk9 : 0 < 4 := (by decide)
      have e9 : X2.2.2.1 31 n = nI 0 := (by rw [eX2, go_r]; exact e1)
      obtain ⟨Y0, eY0⟩ : ∃ Z : Int32 × MS, Z = mf_test X2 := ⟨_, rfl⟩
      obtain ⟨X9, hX9⟩ : ∃ Z : Int32 × MS, Z = mcL 4 (mf_test X2) := ⟨_, rfl⟩
      refine g_iconst (1) rfl dX9_clause_37 ?_
      refine g_goto 42 dX9_clause_38 (by decide) ?_
      refine m_zast 30 25 8 dX9_clause_42 rfl hi0 (wsA_30 _ _ _ _ _) ?_
      refine g_aload_n (i := 0) dX9_clause_43 rfl rfl ?_
      refine m_get 31 dX9_clause_44 (List.mem_of_getElem? (i := 4) rfl) (fun w h => List.mem_cons_of_mem _ (List.mem_append_right _ h)) (by decide) rfl ?_
      refine g_aload_n (i := 0) dX9_clause_47 rfl rfl ?_
      refine m_get 29 dX9_clause_48 (List.mem_of_getElem? (i := 3) rfl) (fun w h => List.mem_cons_of_mem _ (List.mem_append_right _ h)) (by decide) rfl ?_
      refine g_iconst (0) rfl dX9_clause_51 ?_
      refine m_iast 31 26 8 dX9_clause_52 rfl hi0 (wsA_31 _ _ _ _ _) ?_
      refine g_aload_n (i := 0) dX9_clause_53 rfl rfl ?_
      refine g_dup rfl dX9_clause_54 ?_
      refine m_get 29 dX9_clause_55 (List.mem_of_getElem? (i := 3) rfl) (fun w h => List.mem_cons_of_mem _ (List.mem_append_right _ h)) (by decide) rfl ?_
      refine g_iconst (1) rfl dX9_clause_58 ?_
      refine g_iadd dX9_clause_59 ?_
      refine m_puti 29 dX9_clause_60 (List.mem_of_getElem? (i := 3) rfl) (fun w h => List.mem_cons_of_mem _ (List.mem_append_right _ h)) (by decide) rfl rfl rfl (wsI_29 _ _ _ _) ?_
      refine g_aload_n (i := 0) dX9_clause_63 rfl rfl ?_
      refine g_callVf 0 0 gX9_clause_X9_go rfl rfl rfl ⟨Nat.le_of_ble_eq_true rfl, Nat.le_of_ble_eq_true rfl⟩ ⟨Nat.le_of_ble_eq_true rfl, Nat.le_of_ble_eq_true rfl⟩ (by exact Nat.le_of_ble_eq_true rfl) (by decide +kernel) rfl rfl rfl dX9_clause_64 (M_goX _ D cy a (mc1 S _) X1 hJ0.1 eX1) rfl (fun vu_3 wu_3 hu_3 => ?_)
      obtain ⟨rfl, rfl⟩ := hu_3
      refine g_aload_n (i := 0) dX9_clause_67 rfl rfl ?_
      refine m_get 40 dX9_clause_68 (List.mem_of_getElem? (i := 1) rfl) (fun w h => List.mem_cons_of_mem _ (List.mem_append_right _ h)) (by decide) rfl ?_
      refine g_iconst (4) rfl dX9_clause_71 ?_
      refine g_icmp_eq 77 dX9_clause_72 (by decide) (fun c_4 => ?_) (fun c_4 => ?_)
      · skip
        have hw4 : X1.1 40 = 4 := c_4
        refine g_aload_n (i := 0) dX9_clause_77 rfl rfl ?_
        refine g_callVf 0 0 gX9_clause_X9_go rfl rfl rfl ⟨Nat.le_of_ble_eq_true rfl, Nat.le_of_ble_eq_true rfl⟩ ⟨Nat.le_of_ble_eq_true rfl, Nat.le_of_ble_eq_true rfl⟩ (by exact Nat.le_of_ble_eq_true rfl) (by decide +kernel) rfl rfl rfl dX9_clause_78 (M_goX _ D cy a X1 X2 hJ1.1 eX2) rfl (fun vu_5 wu_5 hu_5 => ?_)
        obtain ⟨rfl, rfl⟩ := hu_5
        refine g_aload_n (i := 0) dX9_clause_81 rfl rfl ?_
        refine g_callVf 0 0 gX9_clause_X9_test rfl rfl rfl ⟨Nat.le_of_ble_eq_true rfl, Nat.le_of_ble_eq_true rfl⟩ ⟨Nat.le_of_ble_eq_true rfl, Nat.le_of_ble_eq_true rfl⟩ (by exact Nat.le_of_ble_eq_true rfl) (by decide +kernel) rfl rfl rfl dX9_clause_82 (M_testX _ D cy a X2 Y0 eY0 n 0 hJ9 hk9 e9) rfl (fun vu_6 wu_6 hu_6 => ?_)
        rcases hu_6 with ⟨rfl, hu_6, rfl⟩ | ⟨rfl, hu_6, rfl⟩
        · skip
          have hu_T := hu_6
          refine g_istore_n (i := 1) dX9_clause_85 rfl (by decide) ?_
          have hcI : clI n 4 1 Y0.2 := (by have q9 := clI_t hJ9 hk9 e9 (f := 4) rfl; rw [← eY0, hu_T] at q9; exact q9)
          have hx0 : mcL 4 (1, Y0.2) = X9 := (by rw [hX9, ← eY0, ← hu_T])
          refine g_whl (σ := Nat × Int32 × MS) (fun x => x.1) (fun x => clI n x.1 x.2.1 x.2.2 ∧ mcL x.1 (x.2.1, x.2.2) = X9) (fun x => MW cy a x.2.2) (fun x => [(0, .ref (a 0)), (1, .int x.2.1)]) (4, 1, Y0.2) ⟨hcI, hx0⟩ rfl ⟨rfl, rfl, trivial⟩ (fun x gx ih => ?_)
          obtain ⟨f, g, Y⟩ := x
          obtain ⟨gI, gx⟩ := gx
          replace gI : clI n f g Y := gI
          replace gx : mcL f (g, Y) = X9 := gx
          refine g_nrm [(0, .ref (a 0)), (1, .int g)] ⟨rfl, rfl, trivial⟩ ?_
          obtain ⟨hJY, gI⟩ := gI
          rcases gI with rfl | ⟨rfl, k, hk4, hkf, hk31⟩
          · skip
            refine g_iload_n (i := 1) dX9_clause_86 rfl rfl ?_
            refine g_if_eq 130 dX9_clause_87 (by decide) (fun _ => ?_) (fun h9 => absurd h9 (by decide))
            refine g_iload_n (i := 1) dX9_clause_130 rfl rfl ?_
            refine g_iret dX9_clause_131 ?_
            first | (refine Or.inr ⟨rfl, ?_⟩; (rw [eX]); (unfold mf_clause); (first | rw [if_pos hw2, ← eX1] | rw [if_neg hw3, if_pos hw30, ← eX1]); (unfold mcB); (rw [if_pos hw4, ← eX2, ← hX9, ← gx]); rw [mcL0]; exact ⟨rfl, rfl⟩) | (refine Or.inl ⟨rfl, ?_⟩; (rw [eX]); (unfold mf_clause); (first | rw [if_pos hw2, ← eX1] | rw [if_neg hw3, if_pos hw30, ← eX1]); (unfold mcB); (rw [if_pos hw4, ← eX2, ← hX9, ← gx]); rw [mcL1 (by assumption)]; exact ⟨rfl, rfl⟩)
          · skip
            obtain ⟨f, rfl⟩ : ∃ f9, f = f9 + 1 := ⟨f - 1, by omega⟩
            have hiY := (rd_ix hJY).1
            obtain ⟨Z1, eZ1⟩ : ∃ Z : MS, Z = mf_go Y := ⟨_, rfl⟩
            obtain ⟨Q1, eQ1⟩ : ∃ Z : Int32 × MS, Z = mf_test Z1 := ⟨_, rfl⟩
            refine g_iload_n (i := 1) dX9_clause_86 rfl rfl ?_
            refine g_if_eq 130 dX9_clause_87 (by decide) (fun h9 => absurd h9 (by decide)) (fun _ => ?_)
            refine g_aload_n (i := 0) dX9_clause_90 rfl rfl ?_
            refine m_get 40 dX9_clause_91 (List.mem_of_getElem? (i := 1) rfl) (fun w h => List.mem_cons_of_mem _ (List.mem_append_right _ h)) (by decide) rfl ?_
            refine g_iconst (5) rfl dX9_clause_94 ?_
            refine g_icmp_ne 130 dX9_clause_95 (by decide) (fun c_10 => ?_) (fun c_10 => ?_)
            · skip
              refine g_iload_n (i := 1) dX9_clause_130 rfl rfl ?_
              refine g_iret dX9_clause_131 ?_
              first | (refine Or.inr ⟨rfl, ?_⟩; (rw [eX]); (unfold mf_clause); (first | rw [if_pos hw2, ← eX1] | rw [if_neg hw3, if_pos hw30, ← eX1]); (unfold mcB); (rw [if_pos hw4, ← eX2, ← hX9, ← gx]); rw [mcL0]; exact ⟨rfl, rfl⟩) | (refine Or.inl ⟨rfl, ?_⟩; (rw [eX]); (unfold mf_clause); (first | rw [if_pos hw2, ← eX1] | rw [if_neg hw3, if_pos hw30, ← eX1]); (unfold mcB); (rw [if_pos hw4, ← eX2, ← hX9, ← gx]); rw [mcL1 (by assumption)]; exact ⟨rfl, rfl⟩)
            · skip
              have hw5 : Y.1 40 = 5 := c_10
              refine g_aload_n (i := 0) dX9_clause_98 rfl rfl ?_
              refine m_get 31 dX9_clause_99 (List.mem_of_getElem? (i := 4) rfl) (fun w h => List.mem_cons_of_mem _ (List.mem_append_right _ h)) (by decide) rfl ?_
              refine g_aload_n (i := 0) dX9_clause_102 rfl rfl ?_
              refine m_get 29 dX9_clause_103 (List.mem_of_getElem? (i := 3) rfl) (fun w h => List.mem_cons_of_mem _ (List.mem_append_right _ h)) (by decide) rfl ?_
              refine g_iconst (1) rfl dX9_clause_106 ?_
              refine g_isub dX9_clause_107 ?_
              refine m_iald 31 26 8 dX9_clause_108 rfl hiY ?_
              refine g_iconst (4) rfl dX9_clause_109 ?_
              refine g_icmp_ne 118 dX9_clause_110 (by decide) (fun c_11 => ?_) (fun c_11 => ?_)
              · skip
                have hn4 : ¬ Y.2.2.1 31 (Y.1 29 - 1).toNatClampNeg = 4 := c_11
                have hk9 : k < 4 := (by have hn5 := hn4; rw [(rd_ix hJY).2, hk31, show (4 : Int32) = nI 4 from by decide, nI_eq (by omega) (by decide)] at hn5; omega)
                have hJ9 : rdJ (n + 1) Z1 := (by rw [eZ1]; exact rd_go hJY)
                have e9 : Z1.2.2.1 31 n = nI k := (by rw [eZ1, go_r]; exact hk31)
                refine g_aload_n (i := 0) dX9_clause_118 rfl rfl ?_
                refine g_callVf 0 0 gX9_clause_X9_go rfl rfl rfl ⟨Nat.le_of_ble_eq_true rfl, Nat.le_of_ble_eq_true rfl⟩ ⟨Nat.le_of_ble_eq_true rfl, Nat.le_of_ble_eq_true rfl⟩ (by exact Nat.le_of_ble_eq_true rfl) (by decide +kernel) rfl rfl rfl dX9_clause_119 (M_goX _ D cy a Y Z1 hJY.1 eZ1) rfl (fun vu_12 wu_12 hu_12 => ?_)
                obtain ⟨rfl, rfl⟩ := hu_12
                refine g_aload_n (i := 0) dX9_clause_122 rfl rfl ?_
                refine g_callVf 0 0 gX9_clause_X9_test rfl rfl rfl ⟨Nat.le_of_ble_eq_true rfl, Nat.le_of_ble_eq_true rfl⟩ ⟨Nat.le_of_ble_eq_true rfl, Nat.le_of_ble_eq_true rfl⟩ (by exact Nat.le_of_ble_eq_true rfl) (by decide +kernel) rfl rfl rfl dX9_clause_123 (M_testX _ D cy a Z1 Q1 eQ1 n k hJ9 hk9 e9) rfl (fun vu_13 wu_13 hu_13 => ?_)
                rcases hu_13 with ⟨rfl, hu_13, rfl⟩ | ⟨rfl, hu_13, rfl⟩
                · skip
                  have hu_T := hu_13
                  refine g_istore_n (i := 1) dX9_clause_126 rfl (by decide) ?_
                  refine g_goto 86 dX9_clause_127 (by decide) ?_
                  first | (exact g_to _ _ (ih (f, 1, Q1.2) ⟨(by have q9 := clI_t hJ9 hk9 e9 (f := f) (by omega); rw [← eQ1, hu_T] at q9; exact q9), (by show mcL f (1, Q1.2) = X9; rw [← gx, mcL3 hw5 hn4, ← eZ1, ← eQ1, ← hu_T])⟩ (Nat.lt_succ_self f)) rfl ⟨rfl, rfl, trivial⟩) | (exact g_to _ _ (ih (f, 0, Q1.2) ⟨(by have q9 := clI_t hJ9 hk9 e9 (f := f) (by omega); rw [← eQ1, hu_T] at q9; exact q9), (by show mcL f (0, Q1.2) = X9; rw [← gx, mcL3 hw5 hn4, ← eZ1, ← eQ1, ← hu_T])⟩ (Nat.lt_succ_self f)) rfl ⟨rfl, rfl, trivial⟩)
                · skip
                  have hu_T := hu_13
                  refine g_istore_n (i := 1) dX9_clause_126 rfl (by decide) ?_
                  refine g_goto 86 dX9_clause_127 (by decide) ?_
                  first | (exact g_to _ _ (ih (f, 1, Q1.2) ⟨(by have q9 := clI_t hJ9 hk9 e9 (f := f) (by omega); rw [← eQ1, hu_T] at q9; exact q9), (by show mcL f (1, Q1.2) = X9; rw [← gx, mcL3 hw5 hn4, ← eZ1, ← eQ1, ← hu_T])⟩ (Nat.lt_succ_self f)) rfl ⟨rfl, rfl, trivial⟩) | (exact g_to _ _ (ih (f, 0, Q1.2) ⟨(by have q9 := clI_t hJ9 hk9 e9 (f := f) (by omega); rw [← eQ1, hu_T] at q9; exact q9), (by show mcL f (0, Q1.2) = X9; rw [← gx, mcL3 hw5 hn4, ← eZ1, ← eQ1, ← hu_T])⟩ (Nat.lt_succ_self f)) rfl ⟨rfl, rfl, trivial⟩)
              · skip
                refine g_aload_n (i := 0) dX9_clause_113 rfl rfl ?_
                refine g_callVf 0 0 gX9_clause_X9_wrong rfl rfl rfl ⟨Nat.le_of_ble_eq_true rfl, Nat.le_of_ble_eq_true rfl⟩ ⟨Nat.le_of_ble_eq_true rfl, Nat.le_of_ble_eq_true rfl⟩ (by exact Nat.le_of_ble_eq_true rfl) (by decide +kernel) rfl rfl rfl dX9_clause_114 (M_wrong _ D cy a _) rfl (fun vu_14 wu_14 hu_14 => ?_)
                obtain ⟨rfl, rfl⟩ := hu_14
                refine g_iret dX9_clause_117 ?_
                refine Or.inr ⟨rfl, ?_⟩
                rw [eX]
                unfold mf_clause
                first | rw [if_pos hw2, ← eX1] | rw [if_neg hw3, if_pos hw30, ← eX1]
                unfold mcB
                rw [if_pos hw4, ← eX2, ← hX9, ← gx]
                rw [mcL2 hw5 (by assumption)]
                exact ⟨rfl, rfl⟩
        · skip
          have hu_T := hu_6
          refine g_istore_n (i := 1) dX9_clause_85 rfl (by decide) ?_
          have hcI : clI n 4 0 Y0.2 := (by have q9 := clI_t hJ9 hk9 e9 (f := 4) rfl; rw [← eY0, hu_T] at q9; exact q9)
          have hx0 : mcL 4 (0, Y0.2) = X9 := (by rw [hX9, ← eY0, ← hu_T])
          refine g_whl (σ := Nat × Int32 × MS) (fun x => x.1) (fun x => clI n x.1 x.2.1 x.2.2 ∧ mcL x.1 (x.2.1, x.2.2) = X9) (fun x => MW cy a x.2.2) (fun x => [(0, .ref (a 0)), (1, .int x.2.1)]) (4, 0, Y0.2) ⟨hcI, hx0⟩ rfl ⟨rfl, rfl, trivial⟩ (fun x gx ih => ?_)
          obtain ⟨f, g, Y⟩ := x
          obtain ⟨gI, gx⟩ := gx
          replace gI : clI n f g Y := gI
          replace gx : mcL f (g, Y) = X9 := gx
          refine g_nrm [(0, .ref (a 0)), (1, .int g)] ⟨rfl, rfl, trivial⟩ ?_
          obtain ⟨hJY, gI⟩ := gI
          rcases gI with rfl | ⟨rfl, k, hk4, hkf, hk31⟩
          · skip
            refine g_iload_n (i := 1) dX9_clause_86 rfl rfl ?_
            refine g_if_eq 130 dX9_clause_87 (by decide) (fun _ => ?_) (fun h9 => absurd h9 (by decide))
            refine g_iload_n (i := 1) dX9_clause_130 rfl rfl ?_
            refine g_iret dX9_clause_131 ?_
            first | (refine Or.inr ⟨rfl, ?_⟩; (rw [eX]); (unfold mf_clause); (first | rw [if_pos hw2, ← eX1] | rw [if_neg hw3, if_pos hw30, ← eX1]); (unfold mcB); (rw [if_pos hw4, ← eX2, ← hX9, ← gx]); rw [mcL0]; exact ⟨rfl, rfl⟩) | (refine Or.inl ⟨rfl, ?_⟩; (rw [eX]); (unfold mf_clause); (first | rw [if_pos hw2, ← eX1] | rw [if_neg hw3, if_pos hw30, ← eX1]); (unfold mcB); (rw [if_pos hw4, ← eX2, ← hX9, ← gx]); rw [mcL1 (by assumption)]; exact ⟨rfl, rfl⟩)
          · skip
            obtain ⟨f, rfl⟩ : ∃ f9, f = f9 + 1 := ⟨f - 1, by omega⟩
            have hiY := (rd_ix hJY).1
            obtain ⟨Z1, eZ1⟩ : ∃ Z : MS, Z = mf_go Y := ⟨_, rfl⟩
            obtain ⟨Q1, eQ1⟩ : ∃ Z : Int32 × MS, Z = mf_test Z1 := ⟨_, rfl⟩
            refine g_iload_n (i := 1) dX9_clause_86 rfl rfl ?_
            refine g_if_eq 130 dX9_clause_87 (by decide) (fun h9 => absurd h9 (by decide)) (fun _ => ?_)
            refine g_aload_n (i := 0) dX9_clause_90 rfl rfl ?_
            refine m_get 40 dX9_clause_91 (List.mem_of_getElem? (i := 1) rfl) (fun w h => List.mem_cons_of_mem _ (List.mem_append_right _ h)) (by decide) rfl ?_
            refine g_iconst (5) rfl dX9_clause_94 ?_
            refine g_icmp_ne 130 dX9_clause_95 (by decide) (fun c_18 => ?_) (fun c_18 => ?_)
            · skip
              refine g_iload_n (i := 1) dX9_clause_130 rfl rfl ?_
              refine g_iret dX9_clause_131 ?_
              first | (refine Or.inr ⟨rfl, ?_⟩; (rw [eX]); (unfold mf_clause); (first | rw [if_pos hw2, ← eX1] | rw [if_neg hw3, if_pos hw30, ← eX1]); (unfold mcB); (rw [if_pos hw4, ← eX2, ← hX9, ← gx]); rw [mcL0]; exact ⟨rfl, rfl⟩) | (refine Or.inl ⟨rfl, ?_⟩; (rw [eX]); (unfold mf_clause); (first | rw [if_pos hw2, ← eX1] | rw [if_neg hw3, if_pos hw30, ← eX1]); (unfold mcB); (rw [if_pos hw4, ← eX2, ← hX9, ← gx]); rw [mcL1 (by assumption)]; exact ⟨rfl, rfl⟩)
            · skip
              have hw5 : Y.1 40 = 5 := c_18
              refine g_aload_n (i := 0) dX9_clause_98 rfl rfl ?_
              refine m_get 31 dX9_clause_99 (List.mem_of_getElem? (i := 4) rfl) (fun w h => List.mem_cons_of_mem _ (List.mem_append_right _ h)) (by decide) rfl ?_
              refine g_aload_n (i := 0) dX9_clause_102 rfl rfl ?_
              refine m_get 29 dX9_clause_103 (List.mem_of_getElem? (i := 3) rfl) (fun w h => List.mem_cons_of_mem _ (List.mem_append_right _ h)) (by decide) rfl ?_
              refine g_iconst (1) rfl dX9_clause_106 ?_
              refine g_isub dX9_clause_107 ?_
              refine m_iald 31 26 8 dX9_clause_108 rfl hiY ?_
              refine g_iconst (4) rfl dX9_clause_109 ?_
              refine g_icmp_ne 118 dX9_clause_110 (by decide) (fun c_19 => ?_) (fun c_19 => ?_)
              · skip
                have hn4 : ¬ Y.2.2.1 31 (Y.1 29 - 1).toNatClampNeg = 4 := c_19
                have hk9 : k < 4 := (by have hn5 := hn4; rw [(rd_ix hJY).2, hk31, show (4 : Int32) = nI 4 from by decide, nI_eq (by omega) (by decide)] at hn5; omega)
                have hJ9 : rdJ (n + 1) Z1 := (by rw [eZ1]; exact rd_go hJY)
                have e9 : Z1.2.2.1 31 n = nI k := (by rw [eZ1, go_r]; exact hk31)
                refine g_aload_n (i := 0) dX9_clause_118 rfl rfl ?_
                refine g_callVf 0 0 gX9_clause_X9_go rfl rfl rfl ⟨Nat.le_of_ble_eq_true rfl, Nat.le_of_ble_eq_true rfl⟩ ⟨Nat.le_of_ble_eq_true rfl, Nat.le_of_ble_eq_true rfl⟩ (by exact Nat.le_of_ble_eq_true rfl) (by decide +kernel) rfl rfl rfl dX9_clause_119 (M_goX _ D cy a Y Z1 hJY.1 eZ1) rfl (fun vu_20 wu_20 hu_20 => ?_)
                obtain ⟨rfl, rfl⟩ := hu_20
                refine g_aload_n (i := 0) dX9_clause_122 rfl rfl ?_
                refine g_callVf 0 0 gX9_clause_X9_test rfl rfl rfl ⟨Nat.le_of_ble_eq_true rfl, Nat.le_of_ble_eq_true rfl⟩ ⟨Nat.le_of_ble_eq_true rfl, Nat.le_of_ble_eq_true rfl⟩ (by exact Nat.le_of_ble_eq_true rfl) (by decide +kernel) rfl rfl rfl dX9_clause_123 (M_testX _ D cy a Z1 Q1 eQ1 n k hJ9 hk9 e9) rfl (fun vu_21 wu_21 hu_21 => ?_)
                rcases hu_21 with ⟨rfl, hu_21, rfl⟩ | ⟨rfl, hu_21, rfl⟩
                · skip
                  have hu_T := hu_21
                  refine g_istore_n (i := 1) dX9_clause_126 rfl (by decide) ?_
                  refine g_goto 86 dX9_clause_127 (by decide) ?_
                  first | (exact g_to _ _ (ih (f, 1, Q1.2) ⟨(by have q9 := clI_t hJ9 hk9 e9 (f := f) (by omega); rw [← eQ1, hu_T] at q9; exact q9), (by show mcL f (1, Q1.2) = X9; rw [← gx, mcL3 hw5 hn4, ← eZ1, ← eQ1, ← hu_T])⟩ (Nat.lt_succ_self f)) rfl ⟨rfl, rfl, trivial⟩) | (exact g_to _ _ (ih (f, 0, Q1.2) ⟨(by have q9 := clI_t hJ9 hk9 e9 (f := f) (by omega); rw [← eQ1, hu_T] at q9; exact q9), (by show mcL f (0, Q1.2) = X9; rw [← gx, mcL3 hw5 hn4, ← eZ1, ← eQ1, ← hu_T])⟩ (Nat.lt_succ_self f)) rfl ⟨rfl, rfl, trivial⟩)
                · skip
                  have hu_T := hu_21
                  refine g_istore_n (i := 1) dX9_clause_126 rfl (by decide) ?_
                  refine g_goto 86 dX9_clause_127 (by decide) ?_
                  first | (exact g_to _ _ (ih (f, 1, Q1.2) ⟨(by have q9 := clI_t hJ9 hk9 e9 (f := f) (by omega); rw [← eQ1, hu_T] at q9; exact q9), (by show mcL f (1, Q1.2) = X9; rw [← gx, mcL3 hw5 hn4, ← eZ1, ← eQ1, ← hu_T])⟩ (Nat.lt_succ_self f)) rfl ⟨rfl, rfl, trivial⟩) | (exact g_to _ _ (ih (f, 0, Q1.2) ⟨(by have q9 := clI_t hJ9 hk9 e9 (f := f) (by omega); rw [← eQ1, hu_T] at q9; exact q9), (by show mcL f (0, Q1.2) = X9; rw [← gx, mcL3 hw5 hn4, ← eZ1, ← eQ1, ← hu_T])⟩ (Nat.lt_succ_self f)) rfl ⟨rfl, rfl, trivial⟩)
              · skip
                refine g_aload_n (i := 0) dX9_clause_113 rfl rfl ?_
                refine g_callVf 0 0 gX9_clause_X9_wrong rfl rfl rfl ⟨Nat.le_of_ble_eq_true rfl, Nat.le_of_ble_eq_true rfl⟩ ⟨Nat.le_of_ble_eq_true rfl, Nat.le_of_ble_eq_true rfl⟩ (by exact Nat.le_of_ble_eq_true rfl) (by decide +kernel) rfl rfl rfl dX9_clause_114 (M_wrong _ D cy a _) rfl (fun vu_22 wu_22 hu_22 => ?_)
                obtain ⟨rfl, rfl⟩ := hu_22
                refine g_iret dX9_clause_117 ?_
                refine Or.inr ⟨rfl, ?_⟩
                rw [eX]
                unfold mf_clause
                first | rw [if_pos hw2, ← eX1] | rw [if_neg hw3, if_pos hw30, ← eX1]
                unfold mcB
                rw [if_pos hw4, ← eX2, ← hX9, ← gx]
                rw [mcL2 hw5 (by assumption)]
                exact ⟨rfl, rfl⟩
      · skip
        refine g_iconst (1) rfl dX9_clause_75 ?_
        refine g_iret dX9_clause_76 ?_
        refine Or.inl ⟨rfl, ?_⟩
        rw [eX]
        unfold mf_clause
        first | rw [if_pos hw2, ← eX1] | rw [if_neg hw3, if_pos hw30, ← eX1]
        unfold mcB
        rw [if_neg (by assumption)]
        exact ⟨rfl, rfl⟩
  · skip
    have hw3 : ¬ S.1 40 = 2 := c_1
    refine g_aload_n (i := 0) dX9_clause_8 rfl rfl ?_
    refine m_get 40 dX9_clause_9 (List.mem_of_getElem? (i := 1) rfl) (fun w h => List.mem_cons_of_mem _ (List.mem_append_right _ h)) (by decide) rfl ?_
    refine g_iconst (3) rfl dX9_clause_12 ?_
    refine g_icmp_eq 21 dX9_clause_13 (by decide) (fun c_23 => ?_) (fun c_23 => ?_)
    · skip
      have hw30 : S.1 40 = 3 := c_23
      refine g_aload_n (i := 0) dX9_clause_21 rfl rfl ?_
      refine m_get 30 dX9_clause_22 (List.mem_of_getElem? (i := 2) rfl) (fun w h => List.mem_cons_of_mem _ (List.mem_append_right _ h)) (by decide) rfl ?_
      refine g_aload_n (i := 0) dX9_clause_25 rfl rfl ?_
      refine m_get 29 dX9_clause_26 (List.mem_of_getElem? (i := 3) rfl) (fun w h => List.mem_cons_of_mem _ (List.mem_append_right _ h)) (by decide) rfl ?_
      refine g_aload_n (i := 0) dX9_clause_29 rfl rfl ?_
      refine m_get 40 dX9_clause_30 (List.mem_of_getElem? (i := 1) rfl) (fun w h => List.mem_cons_of_mem _ (List.mem_append_right _ h)) (by decide) rfl ?_
      refine g_iconst (2) rfl dX9_clause_33 ?_
      refine g_icmp_ne 41 dX9_clause_34 (by decide) (fun c_24 => ?_) (fun c_24 => ?_)
      · skip
        obtain ⟨hJ0, e0⟩ := rd_c1 hJ hn 0 (Or.inl vn0)
        obtain ⟨X1, eX1⟩ : ∃ Z : MS, Z = mf_go (mc1 S 0) := ⟨_, rfl⟩
        have hJ1 : rdJ (n + 1) X1 := (by rw [eX1]; exact rd_go hJ0)
        have e1 : X1.2.2.1 31 n = nI 0 := (by rw [eX1, go_r]; exact e0)
        obtain ⟨X2, eX2⟩ : ∃ Z : MS, Z = mf_go X1 := ⟨_, rfl⟩
        have hJ9 : rdJ (n + 1) X2 := (by rw [eX2]; exact rd_go hJ1)
        have hk9 : 0 < 4 := (by decide)
        have e9 : X2.2.2.1 31 n = nI 0 := (by rw [eX2, go_r]; exact e1)
        obtain ⟨Y0, eY0⟩ : ∃ Z : Int32 × MS, Z = mf_test X2 := ⟨_, rfl⟩
        obtain ⟨X9, hX9⟩ : ∃ Z : Int32 × MS, Z = mcL 4 (mf_test X2) := ⟨_, rfl⟩
        refine g_iconst (0) rfl dX9_clause_41 ?_
        refine m_zast 30 25 8 dX9_clause_42 rfl hi0 (wsA_30 _ _ _ _ _) ?_
        refine g_aload_n (i := 0) dX9_clause_43 rfl rfl ?_
        refine m_get 31 dX9_clause_44 (List.mem_of_getElem? (i := 4) rfl) (fun w h => List.mem_cons_of_mem _ (List.mem_append_right _ h)) (by decide) rfl ?_
        refine g_aload_n (i := 0) dX9_clause_47 rfl rfl ?_
        refine m_get 29 dX9_clause_48 (List.mem_of_getElem? (i := 3) rfl) (fun w h => List.mem_cons_of_mem _ (List.mem_append_right _ h)) (by decide) rfl ?_
        refine g_iconst (0) rfl dX9_clause_51 ?_
        refine m_iast 31 26 8 dX9_clause_52 rfl hi0 (wsA_31 _ _ _ _ _) ?_
        refine g_aload_n (i := 0) dX9_clause_53 rfl rfl ?_
        refine g_dup rfl dX9_clause_54 ?_
        refine m_get 29 dX9_clause_55 (List.mem_of_getElem? (i := 3) rfl) (fun w h => List.mem_cons_of_mem _ (List.mem_append_right _ h)) (by decide) rfl ?_
        refine g_iconst (1) rfl dX9_clause_58 ?_
        refine g_iadd dX9_clause_59 ?_
        refine m_puti 29 dX9_clause_60 (List.mem_of_getElem? (i := 3) rfl) (fun w h => List.mem_cons_of_mem _ (List.mem_append_right _ h)) (by decide) rfl rfl rfl (wsI_29 _ _ _ _) ?_
        refine g_aload_n (i := 0) dX9_clause_63 rfl rfl ?_
        refine g_callVf 0 0 gX9_clause_X9_go rfl rfl rfl ⟨Nat.le_of_ble_eq_true rfl, Nat.le_of_ble_eq_true rfl⟩ ⟨Nat.le_of_ble_eq_true rfl, Nat.le_of_ble_eq_true rfl⟩ (by exact Nat.le_of_ble_eq_true rfl) (by decide +kernel) rfl rfl rfl dX9_clause_64 (M_goX _ D cy a (mc1 S _) X1 hJ0.1 eX1) rfl (fun vu_25 wu_25 hu_25 => ?_)
        obtain ⟨rfl, rfl⟩ := hu_25
        refine g_aload_n (i := 0) dX9_clause_67 rfl rfl ?_
        refine m_get 40 dX9_clause_68 (List.mem_of_getElem? (i := 1) rfl) (fun w h => List.mem_cons_of_mem _ (List.mem_append_right _ h)) (by decide) rfl ?_
        refine g_iconst (4) rfl dX9_clause_71 ?_
        refine g_icmp_eq 77 dX9_clause_72 (by decide) (fun c_26 => ?_) (fun c_26 => ?_)
        · skip
          have hw4 : X1.1 40 = 4 := c_26
          refine g_aload_n (i := 0) dX9_clause_77 rfl rfl ?_
          refine g_callVf 0 0 gX9_clause_X9_go rfl rfl rfl ⟨Nat.le_of_ble_eq_true rfl, Nat.le_of_ble_eq_true rfl⟩ ⟨Nat.le_of_ble_eq_true rfl, Nat.le_of_ble_eq_true rfl⟩ (by exact Nat.le_of_ble_eq_true rfl) (by decide +kernel) rfl rfl rfl dX9_clause_78 (M_goX _ D cy a X1 X2 hJ1.1 eX2) rfl (fun vu_27 wu_27 hu_27 => ?_)
          obtain ⟨rfl, rfl⟩ := hu_27
          refine g_aload_n (i := 0) dX9_clause_81 rfl rfl ?_
          refine g_callVf 0 0 gX9_clause_X9_test rfl rfl rfl ⟨Nat.le_of_ble_eq_true rfl, Nat.le_of_ble_eq_true rfl⟩ ⟨Nat.le_of_ble_eq_true rfl, Nat.le_of_ble_eq_true rfl⟩ (by exact Nat.le_of_ble_eq_true rfl) (by decide +kernel) rfl rfl rfl dX9_clause_82 (M_testX _ D cy a X2 Y0 eY0 n 0 hJ9 hk9 e9) rfl (fun vu_28 wu_28 hu_28 => ?_)
          rcases hu_28 with ⟨rfl, hu_28, rfl⟩ | ⟨rfl, hu_28, rfl⟩
          · skip
            have hu_T := hu_28
            refine g_istore_n (i := 1) dX9_clause_85 rfl (by decide) ?_
            have hcI : clI n 4 1 Y0.2 := (by have q9 := clI_t hJ9 hk9 e9 (f := 4) rfl; rw [← eY0, hu_T] at q9; exact q9)
            have hx0 : mcL 4 (1, Y0.2) = X9 := (by rw [hX9, ← eY0, ← hu_T])
            refine g_whl (σ := Nat × Int32 × MS) (fun x => x.1) (fun x => clI n x.1 x.2.1 x.2.2 ∧ mcL x.1 (x.2.1, x.2.2) = X9) (fun x => MW cy a x.2.2) (fun x => [(0, .ref (a 0)), (1, .int x.2.1)]) (4, 1, Y0.2) ⟨hcI, hx0⟩ rfl ⟨rfl, rfl, trivial⟩ (fun x gx ih => ?_)
            obtain ⟨f, g, Y⟩ := x
            obtain ⟨gI, gx⟩ := gx
            replace gI : clI n f g Y := gI
            replace gx : mcL f (g, Y) = X9 := gx
            refine g_nrm [(0, .ref (a 0)), (1, .int g)] ⟨rfl, rfl, trivial⟩ ?_
            obtain ⟨hJY, gI⟩ := gI
            rcases gI with rfl | ⟨rfl, k, hk4, hkf, hk31⟩
            · skip
              refine g_iload_n (i := 1) dX9_clause_86 rfl rfl ?_
              refine g_if_eq 130 dX9_clause_87 (by decide) (fun _ => ?_) (fun h9 => absurd h9 (by decide))
              refine g_iload_n (i := 1) dX9_clause_130 rfl rfl ?_
              refine g_iret dX9_clause_131 ?_
              first | (refine Or.inr ⟨rfl, ?_⟩; (rw [eX]); (unfold mf_clause); (first | rw [if_pos hw2, ← eX1] | rw [if_neg hw3, if_pos hw30, ← eX1]); (unfold mcB); (rw [if_pos hw4, ← eX2, ← hX9, ← gx]); rw [mcL0]; exact ⟨rfl, rfl⟩) | (refine Or.inl ⟨rfl, ?_⟩; (rw [eX]); (unfold mf_clause); (first | rw [if_pos hw2, ← eX1] | rw [if_neg hw3, if_pos hw30, ← eX1]); (unfold mcB); (rw [if_pos hw4, ← eX2, ← hX9, ← gx]); rw [mcL1 (by assumption)]; exact ⟨rfl, rfl⟩)
            · skip
              obtain ⟨f, rfl⟩ : ∃ f9, f = f9 + 1 := ⟨f - 1, by omega⟩
              have hiY := (rd_ix hJY).1
              obtain ⟨Z1, eZ1⟩ : ∃ Z : MS, Z = mf_go Y := ⟨_, rfl⟩
              obtain ⟨Q1, eQ1⟩ : ∃ Z : Int32 × MS, Z = mf_test Z1 := ⟨_, rfl⟩
              refine g_iload_n (i := 1) dX9_clause_86 rfl rfl ?_
              refine g_if_eq 130 dX9_clause_87 (by decide) (fun h9 => absurd h9 (by decide)) (fun _ => ?_)
              refine g_aload_n (i := 0) dX9_clause_90 rfl rfl ?_
              refine m_get 40 dX9_clause_91 (List.mem_of_getElem? (i := 1) rfl) (fun w h => List.mem_cons_of_mem _ (List.mem_append_right _ h)) (by decide) rfl ?_
              refine g_iconst (5) rfl dX9_clause_94 ?_
              refine g_icmp_ne 130 dX9_clause_95 (by decide) (fun c_32 => ?_) (fun c_32 => ?_)
              · skip
                refine g_iload_n (i := 1) dX9_clause_130 rfl rfl ?_
                refine g_iret dX9_clause_131 ?_
                first | (refine Or.inr ⟨rfl, ?_⟩; (rw [eX]); (unfold mf_clause); (first | rw [if_pos hw2, ← eX1] | rw [if_neg hw3, if_pos hw30, ← eX1]); (unfold mcB); (rw [if_pos hw4, ← eX2, ← hX9, ← gx]); rw [mcL0]; exact ⟨rfl, rfl⟩) | (refine Or.inl ⟨rfl, ?_⟩; (rw [eX]); (unfold mf_clause); (first | rw [if_pos hw2, ← eX1] | rw [if_neg hw3, if_pos hw30, ← eX1]); (unfold mcB); (rw [if_pos hw4, ← eX2, ← hX9, ← gx]); rw [mcL1 (by assumption)]; exact ⟨rfl, rfl⟩)
              · skip
                have hw5 : Y.1 40 = 5 := c_32
                refine g_aload_n (i := 0) dX9_clause_98 rfl rfl ?_
                refine m_get 31 dX9_clause_99 (List.mem_of_getElem? (i := 4) rfl) (fun w h => List.mem_cons_of_mem _ (List.mem_append_right _ h)) (by decide) rfl ?_
                refine g_aload_n (i := 0) dX9_clause_102 rfl rfl ?_
                refine m_get 29 dX9_clause_103 (List.mem_of_getElem? (i := 3) rfl) (fun w h => List.mem_cons_of_mem _ (List.mem_append_right _ h)) (by decide) rfl ?_
                refine g_iconst (1) rfl dX9_clause_106 ?_
                refine g_isub dX9_clause_107 ?_
                refine m_iald 31 26 8 dX9_clause_108 rfl hiY ?_
                refine g_iconst (4) rfl dX9_clause_109 ?_
                refine g_icmp_ne 118 dX9_clause_110 (by decide) (fun c_33 => ?_) (fun c_33 => ?_)
                · skip
                  have hn4 : ¬ Y.2.2.1 31 (Y.1 29 - 1).toNatClampNeg = 4 := c_33
                  have hk9 : k < 4 := (by have hn5 := hn4; rw [(rd_ix hJY).2, hk31, show (4 : Int32) = nI 4 from by decide, nI_eq (by omega) (by decide)] at hn5; omega)
                  have hJ9 : rdJ (n + 1) Z1 := (by rw [eZ1]; exact rd_go hJY)
                  have e9 : Z1.2.2.1 31 n = nI k := (by rw [eZ1, go_r]; exact hk31)
                  refine g_aload_n (i := 0) dX9_clause_118 rfl rfl ?_
                  refine g_callVf 0 0 gX9_clause_X9_go rfl rfl rfl ⟨Nat.le_of_ble_eq_true rfl, Nat.le_of_ble_eq_true rfl⟩ ⟨Nat.le_of_ble_eq_true rfl, Nat.le_of_ble_eq_true rfl⟩ (by exact Nat.le_of_ble_eq_true rfl) (by decide +kernel) rfl rfl rfl dX9_clause_119 (M_goX _ D cy a Y Z1 hJY.1 eZ1) rfl (fun vu_34 wu_34 hu_34 => ?_)
                  obtain ⟨rfl, rfl⟩ := hu_34
                  refine g_aload_n (i := 0) dX9_clause_122 rfl rfl ?_
                  refine g_callVf 0 0 gX9_clause_X9_test rfl rfl rfl ⟨Nat.le_of_ble_eq_true rfl, Nat.le_of_ble_eq_true rfl⟩ ⟨Nat.le_of_ble_eq_true rfl, Nat.le_of_ble_eq_true rfl⟩ (by exact Nat.le_of_ble_eq_true rfl) (by decide +kernel) rfl rfl rfl dX9_clause_123 (M_testX _ D cy a Z1 Q1 eQ1 n k hJ9 hk9 e9) rfl (fun vu_35 wu_35 hu_35 => ?_)
                  rcases hu_35 with ⟨rfl, hu_35, rfl⟩ | ⟨rfl, hu_35, rfl⟩
                  · skip
                    have hu_T := hu_35
                    refine g_istore_n (i := 1) dX9_clause_126 rfl (by decide) ?_
                    refine g_goto 86 dX9_clause_127 (by decide) ?_
                    first | (exact g_to _ _ (ih (f, 1, Q1.2) ⟨(by have q9 := clI_t hJ9 hk9 e9 (f := f) (by omega); rw [← eQ1, hu_T] at q9; exact q9), (by show mcL f (1, Q1.2) = X9; rw [← gx, mcL3 hw5 hn4, ← eZ1, ← eQ1, ← hu_T])⟩ (Nat.lt_succ_self f)) rfl ⟨rfl, rfl, trivial⟩) | (exact g_to _ _ (ih (f, 0, Q1.2) ⟨(by have q9 := clI_t hJ9 hk9 e9 (f := f) (by omega); rw [← eQ1, hu_T] at q9; exact q9), (by show mcL f (0, Q1.2) = X9; rw [← gx, mcL3 hw5 hn4, ← eZ1, ← eQ1, ← hu_T])⟩ (Nat.lt_succ_self f)) rfl ⟨rfl, rfl, trivial⟩)
                  · skip
                    have hu_T := hu_35
                    refine g_istore_n (i := 1) dX9_clause_126 rfl (by decide) ?_
                    refine g_goto 86 dX9_clause_127 (by decide) ?_
                    first | (exact g_to _ _ (ih (f, 1, Q1.2) ⟨(by have q9 := clI_t hJ9 hk9 e9 (f := f) (by omega); rw [← eQ1, hu_T] at q9; exact q9), (by show mcL f (1, Q1.2) = X9; rw [← gx, mcL3 hw5 hn4, ← eZ1, ← eQ1, ← hu_T])⟩ (Nat.lt_succ_self f)) rfl ⟨rfl, rfl, trivial⟩) | (exact g_to _ _ (ih (f, 0, Q1.2) ⟨(by have q9 := clI_t hJ9 hk9 e9 (f := f) (by omega); rw [← eQ1, hu_T] at q9; exact q9), (by show mcL f (0, Q1.2) = X9; rw [← gx, mcL3 hw5 hn4, ← eZ1, ← eQ1, ← hu_T])⟩ (Nat.lt_succ_self f)) rfl ⟨rfl, rfl, trivial⟩)
                · skip
                  refine g_aload_n (i := 0) dX9_clause_113 rfl rfl ?_
                  refine g_callVf 0 0 gX9_clause_X9_wrong rfl rfl rfl ⟨Nat.le_of_ble_eq_true rfl, Nat.le_of_ble_eq_true rfl⟩ ⟨Nat.le_of_ble_eq_true rfl, Nat.le_of_ble_eq_true rfl⟩ (by exact Nat.le_of_ble_eq_true rfl) (by decide +kernel) rfl rfl rfl dX9_clause_114 (M_wrong _ D cy a _) rfl (fun vu_36 wu_36 hu_36 => ?_)
                  obtain ⟨rfl, rfl⟩ := hu_36
                  refine g_iret dX9_clause_117 ?_
                  refine Or.inr ⟨rfl, ?_⟩
                  rw [eX]
                  unfold mf_clause
                  first | rw [if_pos hw2, ← eX1] | rw [if_neg hw3, if_pos hw30, ← eX1]
                  unfold mcB
                  rw [if_pos hw4, ← eX2, ← hX9, ← gx]
                  rw [mcL2 hw5 (by assumption)]
                  exact ⟨rfl, rfl⟩
          · skip
            have hu_T := hu_28
            refine g_istore_n (i := 1) dX9_clause_85 rfl (by decide) ?_
            have hcI : clI n 4 0 Y0.2 := (by have q9 := clI_t hJ9 hk9 e9 (f := 4) rfl; rw [← eY0, hu_T] at q9; exact q9)
            have hx0 : mcL 4 (0, Y0.2) = X9 := (by rw [hX9, ← eY0, ← hu_T])
            refine g_whl (σ := Nat × Int32 × MS) (fun x => x.1) (fun x => clI n x.1 x.2.1 x.2.2 ∧ mcL x.1 (x.2.1, x.2.2) = X9) (fun x => MW cy a x.2.2) (fun x => [(0, .ref (a 0)), (1, .int x.2.1)]) (4, 0, Y0.2) ⟨hcI, hx0⟩ rfl ⟨rfl, rfl, trivial⟩ (fun x gx ih => ?_)
            obtain ⟨f, g, Y⟩ := x
            obtain ⟨gI, gx⟩ := gx
            replace gI : clI n f g Y := gI
            replace gx : mcL f (g, Y) = X9 := gx
            refine g_nrm [(0, .ref (a 0)), (1, .int g)] ⟨rfl, rfl, trivial⟩ ?_
            obtain ⟨hJY, gI⟩ := gI
            rcases gI with rfl | ⟨rfl, k, hk4, hkf, hk31⟩
            · skip
              refine g_iload_n (i := 1) dX9_clause_86 rfl rfl ?_
              refine g_if_eq 130 dX9_clause_87 (by decide) (fun _ => ?_) (fun h9 => absurd h9 (by decide))
              refine g_iload_n (i := 1) dX9_clause_130 rfl rfl ?_
              refine g_iret dX9_clause_131 ?_
              first | (refine Or.inr ⟨rfl, ?_⟩; (rw [eX]); (unfold mf_clause); (first | rw [if_pos hw2, ← eX1] | rw [if_neg hw3, if_pos hw30, ← eX1]); (unfold mcB); (rw [if_pos hw4, ← eX2, ← hX9, ← gx]); rw [mcL0]; exact ⟨rfl, rfl⟩) | (refine Or.inl ⟨rfl, ?_⟩; (rw [eX]); (unfold mf_clause); (first | rw [if_pos hw2, ← eX1] | rw [if_neg hw3, if_pos hw30, ← eX1]); (unfold mcB); (rw [if_pos hw4, ← eX2, ← hX9, ← gx]); rw [mcL1 (by assumption)]; exact ⟨rfl, rfl⟩)
            · skip
              obtain ⟨f, rfl⟩ : ∃ f9, f = f9 + 1 := ⟨f - 1, by omega⟩
              have hiY := (rd_ix hJY).1
              obtain ⟨Z1, eZ1⟩ : ∃ Z : MS, Z = mf_go Y := ⟨_, rfl⟩
              obtain ⟨Q1, eQ1⟩ : ∃ Z : Int32 × MS, Z = mf_test Z1 := ⟨_, rfl⟩
              refine g_iload_n (i := 1) dX9_clause_86 rfl rfl ?_
              refine g_if_eq 130 dX9_clause_87 (by decide) (fun h9 => absurd h9 (by decide)) (fun _ => ?_)
              refine g_aload_n (i := 0) dX9_clause_90 rfl rfl ?_
              refine m_get 40 dX9_clause_91 (List.mem_of_getElem? (i := 1) rfl) (fun w h => List.mem_cons_of_mem _ (List.mem_append_right _ h)) (by decide) rfl ?_
              refine g_iconst (5) rfl dX9_clause_94 ?_
              refine g_icmp_ne 130 dX9_clause_95 (by decide) (fun c_40 => ?_) (fun c_40 => ?_)
              · skip
                refine g_iload_n (i := 1) dX9_clause_130 rfl rfl ?_
                refine g_iret dX9_clause_131 ?_
                first | (refine Or.inr ⟨rfl, ?_⟩; (rw [eX]); (unfold mf_clause); (first | rw [if_pos hw2, ← eX1] | rw [if_neg hw3, if_pos hw30, ← eX1]); (unfold mcB); (rw [if_pos hw4, ← eX2, ← hX9, ← gx]); rw [mcL0]; exact ⟨rfl, rfl⟩) | (refine Or.inl ⟨rfl, ?_⟩; (rw [eX]); (unfold mf_clause); (first | rw [if_pos hw2, ← eX1] | rw [if_neg hw3, if_pos hw30, ← eX1]); (unfold mcB); (rw [if_pos hw4, ← eX2, ← hX9, ← gx]); rw [mcL1 (by assumption)]; exact ⟨rfl, rfl⟩)
              · skip
                have hw5 : Y.1 40 = 5 := c_40
                refine g_aload_n (i := 0) dX9_clause_98 rfl rfl ?_
                refine m_get 31 dX9_clause_99 (List.mem_of_getElem? (i := 4) rfl) (fun w h => List.mem_cons_of_mem _ (List.mem_append_right _ h)) (by decide) rfl ?_
                refine g_aload_n (i := 0) dX9_clause_102 rfl rfl ?_
                refine m_get 29 dX9_clause_103 (List.mem_of_getElem? (i := 3) rfl) (fun w h => List.mem_cons_of_mem _ (List.mem_append_right _ h)) (by decide) rfl ?_
                refine g_iconst (1) rfl dX9_clause_106 ?_
                refine g_isub dX9_clause_107 ?_
                refine m_iald 31 26 8 dX9_clause_108 rfl hiY ?_
                refine g_iconst (4) rfl dX9_clause_109 ?_
                refine g_icmp_ne 118 dX9_clause_110 (by decide) (fun c_41 => ?_) (fun c_41 => ?_)
                · skip
                  have hn4 : ¬ Y.2.2.1 31 (Y.1 29 - 1).toNatClampNeg = 4 := c_41
                  have hk9 : k < 4 := (by have hn5 := hn4; rw [(rd_ix hJY).2, hk31, show (4 : Int32) = nI 4 from by decide, nI_eq (by omega) (by decide)] at hn5; omega)
                  have hJ9 : rdJ (n + 1) Z1 := (by rw [eZ1]; exact rd_go hJY)
                  have e9 : Z1.2.2.1 31 n = nI k := (by rw [eZ1, go_r]; exact hk31)
                  refine g_aload_n (i := 0) dX9_clause_118 rfl rfl ?_
                  refine g_callVf 0 0 gX9_clause_X9_go rfl rfl rfl ⟨Nat.le_of_ble_eq_true rfl, Nat.le_of_ble_eq_true rfl⟩ ⟨Nat.le_of_ble_eq_true rfl, Nat.le_of_ble_eq_true rfl⟩ (by exact Nat.le_of_ble_eq_true rfl) (by decide +kernel) rfl rfl rfl dX9_clause_119 (M_goX _ D cy a Y Z1 hJY.1 eZ1) rfl (fun vu_42 wu_42 hu_42 => ?_)
                  obtain ⟨rfl, rfl⟩ := hu_42
                  refine g_aload_n (i := 0) dX9_clause_122 rfl rfl ?_
                  refine g_callVf 0 0 gX9_clause_X9_test rfl rfl rfl ⟨Nat.le_of_ble_eq_true rfl, Nat.le_of_ble_eq_true rfl⟩ ⟨Nat.le_of_ble_eq_true rfl, Nat.le_of_ble_eq_true rfl⟩ (by exact Nat.le_of_ble_eq_true rfl) (by decide +kernel) rfl rfl rfl dX9_clause_123 (M_testX _ D cy a Z1 Q1 eQ1 n k hJ9 hk9 e9) rfl (fun vu_43 wu_43 hu_43 => ?_)
                  rcases hu_43 with ⟨rfl, hu_43, rfl⟩ | ⟨rfl, hu_43, rfl⟩
                  · skip
                    have hu_T := hu_43
                    refine g_istore_n (i := 1) dX9_clause_126 rfl (by decide) ?_
                    refine g_goto 86 dX9_clause_127 (by decide) ?_
                    first | (exact g_to _ _ (ih (f, 1, Q1.2) ⟨(by have q9 := clI_t hJ9 hk9 e9 (f := f) (by omega); rw [← eQ1, hu_T] at q9; exact q9), (by show mcL f (1, Q1.2) = X9; rw [← gx, mcL3 hw5 hn4, ← eZ1, ← eQ1, ← hu_T])⟩ (Nat.lt_succ_self f)) rfl ⟨rfl, rfl, trivial⟩) | (exact g_to _ _ (ih (f, 0, Q1.2) ⟨(by have q9 := clI_t hJ9 hk9 e9 (f := f) (by omega); rw [← eQ1, hu_T] at q9; exact q9), (by show mcL f (0, Q1.2) = X9; rw [← gx, mcL3 hw5 hn4, ← eZ1, ← eQ1, ← hu_T])⟩ (Nat.lt_succ_self f)) rfl ⟨rfl, rfl, trivial⟩)
                  · skip
                    have hu_T := hu_43
                    refine g_istore_n (i := 1) dX9_clause_126 rfl (by decide) ?_
                    refine g_goto 86 dX9_clause_127 (by decide) ?_
                    first | (exact g_to _ _ (ih (f, 1, Q1.2) ⟨(by have q9 := clI_t hJ9 hk9 e9 (f := f) (by omega); rw [← eQ1, hu_T] at q9; exact q9), (by show mcL f (1, Q1.2) = X9; rw [← gx, mcL3 hw5 hn4, ← eZ1, ← eQ1, ← hu_T])⟩ (Nat.lt_succ_self f)) rfl ⟨rfl, rfl, trivial⟩) | (exact g_to _ _ (ih (f, 0, Q1.2) ⟨(by have q9 := clI_t hJ9 hk9 e9 (f := f) (by omega); rw [← eQ1, hu_T] at q9; exact q9), (by show mcL f (0, Q1.2) = X9; rw [← gx, mcL3 hw5 hn4, ← eZ1, ← eQ1, ← hu_T])⟩ (Nat.lt_succ_self f)) rfl ⟨rfl, rfl, trivial⟩)
                · skip
                  refine g_aload_n (i := 0) dX9_clause_113 rfl rfl ?_
                  refine g_callVf 0 0 gX9_clause_X9_wrong rfl rfl rfl ⟨Nat.le_of_ble_eq_true rfl, Nat.le_of_ble_eq_true rfl⟩ ⟨Nat.le_of_ble_eq_true rfl, Nat.le_of_ble_eq_true rfl⟩ (by exact Nat.le_of_ble_eq_true rfl) (by decide +kernel) rfl rfl rfl dX9_clause_114 (M_wrong _ D cy a _) rfl (fun vu_44 wu_44 hu_44 => ?_)
                  obtain ⟨rfl, rfl⟩ := hu_44
                  refine g_iret dX9_clause_117 ?_
                  refine Or.inr ⟨rfl, ?_⟩
                  rw [eX]
                  unfold mf_clause
                  first | rw [if_pos hw2, ← eX1] | rw [if_neg hw3, if_pos hw30, ← eX1]
                  unfold mcB
                  rw [if_pos hw4, ← eX2, ← hX9, ← gx]
                  rw [mcL2 hw5 (by assumption)]
                  exact ⟨rfl, rfl⟩
        · skip
          refine g_iconst (1) rfl dX9_clause_75 ?_
          refine g_iret dX9_clause_76 ?_
          refine Or.inl ⟨rfl, ?_⟩
          rw [eX]
          unfold mf_clause
          first | rw [if_pos hw2, ← eX1] | rw [if_neg hw3, if_pos hw30, ← eX1]
          unfold mcB
          rw [if_neg (by assumption)]
          exact ⟨rfl, rfl⟩
      · skip
        exact absurd c_24 hw3
    · skip
      refine g_aload_n (i := 0) dX9_clause_16 rfl rfl ?_
      refine g_callVf 0 0 gX9_clause_X9_wrong rfl rfl rfl ⟨Nat.le_of_ble_eq_true rfl, Nat.le_of_ble_eq_true rfl⟩ ⟨Nat.le_of_ble_eq_true rfl, Nat.le_of_ble_eq_true rfl⟩ (by exact Nat.le_of_ble_eq_true rfl) (by decide +kernel) rfl rfl rfl dX9_clause_17 (M_wrong _ D cy a _) rfl (fun vu_45 wu_45 hu_45 => ?_)
      obtain ⟨rfl, rfl⟩ := hu_45
      refine g_iret dX9_clause_20 ?_
      refine Or.inr ⟨rfl, ?_⟩
      rw [eX]
      unfold mf_clause
      rw [if_neg (by assumption), if_neg (by assumption)]
      exact ⟨rfl, rfl⟩

/-- clauses behind the first; the text's end -/
def mxL : Nat → Int32 × MS → Int32 × MS
  | 0, Y => Y
  | f + 1, Y => if Y.1 = 0 then (0, Y.2) else if Y.2.1 40 = 59 then (if Y.2.1 29 = 8 then (0, mwr Y.2) else mxL f (mf_clause (mf_go Y.2))) else if Y.2.1 40 = 0 then (1, Y.2) else (0, mwr Y.2)
def mf_text (S : MS) : Int32 × MS := if S.1 40 = 0 then (1, S) else mxL 9 (mf_clause S)
theorem mxL0 (f : Nat) (Y : MS) : mxL f (0, Y) = (0, Y) := by
  cases f with
  | zero => rfl
  | succ f => exact if_pos rfl
theorem mxL1 {f : Nat} {Y : MS} (h : ¬ Y.1 40 = 59) (h0 : Y.1 40 = 0) : mxL (f + 1) (1, Y) = (1, Y) := (if_neg (show ¬ (1 : Int32) = 0 by decide)).trans ((if_neg h).trans (if_pos h0))
theorem mxL2 {f : Nat} {Y : MS} (h : ¬ Y.1 40 = 59) (h0 : ¬ Y.1 40 = 0) : mxL (f + 1) (1, Y) = (0, mwr Y) := (if_neg (show ¬ (1 : Int32) = 0 by decide)).trans ((if_neg h).trans (if_neg h0))
theorem mxL3 {f : Nat} {Y : MS} (h : Y.1 40 = 59) (h8 : Y.1 29 = 8) : mxL (f + 1) (1, Y) = (0, mwr Y) := (if_neg (show ¬ (1 : Int32) = 0 by decide)).trans ((if_pos h).trans (if_pos h8))
theorem mxL4 {f : Nat} {Y : MS} (h : Y.1 40 = 59) (h8 : ¬ Y.1 29 = 8) : mxL (f + 1) (1, Y) = mxL f (mf_clause (mf_go Y)) := (if_neg (show ¬ (1 : Int32) = 0 by decide)).trans ((if_pos h).trans (if_neg h8))
def txI (f : Nat) (g : Int32) (Y : MS) : Prop := (g = 0 ∧ ∃ m, rdJ m Y) ∨ (g = 1 ∧ ∃ n, n ≤ 8 ∧ 10 ≤ n + f ∧ rdJ n Y)
theorem txI_c {n f : Nat} {S : MS} (h : rdJ n S) (hn : n < 8) (hf : 10 ≤ n + 1 + f) : txI f (mf_clause S).1 (mf_clause S).2 := by
  rcases cl_rd h hn with ⟨h1, h2⟩ | ⟨h1, h2⟩
  · exact Or.inl ⟨h1, h2⟩
  · exact Or.inr ⟨h1, n + 1, by omega, by omega, h2⟩
theorem mxL_rd : ∀ (f : Nat) (X : Int32 × MS), txI f X.1 X.2 → (∃ m, rdJ m (mxL f X).2) ∧ ((mxL f X).1 = 0 ∨ (mxL f X).1 = 1)
  | 0, X, h => by
    rcases h with ⟨h1, h2⟩ | ⟨h1, n, h2, h3, h4⟩
    · exact ⟨h2, Or.inl h1⟩
    · exact absurd h3 (by omega)
  | f + 1, X, h => by
    obtain ⟨g, Y⟩ := X
    replace h : txI (f + 1) g Y := h
    rcases h with ⟨rfl, h2⟩ | ⟨rfl, n, h2, h3, h4⟩
    · rw [mxL0]
      exact ⟨h2, Or.inl rfl⟩
    · by_cases h5 : Y.1 40 = 59
      · by_cases h8 : Y.1 29 = 8
        · rw [mxL3 h5 h8]
          exact ⟨⟨n, h4⟩, Or.inl rfl⟩
        · rw [mxL4 h5 h8]
          have hn : n < 8 := by
            rw [h4.2.2.1, show (8 : Int32) = nI 8 from by decide, nI_eq (by omega) (by decide)] at h8
            omega
          have q := txI_c (f := f) (rd_go h4) hn (by omega)
          generalize mf_clause (mf_go Y) = Z at q
          exact mxL_rd f Z q
      · by_cases h0 : Y.1 40 = 0
        · rw [mxL1 h5 h0]
          exact ⟨⟨n, h4⟩, Or.inr rfl⟩
        · rw [mxL2 h5 h0]
          exact ⟨⟨n, h4⟩, Or.inl rfl⟩
theorem tx_rd {S : MS} (h : rdJ 0 S) : (∃ m, rdJ m (mf_text S).2) ∧ ((mf_text S).1 = 0 ∨ (mf_text S).1 = 1) := by
  have q := txI_c (f := 9) h (by omega) (by omega)
  unfold mf_text
  generalize mf_clause S = Z at q
  split
  · exact ⟨⟨0, h⟩, Or.inr rfl⟩
  · exact mxL_rd 9 Z q

set_option maxHeartbeats 4000000 in
set_option maxRecDepth 100000 in
/-- the text is read -/
theorem M_textX (l : Launch) (D : va_G) (cy : Nat → ClassId) (a : Nat → Nat) (S : MS) (X : Int32 × MS) (eX : X = mf_text S) (hJ : rdJ 0 S) : Ct l D clx (tyx cy) yX9_text wsX9_text (rmD 5) 0 0 [.ref (a 0)] (MW cy a S) (fun r9 w9 => (r9 = some (.int 1) ∧ X.1 = 1 ∧ w9 = MW cy a X.2) ∨ (r9 = some (.int 0) ∧ X.1 = 0 ∧ w9 = MW cy a X.2)) := by
  refine g_start (cc := cX9_text) (maxL := 2) (ret := (some .boolean)) (by decide) rfl (Nat.le_of_ble_eq_true rfl) (fun v w1 h => by rcases h with ⟨rfl, -, -⟩ | ⟨rfl, -, -⟩ <;> exact ⟨.boolean, rfl, rfl⟩) (fun Γ hlΓ => ?_)
  subst hlΓ
  obtain ⟨Y0, eY0⟩ : ∃ Z : Int32 × MS, Z = mf_clause S := ⟨_, rfl⟩
  obtain ⟨X9, hX9⟩ : ∃ Z : Int32 × MS, Z = mxL 9 (mf_clause S) := ⟨_, rfl⟩
  refine g_aload_n (i := 0) dX9_text_0 rfl rfl ?_
  refine m_get 40 dX9_text_1 (List.mem_of_getElem? (i := 1) rfl) (fun w h => List.mem_cons_of_mem _ (List.mem_append_right _ h)) (by decide) rfl ?_
  refine g_if_ne 9 dX9_text_4 (by decide) (fun c_1 => ?_) (fun c_1 => ?_)
  · skip
    have hw0 : ¬ S.1 40 = 0 := c_1
    refine g_aload_n (i := 0) dX9_text_9 rfl rfl ?_
    refine g_callVf 0 0 gX9_text_X9_clause rfl rfl rfl ⟨Nat.le_of_ble_eq_true rfl, Nat.le_of_ble_eq_true rfl⟩ ⟨Nat.le_of_ble_eq_true rfl, Nat.le_of_ble_eq_true rfl⟩ (by exact Nat.le_of_ble_eq_true rfl) (by decide +kernel) rfl rfl rfl dX9_text_10 (M_clauseX _ D cy a S Y0 eY0 0 hJ (by decide)) rfl (fun vu_2 wu_2 hu_2 => ?_)
    rcases hu_2 with ⟨rfl, hu_2, rfl⟩ | ⟨rfl, hu_2, rfl⟩
    · skip
      have hu_T := hu_2
      refine g_istore_n (i := 1) dX9_text_13 rfl (by decide) ?_
      have hcI : txI 9 1 Y0.2 := (by have q9 := txI_c hJ (by decide) (f := 9) (by decide); rw [← eY0, hu_T] at q9; exact q9)
      have hx0 : mxL 9 (1, Y0.2) = X9 := (by rw [hX9, ← eY0, ← hu_T])
      refine g_whl (σ := Nat × Int32 × MS) (fun x => x.1) (fun x => txI x.1 x.2.1 x.2.2 ∧ mxL x.1 (x.2.1, x.2.2) = X9) (fun x => MW cy a x.2.2) (fun x => [(0, .ref (a 0)), (1, .int x.2.1)]) (9, 1, Y0.2) ⟨hcI, hx0⟩ rfl ⟨rfl, rfl, trivial⟩ (fun x gx ih => ?_)
      obtain ⟨f, g, Y⟩ := x
      obtain ⟨gI, gx⟩ := gx
      replace gI : txI f g Y := gI
      replace gx : mxL f (g, Y) = X9 := gx
      refine g_nrm [(0, .ref (a 0)), (1, .int g)] ⟨rfl, rfl, trivial⟩ ?_
      rcases gI with ⟨rfl, m9, hJm⟩ | ⟨rfl, n, hn8, hnf, hJY⟩
      · skip
        refine g_iload_n (i := 1) dX9_text_14 rfl rfl ?_
        refine g_if_eq 53 dX9_text_15 (by decide) (fun _ => ?_) (fun h9 => absurd h9 (by decide))
        refine g_iload_n (i := 1) dX9_text_53 rfl rfl ?_
        refine g_if_eq 75 dX9_text_54 (by decide) (fun _ => ?_) (fun h9 => absurd h9 (by decide))
        refine g_iconst (0) rfl dX9_text_75 ?_
        refine g_iret dX9_text_76 ?_
        first | (refine Or.inr ⟨rfl, ?_⟩; (rw [eX]); (unfold mf_text); (rw [if_neg hw0, ← hX9, ← gx]); rw [mxL0]; exact ⟨rfl, rfl⟩) | (refine Or.inl ⟨rfl, ?_⟩; (rw [eX]); (unfold mf_text); (rw [if_neg hw0, ← hX9, ← gx]); rw [mxL1 (by assumption) (by assumption)]; exact ⟨rfl, rfl⟩) | (refine Or.inr ⟨rfl, ?_⟩; (rw [eX]); (unfold mf_text); (rw [if_neg hw0, ← hX9, ← gx]); rw [mxL2 (by assumption) (by assumption)]; exact ⟨rfl, rfl⟩)
      · skip
        obtain ⟨f, rfl⟩ : ∃ f9, f = f9 + 1 := ⟨f - 1, by omega⟩
        obtain ⟨Z1, eZ1⟩ : ∃ Z : MS, Z = mf_go Y := ⟨_, rfl⟩
        obtain ⟨Q1, eQ1⟩ : ∃ Z : Int32 × MS, Z = mf_clause Z1 := ⟨_, rfl⟩
        refine g_iload_n (i := 1) dX9_text_14 rfl rfl ?_
        refine g_if_eq 53 dX9_text_15 (by decide) (fun h9 => absurd h9 (by decide)) (fun _ => ?_)
        refine g_aload_n (i := 0) dX9_text_18 rfl rfl ?_
        refine m_get 40 dX9_text_19 (List.mem_of_getElem? (i := 1) rfl) (fun w h => List.mem_cons_of_mem _ (List.mem_append_right _ h)) (by decide) rfl ?_
        refine g_bipush (59) rfl dX9_text_22 ?_
        refine g_icmp_ne 53 dX9_text_24 (by decide) (fun c_7 => ?_) (fun c_7 => ?_)
        · skip
          refine g_iload_n (i := 1) dX9_text_53 rfl rfl ?_
          refine g_if_eq 75 dX9_text_54 (by decide) (fun h9 => absurd h9 (by decide)) (fun _ => ?_)
          refine g_aload_n (i := 0) dX9_text_57 rfl rfl ?_
          refine m_get 40 dX9_text_58 (List.mem_of_getElem? (i := 1) rfl) (fun w h => List.mem_cons_of_mem _ (List.mem_append_right _ h)) (by decide) rfl ?_
          refine g_if_eq 71 dX9_text_61 (by decide) (fun c_9 => ?_) (fun c_9 => ?_)
          · skip
            refine g_iconst (1) rfl dX9_text_71 ?_
            refine g_goto 76 dX9_text_72 (by decide) ?_
            refine g_iret dX9_text_76 ?_
            first | (refine Or.inr ⟨rfl, ?_⟩; (rw [eX]); (unfold mf_text); (rw [if_neg hw0, ← hX9, ← gx]); rw [mxL0]; exact ⟨rfl, rfl⟩) | (refine Or.inl ⟨rfl, ?_⟩; (rw [eX]); (unfold mf_text); (rw [if_neg hw0, ← hX9, ← gx]); rw [mxL1 (by assumption) (by assumption)]; exact ⟨rfl, rfl⟩) | (refine Or.inr ⟨rfl, ?_⟩; (rw [eX]); (unfold mf_text); (rw [if_neg hw0, ← hX9, ← gx]); rw [mxL2 (by assumption) (by assumption)]; exact ⟨rfl, rfl⟩)
          · skip
            refine g_aload_n (i := 0) dX9_text_64 rfl rfl ?_
            refine g_callVf 0 0 gX9_text_X9_wrong rfl rfl rfl ⟨Nat.le_of_ble_eq_true rfl, Nat.le_of_ble_eq_true rfl⟩ ⟨Nat.le_of_ble_eq_true rfl, Nat.le_of_ble_eq_true rfl⟩ (by exact Nat.le_of_ble_eq_true rfl) (by decide +kernel) rfl rfl rfl dX9_text_65 (M_wrong _ D cy a _) rfl (fun vu_10 wu_10 hu_10 => ?_)
            obtain ⟨rfl, rfl⟩ := hu_10
            refine g_if_eq 75 dX9_text_68 (by decide) (fun c_11 => ?_) (fun c_11 => ?_)
            · skip
              refine g_iconst (0) rfl dX9_text_75 ?_
              refine g_iret dX9_text_76 ?_
              first | (refine Or.inr ⟨rfl, ?_⟩; (rw [eX]); (unfold mf_text); (rw [if_neg hw0, ← hX9, ← gx]); rw [mxL0]; exact ⟨rfl, rfl⟩) | (refine Or.inl ⟨rfl, ?_⟩; (rw [eX]); (unfold mf_text); (rw [if_neg hw0, ← hX9, ← gx]); rw [mxL1 (by assumption) (by assumption)]; exact ⟨rfl, rfl⟩) | (refine Or.inr ⟨rfl, ?_⟩; (rw [eX]); (unfold mf_text); (rw [if_neg hw0, ← hX9, ← gx]); rw [mxL2 (by assumption) (by assumption)]; exact ⟨rfl, rfl⟩)
            · skip
              exact absurd rfl c_11
        · skip
          have hw59 : Y.1 40 = 59 := c_7
          refine g_aload_n (i := 0) dX9_text_27 rfl rfl ?_
          refine m_get 29 dX9_text_28 (List.mem_of_getElem? (i := 2) rfl) (fun w h => List.mem_cons_of_mem _ (List.mem_append_right _ h)) (by decide) rfl ?_
          refine g_bipush (8) rfl dX9_text_31 ?_
          refine g_icmp_ne 41 dX9_text_33 (by decide) (fun c_12 => ?_) (fun c_12 => ?_)
          · skip
            have hn8' : ¬ Y.1 29 = 8 := c_12
            have hn9 : n < 8 := (by have hn5 := hn8'; rw [hJY.2.2.1, show (8 : Int32) = nI 8 from by decide, nI_eq (by omega) (by decide)] at hn5; omega)
            have hJ9 : rdJ n Z1 := (by rw [eZ1]; exact rd_go hJY)
            refine g_aload_n (i := 0) dX9_text_41 rfl rfl ?_
            refine g_callVf 0 0 gX9_text_X9_go rfl rfl rfl ⟨Nat.le_of_ble_eq_true rfl, Nat.le_of_ble_eq_true rfl⟩ ⟨Nat.le_of_ble_eq_true rfl, Nat.le_of_ble_eq_true rfl⟩ (by exact Nat.le_of_ble_eq_true rfl) (by decide +kernel) rfl rfl rfl dX9_text_42 (M_goX _ D cy a Y Z1 hJY.1 eZ1) rfl (fun vu_13 wu_13 hu_13 => ?_)
            obtain ⟨rfl, rfl⟩ := hu_13
            refine g_aload_n (i := 0) dX9_text_45 rfl rfl ?_
            refine g_callVf 0 0 gX9_text_X9_clause rfl rfl rfl ⟨Nat.le_of_ble_eq_true rfl, Nat.le_of_ble_eq_true rfl⟩ ⟨Nat.le_of_ble_eq_true rfl, Nat.le_of_ble_eq_true rfl⟩ (by exact Nat.le_of_ble_eq_true rfl) (by decide +kernel) rfl rfl rfl dX9_text_46 (M_clauseX _ D cy a Z1 Q1 eQ1 n hJ9 hn9) rfl (fun vu_14 wu_14 hu_14 => ?_)
            rcases hu_14 with ⟨rfl, hu_14, rfl⟩ | ⟨rfl, hu_14, rfl⟩
            · skip
              have hu_T := hu_14
              refine g_istore_n (i := 1) dX9_text_49 rfl (by decide) ?_
              refine g_goto 14 dX9_text_50 (by decide) ?_
              first | (exact g_to _ _ (ih (f, 1, Q1.2) ⟨(by have q9 := txI_c hJ9 hn9 (f := f) (by omega); rw [← eQ1, hu_T] at q9; exact q9), (by show mxL f (1, Q1.2) = X9; rw [← gx, mxL4 hw59 hn8', ← eZ1, ← eQ1, ← hu_T])⟩ (Nat.lt_succ_self f)) rfl ⟨rfl, rfl, trivial⟩) | (exact g_to _ _ (ih (f, 0, Q1.2) ⟨(by have q9 := txI_c hJ9 hn9 (f := f) (by omega); rw [← eQ1, hu_T] at q9; exact q9), (by show mxL f (0, Q1.2) = X9; rw [← gx, mxL4 hw59 hn8', ← eZ1, ← eQ1, ← hu_T])⟩ (Nat.lt_succ_self f)) rfl ⟨rfl, rfl, trivial⟩)
            · skip
              have hu_T := hu_14
              refine g_istore_n (i := 1) dX9_text_49 rfl (by decide) ?_
              refine g_goto 14 dX9_text_50 (by decide) ?_
              first | (exact g_to _ _ (ih (f, 1, Q1.2) ⟨(by have q9 := txI_c hJ9 hn9 (f := f) (by omega); rw [← eQ1, hu_T] at q9; exact q9), (by show mxL f (1, Q1.2) = X9; rw [← gx, mxL4 hw59 hn8', ← eZ1, ← eQ1, ← hu_T])⟩ (Nat.lt_succ_self f)) rfl ⟨rfl, rfl, trivial⟩) | (exact g_to _ _ (ih (f, 0, Q1.2) ⟨(by have q9 := txI_c hJ9 hn9 (f := f) (by omega); rw [← eQ1, hu_T] at q9; exact q9), (by show mxL f (0, Q1.2) = X9; rw [← gx, mxL4 hw59 hn8', ← eZ1, ← eQ1, ← hu_T])⟩ (Nat.lt_succ_self f)) rfl ⟨rfl, rfl, trivial⟩)
          · skip
            refine g_aload_n (i := 0) dX9_text_36 rfl rfl ?_
            refine g_callVf 0 0 gX9_text_X9_wrong rfl rfl rfl ⟨Nat.le_of_ble_eq_true rfl, Nat.le_of_ble_eq_true rfl⟩ ⟨Nat.le_of_ble_eq_true rfl, Nat.le_of_ble_eq_true rfl⟩ (by exact Nat.le_of_ble_eq_true rfl) (by decide +kernel) rfl rfl rfl dX9_text_37 (M_wrong _ D cy a _) rfl (fun vu_15 wu_15 hu_15 => ?_)
            obtain ⟨rfl, rfl⟩ := hu_15
            refine g_iret dX9_text_40 ?_
            refine Or.inr ⟨rfl, ?_⟩
            rw [eX]
            unfold mf_text
            rw [if_neg hw0, ← hX9, ← gx]
            rw [mxL3 hw59 (by assumption)]
            exact ⟨rfl, rfl⟩
    · skip
      have hu_T := hu_2
      refine g_istore_n (i := 1) dX9_text_13 rfl (by decide) ?_
      have hcI : txI 9 0 Y0.2 := (by have q9 := txI_c hJ (by decide) (f := 9) (by decide); rw [← eY0, hu_T] at q9; exact q9)
      have hx0 : mxL 9 (0, Y0.2) = X9 := (by rw [hX9, ← eY0, ← hu_T])
      refine g_whl (σ := Nat × Int32 × MS) (fun x => x.1) (fun x => txI x.1 x.2.1 x.2.2 ∧ mxL x.1 (x.2.1, x.2.2) = X9) (fun x => MW cy a x.2.2) (fun x => [(0, .ref (a 0)), (1, .int x.2.1)]) (9, 0, Y0.2) ⟨hcI, hx0⟩ rfl ⟨rfl, rfl, trivial⟩ (fun x gx ih => ?_)
      obtain ⟨f, g, Y⟩ := x
      obtain ⟨gI, gx⟩ := gx
      replace gI : txI f g Y := gI
      replace gx : mxL f (g, Y) = X9 := gx
      refine g_nrm [(0, .ref (a 0)), (1, .int g)] ⟨rfl, rfl, trivial⟩ ?_
      rcases gI with ⟨rfl, m9, hJm⟩ | ⟨rfl, n, hn8, hnf, hJY⟩
      · skip
        refine g_iload_n (i := 1) dX9_text_14 rfl rfl ?_
        refine g_if_eq 53 dX9_text_15 (by decide) (fun _ => ?_) (fun h9 => absurd h9 (by decide))
        refine g_iload_n (i := 1) dX9_text_53 rfl rfl ?_
        refine g_if_eq 75 dX9_text_54 (by decide) (fun _ => ?_) (fun h9 => absurd h9 (by decide))
        refine g_iconst (0) rfl dX9_text_75 ?_
        refine g_iret dX9_text_76 ?_
        first | (refine Or.inr ⟨rfl, ?_⟩; (rw [eX]); (unfold mf_text); (rw [if_neg hw0, ← hX9, ← gx]); rw [mxL0]; exact ⟨rfl, rfl⟩) | (refine Or.inl ⟨rfl, ?_⟩; (rw [eX]); (unfold mf_text); (rw [if_neg hw0, ← hX9, ← gx]); rw [mxL1 (by assumption) (by assumption)]; exact ⟨rfl, rfl⟩) | (refine Or.inr ⟨rfl, ?_⟩; (rw [eX]); (unfold mf_text); (rw [if_neg hw0, ← hX9, ← gx]); rw [mxL2 (by assumption) (by assumption)]; exact ⟨rfl, rfl⟩)
      · skip
        obtain ⟨f, rfl⟩ : ∃ f9, f = f9 + 1 := ⟨f - 1, by omega⟩
        obtain ⟨Z1, eZ1⟩ : ∃ Z : MS, Z = mf_go Y := ⟨_, rfl⟩
        obtain ⟨Q1, eQ1⟩ : ∃ Z : Int32 × MS, Z = mf_clause Z1 := ⟨_, rfl⟩
        refine g_iload_n (i := 1) dX9_text_14 rfl rfl ?_
        refine g_if_eq 53 dX9_text_15 (by decide) (fun h9 => absurd h9 (by decide)) (fun _ => ?_)
        refine g_aload_n (i := 0) dX9_text_18 rfl rfl ?_
        refine m_get 40 dX9_text_19 (List.mem_of_getElem? (i := 1) rfl) (fun w h => List.mem_cons_of_mem _ (List.mem_append_right _ h)) (by decide) rfl ?_
        refine g_bipush (59) rfl dX9_text_22 ?_
        refine g_icmp_ne 53 dX9_text_24 (by decide) (fun c_20 => ?_) (fun c_20 => ?_)
        · skip
          refine g_iload_n (i := 1) dX9_text_53 rfl rfl ?_
          refine g_if_eq 75 dX9_text_54 (by decide) (fun h9 => absurd h9 (by decide)) (fun _ => ?_)
          refine g_aload_n (i := 0) dX9_text_57 rfl rfl ?_
          refine m_get 40 dX9_text_58 (List.mem_of_getElem? (i := 1) rfl) (fun w h => List.mem_cons_of_mem _ (List.mem_append_right _ h)) (by decide) rfl ?_
          refine g_if_eq 71 dX9_text_61 (by decide) (fun c_22 => ?_) (fun c_22 => ?_)
          · skip
            refine g_iconst (1) rfl dX9_text_71 ?_
            refine g_goto 76 dX9_text_72 (by decide) ?_
            refine g_iret dX9_text_76 ?_
            first | (refine Or.inr ⟨rfl, ?_⟩; (rw [eX]); (unfold mf_text); (rw [if_neg hw0, ← hX9, ← gx]); rw [mxL0]; exact ⟨rfl, rfl⟩) | (refine Or.inl ⟨rfl, ?_⟩; (rw [eX]); (unfold mf_text); (rw [if_neg hw0, ← hX9, ← gx]); rw [mxL1 (by assumption) (by assumption)]; exact ⟨rfl, rfl⟩) | (refine Or.inr ⟨rfl, ?_⟩; (rw [eX]); (unfold mf_text); (rw [if_neg hw0, ← hX9, ← gx]); rw [mxL2 (by assumption) (by assumption)]; exact ⟨rfl, rfl⟩)
          · skip
            refine g_aload_n (i := 0) dX9_text_64 rfl rfl ?_
            refine g_callVf 0 0 gX9_text_X9_wrong rfl rfl rfl ⟨Nat.le_of_ble_eq_true rfl, Nat.le_of_ble_eq_true rfl⟩ ⟨Nat.le_of_ble_eq_true rfl, Nat.le_of_ble_eq_true rfl⟩ (by exact Nat.le_of_ble_eq_true rfl) (by decide +kernel) rfl rfl rfl dX9_text_65 (M_wrong _ D cy a _) rfl (fun vu_23 wu_23 hu_23 => ?_)
            obtain ⟨rfl, rfl⟩ := hu_23
            refine g_if_eq 75 dX9_text_68 (by decide) (fun c_24 => ?_) (fun c_24 => ?_)
            · skip
              refine g_iconst (0) rfl dX9_text_75 ?_
              refine g_iret dX9_text_76 ?_
              first | (refine Or.inr ⟨rfl, ?_⟩; (rw [eX]); (unfold mf_text); (rw [if_neg hw0, ← hX9, ← gx]); rw [mxL0]; exact ⟨rfl, rfl⟩) | (refine Or.inl ⟨rfl, ?_⟩; (rw [eX]); (unfold mf_text); (rw [if_neg hw0, ← hX9, ← gx]); rw [mxL1 (by assumption) (by assumption)]; exact ⟨rfl, rfl⟩) | (refine Or.inr ⟨rfl, ?_⟩; (rw [eX]); (unfold mf_text); (rw [if_neg hw0, ← hX9, ← gx]); rw [mxL2 (by assumption) (by assumption)]; exact ⟨rfl, rfl⟩)
            · skip
              exact absurd rfl c_24
        · skip
          have hw59 : Y.1 40 = 59 := c_20
          refine g_aload_n (i := 0) dX9_text_27 rfl rfl ?_
          refine m_get 29 dX9_text_28 (List.mem_of_getElem? (i := 2) rfl) (fun w h => List.mem_cons_of_mem _ (List.mem_append_right _ h)) (by decide) rfl ?_
          refine g_bipush (8) rfl dX9_text_31 ?_
          refine g_icmp_ne 41 dX9_text_33 (by decide) (fun c_25 => ?_) (fun c_25 => ?_)
          · skip
            have hn8' : ¬ Y.1 29 = 8 := c_25
            have hn9 : n < 8 := (by have hn5 := hn8'; rw [hJY.2.2.1, show (8 : Int32) = nI 8 from by decide, nI_eq (by omega) (by decide)] at hn5; omega)
            have hJ9 : rdJ n Z1 := (by rw [eZ1]; exact rd_go hJY)
            refine g_aload_n (i := 0) dX9_text_41 rfl rfl ?_
            refine g_callVf 0 0 gX9_text_X9_go rfl rfl rfl ⟨Nat.le_of_ble_eq_true rfl, Nat.le_of_ble_eq_true rfl⟩ ⟨Nat.le_of_ble_eq_true rfl, Nat.le_of_ble_eq_true rfl⟩ (by exact Nat.le_of_ble_eq_true rfl) (by decide +kernel) rfl rfl rfl dX9_text_42 (M_goX _ D cy a Y Z1 hJY.1 eZ1) rfl (fun vu_26 wu_26 hu_26 => ?_)
            obtain ⟨rfl, rfl⟩ := hu_26
            refine g_aload_n (i := 0) dX9_text_45 rfl rfl ?_
            refine g_callVf 0 0 gX9_text_X9_clause rfl rfl rfl ⟨Nat.le_of_ble_eq_true rfl, Nat.le_of_ble_eq_true rfl⟩ ⟨Nat.le_of_ble_eq_true rfl, Nat.le_of_ble_eq_true rfl⟩ (by exact Nat.le_of_ble_eq_true rfl) (by decide +kernel) rfl rfl rfl dX9_text_46 (M_clauseX _ D cy a Z1 Q1 eQ1 n hJ9 hn9) rfl (fun vu_27 wu_27 hu_27 => ?_)
            rcases hu_27 with ⟨rfl, hu_27, rfl⟩ | ⟨rfl, hu_27, rfl⟩
            · skip
              have hu_T := hu_27
              refine g_istore_n (i := 1) dX9_text_49 rfl (by decide) ?_
              refine g_goto 14 dX9_text_50 (by decide) ?_
              first | (exact g_to _ _ (ih (f, 1, Q1.2) ⟨(by have q9 := txI_c hJ9 hn9 (f := f) (by omega); rw [← eQ1, hu_T] at q9; exact q9), (by show mxL f (1, Q1.2) = X9; rw [← gx, mxL4 hw59 hn8', ← eZ1, ← eQ1, ← hu_T])⟩ (Nat.lt_succ_self f)) rfl ⟨rfl, rfl, trivial⟩) | (exact g_to _ _ (ih (f, 0, Q1.2) ⟨(by have q9 := txI_c hJ9 hn9 (f := f) (by omega); rw [← eQ1, hu_T] at q9; exact q9), (by show mxL f (0, Q1.2) = X9; rw [← gx, mxL4 hw59 hn8', ← eZ1, ← eQ1, ← hu_T])⟩ (Nat.lt_succ_self f)) rfl ⟨rfl, rfl, trivial⟩)
            · skip
              have hu_T := hu_27
              refine g_istore_n (i := 1) dX9_text_49 rfl (by decide) ?_
              refine g_goto 14 dX9_text_50 (by decide) ?_
              first | (exact g_to _ _ (ih (f, 1, Q1.2) ⟨(by have q9 := txI_c hJ9 hn9 (f := f) (by omega); rw [← eQ1, hu_T] at q9; exact q9), (by show mxL f (1, Q1.2) = X9; rw [← gx, mxL4 hw59 hn8', ← eZ1, ← eQ1, ← hu_T])⟩ (Nat.lt_succ_self f)) rfl ⟨rfl, rfl, trivial⟩) | (exact g_to _ _ (ih (f, 0, Q1.2) ⟨(by have q9 := txI_c hJ9 hn9 (f := f) (by omega); rw [← eQ1, hu_T] at q9; exact q9), (by show mxL f (0, Q1.2) = X9; rw [← gx, mxL4 hw59 hn8', ← eZ1, ← eQ1, ← hu_T])⟩ (Nat.lt_succ_self f)) rfl ⟨rfl, rfl, trivial⟩)
          · skip
            refine g_aload_n (i := 0) dX9_text_36 rfl rfl ?_
            refine g_callVf 0 0 gX9_text_X9_wrong rfl rfl rfl ⟨Nat.le_of_ble_eq_true rfl, Nat.le_of_ble_eq_true rfl⟩ ⟨Nat.le_of_ble_eq_true rfl, Nat.le_of_ble_eq_true rfl⟩ (by exact Nat.le_of_ble_eq_true rfl) (by decide +kernel) rfl rfl rfl dX9_text_37 (M_wrong _ D cy a _) rfl (fun vu_28 wu_28 hu_28 => ?_)
            obtain ⟨rfl, rfl⟩ := hu_28
            refine g_iret dX9_text_40 ?_
            refine Or.inr ⟨rfl, ?_⟩
            rw [eX]
            unfold mf_text
            rw [if_neg hw0, ← hX9, ← gx]
            rw [mxL3 hw59 (by assumption)]
            exact ⟨rfl, rfl⟩
  · skip
    refine g_iconst (1) rfl dX9_text_7 ?_
    refine g_iret dX9_text_8 ?_
    refine Or.inl ⟨rfl, ?_⟩
    rw [eX]
    unfold mf_text
    rw [if_pos (by assumption)]
    exact ⟨rfl, rfl⟩

/-- the new clauses take the place of the old -/
def cp8 (U : MS) : Nat → MS
  | 0 => U
  | i + 1 => sA (sA (cp8 U i) 24 i (vp_nar .boolean ((cp8 U i).2.2.1 30 i))) 25 i ((sA (cp8 U i) 24 i (vp_nar .boolean ((cp8 U i).2.2.1 30 i))).2.2.1 31 i)
def cpA (U : MS) (i : Nat) : MS := sA U 26 i (U.2.2.1 32 i)
def cpB (U : MS) (i : Nat) : MS := sA (cpA U i) 27 i ((cpA U i).2.2.1 33 i)
def cpC (U : MS) (i : Nat) : MS := sA (cpB U i) 28 i ((cpB U i).2.2.1 34 i)
def cp32 (U : MS) : Nat → MS
  | 0 => U
  | i + 1 => cpC (cp32 U i) i
def rdS (S : MS) : MS := sI (sI (sL S 37 (-1)) 29 0) 39 0
def rdT (S : MS) : Int32 × MS := mf_text (mf_go (rdS S))
def rdE (S : MS) : MS := sI (rdT S).2 36 0
def rdC (S : MS) : MS := cp32 (cp8 (sI (rdE S) 23 ((rdE S).1 29)) 8) 32
def mf_read (S : MS) : Int64 × MS := if (rdT S).1 = 0 then mf_finding (rdE S) (-1000000000006) else (((rdC S).1 23).toInt64, rdC S)
theorem rd_S {S : MS} (hI : minv S) (hN : ninv S) : rdJ 0 (rdS S) := by
  have h36 := hI.2.2.1
  exact ⟨⟨hI, by show 0 ≤ (0 : Int32).toInt; decide, by show (0 : Int32).toInt ≤ (S.1 36).toInt; exact h36.1, by show (S.1 36).toInt - (0 : Int32).toInt < 401; rw [show (0 : Int32).toInt = 0 from by decide]; omega⟩, hN, rfl, by decide⟩

set_option maxHeartbeats 4000000 in
set_option maxRecDepth 100000 in
/-- read -/
theorem M_read (l : Launch) (D : va_G) (cy : Nat → ClassId) (a : Nat → Nat) (S : MS) (hI : minv S) (hN : ninv S) : Ct l D clx (tyx cy) yX9_read wsX9_read (rmD 6) 0 0 [.ref (a 0)] (MW cy a S) (fun r9 w9 => r9 = some (.long (mf_read S).1) ∧ w9 = MW cy a (mf_read S).2) := by
  refine g_start (cc := cX9_read) (maxL := 3) (ret := (some .long)) (by decide) rfl (Nat.le_of_ble_eq_true rfl) (fun v w1 h => by obtain ⟨rfl, -⟩ := h; exact rfl) (fun Γ hlΓ => ?_)
  subst hlΓ
  obtain ⟨X1, eX1⟩ : ∃ Z : MS, Z = mf_go (rdS S) := ⟨_, rfl⟩
  obtain ⟨X2, eX2⟩ : ∃ Z : Int32 × MS, Z = rdT S := ⟨_, rfl⟩
  refine g_aload_n (i := 0) dX9_read_0 rfl rfl ?_
  refine g_ldc2 (-1) (List.mem_of_getElem? (i := 1) rfl) dX9_read_1 ?_
  refine m_putl 37 dX9_read_4 (List.mem_of_getElem? (i := 2) rfl) (fun w h => List.mem_cons_of_mem _ (List.mem_append_right _ h)) (by decide) rfl rfl rfl (wsI_37 _ _ _ _) ?_
  refine g_aload_n (i := 0) dX9_read_7 rfl rfl ?_
  refine g_iconst (0) rfl dX9_read_8 ?_
  refine m_puti 29 dX9_read_9 (List.mem_of_getElem? (i := 3) rfl) (fun w h => List.mem_cons_of_mem _ (List.mem_append_right _ h)) (by decide) rfl rfl rfl (wsI_29 _ _ _ _) ?_
  refine g_aload_n (i := 0) dX9_read_12 rfl rfl ?_
  refine g_iconst (0) rfl dX9_read_13 ?_
  refine m_puti 39 dX9_read_14 (List.mem_of_getElem? (i := 4) rfl) (fun w h => List.mem_cons_of_mem _ (List.mem_append_right _ h)) (by decide) rfl rfl rfl (wsI_39 _ _ _ _) ?_
  refine g_aload_n (i := 0) dX9_read_17 rfl rfl ?_
  refine g_callVf 0 0 gX9_read_X9_go rfl rfl rfl ⟨Nat.le_of_ble_eq_true rfl, Nat.le_of_ble_eq_true rfl⟩ ⟨Nat.le_of_ble_eq_true rfl, Nat.le_of_ble_eq_true rfl⟩ (by exact Nat.le_of_ble_eq_true rfl) (by decide +kernel) rfl rfl rfl dX9_read_18 (M_goX _ D cy a (rdS S) X1 (rd_S hI hN).1 eX1) rfl (fun vu_1 wu_1 hu_1 => ?_)
  obtain ⟨rfl, rfl⟩ := hu_1
  refine g_aload_n (i := 0) dX9_read_21 rfl rfl ?_
  refine g_callVf 0 0 gX9_read_X9_text rfl rfl rfl ⟨Nat.le_of_ble_eq_true rfl, Nat.le_of_ble_eq_true rfl⟩ ⟨Nat.le_of_ble_eq_true rfl, Nat.le_of_ble_eq_true rfl⟩ (by exact Nat.le_of_ble_eq_true rfl) (by decide +kernel) rfl rfl rfl dX9_read_22 (M_textX _ D cy a X1 X2 (eX2.trans (by unfold rdT; rw [← eX1])) (by rw [eX1]; exact rd_go (rd_S hI hN))) rfl (fun vu_2 wu_2 hu_2 => ?_)
  rcases hu_2 with ⟨rfl, hu_2, rfl⟩ | ⟨rfl, hu_2, rfl⟩
  · skip
    have hu_T := hu_2
    refine g_istore_n (i := 1) dX9_read_25 rfl (by decide) ?_
    refine g_aload_n (i := 0) dX9_read_26 rfl rfl ?_
    refine g_iconst (0) rfl dX9_read_27 ?_
    refine m_puti 36 dX9_read_28 (List.mem_of_getElem? (i := 5) rfl) (fun w h => List.mem_cons_of_mem _ (List.mem_append_right _ h)) (by decide) rfl rfl rfl (wsI_36 _ _ _ _) ?_
    refine g_iload_n (i := 1) dX9_read_31 rfl rfl ?_
    refine g_if_ne 43 dX9_read_32 (by decide) (fun _ => ?_) (fun h9 => absurd h9 (by decide))
    refine g_aload_n (i := 0) dX9_read_43 rfl rfl ?_
    refine g_aload_n (i := 0) dX9_read_44 rfl rfl ?_
    refine m_get 29 dX9_read_45 (List.mem_of_getElem? (i := 3) rfl) (fun w h => List.mem_cons_of_mem _ (List.mem_append_right _ h)) (by decide) rfl ?_
    refine m_puti 23 dX9_read_48 (List.mem_of_getElem? (i := 7) rfl) (fun w h => List.mem_cons_of_mem _ (List.mem_append_right _ h)) (by decide) rfl rfl rfl (wsI_23 _ _ _ _) ?_
    refine g_iconst (0) rfl dX9_read_51 ?_
    refine g_istore_n (i := 2) dX9_read_52 rfl (by decide) ?_
    refine g_cnt 8 (fun i => True) (fun i => MW cy a (cp8 (sI (sI X2.2 36 0) 23 ((sI X2.2 36 0).1 29)) i)) (fun i => [(0, .ref (a 0)), (2, .int (nI i))]) 0 (by first | decide | omega) trivial (by rfl) (by refine ⟨rfl, rfl, trivial⟩) ?_ (fun i4 hi4 gi4 ihi4 => ?_)
    · intro gN
      refine g_iload_n (i := 2) dX9_read_53 rfl rfl ?_
      refine g_bipush (8) rfl dX9_read_54 ?_
      refine g_icmp_ge 89 dX9_read_56 (by decide) (fun c_5 => ?_) (fun c_5 => ?_)
      · skip
        refine g_iconst (0) rfl dX9_read_89 ?_
        refine g_istore_n (i := 2) dX9_read_90 rfl (by decide) ?_
        refine g_cnt 32 (fun i => True) (fun i => MW cy a (cp32 (cp8 (sI (sI X2.2 36 0) 23 ((sI X2.2 36 0).1 29)) 8) i)) (fun i => [(0, .ref (a 0)), (2, .int (nI i))]) 0 (by first | decide | omega) trivial (by rfl) (by refine ⟨rfl, rfl, trivial⟩) ?_ (fun i6 hi6 gi6 ihi6 => ?_)
        · intro gN
          refine g_iload_n (i := 2) dX9_read_91 rfl rfl ?_
          refine g_bipush (32) rfl dX9_read_92 ?_
          refine g_icmp_ge 139 dX9_read_94 (by decide) (fun c_7 => ?_) (fun c_7 => ?_)
          · skip
            refine g_aload_n (i := 0) dX9_read_139 rfl rfl ?_
            refine m_get 23 dX9_read_140 (List.mem_of_getElem? (i := 7) rfl) (fun w h => List.mem_cons_of_mem _ (List.mem_append_right _ h)) (by decide) rfl ?_
            refine g_i2l dX9_read_143 ?_
            refine g_lret dX9_read_144 ?_
            unfold mf_read rdC rdE
            rw [← eX2, if_neg (by rw [hu_T]; decide)]
            exact ⟨rfl, rfl⟩
          · skip
            exact absurd (nI_le (Nat.le_refl _) (by first | decide | omega)) c_7
        · skip
          refine g_iload_n (i := 2) dX9_read_91 rfl rfl ?_
          refine g_bipush (32) rfl dX9_read_92 ?_
          refine g_icmp_ge 139 dX9_read_94 (by decide) (fun c_8 => ?_) (fun c_8 => ?_)
          · skip
            exact absurd c_8 (nI_ge hi6 (by first | decide | omega))
          · skip
            refine g_aload_n (i := 0) dX9_read_97 rfl rfl ?_
            refine m_get 26 dX9_read_98 (List.mem_of_getElem? (i := 12) rfl) (fun w h => List.mem_cons_of_mem _ (List.mem_append_right _ h)) (by decide) rfl ?_
            refine g_iload_n (i := 2) dX9_read_101 rfl rfl ?_
            refine g_aload_n (i := 0) dX9_read_102 rfl rfl ?_
            refine m_get 32 dX9_read_103 (List.mem_of_getElem? (i := 13) rfl) (fun w h => List.mem_cons_of_mem _ (List.mem_append_right _ h)) (by decide) rfl ?_
            refine g_iload_n (i := 2) dX9_read_106 rfl rfl ?_
            refine m_ialdN 32 27 32 dX9_read_107 rfl (by omega) (by decide) ?_
            refine m_iastN 26 22 32 dX9_read_108 rfl (by omega) (by decide) (wsA_26 _ _ _ _ _) ?_
            refine g_aload_n (i := 0) dX9_read_109 rfl rfl ?_
            refine m_get 27 dX9_read_110 (List.mem_of_getElem? (i := 14) rfl) (fun w h => List.mem_cons_of_mem _ (List.mem_append_right _ h)) (by decide) rfl ?_
            refine g_iload_n (i := 2) dX9_read_113 rfl rfl ?_
            refine g_aload_n (i := 0) dX9_read_114 rfl rfl ?_
            refine m_get 33 dX9_read_115 (List.mem_of_getElem? (i := 15) rfl) (fun w h => List.mem_cons_of_mem _ (List.mem_append_right _ h)) (by decide) rfl ?_
            refine g_iload_n (i := 2) dX9_read_118 rfl rfl ?_
            refine m_ialdN 33 28 32 dX9_read_119 rfl (by omega) (by decide) ?_
            refine m_iastN 27 23 32 dX9_read_120 rfl (by omega) (by decide) (wsA_27 _ _ _ _ _) ?_
            refine g_aload_n (i := 0) dX9_read_121 rfl rfl ?_
            refine m_get 28 dX9_read_122 (List.mem_of_getElem? (i := 16) rfl) (fun w h => List.mem_cons_of_mem _ (List.mem_append_right _ h)) (by decide) rfl ?_
            refine g_iload_n (i := 2) dX9_read_125 rfl rfl ?_
            refine g_aload_n (i := 0) dX9_read_126 rfl rfl ?_
            refine m_get 34 dX9_read_127 (List.mem_of_getElem? (i := 17) rfl) (fun w h => List.mem_cons_of_mem _ (List.mem_append_right _ h)) (by decide) rfl ?_
            refine g_iload_n (i := 2) dX9_read_130 rfl rfl ?_
            refine m_ialdN 34 29 32 dX9_read_131 rfl (by omega) (by decide) ?_
            refine m_iastN 28 24 32 dX9_read_132 rfl (by omega) (by decide) (wsA_28 _ _ _ _ _) ?_
            refine g_iinc (1) dX9_read_133 rfl rfl (by decide) ?_
            refine g_goto 91 dX9_read_136 (by decide) ?_
            refine g_to _ _ (ihi6 (trivial)) rfl (by refine ⟨(by first | rfl | (rw [← nI_1]; rfl) | (rw [← nI_1]; rfl)), (by first | rfl | (rw [← nI_1]; rfl) | (rw [← nI_1]; rfl)), trivial⟩)
      · skip
        exact absurd (nI_le (Nat.le_refl _) (by first | decide | omega)) c_5
    · skip
      refine g_iload_n (i := 2) dX9_read_53 rfl rfl ?_
      refine g_bipush (8) rfl dX9_read_54 ?_
      refine g_icmp_ge 89 dX9_read_56 (by decide) (fun c_9 => ?_) (fun c_9 => ?_)
      · skip
        exact absurd c_9 (nI_ge hi4 (by first | decide | omega))
      · skip
        refine g_aload_n (i := 0) dX9_read_59 rfl rfl ?_
        refine m_get 24 dX9_read_60 (List.mem_of_getElem? (i := 8) rfl) (fun w h => List.mem_cons_of_mem _ (List.mem_append_right _ h)) (by decide) rfl ?_
        refine g_iload_n (i := 2) dX9_read_63 rfl rfl ?_
        refine g_aload_n (i := 0) dX9_read_64 rfl rfl ?_
        refine m_get 30 dX9_read_65 (List.mem_of_getElem? (i := 9) rfl) (fun w h => List.mem_cons_of_mem _ (List.mem_append_right _ h)) (by decide) rfl ?_
        refine g_iload_n (i := 2) dX9_read_68 rfl rfl ?_
        refine m_zaldN 30 25 8 dX9_read_69 rfl (by omega) (by decide) ?_
        refine m_zastN 24 20 8 dX9_read_70 rfl (by omega) (by decide) (wsA_24 _ _ _ _ _) ?_
        refine g_aload_n (i := 0) dX9_read_71 rfl rfl ?_
        refine m_get 25 dX9_read_72 (List.mem_of_getElem? (i := 10) rfl) (fun w h => List.mem_cons_of_mem _ (List.mem_append_right _ h)) (by decide) rfl ?_
        refine g_iload_n (i := 2) dX9_read_75 rfl rfl ?_
        refine g_aload_n (i := 0) dX9_read_76 rfl rfl ?_
        refine m_get 31 dX9_read_77 (List.mem_of_getElem? (i := 11) rfl) (fun w h => List.mem_cons_of_mem _ (List.mem_append_right _ h)) (by decide) rfl ?_
        refine g_iload_n (i := 2) dX9_read_80 rfl rfl ?_
        refine m_ialdN 31 26 8 dX9_read_81 rfl (by omega) (by decide) ?_
        refine m_iastN 25 21 8 dX9_read_82 rfl (by omega) (by decide) (wsA_25 _ _ _ _ _) ?_
        refine g_iinc (1) dX9_read_83 rfl rfl (by decide) ?_
        refine g_goto 53 dX9_read_86 (by decide) ?_
        refine g_to _ _ (ihi4 (trivial)) rfl (by refine ⟨(by first | rfl | (rw [← nI_1]; rfl) | (rw [← nI_1]; rfl)), (by first | rfl | (rw [← nI_1]; rfl) | (rw [← nI_1]; rfl)), trivial⟩)
  · skip
    have hu_T := hu_2
    refine g_istore_n (i := 1) dX9_read_25 rfl (by decide) ?_
    refine g_aload_n (i := 0) dX9_read_26 rfl rfl ?_
    refine g_iconst (0) rfl dX9_read_27 ?_
    refine m_puti 36 dX9_read_28 (List.mem_of_getElem? (i := 5) rfl) (fun w h => List.mem_cons_of_mem _ (List.mem_append_right _ h)) (by decide) rfl rfl rfl (wsI_36 _ _ _ _) ?_
    refine g_iload_n (i := 1) dX9_read_31 rfl rfl ?_
    refine g_if_ne 43 dX9_read_32 (by decide) (fun h9 => absurd h9 (by decide)) (fun _ => ?_)
    refine g_aload_n (i := 0) dX9_read_35 rfl rfl ?_
    refine g_ldc2 (-1000000000006) (List.mem_of_getElem? (i := 6) rfl) dX9_read_36 ?_
    refine g_callVf 1 0 gX9_read_X9_finding rfl rfl rfl ⟨Nat.le_of_ble_eq_true rfl, Nat.le_of_ble_eq_true rfl⟩ ⟨Nat.le_of_ble_eq_true rfl, Nat.le_of_ble_eq_true rfl⟩ (by exact Nat.le_of_ble_eq_true rfl) (by decide +kernel) rfl rfl rfl dX9_read_39 (M_finding _ D cy a _ _ (by unfold vp_in; decide)) rfl (fun vu_11 wu_11 hu_11 => ?_)
    obtain ⟨rfl, rfl⟩ := hu_11
    refine g_lret dX9_read_42 ?_
    unfold mf_read rdE
    rw [← eX2, if_pos hu_T]
    exact ⟨rfl, rfl⟩

