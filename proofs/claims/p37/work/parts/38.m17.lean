/-- figure w of payment i isn't as told -/
abbrev ck3 (T : MS) (n : Int32) (i : Nat) (w : Int32) : Prop := n ≤ 3 * nI i + w ∨ ¬ (T.2.2.1 21 (3 * nI i + w).toNatClampNeg).toInt64 = mpay T (nI i) w
abbrev ckBad (T : MS) (n : Int32) (i : Nat) : Prop := ck3 T n i 0 ∨ ck3 T n i (0 + 1) ∨ ck3 T n i (0 + 1 + 1)
def ckR (T : MS) (n : Int32) : Nat → Nat → Int64
  | 0, _ => if n ≤ 3 * T.1 46 then 0 else 99
  | j + 1, i => if ckBad T n i then (1 + nI i).toInt64 else ckR T n j (i + 1)
def mf_check (S T : MS) (N : Nat) : Int64 × MS := (ckR T (S.1 20) N 0, T)
theorem ckR1 {T : MS} {n : Int32} {N i : Nat} (hi : i < N) (h : ¬ ckBad T n i) (g : ckR T n (N - i) i = ckR T n N 0) : ckR T n (N - (i + 1)) (i + 1) = ckR T n N 0 := by
  rw [← g, show N - i = (N - (i + 1)) + 1 by omega]
  exact (if_neg h).symm
theorem ckR2 {T : MS} {n : Int32} {N i : Nat} (hi : i < N) (h : ckBad T n i) (g : ckR T n (N - i) i = ckR T n N 0) : (1 + nI i).toInt64 = ckR T n N 0 := by
  rw [← g, show N - i = (N - (i + 1)) + 1 by omega]
  exact (if_pos h).symm
theorem ckR3 {T : MS} {n : Int32} {N : Nat} (g : ckR T n (N - N) N = ckR T n N 0) : (if n ≤ 3 * T.1 46 then 0 else 99) = ckR T n N 0 := by
  rw [← g, Nat.sub_self]
  rfl
theorem ckX {S : MS} (hI : minv S) {i : Nat} {w : Int32} {v : Nat} (hi : i < 10) (hw : w = nI v) (hv : v < 3) (h : ¬ S.1 20 ≤ 3 * nI i + w) : vp_in (3 * nI i + w) 30 := by
  obtain ⟨-, ⟨h1, h2⟩, -⟩ := hI
  subst hw
  have e : 3 * nI i + nI v = nI (3 * i + v) := by rw [show (3 : Int32) = nI 3 from rfl, pk_mul, nI_add]
  rw [e] at h ⊢
  rw [Int32.not_le, Int32.lt_iff_toInt_lt, nI_toInt (by omega)] at h
  refine vp_in_nI ?_ (by decide)
  omega

set_option maxHeartbeats 4000000 in
set_option maxRecDepth 100000 in
/-- check -/
theorem M_check (l : Launch) (D : va_G) (cy : Nat → ClassId) (a : Nat → Nat) (S : MS) (hI : minv S) (T : MS) (hPl : plRun (sI S 20 0) T) (N : Nat) (hOk : plOk T N) : Ct l D clx (tyx cy) yX9_check wsX9_check (rmD 3) 0 0 [.ref (a 0)] (MW cy a S) (fun r9 w9 => r9 = some (.long (mf_check S T N).1) ∧ w9 = MW cy a (mf_check S T N).2) := by
  refine g_start (cc := cX9_check) (maxL := 4) (ret := (some .long)) (by decide) rfl (Nat.le_of_ble_eq_true rfl) (fun v w1 h => by obtain ⟨rfl, -⟩ := h; exact rfl) (fun Γ hlΓ => ?_)
  subst hlΓ
  have hN10 : N ≤ 10 := hOk.1
  refine g_aload_n (i := 0) dX9_check_0 rfl rfl ?_
  refine m_get 20 dX9_check_1 (List.mem_of_getElem? (i := 1) rfl) (fun w h => List.mem_cons_of_mem _ (List.mem_append_right _ h)) (by decide) rfl ?_
  refine g_istore_n (i := 1) dX9_check_4 rfl (by decide) ?_
  refine g_aload_n (i := 0) dX9_check_5 rfl rfl ?_
  refine g_iconst (0) rfl dX9_check_6 ?_
  refine m_puti 20 dX9_check_7 (List.mem_of_getElem? (i := 1) rfl) (fun w h => List.mem_cons_of_mem _ (List.mem_append_right _ h)) (by decide) rfl rfl rfl (wsI_20 _ _ _ _) ?_
  refine g_aload_n (i := 0) dX9_check_10 rfl rfl ?_
  refine g_callVf 0 0 gX9_check_X9_findPlan rfl rfl rfl ⟨Nat.le_of_ble_eq_true rfl, Nat.le_of_ble_eq_true rfl⟩ ⟨Nat.le_of_ble_eq_true rfl, Nat.le_of_ble_eq_true rfl⟩ (by exact Nat.le_of_ble_eq_true rfl) (by decide +kernel) rfl rfl rfl dX9_check_11 (M_findPlan2 _ D cy a (sI S 20 0) T hPl) rfl (fun vu_1 wu_1 hu_1 => ?_)
  obtain ⟨rfl, rfl⟩ := hu_1
  refine g_iconst (0) rfl dX9_check_14 ?_
  refine g_istore_n (i := 2) dX9_check_15 rfl (by decide) ?_
  refine g_cnt N (fun i => ckR T (S.1 20) (N - i) i = ckR T (S.1 20) N 0) (fun i => MW cy a T) (fun i => [(0, .ref (a 0)), (1, .int (S.1 20)), (2, .int (nI i))]) 0 (by first | decide | omega) rfl (by rfl) (by refine ⟨rfl, rfl, rfl, trivial⟩) ?_ (fun i2 hi2 gi2 ihi2 => ?_)
  · intro gN
    refine g_iload_n (i := 2) dX9_check_16 rfl rfl ?_
    refine g_aload_n (i := 0) dX9_check_17 rfl rfl ?_
    refine m_get 46 dX9_check_18 (List.mem_of_getElem? (i := 2) rfl) (fun w h => List.mem_cons_of_mem _ (List.mem_append_right _ h)) (by decide) rfl ?_
    refine g_icmp_ge 78 dX9_check_21 (by decide) (fun c_3 => ?_) (fun c_3 => ?_)
    · skip
      refine g_iload_n (i := 1) dX9_check_78 rfl rfl ?_
      refine g_iconst (3) rfl dX9_check_79 ?_
      refine g_aload_n (i := 0) dX9_check_80 rfl rfl ?_
      refine m_get 46 dX9_check_81 (List.mem_of_getElem? (i := 2) rfl) (fun w h => List.mem_cons_of_mem _ (List.mem_append_right _ h)) (by decide) rfl ?_
      refine g_imul dX9_check_84 ?_
      refine g_icmp_le 94 dX9_check_85 (by decide) (fun c_4 => ?_) (fun c_4 => ?_)
      · skip
        refine g_lconst 0 rfl dX9_check_94 ?_
        refine g_lret dX9_check_95 ?_
        have gQ := ckR3 (T := T) (n := S.1 20) (N := N) (by with_reducible assumption)
        first | (rw [if_pos (by with_reducible assumption)] at gQ; exact ⟨congrArg (fun z => some (Value.long z)) gQ, rfl⟩) | (rw [if_neg (by with_reducible assumption)] at gQ; exact ⟨congrArg (fun z => some (Value.long z)) gQ, rfl⟩)
      · skip
        refine g_ldc2 (99) (List.mem_of_getElem? (i := 4) rfl) dX9_check_88 ?_
        refine g_goto 95 dX9_check_91 (by decide) ?_
        refine g_lret dX9_check_95 ?_
        have gQ := ckR3 (T := T) (n := S.1 20) (N := N) (by with_reducible assumption)
        first | (rw [if_pos (by with_reducible assumption)] at gQ; exact ⟨congrArg (fun z => some (Value.long z)) gQ, rfl⟩) | (rw [if_neg (by with_reducible assumption)] at gQ; exact ⟨congrArg (fun z => some (Value.long z)) gQ, rfl⟩)
    · skip
      exact absurd (by rw [hOk.2.1]; exact nI_le (Nat.le_refl _) (by omega)) c_3
  · skip
    refine g_iload_n (i := 2) dX9_check_16 rfl rfl ?_
    refine g_aload_n (i := 0) dX9_check_17 rfl rfl ?_
    refine m_get 46 dX9_check_18 (List.mem_of_getElem? (i := 2) rfl) (fun w h => List.mem_cons_of_mem _ (List.mem_append_right _ h)) (by decide) rfl ?_
    refine g_icmp_ge 78 dX9_check_21 (by decide) (fun c_5 => ?_) (fun c_5 => ?_)
    · skip
      exact absurd c_5 (by rw [hOk.2.1]; exact nI_ge hi2 (by omega))
    · skip
      refine g_iconst (0) rfl dX9_check_24 ?_
      refine g_istore_n (i := 3) dX9_check_25 rfl (by decide) ?_
      refine g_iload_n (i := 3) dX9_check_26 rfl rfl ?_
      refine g_iconst (3) rfl dX9_check_27 ?_
      refine g_icmp_ge 72 dX9_check_28 (by decide) (fun h9 => absurd h9 (by decide)) (fun _ => ?_)
      refine g_iconst (3) rfl dX9_check_31 ?_
      refine g_iload_n (i := 2) dX9_check_32 rfl rfl ?_
      refine g_imul dX9_check_33 ?_
      refine g_iload_n (i := 3) dX9_check_34 rfl rfl ?_
      refine g_iadd dX9_check_35 ?_
      refine g_iload_n (i := 1) dX9_check_36 rfl rfl ?_
      refine g_icmp_ge 61 dX9_check_37 (by decide) (fun c_7 => ?_) (fun c_7 => ?_)
      · skip
        refine g_iconst (1) rfl dX9_check_61 ?_
        refine g_iload_n (i := 2) dX9_check_62 rfl rfl ?_
        refine g_iadd dX9_check_63 ?_
        refine g_i2l dX9_check_64 ?_
        refine g_lret dX9_check_65 ?_
        exact ⟨congrArg (fun z => some (Value.long z)) (ckR2 (by with_reducible assumption) (by first | exact Or.inl (Or.inl (by with_reducible assumption)) | exact Or.inl (Or.inr (by with_reducible assumption)) | exact Or.inr (Or.inl (Or.inl (by with_reducible assumption))) | exact Or.inr (Or.inl (Or.inr (by with_reducible assumption))) | exact Or.inr (Or.inr (Or.inl (by with_reducible assumption))) | exact Or.inr (Or.inr (Or.inr (by with_reducible assumption)))) (by with_reducible assumption)), rfl⟩
      · skip
        refine g_aload_n (i := 0) dX9_check_40 rfl rfl ?_
        refine m_get 21 dX9_check_41 (List.mem_of_getElem? (i := 3) rfl) (fun w h => List.mem_cons_of_mem _ (List.mem_append_right _ h)) (by decide) rfl ?_
        refine g_iconst (3) rfl dX9_check_44 ?_
        refine g_iload_n (i := 2) dX9_check_45 rfl rfl ?_
        refine g_imul dX9_check_46 ?_
        refine g_iload_n (i := 3) dX9_check_47 rfl rfl ?_
        refine g_iadd dX9_check_48 ?_
        refine m_iald 21 18 30 dX9_check_49 rfl (by first | exact ckX (v := 0) hI (by omega) rfl (by decide) (by with_reducible assumption) | exact ckX (v := 1) hI (by omega) rfl (by decide) (by with_reducible assumption) | exact ckX (v := 2) hI (by omega) rfl (by decide) (by with_reducible assumption)) ?_
        refine g_i2l dX9_check_50 ?_
        refine g_aload_n (i := 0) dX9_check_51 rfl rfl ?_
        refine g_iload_n (i := 2) dX9_check_52 rfl rfl ?_
        refine g_iload_n (i := 3) dX9_check_53 rfl rfl ?_
        refine g_callVf 2 0 gX9_check_X9_paymentOf rfl rfl rfl ⟨Nat.le_of_ble_eq_true rfl, Nat.le_of_ble_eq_true rfl⟩ ⟨Nat.le_of_ble_eq_true rfl, Nat.le_of_ble_eq_true rfl⟩ (by exact Nat.le_of_ble_eq_true rfl) (by decide +kernel) rfl rfl rfl dX9_check_54 (M_paymentOf _ D cy a _ _ _ (vp_in_nI (by omega) (by decide))) rfl (fun vu_8 wu_8 hu_8 => ?_)
        obtain ⟨rfl, rfl⟩ := hu_8
        refine g_lcmp_eq 66 dX9_check_57 dX9_check_58 (by decide) (fun c_9 => ?_) (fun c_9 => ?_)
        · skip
          refine g_iinc (1) dX9_check_66 rfl rfl (by decide) ?_
          refine g_goto 26 dX9_check_69 (by decide) ?_
          refine g_iload_n (i := 3) dX9_check_26 rfl rfl ?_
          refine g_iconst (3) rfl dX9_check_27 ?_
          refine g_icmp_ge 72 dX9_check_28 (by decide) (fun h9 => absurd h9 (by decide)) (fun _ => ?_)
          refine g_iconst (3) rfl dX9_check_31 ?_
          refine g_iload_n (i := 2) dX9_check_32 rfl rfl ?_
          refine g_imul dX9_check_33 ?_
          refine g_iload_n (i := 3) dX9_check_34 rfl rfl ?_
          refine g_iadd dX9_check_35 ?_
          refine g_iload_n (i := 1) dX9_check_36 rfl rfl ?_
          refine g_icmp_ge 61 dX9_check_37 (by decide) (fun c_11 => ?_) (fun c_11 => ?_)
          · skip
            refine g_iconst (1) rfl dX9_check_61 ?_
            refine g_iload_n (i := 2) dX9_check_62 rfl rfl ?_
            refine g_iadd dX9_check_63 ?_
            refine g_i2l dX9_check_64 ?_
            refine g_lret dX9_check_65 ?_
            exact ⟨congrArg (fun z => some (Value.long z)) (ckR2 (by with_reducible assumption) (by first | exact Or.inl (Or.inl (by with_reducible assumption)) | exact Or.inl (Or.inr (by with_reducible assumption)) | exact Or.inr (Or.inl (Or.inl (by with_reducible assumption))) | exact Or.inr (Or.inl (Or.inr (by with_reducible assumption))) | exact Or.inr (Or.inr (Or.inl (by with_reducible assumption))) | exact Or.inr (Or.inr (Or.inr (by with_reducible assumption)))) (by with_reducible assumption)), rfl⟩
          · skip
            refine g_aload_n (i := 0) dX9_check_40 rfl rfl ?_
            refine m_get 21 dX9_check_41 (List.mem_of_getElem? (i := 3) rfl) (fun w h => List.mem_cons_of_mem _ (List.mem_append_right _ h)) (by decide) rfl ?_
            refine g_iconst (3) rfl dX9_check_44 ?_
            refine g_iload_n (i := 2) dX9_check_45 rfl rfl ?_
            refine g_imul dX9_check_46 ?_
            refine g_iload_n (i := 3) dX9_check_47 rfl rfl ?_
            refine g_iadd dX9_check_48 ?_
            refine m_iald 21 18 30 dX9_check_49 rfl (by first | exact ckX (v := 0) hI (by omega) rfl (by decide) (by with_reducible assumption) | exact ckX (v := 1) hI (by omega) rfl (by decide) (by with_reducible assumption) | exact ckX (v := 2) hI (by omega) rfl (by decide) (by with_reducible assumption)) ?_
            refine g_i2l dX9_check_50 ?_
            refine g_aload_n (i := 0) dX9_check_51 rfl rfl ?_
            refine g_iload_n (i := 2) dX9_check_52 rfl rfl ?_
            refine g_iload_n (i := 3) dX9_check_53 rfl rfl ?_
            refine g_callVf 2 0 gX9_check_X9_paymentOf rfl rfl rfl ⟨Nat.le_of_ble_eq_true rfl, Nat.le_of_ble_eq_true rfl⟩ ⟨Nat.le_of_ble_eq_true rfl, Nat.le_of_ble_eq_true rfl⟩ (by exact Nat.le_of_ble_eq_true rfl) (by decide +kernel) rfl rfl rfl dX9_check_54 (M_paymentOf _ D cy a _ _ _ (vp_in_nI (by omega) (by decide))) rfl (fun vu_12 wu_12 hu_12 => ?_)
            obtain ⟨rfl, rfl⟩ := hu_12
            refine g_lcmp_eq 66 dX9_check_57 dX9_check_58 (by decide) (fun c_13 => ?_) (fun c_13 => ?_)
            · skip
              refine g_iinc (1) dX9_check_66 rfl rfl (by decide) ?_
              refine g_goto 26 dX9_check_69 (by decide) ?_
              refine g_iload_n (i := 3) dX9_check_26 rfl rfl ?_
              refine g_iconst (3) rfl dX9_check_27 ?_
              refine g_icmp_ge 72 dX9_check_28 (by decide) (fun h9 => absurd h9 (by decide)) (fun _ => ?_)
              refine g_iconst (3) rfl dX9_check_31 ?_
              refine g_iload_n (i := 2) dX9_check_32 rfl rfl ?_
              refine g_imul dX9_check_33 ?_
              refine g_iload_n (i := 3) dX9_check_34 rfl rfl ?_
              refine g_iadd dX9_check_35 ?_
              refine g_iload_n (i := 1) dX9_check_36 rfl rfl ?_
              refine g_icmp_ge 61 dX9_check_37 (by decide) (fun c_15 => ?_) (fun c_15 => ?_)
              · skip
                refine g_iconst (1) rfl dX9_check_61 ?_
                refine g_iload_n (i := 2) dX9_check_62 rfl rfl ?_
                refine g_iadd dX9_check_63 ?_
                refine g_i2l dX9_check_64 ?_
                refine g_lret dX9_check_65 ?_
                exact ⟨congrArg (fun z => some (Value.long z)) (ckR2 (by with_reducible assumption) (by first | exact Or.inl (Or.inl (by with_reducible assumption)) | exact Or.inl (Or.inr (by with_reducible assumption)) | exact Or.inr (Or.inl (Or.inl (by with_reducible assumption))) | exact Or.inr (Or.inl (Or.inr (by with_reducible assumption))) | exact Or.inr (Or.inr (Or.inl (by with_reducible assumption))) | exact Or.inr (Or.inr (Or.inr (by with_reducible assumption)))) (by with_reducible assumption)), rfl⟩
              · skip
                refine g_aload_n (i := 0) dX9_check_40 rfl rfl ?_
                refine m_get 21 dX9_check_41 (List.mem_of_getElem? (i := 3) rfl) (fun w h => List.mem_cons_of_mem _ (List.mem_append_right _ h)) (by decide) rfl ?_
                refine g_iconst (3) rfl dX9_check_44 ?_
                refine g_iload_n (i := 2) dX9_check_45 rfl rfl ?_
                refine g_imul dX9_check_46 ?_
                refine g_iload_n (i := 3) dX9_check_47 rfl rfl ?_
                refine g_iadd dX9_check_48 ?_
                refine m_iald 21 18 30 dX9_check_49 rfl (by first | exact ckX (v := 0) hI (by omega) rfl (by decide) (by with_reducible assumption) | exact ckX (v := 1) hI (by omega) rfl (by decide) (by with_reducible assumption) | exact ckX (v := 2) hI (by omega) rfl (by decide) (by with_reducible assumption)) ?_
                refine g_i2l dX9_check_50 ?_
                refine g_aload_n (i := 0) dX9_check_51 rfl rfl ?_
                refine g_iload_n (i := 2) dX9_check_52 rfl rfl ?_
                refine g_iload_n (i := 3) dX9_check_53 rfl rfl ?_
                refine g_callVf 2 0 gX9_check_X9_paymentOf rfl rfl rfl ⟨Nat.le_of_ble_eq_true rfl, Nat.le_of_ble_eq_true rfl⟩ ⟨Nat.le_of_ble_eq_true rfl, Nat.le_of_ble_eq_true rfl⟩ (by exact Nat.le_of_ble_eq_true rfl) (by decide +kernel) rfl rfl rfl dX9_check_54 (M_paymentOf _ D cy a _ _ _ (vp_in_nI (by omega) (by decide))) rfl (fun vu_16 wu_16 hu_16 => ?_)
                obtain ⟨rfl, rfl⟩ := hu_16
                refine g_lcmp_eq 66 dX9_check_57 dX9_check_58 (by decide) (fun c_17 => ?_) (fun c_17 => ?_)
                · skip
                  refine g_iinc (1) dX9_check_66 rfl rfl (by decide) ?_
                  refine g_goto 26 dX9_check_69 (by decide) ?_
                  refine g_iload_n (i := 3) dX9_check_26 rfl rfl ?_
                  refine g_iconst (3) rfl dX9_check_27 ?_
                  refine g_icmp_ge 72 dX9_check_28 (by decide) (fun _ => ?_) (fun h9 => absurd h9 (by decide))
                  refine g_iinc (1) dX9_check_72 rfl rfl (by decide) ?_
                  refine g_goto 16 dX9_check_75 (by decide) ?_
                  refine g_to _ _ (ihi2 (ckR1 hi2 (fun h9 => by rcases h9 with (h9 | h9) | (h9 | h9) | h9 | h9 <;> first | exact absurd h9 (by with_reducible assumption) | exact absurd (by with_reducible assumption) h9) gi2)) rfl (by refine ⟨(by first | rfl | (rw [← nI_1]; rfl) | (rw [← nI_1]; rfl)), (by first | rfl | (rw [← nI_1]; rfl) | (rw [← nI_1]; rfl)), (by first | rfl | (rw [← nI_1]; rfl) | (rw [← nI_1]; rfl)), trivial⟩)
                · skip
                  refine g_iconst (1) rfl dX9_check_61 ?_
                  refine g_iload_n (i := 2) dX9_check_62 rfl rfl ?_
                  refine g_iadd dX9_check_63 ?_
                  refine g_i2l dX9_check_64 ?_
                  refine g_lret dX9_check_65 ?_
                  exact ⟨congrArg (fun z => some (Value.long z)) (ckR2 (by with_reducible assumption) (by first | exact Or.inl (Or.inl (by with_reducible assumption)) | exact Or.inl (Or.inr (by with_reducible assumption)) | exact Or.inr (Or.inl (Or.inl (by with_reducible assumption))) | exact Or.inr (Or.inl (Or.inr (by with_reducible assumption))) | exact Or.inr (Or.inr (Or.inl (by with_reducible assumption))) | exact Or.inr (Or.inr (Or.inr (by with_reducible assumption)))) (by with_reducible assumption)), rfl⟩
            · skip
              refine g_iconst (1) rfl dX9_check_61 ?_
              refine g_iload_n (i := 2) dX9_check_62 rfl rfl ?_
              refine g_iadd dX9_check_63 ?_
              refine g_i2l dX9_check_64 ?_
              refine g_lret dX9_check_65 ?_
              exact ⟨congrArg (fun z => some (Value.long z)) (ckR2 (by with_reducible assumption) (by first | exact Or.inl (Or.inl (by with_reducible assumption)) | exact Or.inl (Or.inr (by with_reducible assumption)) | exact Or.inr (Or.inl (Or.inl (by with_reducible assumption))) | exact Or.inr (Or.inl (Or.inr (by with_reducible assumption))) | exact Or.inr (Or.inr (Or.inl (by with_reducible assumption))) | exact Or.inr (Or.inr (Or.inr (by with_reducible assumption)))) (by with_reducible assumption)), rfl⟩
        · skip
          refine g_iconst (1) rfl dX9_check_61 ?_
          refine g_iload_n (i := 2) dX9_check_62 rfl rfl ?_
          refine g_iadd dX9_check_63 ?_
          refine g_i2l dX9_check_64 ?_
          refine g_lret dX9_check_65 ?_
          exact ⟨congrArg (fun z => some (Value.long z)) (ckR2 (by with_reducible assumption) (by first | exact Or.inl (Or.inl (by with_reducible assumption)) | exact Or.inl (Or.inr (by with_reducible assumption)) | exact Or.inr (Or.inl (Or.inl (by with_reducible assumption))) | exact Or.inr (Or.inl (Or.inr (by with_reducible assumption))) | exact Or.inr (Or.inr (Or.inl (by with_reducible assumption))) | exact Or.inr (Or.inr (Or.inr (by with_reducible assumption)))) (by with_reducible assumption)), rfl⟩

