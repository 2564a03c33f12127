theorem vpN {n : Int32} {lo hi : Int32} (h : lo ≤ n ∧ n ≤ hi) (h0 : 0 ≤ lo.toInt) : ∃ N : Nat, (N : Int) ≤ hi.toInt ∧ n = nI N := by
  have h1 := h.1
  have h2 := h.2
  rw [Int32.le_iff_toInt_le] at h1 h2
  obtain ⟨j, hj, e⟩ := nI_of (x := n) (by rw [Int32.lt_iff_toInt_lt]; have : (0 : Int32).toInt = 0 := by decide
                                          omega)
  refine ⟨j, ?_, e⟩
  rw [e, nI_toInt hj] at h2
  exact h2
abbrev dyok (S : MS) : Prop := mday S = 27 → cyok S
/-- one day goes -/
def dyOne (S : MS) : MS := if mday S = 27 then sL (crF S 100) 0 ((crF S 100).2.1 0 + 1) else sL S 0 (S.2.1 0 + 1)
def dyF (S : MS) : Nat → MS
  | 0 => S
  | i + 1 => dyOne (dyF S i)
def dyRun : Nat → MS → Int64 × MS
  | 0, S => (S.2.1 0, S)
  | j + 1, S => if dyok S then dyRun j (dyOne S) else mf_finding S (-1000000000004)
def mf_days (S : MS) (n : Int32) : Int64 × MS := if 1 ≤ n ∧ n ≤ 60 then dyRun n.toNatClampNeg S else mf_finding S (-1000000000001)
theorem dyR1 {S : MS} {N i : Nat} (hi : i < N) (h : dyok (dyF S i)) (g : dyRun (N - i) (dyF S i) = dyRun N S) : dyRun (N - (i + 1)) (dyF S (i + 1)) = dyRun N S := by
  rw [← g, show N - i = (N - (i + 1)) + 1 by omega]
  exact (if_pos h).symm
theorem dyR2 {S : MS} {N i : Nat} (hi : i < N) (h : ¬ dyok (dyF S i)) (g : dyRun (N - i) (dyF S i) = dyRun N S) : mf_finding (dyF S i) (-1000000000004) = dyRun N S := by
  rw [← g, show N - i = (N - (i + 1)) + 1 by omega]
  exact (if_neg h).symm
theorem dyR3 {S : MS} {N : Nat} (g : dyRun (N - N) (dyF S N) = dyRun N S) : ((dyF S N).2.1 0, dyF S N) = dyRun N S := by
  rw [← g, Nat.sub_self]
  rfl
set_option maxHeartbeats 4000000 in
set_option maxRecDepth 100000 in
/-- days -/
theorem M_days (l : Launch) (D : va_G) (cy : Nat → ClassId) (a : Nat → Nat) (S : MS) (n : Int32) : Ct l D clx (tyx cy) yX9_days wsX9_days (rmD 2) 0 0 [.ref (a 0), .int n] (MW cy a S) (fun r9 w9 => r9 = some (.long (mf_days S n).1) ∧ w9 = MW cy a (mf_days S n).2) := by
  refine g_start (cc := cX9_days) (maxL := 3) (ret := (some .long)) (by decide) rfl (Nat.le_of_ble_eq_true rfl) (fun v w1 h => by obtain ⟨rfl, -⟩ := h; exact rfl) (fun Γ hlΓ => ?_)
  subst hlΓ
  refine g_iload_n (i := 1) dX9_days_0 rfl rfl ?_
  refine g_iconst (1) rfl dX9_days_1 ?_
  refine g_bipush (60) rfl dX9_days_2 ?_
  refine g_callSf 3 gX9_days_X9_in rfl rfl rfl ⟨Nat.le_of_ble_eq_true rfl, Nat.le_of_ble_eq_true rfl⟩ ⟨Nat.le_of_ble_eq_true rfl, Nat.le_of_ble_eq_true rfl⟩ (by exact Nat.le_of_ble_eq_true rfl) (by decide +kernel) rfl dX9_days_4 (M_in _ D cy a _ _ _ _) rfl (fun vu_1 wu_1 hu_1 => ?_)
  rcases hu_1 with ⟨rfl, hu_1, rfl⟩ | ⟨rfl, hu_1, rfl⟩
  · skip
    obtain ⟨N9, hN9, rfl⟩ := vpN hu_1 (by decide)
    have hN8 : N9 ≤ 60 := (by have e9 : (60 : Int32).toInt = 60 := (by decide); omega)
    refine g_if_ne 18 dX9_days_7 (by decide) (fun _ => ?_) (fun h9 => absurd h9 (by decide))
    refine g_iconst (0) rfl dX9_days_18 ?_
    refine g_istore_n (i := 2) dX9_days_19 rfl (by decide) ?_
    refine g_cnt N9 (fun i => dyRun (N9 - i) (dyF S i) = dyRun N9 S) (fun i => MW cy a (dyF S i)) (fun i => [(0, .ref (a 0)), (1, .int (nI N9)), (2, .int (nI i))]) 0 (by first | decide | omega) rfl (by rfl) (by refine ⟨rfl, rfl, rfl, trivial⟩) ?_ (fun i3 hi3 gi3 ihi3 => ?_)
    · intro gN
      refine g_iload_n (i := 2) dX9_days_20 rfl rfl ?_
      refine g_iload_n (i := 1) dX9_days_21 rfl rfl ?_
      refine g_icmp_ge 71 dX9_days_22 (by decide) (fun c_4 => ?_) (fun c_4 => ?_)
      · skip
        refine g_aload_n (i := 0) dX9_days_71 rfl rfl ?_
        refine m_get 0 dX9_days_72 (List.mem_of_getElem? (i := 2) rfl) (fun w h => List.mem_cons_of_mem _ (List.mem_append_right _ h)) (by decide) rfl ?_
        refine g_lret dX9_days_75 ?_
        unfold mf_days; rw [if_pos (by assumption), nI_clamp (by omega), ← dyR3 (by assumption)]; exact ⟨rfl, rfl⟩
      · skip
        exact absurd (nI_le (Nat.le_refl _) (by first | decide | omega)) c_4
    · skip
      refine g_iload_n (i := 2) dX9_days_20 rfl rfl ?_
      refine g_iload_n (i := 1) dX9_days_21 rfl rfl ?_
      refine g_icmp_ge 71 dX9_days_22 (by decide) (fun c_5 => ?_) (fun c_5 => ?_)
      · skip
        exact absurd c_5 (nI_ge hi3 (by first | decide | omega))
      · skip
        refine g_aload_n (i := 0) dX9_days_25 rfl rfl ?_
        refine m_get 0 dX9_days_26 (List.mem_of_getElem? (i := 2) rfl) (fun w h => List.mem_cons_of_mem _ (List.mem_append_right _ h)) (by decide) rfl ?_
        refine g_ldc2 (28) (List.mem_of_getElem? (i := 3) rfl) dX9_days_29 ?_
        refine g_lrem (by decide) dX9_days_32 ?_
        refine g_ldc2 (27) (List.mem_of_getElem? (i := 4) rfl) dX9_days_33 ?_
        refine g_lcmp_ne 55 dX9_days_36 dX9_days_37 (by decide) (fun c_6 => ?_) (fun c_6 => ?_)
        · skip
          refine g_aload_n (i := 0) dX9_days_55 rfl rfl ?_
          refine g_dup rfl dX9_days_56 ?_
          refine m_get 0 dX9_days_57 (List.mem_of_getElem? (i := 2) rfl) (fun w h => List.mem_cons_of_mem _ (List.mem_append_right _ h)) (by decide) rfl ?_
          refine g_lconst 1 rfl dX9_days_60 ?_
          refine g_ladd dX9_days_61 ?_
          refine m_putl 0 dX9_days_62 (List.mem_of_getElem? (i := 2) rfl) (fun w h => List.mem_cons_of_mem _ (List.mem_append_right _ h)) (by decide) rfl rfl rfl (wsI_0 _ _ _ _) ?_
          refine g_iinc (1) dX9_days_65 rfl rfl (by decide) ?_
          refine g_goto 20 dX9_days_68 (by decide) ?_
          refine g_to _ _ (ihi3 (dyR1 hi3 (by first | exact fun _ => (by assumption) | exact fun h9 => absurd h9 (by assumption)) gi3)) (by show _ = MW cy a (dyOne (dyF S i3)); unfold dyOne; first | rw [if_pos (by assumption)] | rw [if_neg (by assumption)]) (by refine ⟨(by first | rfl | (rw [← nI_1]; rfl) | (rw [← nI_1]; rfl)), (by first | rfl | (rw [← nI_1]; rfl) | (rw [← nI_1]; rfl)), (by first | rfl | (rw [← nI_1]; rfl) | (rw [← nI_1]; rfl)), trivial⟩)
        · skip
          refine g_aload_n (i := 0) dX9_days_40 rfl rfl ?_
          refine g_callVf 0 0 gX9_days_X9_carry rfl rfl rfl ⟨Nat.le_of_ble_eq_true rfl, Nat.le_of_ble_eq_true rfl⟩ ⟨Nat.le_of_ble_eq_true rfl, Nat.le_of_ble_eq_true rfl⟩ (by exact Nat.le_of_ble_eq_true rfl) (by decide +kernel) rfl rfl rfl dX9_days_41 (M_carry _ D cy a _) rfl (fun vu_7 wu_7 hu_7 => ?_)
          rcases hu_7 with ⟨rfl, hu_7, rfl⟩ | ⟨rfl, hu_7, rfl⟩
          · skip
            refine g_if_ne 55 dX9_days_44 (by decide) (fun _ => ?_) (fun h9 => absurd h9 (by decide))
            refine g_aload_n (i := 0) dX9_days_55 rfl rfl ?_
            refine g_dup rfl dX9_days_56 ?_
            refine m_get 0 dX9_days_57 (List.mem_of_getElem? (i := 2) rfl) (fun w h => List.mem_cons_of_mem _ (List.mem_append_right _ h)) (by decide) rfl ?_
            refine g_lconst 1 rfl dX9_days_60 ?_
            refine g_ladd dX9_days_61 ?_
            refine m_putl 0 dX9_days_62 (List.mem_of_getElem? (i := 2) rfl) (fun w h => List.mem_cons_of_mem _ (List.mem_append_right _ h)) (by decide) rfl rfl rfl (wsI_0 _ _ _ _) ?_
            refine g_iinc (1) dX9_days_65 rfl rfl (by decide) ?_
            refine g_goto 20 dX9_days_68 (by decide) ?_
            refine g_to _ _ (ihi3 (dyR1 hi3 (by first | exact fun _ => (by assumption) | exact fun h9 => absurd h9 (by assumption)) gi3)) (by show _ = MW cy a (dyOne (dyF S i3)); unfold dyOne; first | rw [if_pos (by assumption)] | rw [if_neg (by assumption)]) (by refine ⟨(by first | rfl | (rw [← nI_1]; rfl) | (rw [← nI_1]; rfl)), (by first | rfl | (rw [← nI_1]; rfl) | (rw [← nI_1]; rfl)), (by first | rfl | (rw [← nI_1]; rfl) | (rw [← nI_1]; rfl)), trivial⟩)
          · skip
            refine g_if_ne 55 dX9_days_44 (by decide) (fun h9 => absurd h9 (by decide)) (fun _ => ?_)
            refine g_aload_n (i := 0) dX9_days_47 rfl rfl ?_
            refine g_ldc2 (-1000000000004) (List.mem_of_getElem? (i := 5) rfl) dX9_days_48 ?_
            refine g_callVf 1 0 gX9_days_X9_finding rfl rfl rfl ⟨Nat.le_of_ble_eq_true rfl, Nat.le_of_ble_eq_true rfl⟩ ⟨Nat.le_of_ble_eq_true rfl, Nat.le_of_ble_eq_true rfl⟩ (by exact Nat.le_of_ble_eq_true rfl) (by decide +kernel) rfl rfl rfl dX9_days_51 (M_finding _ D cy a _ _ (by unfold vp_in; decide)) rfl (fun vu_10 wu_10 hu_10 => ?_)
            obtain ⟨rfl, rfl⟩ := hu_10
            refine g_lret dX9_days_54 ?_
            unfold mf_days; rw [if_pos (by assumption), nI_clamp (by omega), ← dyR2 (by assumption) (by first | assumption | exact fun h9 => absurd (h9 (by assumption)) (by assumption)) (by assumption)]; exact ⟨rfl, rfl⟩
  · skip
    refine g_if_ne 18 dX9_days_7 (by decide) (fun h9 => absurd h9 (by decide)) (fun _ => ?_)
    refine g_aload_n (i := 0) dX9_days_10 rfl rfl ?_
    refine g_ldc2 (-1000000000001) (List.mem_of_getElem? (i := 1) rfl) dX9_days_11 ?_
    refine g_callVf 1 0 gX9_days_X9_finding rfl rfl rfl ⟨Nat.le_of_ble_eq_true rfl, Nat.le_of_ble_eq_true rfl⟩ ⟨Nat.le_of_ble_eq_true rfl, Nat.le_of_ble_eq_true rfl⟩ (by exact Nat.le_of_ble_eq_true rfl) (by decide +kernel) rfl rfl rfl dX9_days_14 (M_finding _ D cy a _ _ (by unfold vp_in; decide)) rfl (fun vu_12 wu_12 hu_12 => ?_)
    obtain ⟨rfl, rfl⟩ := hu_12
    refine g_lret dX9_days_17 ?_
    unfold mf_days; rw [if_neg (by assumption)]; exact ⟨rfl, rfl⟩

theorem tsw12 (x : Int32) (h : 0 ≤ x ∧ x ≤ 11) : x = 0 ∨ x = 1 ∨ x = 2 ∨ x = 3 ∨ x = 4 ∨ x = 5 ∨ x = 6 ∨ x = 7 ∨ x = 8 ∨ x = 9 ∨ x = 10 ∨ x = 11 := by
  have h1 := h.1
  have h2 := h.2
  rw [Int32.le_iff_toInt_le] at h1 h2
  have e0 : (0 : Int32).toInt = 0 := by decide
  have e1 : (11 : Int32).toInt = 11 := by decide
  have hc : ∀ (c : Int32) (j : Int), c.toInt = j → x.toInt = j → x = c := fun c j h1 h2 => Int32.toInt_inj.mp (h2.trans h1.symm)
  have : x.toInt = 0 ∨ x.toInt = 1 ∨ x.toInt = 2 ∨ x.toInt = 3 ∨ x.toInt = 4 ∨ x.toInt = 5 ∨ x.toInt = 6 ∨ x.toInt = 7 ∨ x.toInt = 8 ∨ x.toInt = 9 ∨ x.toInt = 10 ∨ x.toInt = 11 := by omega
  rcases this with e | e | e | e | e | e | e | e | e | e | e | e
  · exact Or.inl (hc 0 0 (by decide) e)
  · exact Or.inr (Or.inl (hc 1 1 (by decide) e))
  · exact Or.inr (Or.inr (Or.inl (hc 2 2 (by decide) e)))
  · exact Or.inr (Or.inr (Or.inr (Or.inl (hc 3 3 (by decide) e))))
  · exact Or.inr (Or.inr (Or.inr (Or.inr (Or.inl (hc 4 4 (by decide) e)))))
  · exact Or.inr (Or.inr (Or.inr (Or.inr (Or.inr (Or.inl (hc 5 5 (by decide) e))))))
  · exact Or.inr (Or.inr (Or.inr (Or.inr (Or.inr (Or.inr (Or.inl (hc 6 6 (by decide) e)))))))
  · exact Or.inr (Or.inr (Or.inr (Or.inr (Or.inr (Or.inr (Or.inr (Or.inl (hc 7 7 (by decide) e))))))))
  · exact Or.inr (Or.inr (Or.inr (Or.inr (Or.inr (Or.inr (Or.inr (Or.inr (Or.inl (hc 8 8 (by decide) e)))))))))
  · exact Or.inr (Or.inr (Or.inr (Or.inr (Or.inr (Or.inr (Or.inr (Or.inr (Or.inr (Or.inl (hc 9 9 (by decide) e))))))))))
  · exact Or.inr (Or.inr (Or.inr (Or.inr (Or.inr (Or.inr (Or.inr (Or.inr (Or.inr (Or.inr (Or.inl (hc 10 10 (by decide) e)))))))))))
  · exact Or.inr (Or.inr (Or.inr (Or.inr (Or.inr (Or.inr (Or.inr (Or.inr (Or.inr (Or.inr (Or.inr ((hc 11 11 (by decide) e))))))))))))
theorem ixa {b c d : Int32} (hb : vp_in b 40) (hd : vp_in d 4) (hc : c + -7 = d) : vp_in (4 * b + c - 7) 160 := by
  rw [Int32.sub_eq_add_neg, Int32.add_assoc, hc]
  exact ix160 hb hd

def mf_about (S : MS) (b x : Int32) : Int64 × MS := if (0 ≤ b ∧ b ≤ S.1 4 - 1) ∧ (0 ≤ x ∧ x ≤ 11) then (if x = 0 then ((S.2.2.1 5 b.toNatClampNeg).toInt64, S) else if x = 1 then ((S.2.2.1 6 b.toNatClampNeg).toInt64, S) else if x = 2 then ((S.2.2.1 7 b.toNatClampNeg).toInt64, S) else if x = 3 then ((S.2.2.1 8 b.toNatClampNeg).toInt64, S) else if x = 4 then ((S.2.2.1 9 b.toNatClampNeg).toInt64, S) else if x = 5 then ((S.2.2.1 10 b.toNatClampNeg).toInt64, S) else if x = 6 then ((S.2.2.1 11 b.toNatClampNeg).toInt64, S) else if x = 11 then (S.2.2.2 13 (5 * b + S.2.2.1 10 b.toNatClampNeg).toNatClampNeg, S) else if S.2.2.1 11 b.toNatClampNeg ≤ x - 7 then mf_finding S (-1000000000002) else ((S.2.2.1 12 (4 * b + x - 7).toNatClampNeg).toInt64, S)) else mf_finding S (-1000000000001)
set_option maxHeartbeats 4000000 in
set_option maxRecDepth 100000 in
/-- about -/
theorem M_about (l : Launch) (D : va_G) (cy : Nat → ClassId) (a : Nat → Nat) (S : MS) (hI : minv S) (b x : Int32) : Ct l D clx (tyx cy) yX9_about wsX9_about (rmD 2) 0 0 [.ref (a 0), .int b, .int x] (MW cy a S) (fun r9 w9 => r9 = some (.long (mf_about S b x).1) ∧ w9 = MW cy a (mf_about S b x).2) := by
  refine g_start (cc := cX9_about) (maxL := 3) (ret := (some .long)) (by decide) rfl (Nat.le_of_ble_eq_true rfl) (fun v w1 h => by obtain ⟨rfl, -⟩ := h; exact rfl) (fun Γ hlΓ => ?_)
  subst hlΓ
  refine g_aload_n (i := 0) dX9_about_0 rfl rfl ?_
  refine g_iload_n (i := 1) dX9_about_1 rfl rfl ?_
  refine g_callVf 1 0 gX9_about_X9_isBill rfl rfl rfl ⟨Nat.le_of_ble_eq_true rfl, Nat.le_of_ble_eq_true rfl⟩ ⟨Nat.le_of_ble_eq_true rfl, Nat.le_of_ble_eq_true rfl⟩ (by exact Nat.le_of_ble_eq_true rfl) (by decide +kernel) rfl rfl rfl dX9_about_2 (M_isBill _ D cy a _ _) rfl (fun vu_1 wu_1 hu_1 => ?_)
  rcases hu_1 with ⟨rfl, hu_1, rfl⟩ | ⟨rfl, hu_1, rfl⟩
  · skip
    refine g_if_eq 18 dX9_about_5 (by decide) (fun h9 => absurd h9 (by decide)) (fun _ => ?_)
    refine g_iload_n (i := 2) dX9_about_8 rfl rfl ?_
    refine g_iconst (0) rfl dX9_about_9 ?_
    refine g_bipush (11) rfl dX9_about_10 ?_
    refine g_callSf 3 gX9_about_X9_in rfl rfl rfl ⟨Nat.le_of_ble_eq_true rfl, Nat.le_of_ble_eq_true rfl⟩ ⟨Nat.le_of_ble_eq_true rfl, Nat.le_of_ble_eq_true rfl⟩ (by exact Nat.le_of_ble_eq_true rfl) (by decide +kernel) rfl dX9_about_12 (M_in _ D cy a _ _ _ _) rfl (fun vu_3 wu_3 hu_3 => ?_)
    rcases hu_3 with ⟨rfl, hu_3, rfl⟩ | ⟨rfl, hu_3, rfl⟩
    · skip
      refine g_if_ne 26 dX9_about_15 (by decide) (fun _ => ?_) (fun h9 => absurd h9 (by decide))
      refine g_iload_n (i := 2) dX9_about_26 rfl rfl ?_
      rcases tsw12 x (by assumption) with rfl | rfl | rfl | rfl | rfl | rfl | rfl | rfl | rfl | rfl | rfl | rfl
      · skip
        refine g_tabIn 88 dX9_about_27 (by decide) (by decide) rfl (by decide) ?_
        refine g_aload_n (i := 0) dX9_about_88 rfl rfl ?_
        refine m_get 5 dX9_about_89 (List.mem_of_getElem? (i := 2) rfl) (fun w h => List.mem_cons_of_mem _ (List.mem_append_right _ h)) (by decide) rfl ?_
        refine g_iload_n (i := 1) dX9_about_92 rfl rfl ?_
        refine m_iald 5 3 40 dX9_about_93 rfl (mbill hI (by assumption)) ?_
        refine g_i2l dX9_about_94 ?_
        refine g_lret dX9_about_95 ?_
        first | (unfold mf_about; (repeat (first | rw [if_pos (by first | assumption | decide | exact ⟨by assumption, by assumption⟩)] | rw [if_neg (by first | assumption | decide | (intro q; exact absurd q.1 (by assumption)) | (intro q; exact absurd q.2 (by assumption)))])); (with_reducible exact ⟨rfl, rfl⟩)) | (unfold mf_about; (repeat' split) <;> first | contradiction | (with_reducible exact ⟨rfl, rfl⟩) | (exfalso; simp_all; done) | exact ⟨rfl, rfl⟩)
      · skip
        refine g_tabIn 96 dX9_about_27 (by decide) (by decide) rfl (by decide) ?_
        refine g_aload_n (i := 0) dX9_about_96 rfl rfl ?_
        refine m_get 6 dX9_about_97 (List.mem_of_getElem? (i := 3) rfl) (fun w h => List.mem_cons_of_mem _ (List.mem_append_right _ h)) (by decide) rfl ?_
        refine g_iload_n (i := 1) dX9_about_100 rfl rfl ?_
        refine m_iald 6 4 40 dX9_about_101 rfl (mbill hI (by assumption)) ?_
        refine g_i2l dX9_about_102 ?_
        refine g_lret dX9_about_103 ?_
        first | (unfold mf_about; (repeat (first | rw [if_pos (by first | assumption | decide | exact ⟨by assumption, by assumption⟩)] | rw [if_neg (by first | assumption | decide | (intro q; exact absurd q.1 (by assumption)) | (intro q; exact absurd q.2 (by assumption)))])); (with_reducible exact ⟨rfl, rfl⟩)) | (unfold mf_about; (repeat' split) <;> first | contradiction | (with_reducible exact ⟨rfl, rfl⟩) | (exfalso; simp_all; done) | exact ⟨rfl, rfl⟩)
      · skip
        refine g_tabIn 104 dX9_about_27 (by decide) (by decide) rfl (by decide) ?_
        refine g_aload_n (i := 0) dX9_about_104 rfl rfl ?_
        refine m_get 7 dX9_about_105 (List.mem_of_getElem? (i := 4) rfl) (fun w h => List.mem_cons_of_mem _ (List.mem_append_right _ h)) (by decide) rfl ?_
        refine g_iload_n (i := 1) dX9_about_108 rfl rfl ?_
        refine m_iald 7 5 40 dX9_about_109 rfl (mbill hI (by assumption)) ?_
        refine g_i2l dX9_about_110 ?_
        refine g_lret dX9_about_111 ?_
        first | (unfold mf_about; (repeat (first | rw [if_pos (by first | assumption | decide | exact ⟨by assumption, by assumption⟩)] | rw [if_neg (by first | assumption | decide | (intro q; exact absurd q.1 (by assumption)) | (intro q; exact absurd q.2 (by assumption)))])); (with_reducible exact ⟨rfl, rfl⟩)) | (unfold mf_about; (repeat' split) <;> first | contradiction | (with_reducible exact ⟨rfl, rfl⟩) | (exfalso; simp_all; done) | exact ⟨rfl, rfl⟩)
      · skip
        refine g_tabIn 112 dX9_about_27 (by decide) (by decide) rfl (by decide) ?_
        refine g_aload_n (i := 0) dX9_about_112 rfl rfl ?_
        refine m_get 8 dX9_about_113 (List.mem_of_getElem? (i := 5) rfl) (fun w h => List.mem_cons_of_mem _ (List.mem_append_right _ h)) (by decide) rfl ?_
        refine g_iload_n (i := 1) dX9_about_116 rfl rfl ?_
        refine m_iald 8 6 40 dX9_about_117 rfl (mbill hI (by assumption)) ?_
        refine g_i2l dX9_about_118 ?_
        refine g_lret dX9_about_119 ?_
        first | (unfold mf_about; (repeat (first | rw [if_pos (by first | assumption | decide | exact ⟨by assumption, by assumption⟩)] | rw [if_neg (by first | assumption | decide | (intro q; exact absurd q.1 (by assumption)) | (intro q; exact absurd q.2 (by assumption)))])); (with_reducible exact ⟨rfl, rfl⟩)) | (unfold mf_about; (repeat' split) <;> first | contradiction | (with_reducible exact ⟨rfl, rfl⟩) | (exfalso; simp_all; done) | exact ⟨rfl, rfl⟩)
      · skip
        refine g_tabIn 120 dX9_about_27 (by decide) (by decide) rfl (by decide) ?_
        refine g_aload_n (i := 0) dX9_about_120 rfl rfl ?_
        refine m_get 9 dX9_about_121 (List.mem_of_getElem? (i := 6) rfl) (fun w h => List.mem_cons_of_mem _ (List.mem_append_right _ h)) (by decide) rfl ?_
        refine g_iload_n (i := 1) dX9_about_124 rfl rfl ?_
        refine m_iald 9 7 40 dX9_about_125 rfl (mbill hI (by assumption)) ?_
        refine g_i2l dX9_about_126 ?_
        refine g_lret dX9_about_127 ?_
        first | (unfold mf_about; (repeat (first | rw [if_pos (by first | assumption | decide | exact ⟨by assumption, by assumption⟩)] | rw [if_neg (by first | assumption | decide | (intro q; exact absurd q.1 (by assumption)) | (intro q; exact absurd q.2 (by assumption)))])); (with_reducible exact ⟨rfl, rfl⟩)) | (unfold mf_about; (repeat' split) <;> first | contradiction | (with_reducible exact ⟨rfl, rfl⟩) | (exfalso; simp_all; done) | exact ⟨rfl, rfl⟩)
      · skip
        refine g_tabIn 128 dX9_about_27 (by decide) (by decide) rfl (by decide) ?_
        refine g_aload_n (i := 0) dX9_about_128 rfl rfl ?_
        refine m_get 10 dX9_about_129 (List.mem_of_getElem? (i := 7) rfl) (fun w h => List.mem_cons_of_mem _ (List.mem_append_right _ h)) (by decide) rfl ?_
        refine g_iload_n (i := 1) dX9_about_132 rfl rfl ?_
        refine m_iald 10 8 40 dX9_about_133 rfl (mbill hI (by assumption)) ?_
        refine g_i2l dX9_about_134 ?_
        refine g_lret dX9_about_135 ?_
        first | (unfold mf_about; (repeat (first | rw [if_pos (by first | assumption | decide | exact ⟨by assumption, by assumption⟩)] | rw [if_neg (by first | assumption | decide | (intro q; exact absurd q.1 (by assumption)) | (intro q; exact absurd q.2 (by assumption)))])); (with_reducible exact ⟨rfl, rfl⟩)) | (unfold mf_about; (repeat' split) <;> first | contradiction | (with_reducible exact ⟨rfl, rfl⟩) | (exfalso; simp_all; done) | exact ⟨rfl, rfl⟩)
      · skip
        refine g_tabIn 136 dX9_about_27 (by decide) (by decide) rfl (by decide) ?_
        refine g_aload_n (i := 0) dX9_about_136 rfl rfl ?_
        refine m_get 11 dX9_about_137 (List.mem_of_getElem? (i := 8) rfl) (fun w h => List.mem_cons_of_mem _ (List.mem_append_right _ h)) (by decide) rfl ?_
        refine g_iload_n (i := 1) dX9_about_140 rfl rfl ?_
        refine m_iald 11 9 40 dX9_about_141 rfl (mbill hI (by assumption)) ?_
        refine g_i2l dX9_about_142 ?_
        refine g_lret dX9_about_143 ?_
        first | (unfold mf_about; (repeat (first | rw [if_pos (by first | assumption | decide | exact ⟨by assumption, by assumption⟩)] | rw [if_neg (by first | assumption | decide | (intro q; exact absurd q.1 (by assumption)) | (intro q; exact absurd q.2 (by assumption)))])); (with_reducible exact ⟨rfl, rfl⟩)) | (unfold mf_about; (repeat' split) <;> first | contradiction | (with_reducible exact ⟨rfl, rfl⟩) | (exfalso; simp_all; done) | exact ⟨rfl, rfl⟩)
      · skip
        refine g_tabIn 160 dX9_about_27 (by decide) (by decide) rfl (by decide) ?_
        refine g_iload_n (i := 2) dX9_about_160 rfl rfl ?_
        refine g_bipush (7) rfl dX9_about_161 ?_
        refine g_isub dX9_about_163 ?_
        refine g_aload_n (i := 0) dX9_about_164 rfl rfl ?_
        refine m_get 11 dX9_about_165 (List.mem_of_getElem? (i := 8) rfl) (fun w h => List.mem_cons_of_mem _ (List.mem_append_right _ h)) (by decide) rfl ?_
        refine g_iload_n (i := 1) dX9_about_168 rfl rfl ?_
        refine m_iald 11 9 40 dX9_about_169 rfl (mbill hI (by assumption)) ?_
        refine g_icmp_ge 190 dX9_about_170 (by decide) (fun c_5 => ?_) (fun c_5 => ?_)
        · skip
          refine g_aload_n (i := 0) dX9_about_190 rfl rfl ?_
          refine g_ldc2 (-1000000000002) (List.mem_of_getElem? (i := 11) rfl) dX9_about_191 ?_
          refine g_callVf 1 0 gX9_about_X9_finding rfl rfl rfl ⟨Nat.le_of_ble_eq_true rfl, Nat.le_of_ble_eq_true rfl⟩ ⟨Nat.le_of_ble_eq_true rfl, Nat.le_of_ble_eq_true rfl⟩ (by exact Nat.le_of_ble_eq_true rfl) (by decide +kernel) rfl rfl rfl dX9_about_194 (M_finding _ D cy a _ _ (by unfold vp_in; decide)) rfl (fun vu_6 wu_6 hu_6 => ?_)
          obtain ⟨rfl, rfl⟩ := hu_6
          refine g_lret dX9_about_197 ?_
          first | (unfold mf_about; (repeat (first | rw [if_pos (by first | assumption | decide | exact ⟨by assumption, by assumption⟩)] | rw [if_neg (by first | assumption | decide | (intro q; exact absurd q.1 (by assumption)) | (intro q; exact absurd q.2 (by assumption)))])); (with_reducible exact ⟨rfl, rfl⟩)) | (unfold mf_about; (repeat' split) <;> first | contradiction | (with_reducible exact ⟨rfl, rfl⟩) | (exfalso; simp_all; done) | exact ⟨rfl, rfl⟩)
        · skip
          refine g_aload_n (i := 0) dX9_about_173 rfl rfl ?_
          refine m_get 12 dX9_about_174 (List.mem_of_getElem? (i := 10) rfl) (fun w h => List.mem_cons_of_mem _ (List.mem_append_right _ h)) (by decide) rfl ?_
          refine g_iconst (4) rfl dX9_about_177 ?_
          refine g_iload_n (i := 1) dX9_about_178 rfl rfl ?_
          refine g_imul dX9_about_179 ?_
          refine g_iload_n (i := 2) dX9_about_180 rfl rfl ?_
          refine g_iadd dX9_about_181 ?_
          refine g_bipush (7) rfl dX9_about_182 ?_
          refine g_isub dX9_about_184 ?_
          refine m_iald 12 10 160 dX9_about_185 rfl (ixa (d := 0) (mbill hI (by assumption)) (by unfold vp_in; decide) (by decide)) ?_
          refine g_i2l dX9_about_186 ?_
          refine g_goto 197 dX9_about_187 (by decide) ?_
          refine g_lret dX9_about_197 ?_
          first | (unfold mf_about; (repeat (first | rw [if_pos (by first | assumption | decide | exact ⟨by assumption, by assumption⟩)] | rw [if_neg (by first | assumption | decide | (intro q; exact absurd q.1 (by assumption)) | (intro q; exact absurd q.2 (by assumption)))])); (with_reducible exact ⟨rfl, rfl⟩)) | (unfold mf_about; (repeat' split) <;> first | contradiction | (with_reducible exact ⟨rfl, rfl⟩) | (exfalso; simp_all; done) | exact ⟨rfl, rfl⟩)
      · skip
        refine g_tabIn 160 dX9_about_27 (by decide) (by decide) rfl (by decide) ?_
        refine g_iload_n (i := 2) dX9_about_160 rfl rfl ?_
        refine g_bipush (7) rfl dX9_about_161 ?_
        refine g_isub dX9_about_163 ?_
        refine g_aload_n (i := 0) dX9_about_164 rfl rfl ?_
        refine m_get 11 dX9_about_165 (List.mem_of_getElem? (i := 8) rfl) (fun w h => List.mem_cons_of_mem _ (List.mem_append_right _ h)) (by decide) rfl ?_
        refine g_iload_n (i := 1) dX9_about_168 rfl rfl ?_
        refine m_iald 11 9 40 dX9_about_169 rfl (mbill hI (by assumption)) ?_
        refine g_icmp_ge 190 dX9_about_170 (by decide) (fun c_7 => ?_) (fun c_7 => ?_)
        · skip
          refine g_aload_n (i := 0) dX9_about_190 rfl rfl ?_
          refine g_ldc2 (-1000000000002) (List.mem_of_getElem? (i := 11) rfl) dX9_about_191 ?_
          refine g_callVf 1 0 gX9_about_X9_finding rfl rfl rfl ⟨Nat.le_of_ble_eq_true rfl, Nat.le_of_ble_eq_true rfl⟩ ⟨Nat.le_of_ble_eq_true rfl, Nat.le_of_ble_eq_true rfl⟩ (by exact Nat.le_of_ble_eq_true rfl) (by decide +kernel) rfl rfl rfl dX9_about_194 (M_finding _ D cy a _ _ (by unfold vp_in; decide)) rfl (fun vu_8 wu_8 hu_8 => ?_)
          obtain ⟨rfl, rfl⟩ := hu_8
          refine g_lret dX9_about_197 ?_
          first | (unfold mf_about; (repeat (first | rw [if_pos (by first | assumption | decide | exact ⟨by assumption, by assumption⟩)] | rw [if_neg (by first | assumption | decide | (intro q; exact absurd q.1 (by assumption)) | (intro q; exact absurd q.2 (by assumption)))])); (with_reducible exact ⟨rfl, rfl⟩)) | (unfold mf_about; (repeat' split) <;> first | contradiction | (with_reducible exact ⟨rfl, rfl⟩) | (exfalso; simp_all; done) | exact ⟨rfl, rfl⟩)
        · skip
          refine g_aload_n (i := 0) dX9_about_173 rfl rfl ?_
          refine m_get 12 dX9_about_174 (List.mem_of_getElem? (i := 10) rfl) (fun w h => List.mem_cons_of_mem _ (List.mem_append_right _ h)) (by decide) rfl ?_
          refine g_iconst (4) rfl dX9_about_177 ?_
          refine g_iload_n (i := 1) dX9_about_178 rfl rfl ?_
          refine g_imul dX9_about_179 ?_
          refine g_iload_n (i := 2) dX9_about_180 rfl rfl ?_
          refine g_iadd dX9_about_181 ?_
          refine g_bipush (7) rfl dX9_about_182 ?_
          refine g_isub dX9_about_184 ?_
          refine m_iald 12 10 160 dX9_about_185 rfl (ixa (d := 1) (mbill hI (by assumption)) (by unfold vp_in; decide) (by decide)) ?_
          refine g_i2l dX9_about_186 ?_
          refine g_goto 197 dX9_about_187 (by decide) ?_
          refine g_lret dX9_about_197 ?_
          first | (unfold mf_about; (repeat (first | rw [if_pos (by first | assumption | decide | exact ⟨by assumption, by assumption⟩)] | rw [if_neg (by first | assumption | decide | (intro q; exact absurd q.1 (by assumption)) | (intro q; exact absurd q.2 (by assumption)))])); (with_reducible exact ⟨rfl, rfl⟩)) | (unfold mf_about; (repeat' split) <;> first | contradiction | (with_reducible exact ⟨rfl, rfl⟩) | (exfalso; simp_all; done) | exact ⟨rfl, rfl⟩)
      · skip
        refine g_tabIn 160 dX9_about_27 (by decide) (by decide) rfl (by decide) ?_
        refine g_iload_n (i := 2) dX9_about_160 rfl rfl ?_
        refine g_bipush (7) rfl dX9_about_161 ?_
        refine g_isub dX9_about_163 ?_
        refine g_aload_n (i := 0) dX9_about_164 rfl rfl ?_
        refine m_get 11 dX9_about_165 (List.mem_of_getElem? (i := 8) rfl) (fun w h => List.mem_cons_of_mem _ (List.mem_append_right _ h)) (by decide) rfl ?_
        refine g_iload_n (i := 1) dX9_about_168 rfl rfl ?_
        refine m_iald 11 9 40 dX9_about_169 rfl (mbill hI (by assumption)) ?_
        refine g_icmp_ge 190 dX9_about_170 (by decide) (fun c_9 => ?_) (fun c_9 => ?_)
        · skip
          refine g_aload_n (i := 0) dX9_about_190 rfl rfl ?_
          refine g_ldc2 (-1000000000002) (List.mem_of_getElem? (i := 11) rfl) dX9_about_191 ?_
          refine g_callVf 1 0 gX9_about_X9_finding rfl rfl rfl ⟨Nat.le_of_ble_eq_true rfl, Nat.le_of_ble_eq_true rfl⟩ ⟨Nat.le_of_ble_eq_true rfl, Nat.le_of_ble_eq_true rfl⟩ (by exact Nat.le_of_ble_eq_true rfl) (by decide +kernel) rfl rfl rfl dX9_about_194 (M_finding _ D cy a _ _ (by unfold vp_in; decide)) rfl (fun vu_10 wu_10 hu_10 => ?_)
          obtain ⟨rfl, rfl⟩ := hu_10
          refine g_lret dX9_about_197 ?_
          first | (unfold mf_about; (repeat (first | rw [if_pos (by first | assumption | decide | exact ⟨by assumption, by assumption⟩)] | rw [if_neg (by first | assumption | decide | (intro q; exact absurd q.1 (by assumption)) | (intro q; exact absurd q.2 (by assumption)))])); (with_reducible exact ⟨rfl, rfl⟩)) | (unfold mf_about; (repeat' split) <;> first | contradiction | (with_reducible exact ⟨rfl, rfl⟩) | (exfalso; simp_all; done) | exact ⟨rfl, rfl⟩)
        · skip
          refine g_aload_n (i := 0) dX9_about_173 rfl rfl ?_
          refine m_get 12 dX9_about_174 (List.mem_of_getElem? (i := 10) rfl) (fun w h => List.mem_cons_of_mem _ (List.mem_append_right _ h)) (by decide) rfl ?_
          refine g_iconst (4) rfl dX9_about_177 ?_
          refine g_iload_n (i := 1) dX9_about_178 rfl rfl ?_
          refine g_imul dX9_about_179 ?_
          refine g_iload_n (i := 2) dX9_about_180 rfl rfl ?_
          refine g_iadd dX9_about_181 ?_
          refine g_bipush (7) rfl dX9_about_182 ?_
          refine g_isub dX9_about_184 ?_
          refine m_iald 12 10 160 dX9_about_185 rfl (ixa (d := 2) (mbill hI (by assumption)) (by unfold vp_in; decide) (by decide)) ?_
          refine g_i2l dX9_about_186 ?_
          refine g_goto 197 dX9_about_187 (by decide) ?_
          refine g_lret dX9_about_197 ?_
          first | (unfold mf_about; (repeat (first | rw [if_pos (by first | assumption | decide | exact ⟨by assumption, by assumption⟩)] | rw [if_neg (by first | assumption | decide | (intro q; exact absurd q.1 (by assumption)) | (intro q; exact absurd q.2 (by assumption)))])); (with_reducible exact ⟨rfl, rfl⟩)) | (unfold mf_about; (repeat' split) <;> first | contradiction | (with_reducible exact ⟨rfl, rfl⟩) | (exfalso; simp_all; done) | exact ⟨rfl, rfl⟩)
      · skip
        refine g_tabIn 160 dX9_about_27 (by decide) (by decide) rfl (by decide) ?_
        refine g_iload_n (i := 2) dX9_about_160 rfl rfl ?_
        refine g_bipush (7) rfl dX9_about_161 ?_
        refine g_isub dX9_about_163 ?_
        refine g_aload_n (i := 0) dX9_about_164 rfl rfl ?_
        refine m_get 11 dX9_about_165 (List.mem_of_getElem? (i := 8) rfl) (fun w h => List.mem_cons_of_mem _ (List.mem_append_right _ h)) (by decide) rfl ?_
        refine g_iload_n (i := 1) dX9_about_168 rfl rfl ?_
        refine m_iald 11 9 40 dX9_about_169 rfl (mbill hI (by assumption)) ?_
        refine g_icmp_ge 190 dX9_about_170 (by decide) (fun c_11 => ?_) (fun c_11 => ?_)
        · skip
          refine g_aload_n (i := 0) dX9_about_190 rfl rfl ?_
          refine g_ldc2 (-1000000000002) (List.mem_of_getElem? (i := 11) rfl) dX9_about_191 ?_
          refine g_callVf 1 0 gX9_about_X9_finding rfl rfl rfl ⟨Nat.le_of_ble_eq_true rfl, Nat.le_of_ble_eq_true rfl⟩ ⟨Nat.le_of_ble_eq_true rfl, Nat.le_of_ble_eq_true rfl⟩ (by exact Nat.le_of_ble_eq_true rfl) (by decide +kernel) rfl rfl rfl dX9_about_194 (M_finding _ D cy a _ _ (by unfold vp_in; decide)) rfl (fun vu_12 wu_12 hu_12 => ?_)
          obtain ⟨rfl, rfl⟩ := hu_12
          refine g_lret dX9_about_197 ?_
          first | (unfold mf_about; (repeat (first | rw [if_pos (by first | assumption | decide | exact ⟨by assumption, by assumption⟩)] | rw [if_neg (by first | assumption | decide | (intro q; exact absurd q.1 (by assumption)) | (intro q; exact absurd q.2 (by assumption)))])); (with_reducible exact ⟨rfl, rfl⟩)) | (unfold mf_about; (repeat' split) <;> first | contradiction | (with_reducible exact ⟨rfl, rfl⟩) | (exfalso; simp_all; done) | exact ⟨rfl, rfl⟩)
        · skip
          refine g_aload_n (i := 0) dX9_about_173 rfl rfl ?_
          refine m_get 12 dX9_about_174 (List.mem_of_getElem? (i := 10) rfl) (fun w h => List.mem_cons_of_mem _ (List.mem_append_right _ h)) (by decide) rfl ?_
          refine g_iconst (4) rfl dX9_about_177 ?_
          refine g_iload_n (i := 1) dX9_about_178 rfl rfl ?_
          refine g_imul dX9_about_179 ?_
          refine g_iload_n (i := 2) dX9_about_180 rfl rfl ?_
          refine g_iadd dX9_about_181 ?_
          refine g_bipush (7) rfl dX9_about_182 ?_
          refine g_isub dX9_about_184 ?_
          refine m_iald 12 10 160 dX9_about_185 rfl (ixa (d := 3) (mbill hI (by assumption)) (by unfold vp_in; decide) (by decide)) ?_
          refine g_i2l dX9_about_186 ?_
          refine g_goto 197 dX9_about_187 (by decide) ?_
          refine g_lret dX9_about_197 ?_
          first | (unfold mf_about; (repeat (first | rw [if_pos (by first | assumption | decide | exact ⟨by assumption, by assumption⟩)] | rw [if_neg (by first | assumption | decide | (intro q; exact absurd q.1 (by assumption)) | (intro q; exact absurd q.2 (by assumption)))])); (with_reducible exact ⟨rfl, rfl⟩)) | (unfold mf_about; (repeat' split) <;> first | contradiction | (with_reducible exact ⟨rfl, rfl⟩) | (exfalso; simp_all; done) | exact ⟨rfl, rfl⟩)
      · skip
        refine g_tabIn 144 dX9_about_27 (by decide) (by decide) rfl (by decide) ?_
        refine g_aload_n (i := 0) dX9_about_144 rfl rfl ?_
        refine m_get 13 dX9_about_145 (List.mem_of_getElem? (i := 9) rfl) (fun w h => List.mem_cons_of_mem _ (List.mem_append_right _ h)) (by decide) rfl ?_
        refine g_iconst (5) rfl dX9_about_148 ?_
        refine g_iload_n (i := 1) dX9_about_149 rfl rfl ?_
        refine g_imul dX9_about_150 ?_
        refine g_aload_n (i := 0) dX9_about_151 rfl rfl ?_
        refine m_get 10 dX9_about_152 (List.mem_of_getElem? (i := 7) rfl) (fun w h => List.mem_cons_of_mem _ (List.mem_append_right _ h)) (by decide) rfl ?_
        refine g_iload_n (i := 1) dX9_about_155 rfl rfl ?_
        refine m_iald 10 8 40 dX9_about_156 rfl (mbill hI (by assumption)) ?_
        refine g_iadd dX9_about_157 ?_
        refine m_lald 13 11 200 dX9_about_158 rfl (ix200 (mbill hI (by assumption)) (mhol hI (mbill hI (by assumption))).2.2.2) ?_
        refine g_lret dX9_about_159 ?_
        first | (unfold mf_about; (repeat (first | rw [if_pos (by first | assumption | decide | exact ⟨by assumption, by assumption⟩)] | rw [if_neg (by first | assumption | decide | (intro q; exact absurd q.1 (by assumption)) | (intro q; exact absurd q.2 (by assumption)))])); (with_reducible exact ⟨rfl, rfl⟩)) | (unfold mf_about; (repeat' split) <;> first | contradiction | (with_reducible exact ⟨rfl, rfl⟩) | (exfalso; simp_all; done) | exact ⟨rfl, rfl⟩)
    · skip
      refine g_if_ne 26 dX9_about_15 (by decide) (fun h9 => absurd h9 (by decide)) (fun _ => ?_)
      refine g_aload_n (i := 0) dX9_about_18 rfl rfl ?_
      refine g_ldc2 (-1000000000001) (List.mem_of_getElem? (i := 1) rfl) dX9_about_19 ?_
      refine g_callVf 1 0 gX9_about_X9_finding rfl rfl rfl ⟨Nat.le_of_ble_eq_true rfl, Nat.le_of_ble_eq_true rfl⟩ ⟨Nat.le_of_ble_eq_true rfl, Nat.le_of_ble_eq_true rfl⟩ (by exact Nat.le_of_ble_eq_true rfl) (by decide +kernel) rfl rfl rfl dX9_about_22 (M_finding _ D cy a _ _ (by unfold vp_in; decide)) rfl (fun vu_14 wu_14 hu_14 => ?_)
      obtain ⟨rfl, rfl⟩ := hu_14
      refine g_lret dX9_about_25 ?_
      first | (unfold mf_about; (repeat (first | rw [if_pos (by first | assumption | decide | exact ⟨by assumption, by assumption⟩)] | rw [if_neg (by first | assumption | decide | (intro q; exact absurd q.1 (by assumption)) | (intro q; exact absurd q.2 (by assumption)))])); (with_reducible exact ⟨rfl, rfl⟩)) | (unfold mf_about; (repeat' split) <;> first | contradiction | (with_reducible exact ⟨rfl, rfl⟩) | (exfalso; simp_all; done) | exact ⟨rfl, rfl⟩)
  · skip
    refine g_if_eq 18 dX9_about_5 (by decide) (fun _ => ?_) (fun h9 => absurd h9 (by decide))
    refine g_aload_n (i := 0) dX9_about_18 rfl rfl ?_
    refine g_ldc2 (-1000000000001) (List.mem_of_getElem? (i := 1) rfl) dX9_about_19 ?_
    refine g_callVf 1 0 gX9_about_X9_finding rfl rfl rfl ⟨Nat.le_of_ble_eq_true rfl, Nat.le_of_ble_eq_true rfl⟩ ⟨Nat.le_of_ble_eq_true rfl, Nat.le_of_ble_eq_true rfl⟩ (by exact Nat.le_of_ble_eq_true rfl) (by decide +kernel) rfl rfl rfl dX9_about_22 (M_finding _ D cy a _ _ (by unfold vp_in; decide)) rfl (fun vu_16 wu_16 hu_16 => ?_)
    obtain ⟨rfl, rfl⟩ := hu_16
    refine g_lret dX9_about_25 ?_
    first | (unfold mf_about; (repeat (first | rw [if_pos (by first | assumption | decide | exact ⟨by assumption, by assumption⟩)] | rw [if_neg (by first | assumption | decide | (intro q; exact absurd q.1 (by assumption)) | (intro q; exact absurd q.2 (by assumption)))])); (with_reducible exact ⟨rfl, rfl⟩)) | (unfold mf_about; (repeat' split) <;> first | contradiction | (with_reducible exact ⟨rfl, rfl⟩) | (exfalso; simp_all; done) | exact ⟨rfl, rfl⟩)

def mroad (S : MS) (h : Int32) : Int32 := S.2.2.1 2 (S.2.2.1 3 h.toNatClampNeg).toNatClampNeg
def knT (S : MS) (h b w : Int32) : Nat → Int64
  | 0 => -1000000000002
  | i + 1 => if 0 ≤ S.2.2.2 13 (5 * b + nI i).toNatClampNeg ∧ S.2.2.2 13 (5 * b + nI i).toNatClampNeg + (mroad S h).toInt64 ≤ w.toInt64 then (nI i).toInt64 else knT S h b w i
theorem knT_y {S : MS} {h b w : Int32} {i : Nat} (h1 : ¬ S.2.2.2 13 (5 * b + nI i).toNatClampNeg < 0) (h2 : ¬ w.toInt64 < S.2.2.2 13 (5 * b + nI i).toNatClampNeg + (S.2.2.1 2 (S.2.2.1 3 h.toNatClampNeg).toNatClampNeg).toInt64) : (nI i).toInt64 = knT S h b w (i + 1) := (if_pos ⟨Int64.not_lt.mp h1, Int64.not_lt.mp h2⟩).symm
theorem knT_n1 {S : MS} {h b w : Int32} {i : Nat} (h1 : S.2.2.2 13 (5 * b + nI i).toNatClampNeg < 0) : knT S h b w i = knT S h b w (i + 1) := (if_neg (fun q => absurd q.1 (Int64.not_le.mpr h1))).symm
theorem knT_n2 {S : MS} {h b w : Int32} {i : Nat} (h2 : w.toInt64 < S.2.2.2 13 (5 * b + nI i).toNatClampNeg + (S.2.2.1 2 (S.2.2.1 3 h.toNatClampNeg).toNatClampNeg).toInt64) : knT S h b w i = knT S h b w (i + 1) := (if_neg (fun q => absurd q.2 (Int64.not_le.mpr h2))).symm
def mf_knows (S : MS) (h b w : Int32) : Int64 × MS := if (0 ≤ h ∧ h ≤ 9) ∧ (0 ≤ b ∧ b ≤ S.1 4 - 1) ∧ 0 ≤ w then (if knT S h b w 5 = -1000000000002 then mf_finding S (-1000000000002) else (knT S h b w 5, S)) else mf_finding S (-1000000000001)
theorem mseat {S : MS} (hI : minv S) {h : Int32} (hh : vp_in h 10) : vp_in (S.2.2.1 3 h.toNatClampNeg) 5 := hI.2.2.2.2.2.2.2.1 _ (vp_nat hh)
set_option maxHeartbeats 4000000 in
set_option maxRecDepth 100000 in
/-- knows -/
theorem M_knows (l : Launch) (D : va_G) (cy : Nat → ClassId) (a : Nat → Nat) (S : MS) (hI : minv S) (h b w : Int32) : Ct l D clx (tyx cy) yX9_knows wsX9_knows (rmD 2) 0 0 [.ref (a 0), .int h, .int b, .int w] (MW cy a S) (fun r9 w9 => r9 = some (.long (mf_knows S h b w).1) ∧ w9 = MW cy a (mf_knows S h b w).2) := by
  refine g_start (cc := cX9_knows) (maxL := 9) (ret := (some .long)) (by decide) rfl (Nat.le_of_ble_eq_true rfl) (fun v w1 h => by obtain ⟨rfl, -⟩ := h; exact rfl) (fun Γ hlΓ => ?_)
  subst hlΓ
  refine g_iload_n (i := 1) dX9_knows_0 rfl rfl ?_
  refine g_callSf 1 gX9_knows_X9_isHouse rfl rfl rfl ⟨Nat.le_of_ble_eq_true rfl, Nat.le_of_ble_eq_true rfl⟩ ⟨Nat.le_of_ble_eq_true rfl, Nat.le_of_ble_eq_true rfl⟩ (by exact Nat.le_of_ble_eq_true rfl) (by decide +kernel) rfl dX9_knows_1 (M_isHouse _ D cy a _ _) rfl (fun vu_1 wu_1 hu_1 => ?_)
  rcases hu_1 with ⟨rfl, hu_1, rfl⟩ | ⟨rfl, hu_1, rfl⟩
  · skip
    refine g_if_eq 19 dX9_knows_4 (by decide) (fun h9 => absurd h9 (by decide)) (fun _ => ?_)
    refine g_aload_n (i := 0) dX9_knows_7 rfl rfl ?_
    refine g_iload_n (i := 2) dX9_knows_8 rfl rfl ?_
    refine g_callVf 1 0 gX9_knows_X9_isBill rfl rfl rfl ⟨Nat.le_of_ble_eq_true rfl, Nat.le_of_ble_eq_true rfl⟩ ⟨Nat.le_of_ble_eq_true rfl, Nat.le_of_ble_eq_true rfl⟩ (by exact Nat.le_of_ble_eq_true rfl) (by decide +kernel) rfl rfl rfl dX9_knows_9 (M_isBill _ D cy a _ _) rfl (fun vu_3 wu_3 hu_3 => ?_)
    rcases hu_3 with ⟨rfl, hu_3, rfl⟩ | ⟨rfl, hu_3, rfl⟩
    · skip
      refine g_if_eq 19 dX9_knows_12 (by decide) (fun h9 => absurd h9 (by decide)) (fun _ => ?_)
      refine g_iload_n (i := 3) dX9_knows_15 rfl rfl ?_
      refine g_if_ge 27 dX9_knows_16 (by decide) (fun c_5 => ?_) (fun c_5 => ?_)
      · skip
        refine g_ldc2 (-1000000000002) (List.mem_of_getElem? (i := 2) rfl) dX9_knows_27 ?_
        refine g_lstore dX9_knows_30 (by decide) ?_
        refine g_iconst (0) rfl dX9_knows_32 ?_
        refine g_istore dX9_knows_33 (by decide) ?_
        refine g_cnt 5 (fun i => True) (fun i => MW cy a S) (fun i => [(0, .ref (a 0)), (1, .int h), (2, .int b), (3, .int w), (4, .long (knT S h b w i)), (6, .int (nI i))]) 0 (by first | decide | omega) trivial (by rfl) (by refine ⟨rfl, rfl, rfl, rfl, rfl, rfl, trivial⟩) ?_ (fun i6 hi6 gi6 ihi6 => ?_)
        · intro gN
          refine g_iload dX9_knows_35 rfl ?_
          refine g_iconst (5) rfl dX9_knows_37 ?_
          refine g_icmp_ge 98 dX9_knows_38 (by decide) (fun c_7 => ?_) (fun c_7 => ?_)
          · skip
            refine g_lload dX9_knows_98 rfl ?_
            refine g_ldc2 (-1000000000002) (List.mem_of_getElem? (i := 2) rfl) dX9_knows_100 ?_
            refine g_lcmp_ne 117 dX9_knows_103 dX9_knows_104 (by decide) (fun c_8 => ?_) (fun c_8 => ?_)
            · skip
              refine g_lload dX9_knows_117 rfl ?_
              refine g_lret dX9_knows_119 ?_
              unfold mf_knows; (repeat' split) <;> first | contradiction | (with_reducible exact ⟨rfl, rfl⟩) | (exfalso; simp_all; done) | exact ⟨rfl, rfl⟩
            · skip
              refine g_aload_n (i := 0) dX9_knows_107 rfl rfl ?_
              refine g_ldc2 (-1000000000002) (List.mem_of_getElem? (i := 2) rfl) dX9_knows_108 ?_
              refine g_callVf 1 0 gX9_knows_X9_finding rfl rfl rfl ⟨Nat.le_of_ble_eq_true rfl, Nat.le_of_ble_eq_true rfl⟩ ⟨Nat.le_of_ble_eq_true rfl, Nat.le_of_ble_eq_true rfl⟩ (by exact Nat.le_of_ble_eq_true rfl) (by decide +kernel) rfl rfl rfl dX9_knows_111 (M_finding _ D cy a _ _ (by unfold vp_in; decide)) rfl (fun vu_9 wu_9 hu_9 => ?_)
              obtain ⟨rfl, rfl⟩ := hu_9
              refine g_goto 119 dX9_knows_114 (by decide) ?_
              refine g_lret dX9_knows_119 ?_
              unfold mf_knows; (repeat' split) <;> first | contradiction | (with_reducible exact ⟨rfl, rfl⟩) | (exfalso; simp_all; done) | exact ⟨rfl, rfl⟩
          · skip
            exact absurd (nI_le (Nat.le_refl _) (by first | decide | omega)) c_7
        · skip
          refine g_iload dX9_knows_35 rfl ?_
          refine g_iconst (5) rfl dX9_knows_37 ?_
          refine g_icmp_ge 98 dX9_knows_38 (by decide) (fun c_10 => ?_) (fun c_10 => ?_)
          · skip
            exact absurd c_10 (nI_ge hi6 (by first | decide | omega))
          · skip
            refine g_aload_n (i := 0) dX9_knows_41 rfl rfl ?_
            refine m_get 13 dX9_knows_42 (List.mem_of_getElem? (i := 3) rfl) (fun w h => List.mem_cons_of_mem _ (List.mem_append_right _ h)) (by decide) rfl ?_
            refine g_iconst (5) rfl dX9_knows_45 ?_
            refine g_iload_n (i := 2) dX9_knows_46 rfl rfl ?_
            refine g_imul dX9_knows_47 ?_
            refine g_iload dX9_knows_48 rfl ?_
            refine g_iadd dX9_knows_50 ?_
            refine m_lald 13 11 200 dX9_knows_51 rfl (ix200 (mbill hI (by assumption)) (vp_in_nI (by assumption) (by decide))) ?_
            refine g_lstore dX9_knows_52 (by decide) ?_
            refine g_lload dX9_knows_54 rfl ?_
            refine g_lconst 0 rfl dX9_knows_56 ?_
            refine g_lcmp_lt 88 dX9_knows_57 dX9_knows_58 (by decide) (fun c_11 => ?_) (fun c_11 => ?_)
            · skip
              refine g_lload dX9_knows_88 rfl ?_
              refine g_lstore dX9_knows_90 (by decide) ?_
              refine g_iinc (1) dX9_knows_92 rfl rfl (by decide) ?_
              refine g_goto 35 dX9_knows_95 (by decide) ?_
              refine g_to _ _ (ihi6 trivial) rfl ⟨rfl, rfl, rfl, rfl, (by first | exact congrArg (fun z => some (Value.long z)) (knT_y (by assumption) (by assumption)) | exact congrArg (fun z => some (Value.long z)) (knT_n1 (by assumption)) | exact congrArg (fun z => some (Value.long z)) (knT_n2 (by assumption))), (by rw [← nI_1]; rfl), trivial⟩
            · skip
              refine g_iload_n (i := 3) dX9_knows_61 rfl rfl ?_
              refine g_i2l dX9_knows_62 ?_
              refine g_lload dX9_knows_63 rfl ?_
              refine g_aload_n (i := 0) dX9_knows_65 rfl rfl ?_
              refine m_get 2 dX9_knows_66 (List.mem_of_getElem? (i := 4) rfl) (fun w h => List.mem_cons_of_mem _ (List.mem_append_right _ h)) (by decide) rfl ?_
              refine g_aload_n (i := 0) dX9_knows_69 rfl rfl ?_
              refine m_get 3 dX9_knows_70 (List.mem_of_getElem? (i := 5) rfl) (fun w h => List.mem_cons_of_mem _ (List.mem_append_right _ h)) (by decide) rfl ?_
              refine g_iload_n (i := 1) dX9_knows_73 rfl rfl ?_
              refine m_iald 3 2 10 dX9_knows_74 rfl (vpi10 (by assumption)) ?_
              refine m_iald 2 1 5 dX9_knows_75 rfl (mseat hI (vpi10 (by assumption))) ?_
              refine g_i2l dX9_knows_76 ?_
              refine g_ladd dX9_knows_77 ?_
              refine g_lcmp_lt 88 dX9_knows_78 dX9_knows_79 (by decide) (fun c_12 => ?_) (fun c_12 => ?_)
              · skip
                refine g_lload dX9_knows_88 rfl ?_
                refine g_lstore dX9_knows_90 (by decide) ?_
                refine g_iinc (1) dX9_knows_92 rfl rfl (by decide) ?_
                refine g_goto 35 dX9_knows_95 (by decide) ?_
                refine g_to _ _ (ihi6 trivial) rfl ⟨rfl, rfl, rfl, rfl, (by first | exact congrArg (fun z => some (Value.long z)) (knT_y (by assumption) (by assumption)) | exact congrArg (fun z => some (Value.long z)) (knT_n1 (by assumption)) | exact congrArg (fun z => some (Value.long z)) (knT_n2 (by assumption))), (by rw [← nI_1]; rfl), trivial⟩
              · skip
                refine g_iload dX9_knows_82 rfl ?_
                refine g_i2l dX9_knows_84 ?_
                refine g_goto 90 dX9_knows_85 (by decide) ?_
                refine g_lstore dX9_knows_90 (by decide) ?_
                refine g_iinc (1) dX9_knows_92 rfl rfl (by decide) ?_
                refine g_goto 35 dX9_knows_95 (by decide) ?_
                refine g_to _ _ (ihi6 trivial) rfl ⟨rfl, rfl, rfl, rfl, (by first | exact congrArg (fun z => some (Value.long z)) (knT_y (by assumption) (by assumption)) | exact congrArg (fun z => some (Value.long z)) (knT_n1 (by assumption)) | exact congrArg (fun z => some (Value.long z)) (knT_n2 (by assumption))), (by rw [← nI_1]; rfl), trivial⟩
      · skip
        refine g_aload_n (i := 0) dX9_knows_19 rfl rfl ?_
        refine g_ldc2 (-1000000000001) (List.mem_of_getElem? (i := 1) rfl) dX9_knows_20 ?_
        refine g_callVf 1 0 gX9_knows_X9_finding rfl rfl rfl ⟨Nat.le_of_ble_eq_true rfl, Nat.le_of_ble_eq_true rfl⟩ ⟨Nat.le_of_ble_eq_true rfl, Nat.le_of_ble_eq_true rfl⟩ (by exact Nat.le_of_ble_eq_true rfl) (by decide +kernel) rfl rfl rfl dX9_knows_23 (M_finding _ D cy a _ _ (by unfold vp_in; decide)) rfl (fun vu_13 wu_13 hu_13 => ?_)
        obtain ⟨rfl, rfl⟩ := hu_13
        refine g_lret dX9_knows_26 ?_
        unfold mf_knows; (repeat' split) <;> first | contradiction | (with_reducible exact ⟨rfl, rfl⟩) | (exfalso; simp_all; done) | exact ⟨rfl, rfl⟩
    · skip
      refine g_if_eq 19 dX9_knows_12 (by decide) (fun _ => ?_) (fun h9 => absurd h9 (by decide))
      refine g_aload_n (i := 0) dX9_knows_19 rfl rfl ?_
      refine g_ldc2 (-1000000000001) (List.mem_of_getElem? (i := 1) rfl) dX9_knows_20 ?_
      refine g_callVf 1 0 gX9_knows_X9_finding rfl rfl rfl ⟨Nat.le_of_ble_eq_true rfl, Nat.le_of_ble_eq_true rfl⟩ ⟨Nat.le_of_ble_eq_true rfl, Nat.le_of_ble_eq_true rfl⟩ (by exact Nat.le_of_ble_eq_true rfl) (by decide +kernel) rfl rfl rfl dX9_knows_23 (M_finding _ D cy a _ _ (by unfold vp_in; decide)) rfl (fun vu_15 wu_15 hu_15 => ?_)
      obtain ⟨rfl, rfl⟩ := hu_15
      refine g_lret dX9_knows_26 ?_
      unfold mf_knows; (repeat' split) <;> first | contradiction | (with_reducible exact ⟨rfl, rfl⟩) | (exfalso; simp_all; done) | exact ⟨rfl, rfl⟩
  · skip
    refine g_if_eq 19 dX9_knows_4 (by decide) (fun _ => ?_) (fun h9 => absurd h9 (by decide))
    refine g_aload_n (i := 0) dX9_knows_19 rfl rfl ?_
    refine g_ldc2 (-1000000000001) (List.mem_of_getElem? (i := 1) rfl) dX9_knows_20 ?_
    refine g_callVf 1 0 gX9_knows_X9_finding rfl rfl rfl ⟨Nat.le_of_ble_eq_true rfl, Nat.le_of_ble_eq_true rfl⟩ ⟨Nat.le_of_ble_eq_true rfl, Nat.le_of_ble_eq_true rfl⟩ (by exact Nat.le_of_ble_eq_true rfl) (by decide +kernel) rfl rfl rfl dX9_knows_23 (M_finding _ D cy a _ _ (by unfold vp_in; decide)) rfl (fun vu_17 wu_17 hu_17 => ?_)
    obtain ⟨rfl, rfl⟩ := hu_17
    refine g_lret dX9_knows_26 ?_
    unfold mf_knows; (repeat' split) <;> first | contradiction | (with_reducible exact ⟨rfl, rfl⟩) | (exfalso; simp_all; done) | exact ⟨rfl, rfl⟩

def mat (S : MS) (q : Int32) : Int32 := if S.1 36 ≤ q then -1 else S.2.2.1 35 q.toNatClampNeg
theorem mtape {S : MS} (hI : minv S) {q : Int32} (h0 : 0 ≤ q) (h : ¬ S.1 36 ≤ q) : vp_in q 400 := by
  obtain ⟨-, -, ⟨h1, h2⟩, -⟩ := hI
  rw [Int32.not_le, Int32.lt_iff_toInt_lt] at h
  rw [Int32.le_iff_toInt_le] at h0
  have e0 : (0 : Int32).toInt = 0 := by decide
  rw [vp_in_iff]
  omega
set_option maxHeartbeats 4000000 in
set_option maxRecDepth 100000 in
/-- a byte of the tape -/
theorem M_at (l : Launch) (D : va_G) (cy : Nat → ClassId) (a : Nat → Nat) (S : MS) (hI : minv S) (q : Int32) (h0 : 0 ≤ q) : Ct l D clx (tyx cy) yX9_at wsX9_at (rmD 0) 0 0 [.ref (a 0), .int q] (MW cy a S) (fun r9 w9 => r9 = some (.int (mat S q)) ∧ w9 = MW cy a S) := by
  refine g_start (cc := cX9_at) (maxL := 2) (ret := (some .int)) (by decide) rfl (Nat.le_of_ble_eq_true rfl) (fun v w1 h => by obtain ⟨rfl, -⟩ := h; exact ⟨.int, rfl, rfl⟩) (fun Γ hlΓ => ?_)
  subst hlΓ
  refine g_iload_n (i := 1) dX9_at_0 rfl rfl ?_
  refine g_aload_n (i := 0) dX9_at_1 rfl rfl ?_
  refine m_get 36 dX9_at_2 (List.mem_of_getElem? (i := 1) rfl) (fun w h => List.mem_cons_of_mem _ (List.mem_append_right _ h)) (by decide) rfl ?_
  refine g_icmp_ge 17 dX9_at_5 (by decide) (fun c_1 => ?_) (fun c_1 => ?_)
  · skip
    refine g_iconst (-1) rfl dX9_at_17 ?_
    refine g_iret dX9_at_18 ?_
    unfold mat; (repeat' split) <;> first | contradiction | (with_reducible exact ⟨rfl, rfl⟩) | (exfalso; simp_all; done) | exact ⟨rfl, rfl⟩
  · skip
    refine g_aload_n (i := 0) dX9_at_8 rfl rfl ?_
    refine m_get 35 dX9_at_9 (List.mem_of_getElem? (i := 2) rfl) (fun w h => List.mem_cons_of_mem _ (List.mem_append_right _ h)) (by decide) rfl ?_
    refine g_iload_n (i := 1) dX9_at_12 rfl rfl ?_
    refine m_iald 35 30 400 dX9_at_13 rfl (mtape hI h0 (by assumption)) ?_
    refine g_goto 18 dX9_at_14 (by decide) ?_
    refine g_iret dX9_at_18 ?_
    unfold mat; (repeat' split) <;> first | contradiction | (with_reducible exact ⟨rfl, rfl⟩) | (exfalso; simp_all; done) | exact ⟨rfl, rfl⟩

set_option maxHeartbeats 4000000 in
set_option maxRecDepth 100000 in
/-- isLetter -/
theorem M_isLetter (l : Launch) (D : va_G) (cy : Nat → ClassId) (a : Nat → Nat) (S : MS) (x : Int32) : Ct l D clx (tyx cy) yX9_isLetter wsX9_isLetter (rmD 0) 0 0 [.int x] (MW cy a S) (fun r9 w9 => (r9 = some (.int 1) ∧ (97 ≤ x ∧ x ≤ 122) ∧ w9 = MW cy a S) ∨ (r9 = some (.int 0) ∧ ¬ (97 ≤ x ∧ x ≤ 122) ∧ w9 = MW cy a S)) := by
  refine g_start (cc := cX9_isLetter) (maxL := 1) (ret := (some .boolean)) (by decide) rfl (Nat.le_of_ble_eq_true rfl) (fun v w1 h => by rcases h with ⟨rfl, -, -⟩ | ⟨rfl, -, -⟩ <;> exact ⟨.boolean, rfl, rfl⟩) (fun Γ hlΓ => ?_)
  subst hlΓ
  refine g_iload_n (i := 0) dX9_isLetter_0 rfl rfl ?_
  refine g_bipush (97) rfl dX9_isLetter_1 ?_
  refine g_icmp_lt 16 dX9_isLetter_3 (by decide) (fun c_1 => ?_) (fun c_1 => ?_)
  · skip
    refine g_iconst (0) rfl dX9_isLetter_16 ?_
    refine g_iret dX9_isLetter_17 ?_
    first | exact Or.inl ⟨rfl, ⟨Int32.not_lt.mp c_1, Int32.not_lt.mp c_2⟩, rfl⟩ | exact Or.inr ⟨rfl, fun h => absurd h.2 (Int32.not_le.mpr c_2), rfl⟩ | exact Or.inr ⟨rfl, fun h => absurd h.1 (Int32.not_le.mpr c_1), rfl⟩
  · skip
    refine g_iload_n (i := 0) dX9_isLetter_6 rfl rfl ?_
    refine g_bipush (122) rfl dX9_isLetter_7 ?_
    refine g_icmp_gt 16 dX9_isLetter_9 (by decide) (fun c_2 => ?_) (fun c_2 => ?_)
    · skip
      refine g_iconst (0) rfl dX9_isLetter_16 ?_
      refine g_iret dX9_isLetter_17 ?_
      first | exact Or.inl ⟨rfl, ⟨Int32.not_lt.mp c_1, Int32.not_lt.mp c_2⟩, rfl⟩ | exact Or.inr ⟨rfl, fun h => absurd h.2 (Int32.not_le.mpr c_2), rfl⟩ | exact Or.inr ⟨rfl, fun h => absurd h.1 (Int32.not_le.mpr c_1), rfl⟩
    · skip
      refine g_iconst (1) rfl dX9_isLetter_12 ?_
      refine g_goto 17 dX9_isLetter_13 (by decide) ?_
      refine g_iret dX9_isLetter_17 ?_
      first | exact Or.inl ⟨rfl, ⟨Int32.not_lt.mp c_1, Int32.not_lt.mp c_2⟩, rfl⟩ | exact Or.inr ⟨rfl, fun h => absurd h.2 (Int32.not_le.mpr c_2), rfl⟩ | exact Or.inr ⟨rfl, fun h => absurd h.1 (Int32.not_le.mpr c_1), rfl⟩

set_option maxHeartbeats 4000000 in
set_option maxRecDepth 100000 in
/-- isFigure -/
theorem M_isFigure (l : Launch) (D : va_G) (cy : Nat → ClassId) (a : Nat → Nat) (S : MS) (x : Int32) : Ct l D clx (tyx cy) yX9_isFigure wsX9_isFigure (rmD 0) 0 0 [.int x] (MW cy a S) (fun r9 w9 => (r9 = some (.int 1) ∧ (48 ≤ x ∧ x ≤ 57) ∧ w9 = MW cy a S) ∨ (r9 = some (.int 0) ∧ ¬ (48 ≤ x ∧ x ≤ 57) ∧ w9 = MW cy a S)) := by
  refine g_start (cc := cX9_isFigure) (maxL := 1) (ret := (some .boolean)) (by decide) rfl (Nat.le_of_ble_eq_true rfl) (fun v w1 h => by rcases h with ⟨rfl, -, -⟩ | ⟨rfl, -, -⟩ <;> exact ⟨.boolean, rfl, rfl⟩) (fun Γ hlΓ => ?_)
  subst hlΓ
  refine g_iload_n (i := 0) dX9_isFigure_0 rfl rfl ?_
  refine g_bipush (48) rfl dX9_isFigure_1 ?_
  refine g_icmp_lt 16 dX9_isFigure_3 (by decide) (fun c_1 => ?_) (fun c_1 => ?_)
  · skip
    refine g_iconst (0) rfl dX9_isFigure_16 ?_
    refine g_iret dX9_isFigure_17 ?_
    first | exact Or.inl ⟨rfl, ⟨Int32.not_lt.mp c_1, Int32.not_lt.mp c_2⟩, rfl⟩ | exact Or.inr ⟨rfl, fun h => absurd h.2 (Int32.not_le.mpr c_2), rfl⟩ | exact Or.inr ⟨rfl, fun h => absurd h.1 (Int32.not_le.mpr c_1), rfl⟩
  · skip
    refine g_iload_n (i := 0) dX9_isFigure_6 rfl rfl ?_
    refine g_bipush (57) rfl dX9_isFigure_7 ?_
    refine g_icmp_gt 16 dX9_isFigure_9 (by decide) (fun c_2 => ?_) (fun c_2 => ?_)
    · skip
      refine g_iconst (0) rfl dX9_isFigure_16 ?_
      refine g_iret dX9_isFigure_17 ?_
      first | exact Or.inl ⟨rfl, ⟨Int32.not_lt.mp c_1, Int32.not_lt.mp c_2⟩, rfl⟩ | exact Or.inr ⟨rfl, fun h => absurd h.2 (Int32.not_le.mpr c_2), rfl⟩ | exact Or.inr ⟨rfl, fun h => absurd h.1 (Int32.not_le.mpr c_1), rfl⟩
    · skip
      refine g_iconst (1) rfl dX9_isFigure_12 ?_
      refine g_goto 17 dX9_isFigure_13 (by decide) ?_
      refine g_iret dX9_isFigure_17 ?_
      first | exact Or.inl ⟨rfl, ⟨Int32.not_lt.mp c_1, Int32.not_lt.mp c_2⟩, rfl⟩ | exact Or.inr ⟨rfl, fun h => absurd h.2 (Int32.not_le.mpr c_2), rfl⟩ | exact Or.inr ⟨rfl, fun h => absurd h.1 (Int32.not_le.mpr c_1), rfl⟩

set_option maxHeartbeats 4000000 in
set_option maxRecDepth 100000 in
/-- a fault is told -/
theorem M_wrong (l : Launch) (D : va_G) (cy : Nat → ClassId) (a : Nat → Nat) (S : MS) : Ct l D clx (tyx cy) yX9_wrong wsX9_wrong (rmD 0) 0 0 [.ref (a 0)] (MW cy a S) (fun r9 w9 => r9 = some (.int 0) ∧ w9 = MW cy a (sL S 37 (S.1 38).toInt64)) := by
  refine g_start (cc := cX9_wrong) (maxL := 1) (ret := (some .boolean)) (by decide) rfl (Nat.le_of_ble_eq_true rfl) (fun v w1 h => by obtain ⟨rfl, -⟩ := h; exact ⟨.boolean, rfl, rfl⟩) (fun Γ hlΓ => ?_)
  subst hlΓ
  refine g_aload_n (i := 0) dX9_wrong_0 rfl rfl ?_
  refine g_aload_n (i := 0) dX9_wrong_1 rfl rfl ?_
  refine m_get 38 dX9_wrong_2 (List.mem_of_getElem? (i := 1) rfl) (fun w h => List.mem_cons_of_mem _ (List.mem_append_right _ h)) (by decide) rfl ?_
  refine g_i2l dX9_wrong_5 ?_
  refine m_putl 37 dX9_wrong_6 (List.mem_of_getElem? (i := 2) rfl) (fun w h => List.mem_cons_of_mem _ (List.mem_append_right _ h)) (by decide) rfl rfl rfl (wsI_37 _ _ _ _) ?_
  refine g_iconst (0) rfl dX9_wrong_9 ?_
  refine g_iret dX9_wrong_10 ?_
  exact ⟨rfl, rfl⟩

def fdF (S : MS) (e : Int64) : Nat → MS
  | 0 => S
  | i + 1 => sI (sA (fdF S e i) 35 ((fdF S e i).1 36).toNatClampNeg ((e >>> ((8 * nI i).toInt64 &&& 63)) &&& 255).toInt32) 36 ((sA (fdF S e i) 35 ((fdF S e i).1 36).toNatClampNeg ((e >>> ((8 * nI i).toInt64 &&& 63)) &&& 255).toInt32).1 36 + 1)
def mf_feed (S : MS) (e : Int64) (n : Int32) : Int64 × MS := if 1 ≤ n ∧ n ≤ 8 then (if S.1 36 + n ≤ 400 then (((fdF S e n.toNatClampNeg).1 36).toInt64, fdF S e n.toNatClampNeg) else mf_finding S (-1000000000004)) else mf_finding S (-1000000000001)
theorem fdI {S : MS} (e : Int64) : ∀ i : Nat, (fdF S e i).1 36 = S.1 36 + nI i
  | 0 => by show S.1 36 = S.1 36 + nI 0; rw [nI_0]; simp
  | i + 1 => by
    show (fdF S e i).1 36 + 1 = S.1 36 + nI (i + 1)
    rw [fdI e i, ← nI_1, Int32.add_assoc]
theorem fdX {S : MS} (hI : minv S) (e : Int64) {N i : Nat} (hN : N ≤ 8) (hi : i < N) (h : S.1 36 + nI N ≤ 400) : vp_in ((fdF S e i).1 36) 400 := by
  obtain ⟨-, -, ⟨h1, h2⟩, -⟩ := hI
  obtain ⟨t, ht, e1⟩ := nI_of (x := S.1 36) (by rw [Int32.lt_iff_toInt_lt]; have : (0 : Int32).toInt = 0 := by decide
                                                omega)
  rw [e1, nI_toInt ht] at h2
  rw [fdI, e1, nI_add]
  rw [e1, nI_add] at h
  have h5 : t + N ≤ 400 := (nI_leI (by omega) (by decide)).mp h
  exact vp_in_nI (by omega) (by decide)
set_option maxHeartbeats 4000000 in
set_option maxRecDepth 100000 in
/-- feed -/
theorem M_feed (l : Launch) (D : va_G) (cy : Nat → ClassId) (a : Nat → Nat) (S : MS) (hI : minv S) (e : Int64) (n : Int32) : Ct l D clx (tyx cy) yX9_feed wsX9_feed (rmD 2) 0 0 [.ref (a 0), .long e, .int n] (MW cy a S) (fun r9 w9 => r9 = some (.long (mf_feed S e n).1) ∧ w9 = MW cy a (mf_feed S e n).2) := by
  refine g_start (cc := cX9_feed) (maxL := 5) (ret := (some .long)) (by decide) rfl (Nat.le_of_ble_eq_true rfl) (fun v w1 h => by obtain ⟨rfl, -⟩ := h; exact rfl) (fun Γ hlΓ => ?_)
  subst hlΓ
  refine g_iload_n (i := 3) dX9_feed_0 rfl rfl ?_
  refine g_iconst (1) rfl dX9_feed_1 ?_
  refine g_bipush (8) rfl dX9_feed_2 ?_
  refine g_callSf 3 gX9_feed_X9_in rfl rfl rfl ⟨Nat.le_of_ble_eq_true rfl, Nat.le_of_ble_eq_true rfl⟩ ⟨Nat.le_of_ble_eq_true rfl, Nat.le_of_ble_eq_true rfl⟩ (by exact Nat.le_of_ble_eq_true rfl) (by decide +kernel) rfl dX9_feed_4 (M_in _ D cy a _ _ _ _) rfl (fun vu_1 wu_1 hu_1 => ?_)
  rcases hu_1 with ⟨rfl, hu_1, rfl⟩ | ⟨rfl, hu_1, rfl⟩
  · skip
    obtain ⟨N9, hN9, rfl⟩ := vpN hu_1 (by decide)
    have hN8 : N9 ≤ 8 := (by have e9 : (8 : Int32).toInt = 8 := (by decide); omega)
    refine g_if_ne 18 dX9_feed_7 (by decide) (fun _ => ?_) (fun h9 => absurd h9 (by decide))
    refine g_aload_n (i := 0) dX9_feed_18 rfl rfl ?_
    refine m_get 36 dX9_feed_19 (List.mem_of_getElem? (i := 2) rfl) (fun w h => List.mem_cons_of_mem _ (List.mem_append_right _ h)) (by decide) rfl ?_
    refine g_iload_n (i := 3) dX9_feed_22 rfl rfl ?_
    refine g_iadd dX9_feed_23 ?_
    refine g_sipush (400) rfl dX9_feed_24 ?_
    refine g_icmp_le 38 dX9_feed_27 (by decide) (fun c_3 => ?_) (fun c_3 => ?_)
    · skip
      refine g_iconst (0) rfl dX9_feed_38 ?_
      refine g_istore dX9_feed_39 (by decide) ?_
      refine g_cnt N9 (fun i => True) (fun i => MW cy a (fdF S e i)) (fun i => [(0, .ref (a 0)), (1, .long e), (3, .int (nI N9)), (4, .int (nI i))]) 0 (by first | decide | omega) trivial (by rfl) (by refine ⟨rfl, rfl, rfl, rfl, trivial⟩) ?_ (fun i4 hi4 gi4 ihi4 => ?_)
      · intro gN
        refine g_iload dX9_feed_41 rfl ?_
        refine g_iload_n (i := 3) dX9_feed_43 rfl rfl ?_
        refine g_icmp_ge 84 dX9_feed_44 (by decide) (fun c_5 => ?_) (fun c_5 => ?_)
        · skip
          refine g_aload_n (i := 0) dX9_feed_84 rfl rfl ?_
          refine m_get 36 dX9_feed_85 (List.mem_of_getElem? (i := 2) rfl) (fun w h => List.mem_cons_of_mem _ (List.mem_append_right _ h)) (by decide) rfl ?_
          refine g_i2l dX9_feed_88 ?_
          refine g_lret dX9_feed_89 ?_
          unfold mf_feed; rw [if_pos (by assumption), if_pos (by assumption), nI_clamp (by omega)]; exact ⟨rfl, rfl⟩
        · skip
          exact absurd (nI_le (Nat.le_refl _) (by first | decide | omega)) c_5
      · skip
        refine g_iload dX9_feed_41 rfl ?_
        refine g_iload_n (i := 3) dX9_feed_43 rfl rfl ?_
        refine g_icmp_ge 84 dX9_feed_44 (by decide) (fun c_6 => ?_) (fun c_6 => ?_)
        · skip
          exact absurd c_6 (nI_ge hi4 (by first | decide | omega))
        · skip
          refine g_aload_n (i := 0) dX9_feed_47 rfl rfl ?_
          refine m_get 35 dX9_feed_48 (List.mem_of_getElem? (i := 4) rfl) (fun w h => List.mem_cons_of_mem _ (List.mem_append_right _ h)) (by decide) rfl ?_
          refine g_aload_n (i := 0) dX9_feed_51 rfl rfl ?_
          refine m_get 36 dX9_feed_52 (List.mem_of_getElem? (i := 2) rfl) (fun w h => List.mem_cons_of_mem _ (List.mem_append_right _ h)) (by decide) rfl ?_
          refine g_lload_n (i := 1) dX9_feed_55 rfl rfl ?_
          refine g_bipush (8) rfl dX9_feed_56 ?_
          refine g_iload dX9_feed_58 rfl ?_
          refine g_imul dX9_feed_60 ?_
          refine g_lshr dX9_feed_61 ?_
          refine g_ldc2 (255) (List.mem_of_getElem? (i := 5) rfl) dX9_feed_62 ?_
          refine g_land dX9_feed_65 ?_
          refine g_l2i dX9_feed_66 ?_
          refine m_iast 35 30 400 dX9_feed_67 rfl (fdX hI e (by assumption) (by assumption) (by assumption)) (wsA_35 _ _ _ _ _) ?_
          refine g_aload_n (i := 0) dX9_feed_68 rfl rfl ?_
          refine g_dup rfl dX9_feed_69 ?_
          refine m_get 36 dX9_feed_70 (List.mem_of_getElem? (i := 2) rfl) (fun w h => List.mem_cons_of_mem _ (List.mem_append_right _ h)) (by decide) rfl ?_
          refine g_iconst (1) rfl dX9_feed_73 ?_
          refine g_iadd dX9_feed_74 ?_
          refine m_puti 36 dX9_feed_75 (List.mem_of_getElem? (i := 2) rfl) (fun w h => List.mem_cons_of_mem _ (List.mem_append_right _ h)) (by decide) rfl rfl rfl (wsI_36 _ _ _ _) ?_
          refine g_iinc (1) dX9_feed_78 rfl rfl (by decide) ?_
          refine g_goto 41 dX9_feed_81 (by decide) ?_
          refine g_to _ _ (ihi4 (trivial)) rfl (by refine ⟨(by first | rfl | (rw [← nI_1]; rfl) | (rw [← nI_1]; rfl)), (by first | rfl | (rw [← nI_1]; rfl) | (rw [← nI_1]; rfl)), (by first | rfl | (rw [← nI_1]; rfl) | (rw [← nI_1]; rfl)), (by first | rfl | (rw [← nI_1]; rfl) | (rw [← nI_1]; rfl)), trivial⟩)
    · skip
      refine g_aload_n (i := 0) dX9_feed_30 rfl rfl ?_
      refine g_ldc2 (-1000000000004) (List.mem_of_getElem? (i := 3) rfl) dX9_feed_31 ?_
      refine g_callVf 1 0 gX9_feed_X9_finding rfl rfl rfl ⟨Nat.le_of_ble_eq_true rfl, Nat.le_of_ble_eq_true rfl⟩ ⟨Nat.le_of_ble_eq_true rfl, Nat.le_of_ble_eq_true rfl⟩ (by exact Nat.le_of_ble_eq_true rfl) (by decide +kernel) rfl rfl rfl dX9_feed_34 (M_finding _ D cy a _ _ (by unfold vp_in; decide)) rfl (fun vu_7 wu_7 hu_7 => ?_)
      obtain ⟨rfl, rfl⟩ := hu_7
      refine g_lret dX9_feed_37 ?_
      unfold mf_feed; rw [if_pos (by assumption), if_neg (by assumption)]; exact ⟨rfl, rfl⟩
  · skip
    refine g_if_ne 18 dX9_feed_7 (by decide) (fun h9 => absurd h9 (by decide)) (fun _ => ?_)
    refine g_aload_n (i := 0) dX9_feed_10 rfl rfl ?_
    refine g_ldc2 (-1000000000001) (List.mem_of_getElem? (i := 1) rfl) dX9_feed_11 ?_
    refine g_callVf 1 0 gX9_feed_X9_finding rfl rfl rfl ⟨Nat.le_of_ble_eq_true rfl, Nat.le_of_ble_eq_true rfl⟩ ⟨Nat.le_of_ble_eq_true rfl, Nat.le_of_ble_eq_true rfl⟩ (by exact Nat.le_of_ble_eq_true rfl) (by decide +kernel) rfl rfl rfl dX9_feed_14 (M_finding _ D cy a _ _ (by unfold vp_in; decide)) rfl (fun vu_9 wu_9 hu_9 => ?_)
    obtain ⟨rfl, rfl⟩ := hu_9
    refine g_lret dX9_feed_17 ?_
    unfold mf_feed; rw [if_neg (by assumption)]; exact ⟨rfl, rfl⟩

