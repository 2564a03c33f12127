theorem dgv {i m : Nat} (hi : i < 625) (hm : m = 125 ∨ m = 25 ∨ m = 5 ∨ m = 1) : nI i / nI m = nI (i / m) := pk_div (by omega) (by omega) (by omega)
theorem dg1 {i : Nat} (hi : i < 625) : vp_in (nI i / 125) 5 := by
  rw [show (125 : Int32) = nI 125 from rfl, pk_div (by omega) (by decide) (by decide)]
  exact vp_in_nI (by omega) (by decide)
theorem dgr {j : Nat} (hj : j < 625) : nI j - nI j / 5 * 5 = nI (j % 5) := by
  rw [show (5 : Int32) = nI 5 from rfl]
  exact pk_rem (by omega) (by decide) (by decide)
theorem dg2 {i : Nat} (hi : i < 625) : vp_in (nI i / 25 - nI i / 25 / 5 * 5) 5 := by
  rw [show (25 : Int32) = nI 25 from rfl, pk_div (by omega) (by decide) (by decide), dgr (by omega)]
  exact vp_in_nI (by omega) (by decide)
theorem dg3 {i : Nat} (hi : i < 625) : vp_in (nI i / 5 - nI i / 5 / 5 * 5) 5 := by
  have e : nI i / 5 = nI (i / 5) := pk_div (d := 5) (by omega) (by decide) (by decide)
  rw [e, dgr (by omega)]
  exact vp_in_nI (by omega) (by decide)
theorem dg4 {i : Nat} (hi : i < 625) : vp_in (nI i - nI i / 5 * 5) 5 := by
  rw [dgr hi]
  exact vp_in_nI (by omega) (by decide)
theorem vp_nn {x : Int32} {N : Nat} (h : vp_in x N) : 0 ≤ x := Int32.not_lt.mp fun q => h (Or.inl q)
theorem vp_nl {x : Int32} {N : Nat} (h : vp_in x N) : ¬ x < 0 := fun q => h (Or.inl q)
def tnS2 (S : MS) (i : Nat) : MS := if (nI i / 5 - nI i / 5 / 5 * 5) = 0 then (if (nI i - nI i / 5 * 5) = 0 then (if (nI i / 25 - nI i / 25 / 5 * 5) ≤ (nI i / 125) then S else mlook2 S (nI i / 125) (nI i / 25 - nI i / 25 / 5 * 5)) else S) else S
def tnS3 (S : MS) (i : Nat) : MS := if (nI i - nI i / 5 * 5) = 0 then (if (nI i / 25 - nI i / 25 / 5 * 5) ≤ (nI i / 125) then S else if (nI i / 5 - nI i / 5 / 5 * 5) ≤ (nI i / 125) then S else if (nI i / 25 - nI i / 25 / 5 * 5) = (nI i / 5 - nI i / 5 / 5 * 5) then S else mlook3 S (nI i / 125) (nI i / 25 - nI i / 25 / 5 * 5) (nI i / 5 - nI i / 5 / 5 * 5)) else S
def tnS4 (S : MS) (i : Nat) : MS := if (nI i / 25 - nI i / 25 / 5 * 5) ≤ (nI i / 125) then S else if (nI i / 5 - nI i / 5 / 5 * 5) ≤ (nI i / 125) then S else if (nI i / 25 - nI i / 25 / 5 * 5) = (nI i / 5 - nI i / 5 / 5 * 5) then S else if (nI i - nI i / 5 * 5) ≤ (nI i / 125) then S else if (nI i / 25 - nI i / 25 / 5 * 5) = (nI i - nI i / 5 * 5) then S else if (nI i / 5 - nI i / 5 / 5 * 5) = (nI i - nI i / 5 * 5) then S else mlook4 S (nI i / 125) (nI i / 25 - nI i / 25 / 5 * 5) (nI i / 5 - nI i / 5 / 5 * 5) (nI i - nI i / 5 * 5)
def tnF2 (S : MS) : Nat → MS
  | 0 => S
  | i + 1 => tnS2 (tnF2 S i) i
def tnF3 (S : MS) : Nat → MS
  | 0 => S
  | i + 1 => tnS3 (tnF3 S i) i
def tnF4 (S : MS) : Nat → MS
  | 0 => S
  | i + 1 => tnS4 (tnF4 S i) i
def mtn0 (S : MS) : MS := sL (sL S 51 10000000000000000) 52 (-1000000000002)
def mtn (S : MS) : MS := tnF4 (tnF3 (tnF2 (mtn0 S) 625) 625) 625
def mf_turn (S : MS) : Int64 × MS := if (mtn S).2.1 52 = -1000000000002 then mf_finding (mtn S) (-1000000000002) else ((mtn S).2.1 52, mtn S)

theorem trn_y {S : MS} (h : (tnF4 (tnF3 (tnF2 (mtn0 S) 625) 625) 625).2.1 52 = -1000000000002) : mf_turn S = mf_finding (tnF4 (tnF3 (tnF2 (mtn0 S) 625) 625) 625) (-1000000000002) := by
  unfold mf_turn mtn
  rw [if_pos h]
theorem trn_n {S : MS} (h : ¬ (tnF4 (tnF3 (tnF2 (mtn0 S) 625) 625) 625).2.1 52 = -1000000000002) : mf_turn S = ((tnF4 (tnF3 (tnF2 (mtn0 S) 625) 625) 625).2.1 52, tnF4 (tnF3 (tnF2 (mtn0 S) 625) 625) 625) := by
  unfold mf_turn mtn
  rw [if_neg h]
set_option maxHeartbeats 4000000 in
set_option maxRecDepth 100000 in
/-- turn -/
theorem M_turn (l : Launch) (D : va_G) (cy : Nat → ClassId) (a : Nat → Nat) (S : MS) : Ct l D clx (tyx cy) yX9_turn wsX9_turn (rmD 2) 0 0 [.ref (a 0)] (MW cy a S) (fun r9 w9 => r9 = some (.long (mf_turn S).1) ∧ w9 = MW cy a (mf_turn S).2) := by
  refine g_start (cc := cX9_turn) (maxL := 8) (ret := (some .long)) (by decide) rfl (Nat.le_of_ble_eq_true rfl) (fun v w1 h => by obtain ⟨rfl, -⟩ := h; exact rfl) (fun Γ hlΓ => ?_)
  subst hlΓ
  refine g_aload_n (i := 0) dX9_turn_0 rfl rfl ?_
  refine g_ldc2 (10000000000000000) (List.mem_of_getElem? (i := 1) rfl) dX9_turn_1 ?_
  refine m_putl 51 dX9_turn_4 (List.mem_of_getElem? (i := 2) rfl) (fun w h => List.mem_cons_of_mem _ (List.mem_append_right _ h)) (by decide) rfl rfl rfl (wsI_51 _ _ _ _) ?_
  refine g_aload_n (i := 0) dX9_turn_7 rfl rfl ?_
  refine g_ldc2 (-1000000000002) (List.mem_of_getElem? (i := 3) rfl) dX9_turn_8 ?_
  refine m_putl 52 dX9_turn_11 (List.mem_of_getElem? (i := 4) rfl) (fun w h => List.mem_cons_of_mem _ (List.mem_append_right _ h)) (by decide) rfl rfl rfl (wsI_52 _ _ _ _) ?_
  refine g_iconst (2) rfl dX9_turn_14 ?_
  refine g_istore_n (i := 1) dX9_turn_15 rfl (by decide) ?_
  refine g_iload_n (i := 1) dX9_turn_16 rfl rfl ?_
  refine g_iconst (5) rfl dX9_turn_17 ?_
  refine g_icmp_ge 184 dX9_turn_18 (by decide) (fun h9 => absurd h9 (by decide)) (fun _ => ?_)
  refine g_iconst (0) rfl dX9_turn_21 ?_
  refine g_istore_n (i := 2) dX9_turn_22 rfl (by decide) ?_
  refine g_cnt 625 (fun i => True) (fun i => MW cy a (tnF2 (mtn0 S) i)) (fun i => [(0, .ref (a 0)), (1, .int 2), (2, .int (nI i))]) 0 (by first | decide | omega) trivial (by rfl) (by refine ⟨rfl, rfl, rfl, trivial⟩) ?_ (fun i2 hi2 gi2 ihi2 => ?_)
  · intro gN
    refine g_iload_n (i := 2) dX9_turn_23 rfl rfl ?_
    refine g_sipush (625) rfl dX9_turn_24 ?_
    refine g_icmp_ge 178 dX9_turn_27 (by decide) (fun c_3 => ?_) (fun c_3 => ?_)
    · skip
      refine g_iinc (1) dX9_turn_178 rfl rfl (by decide) ?_
      refine g_goto 16 dX9_turn_181 (by decide) ?_
      refine g_iload_n (i := 1) dX9_turn_16 rfl rfl ?_
      refine g_iconst (5) rfl dX9_turn_17 ?_
      refine g_icmp_ge 184 dX9_turn_18 (by decide) (fun h9 => absurd h9 (by decide)) (fun _ => ?_)
      refine g_iconst (0) rfl dX9_turn_21 ?_
      refine g_istore_n (i := 2) dX9_turn_22 rfl (by decide) ?_
      refine g_cnt 625 (fun i => True) (fun i => MW cy a (tnF3 (tnF2 (mtn0 S) 625) i)) (fun i => [(0, .ref (a 0)), (1, .int (2 + 1)), (2, .int (nI i))]) 0 (by first | decide | omega) trivial (by rfl) (by refine ⟨rfl, rfl, rfl, trivial⟩) ?_ (fun i5 hi5 gi5 ihi5 => ?_)
      · intro gN
        refine g_iload_n (i := 2) dX9_turn_23 rfl rfl ?_
        refine g_sipush (625) rfl dX9_turn_24 ?_
        refine g_icmp_ge 178 dX9_turn_27 (by decide) (fun c_6 => ?_) (fun c_6 => ?_)
        · skip
          refine g_iinc (1) dX9_turn_178 rfl rfl (by decide) ?_
          refine g_goto 16 dX9_turn_181 (by decide) ?_
          refine g_iload_n (i := 1) dX9_turn_16 rfl rfl ?_
          refine g_iconst (5) rfl dX9_turn_17 ?_
          refine g_icmp_ge 184 dX9_turn_18 (by decide) (fun h9 => absurd h9 (by decide)) (fun _ => ?_)
          refine g_iconst (0) rfl dX9_turn_21 ?_
          refine g_istore_n (i := 2) dX9_turn_22 rfl (by decide) ?_
          refine g_cnt 625 (fun i => True) (fun i => MW cy a (tnF4 (tnF3 (tnF2 (mtn0 S) 625) 625) i)) (fun i => [(0, .ref (a 0)), (1, .int (2 + 1 + 1)), (2, .int (nI i))]) 0 (by first | decide | omega) trivial (by rfl) (by refine ⟨rfl, rfl, rfl, trivial⟩) ?_ (fun i8 hi8 gi8 ihi8 => ?_)
          · intro gN
            refine g_iload_n (i := 2) dX9_turn_23 rfl rfl ?_
            refine g_sipush (625) rfl dX9_turn_24 ?_
            refine g_icmp_ge 178 dX9_turn_27 (by decide) (fun c_9 => ?_) (fun c_9 => ?_)
            · skip
              refine g_iinc (1) dX9_turn_178 rfl rfl (by decide) ?_
              refine g_goto 16 dX9_turn_181 (by decide) ?_
              refine g_iload_n (i := 1) dX9_turn_16 rfl rfl ?_
              refine g_iconst (5) rfl dX9_turn_17 ?_
              refine g_icmp_ge 184 dX9_turn_18 (by decide) (fun _ => ?_) (fun h9 => absurd h9 (by decide))
              refine g_aload_n (i := 0) dX9_turn_184 rfl rfl ?_
              refine m_get 52 dX9_turn_185 (List.mem_of_getElem? (i := 4) rfl) (fun w h => List.mem_cons_of_mem _ (List.mem_append_right _ h)) (by decide) rfl ?_
              refine g_ldc2 (-1000000000002) (List.mem_of_getElem? (i := 3) rfl) dX9_turn_188 ?_
              refine g_lcmp_ne 205 dX9_turn_191 dX9_turn_192 (by decide) (fun c_11 => ?_) (fun c_11 => ?_)
              · skip
                refine g_aload_n (i := 0) dX9_turn_205 rfl rfl ?_
                refine m_get 52 dX9_turn_206 (List.mem_of_getElem? (i := 4) rfl) (fun w h => List.mem_cons_of_mem _ (List.mem_append_right _ h)) (by decide) rfl ?_
                refine g_lret dX9_turn_209 ?_
                first | (rw [trn_y (by with_reducible assumption)]; with_reducible exact ⟨rfl, rfl⟩) | (rw [trn_n (by with_reducible assumption)]; with_reducible exact ⟨rfl, rfl⟩)
              · skip
                refine g_aload_n (i := 0) dX9_turn_195 rfl rfl ?_
                refine g_ldc2 (-1000000000002) (List.mem_of_getElem? (i := 3) rfl) dX9_turn_196 ?_
                refine g_callVf 1 0 gX9_turn_X9_finding rfl rfl rfl ⟨Nat.le_of_ble_eq_true rfl, Nat.le_of_ble_eq_true rfl⟩ ⟨Nat.le_of_ble_eq_true rfl, Nat.le_of_ble_eq_true rfl⟩ (by exact Nat.le_of_ble_eq_true rfl) (by decide +kernel) rfl rfl rfl dX9_turn_199 (M_finding _ D cy a _ _ (by unfold vp_in; decide)) rfl (fun vu_12 wu_12 hu_12 => ?_)
                obtain ⟨rfl, rfl⟩ := hu_12
                refine g_goto 209 dX9_turn_202 (by decide) ?_
                refine g_lret dX9_turn_209 ?_
                first | (rw [trn_y (by with_reducible assumption)]; with_reducible exact ⟨rfl, rfl⟩) | (rw [trn_n (by with_reducible assumption)]; with_reducible exact ⟨rfl, rfl⟩)
            · skip
              exact absurd (nI_le (Nat.le_refl _) (by first | decide | omega)) c_9
          · skip
            refine g_iload_n (i := 2) dX9_turn_23 rfl rfl ?_
            refine g_sipush (625) rfl dX9_turn_24 ?_
            refine g_icmp_ge 178 dX9_turn_27 (by decide) (fun c_13 => ?_) (fun c_13 => ?_)
            · skip
              exact absurd c_13 (nI_ge hi8 (by first | decide | omega))
            · skip
              refine g_iload_n (i := 2) dX9_turn_30 rfl rfl ?_
              refine g_bipush (125) rfl dX9_turn_31 ?_
              refine g_idiv (by decide) dX9_turn_33 ?_
              refine g_istore_n (i := 3) dX9_turn_34 rfl (by decide) ?_
              refine g_iload_n (i := 2) dX9_turn_35 rfl rfl ?_
              refine g_bipush (25) rfl dX9_turn_36 ?_
              refine g_idiv (by decide) dX9_turn_38 ?_
              refine g_iconst (5) rfl dX9_turn_39 ?_
              refine g_irem (by decide) dX9_turn_40 ?_
              refine g_istore dX9_turn_41 (by decide) ?_
              refine g_iload_n (i := 1) dX9_turn_43 rfl rfl ?_
              refine g_iconst (2) rfl dX9_turn_44 ?_
              refine g_icmp_le 56 dX9_turn_45 (by decide) (fun h9 => absurd h9 (by decide)) (fun _ => ?_)
              refine g_iload_n (i := 2) dX9_turn_48 rfl rfl ?_
              refine g_iconst (5) rfl dX9_turn_49 ?_
              refine g_idiv (by decide) dX9_turn_50 ?_
              refine g_iconst (5) rfl dX9_turn_51 ?_
              refine g_irem (by decide) dX9_turn_52 ?_
              refine g_goto 57 dX9_turn_53 (by decide) ?_
              refine g_istore dX9_turn_57 (by decide) ?_
              refine g_iload_n (i := 1) dX9_turn_59 rfl rfl ?_
              refine g_iconst (3) rfl dX9_turn_60 ?_
              refine g_icmp_le 70 dX9_turn_61 (by decide) (fun h9 => absurd h9 (by decide)) (fun _ => ?_)
              refine g_iload_n (i := 2) dX9_turn_64 rfl rfl ?_
              refine g_iconst (5) rfl dX9_turn_65 ?_
              refine g_irem (by decide) dX9_turn_66 ?_
              refine g_goto 71 dX9_turn_67 (by decide) ?_
              refine g_istore dX9_turn_71 (by decide) ?_
              refine g_iload_n (i := 1) dX9_turn_73 rfl rfl ?_
              refine g_iconst (3) rfl dX9_turn_74 ?_
              refine g_icmp_ge 86 dX9_turn_75 (by decide) (fun _ => ?_) (fun h9 => absurd h9 (by decide))
              refine g_iload_n (i := 1) dX9_turn_86 rfl rfl ?_
              refine g_iconst (4) rfl dX9_turn_87 ?_
              refine g_icmp_ge 100 dX9_turn_88 (by decide) (fun _ => ?_) (fun h9 => absurd h9 (by decide))
              refine g_iload_n (i := 3) dX9_turn_100 rfl rfl ?_
              refine g_iload dX9_turn_101 rfl ?_
              refine g_icmp_ge 153 dX9_turn_103 (by decide) (fun c_18 => ?_) (fun c_18 => ?_)
              · skip
                refine g_iconst (0) rfl dX9_turn_153 ?_
                refine g_istore dX9_turn_154 (by decide) ?_
                refine g_iload dX9_turn_156 rfl ?_
                refine g_if_eq 172 dX9_turn_158 (by decide) (fun _ => ?_) (fun h9 => absurd h9 (by decide))
                refine g_iinc (1) dX9_turn_172 rfl rfl (by decide) ?_
                refine g_goto 23 dX9_turn_175 (by decide) ?_
                refine g_to _ _ (ihi8 trivial) (by show _ = MW cy a (tnS4 (tnF4 (tnF3 (tnF2 (mtn0 S) 625) 625) i8) i8); unfold tnS4; first | (simp only [reduceIte, *]; done) | ((repeat' split) <;> first | contradiction | rfl)) ⟨rfl, rfl, (by rw [← nI_1]; rfl), trivial⟩
              · skip
                refine g_iload dX9_turn_106 rfl ?_
                refine g_if_lt 124 dX9_turn_108 (by decide) (fun c_20 => ?_) (fun c_20 => ?_)
                · skip
                  exact absurd c_20 (vp_nl (dg3 (by assumption)))
                · skip
                  refine g_iload_n (i := 3) dX9_turn_111 rfl rfl ?_
                  refine g_iload dX9_turn_112 rfl ?_
                  refine g_icmp_ge 153 dX9_turn_114 (by decide) (fun c_21 => ?_) (fun c_21 => ?_)
                  · skip
                    refine g_iconst (0) rfl dX9_turn_153 ?_
                    refine g_istore dX9_turn_154 (by decide) ?_
                    refine g_iload dX9_turn_156 rfl ?_
                    refine g_if_eq 172 dX9_turn_158 (by decide) (fun _ => ?_) (fun h9 => absurd h9 (by decide))
                    refine g_iinc (1) dX9_turn_172 rfl rfl (by decide) ?_
                    refine g_goto 23 dX9_turn_175 (by decide) ?_
                    refine g_to _ _ (ihi8 trivial) (by show _ = MW cy a (tnS4 (tnF4 (tnF3 (tnF2 (mtn0 S) 625) 625) i8) i8); unfold tnS4; first | (simp only [reduceIte, *]; done) | ((repeat' split) <;> first | contradiction | rfl)) ⟨rfl, rfl, (by rw [← nI_1]; rfl), trivial⟩
                  · skip
                    refine g_iload dX9_turn_117 rfl ?_
                    refine g_iload dX9_turn_119 rfl ?_
                    refine g_icmp_eq 153 dX9_turn_121 (by decide) (fun c_23 => ?_) (fun c_23 => ?_)
                    · skip
                      refine g_iconst (0) rfl dX9_turn_153 ?_
                      refine g_istore dX9_turn_154 (by decide) ?_
                      refine g_iload dX9_turn_156 rfl ?_
                      refine g_if_eq 172 dX9_turn_158 (by decide) (fun _ => ?_) (fun h9 => absurd h9 (by decide))
                      refine g_iinc (1) dX9_turn_172 rfl rfl (by decide) ?_
                      refine g_goto 23 dX9_turn_175 (by decide) ?_
                      refine g_to _ _ (ihi8 trivial) (by show _ = MW cy a (tnS4 (tnF4 (tnF3 (tnF2 (mtn0 S) 625) 625) i8) i8); unfold tnS4; first | (simp only [reduceIte, *]; done) | ((repeat' split) <;> first | contradiction | rfl)) ⟨rfl, rfl, (by rw [← nI_1]; rfl), trivial⟩
                    · skip
                      refine g_iload dX9_turn_124 rfl ?_
                      refine g_if_lt 149 dX9_turn_126 (by decide) (fun c_25 => ?_) (fun c_25 => ?_)
                      · skip
                        exact absurd c_25 (vp_nl (dg4 (by assumption)))
                      · skip
                        refine g_iload_n (i := 3) dX9_turn_129 rfl rfl ?_
                        refine g_iload dX9_turn_130 rfl ?_
                        refine g_icmp_ge 153 dX9_turn_132 (by decide) (fun c_26 => ?_) (fun c_26 => ?_)
                        · skip
                          refine g_iconst (0) rfl dX9_turn_153 ?_
                          refine g_istore dX9_turn_154 (by decide) ?_
                          refine g_iload dX9_turn_156 rfl ?_
                          refine g_if_eq 172 dX9_turn_158 (by decide) (fun _ => ?_) (fun h9 => absurd h9 (by decide))
                          refine g_iinc (1) dX9_turn_172 rfl rfl (by decide) ?_
                          refine g_goto 23 dX9_turn_175 (by decide) ?_
                          refine g_to _ _ (ihi8 trivial) (by show _ = MW cy a (tnS4 (tnF4 (tnF3 (tnF2 (mtn0 S) 625) 625) i8) i8); unfold tnS4; first | (simp only [reduceIte, *]; done) | ((repeat' split) <;> first | contradiction | rfl)) ⟨rfl, rfl, (by rw [← nI_1]; rfl), trivial⟩
                        · skip
                          refine g_iload dX9_turn_135 rfl ?_
                          refine g_iload dX9_turn_137 rfl ?_
                          refine g_icmp_eq 153 dX9_turn_139 (by decide) (fun c_28 => ?_) (fun c_28 => ?_)
                          · skip
                            refine g_iconst (0) rfl dX9_turn_153 ?_
                            refine g_istore dX9_turn_154 (by decide) ?_
                            refine g_iload dX9_turn_156 rfl ?_
                            refine g_if_eq 172 dX9_turn_158 (by decide) (fun _ => ?_) (fun h9 => absurd h9 (by decide))
                            refine g_iinc (1) dX9_turn_172 rfl rfl (by decide) ?_
                            refine g_goto 23 dX9_turn_175 (by decide) ?_
                            refine g_to _ _ (ihi8 trivial) (by show _ = MW cy a (tnS4 (tnF4 (tnF3 (tnF2 (mtn0 S) 625) 625) i8) i8); unfold tnS4; first | (simp only [reduceIte, *]; done) | ((repeat' split) <;> first | contradiction | rfl)) ⟨rfl, rfl, (by rw [← nI_1]; rfl), trivial⟩
                          · skip
                            refine g_iload dX9_turn_142 rfl ?_
                            refine g_iload dX9_turn_144 rfl ?_
                            refine g_icmp_eq 153 dX9_turn_146 (by decide) (fun c_30 => ?_) (fun c_30 => ?_)
                            · skip
                              refine g_iconst (0) rfl dX9_turn_153 ?_
                              refine g_istore dX9_turn_154 (by decide) ?_
                              refine g_iload dX9_turn_156 rfl ?_
                              refine g_if_eq 172 dX9_turn_158 (by decide) (fun _ => ?_) (fun h9 => absurd h9 (by decide))
                              refine g_iinc (1) dX9_turn_172 rfl rfl (by decide) ?_
                              refine g_goto 23 dX9_turn_175 (by decide) ?_
                              refine g_to _ _ (ihi8 trivial) (by show _ = MW cy a (tnS4 (tnF4 (tnF3 (tnF2 (mtn0 S) 625) 625) i8) i8); unfold tnS4; first | (simp only [reduceIte, *]; done) | ((repeat' split) <;> first | contradiction | rfl)) ⟨rfl, rfl, (by rw [← nI_1]; rfl), trivial⟩
                            · skip
                              refine g_iconst (1) rfl dX9_turn_149 ?_
                              refine g_goto 154 dX9_turn_150 (by decide) ?_
                              refine g_istore dX9_turn_154 (by decide) ?_
                              refine g_iload dX9_turn_156 rfl ?_
                              refine g_if_eq 172 dX9_turn_158 (by decide) (fun h9 => absurd h9 (by decide)) (fun _ => ?_)
                              refine g_aload_n (i := 0) dX9_turn_161 rfl rfl ?_
                              refine g_iload_n (i := 3) dX9_turn_162 rfl rfl ?_
                              refine g_iload dX9_turn_163 rfl ?_
                              refine g_iload dX9_turn_165 rfl ?_
                              refine g_iload dX9_turn_167 rfl ?_
                              refine g_callVf 4 0 gX9_turn_X9_look rfl rfl rfl ⟨Nat.le_of_ble_eq_true rfl, Nat.le_of_ble_eq_true rfl⟩ ⟨Nat.le_of_ble_eq_true rfl, Nat.le_of_ble_eq_true rfl⟩ (by exact Nat.le_of_ble_eq_true rfl) (by decide +kernel) rfl rfl rfl dX9_turn_169 (M_look4 _ D cy a _ _ _ _ _ (dg1 (by assumption)) (dg2 (by assumption)) (vp_nn (dg3 (by assumption))) (dg3 (by assumption)) (vp_nn (dg4 (by assumption))) (dg4 (by assumption))) rfl (fun vu_33 wu_33 hu_33 => ?_)
                              obtain ⟨rfl, rfl⟩ := hu_33
                              refine g_iinc (1) dX9_turn_172 rfl rfl (by decide) ?_
                              refine g_goto 23 dX9_turn_175 (by decide) ?_
                              refine g_to _ _ (ihi8 trivial) (by show _ = MW cy a (tnS4 (tnF4 (tnF3 (tnF2 (mtn0 S) 625) 625) i8) i8); unfold tnS4; first | (simp only [reduceIte, *]; done) | ((repeat' split) <;> first | contradiction | rfl)) ⟨rfl, rfl, (by rw [← nI_1]; rfl), trivial⟩
        · skip
          exact absurd (nI_le (Nat.le_refl _) (by first | decide | omega)) c_6
      · skip
        refine g_iload_n (i := 2) dX9_turn_23 rfl rfl ?_
        refine g_sipush (625) rfl dX9_turn_24 ?_
        refine g_icmp_ge 178 dX9_turn_27 (by decide) (fun c_34 => ?_) (fun c_34 => ?_)
        · skip
          exact absurd c_34 (nI_ge hi5 (by first | decide | omega))
        · skip
          refine g_iload_n (i := 2) dX9_turn_30 rfl rfl ?_
          refine g_bipush (125) rfl dX9_turn_31 ?_
          refine g_idiv (by decide) dX9_turn_33 ?_
          refine g_istore_n (i := 3) dX9_turn_34 rfl (by decide) ?_
          refine g_iload_n (i := 2) dX9_turn_35 rfl rfl ?_
          refine g_bipush (25) rfl dX9_turn_36 ?_
          refine g_idiv (by decide) dX9_turn_38 ?_
          refine g_iconst (5) rfl dX9_turn_39 ?_
          refine g_irem (by decide) dX9_turn_40 ?_
          refine g_istore dX9_turn_41 (by decide) ?_
          refine g_iload_n (i := 1) dX9_turn_43 rfl rfl ?_
          refine g_iconst (2) rfl dX9_turn_44 ?_
          refine g_icmp_le 56 dX9_turn_45 (by decide) (fun h9 => absurd h9 (by decide)) (fun _ => ?_)
          refine g_iload_n (i := 2) dX9_turn_48 rfl rfl ?_
          refine g_iconst (5) rfl dX9_turn_49 ?_
          refine g_idiv (by decide) dX9_turn_50 ?_
          refine g_iconst (5) rfl dX9_turn_51 ?_
          refine g_irem (by decide) dX9_turn_52 ?_
          refine g_goto 57 dX9_turn_53 (by decide) ?_
          refine g_istore dX9_turn_57 (by decide) ?_
          refine g_iload_n (i := 1) dX9_turn_59 rfl rfl ?_
          refine g_iconst (3) rfl dX9_turn_60 ?_
          refine g_icmp_le 70 dX9_turn_61 (by decide) (fun _ => ?_) (fun h9 => absurd h9 (by decide))
          refine g_iconst (-1) rfl dX9_turn_70 ?_
          refine g_istore dX9_turn_71 (by decide) ?_
          refine g_iload_n (i := 1) dX9_turn_73 rfl rfl ?_
          refine g_iconst (3) rfl dX9_turn_74 ?_
          refine g_icmp_ge 86 dX9_turn_75 (by decide) (fun _ => ?_) (fun h9 => absurd h9 (by decide))
          refine g_iload_n (i := 1) dX9_turn_86 rfl rfl ?_
          refine g_iconst (4) rfl dX9_turn_87 ?_
          refine g_icmp_ge 100 dX9_turn_88 (by decide) (fun h9 => absurd h9 (by decide)) (fun _ => ?_)
          refine g_iload_n (i := 2) dX9_turn_91 rfl rfl ?_
          refine g_iconst (5) rfl dX9_turn_92 ?_
          refine g_irem (by decide) dX9_turn_93 ?_
          refine g_if_eq 100 dX9_turn_94 (by decide) (fun c_39 => ?_) (fun c_39 => ?_)
          · skip
            refine g_iload_n (i := 3) dX9_turn_100 rfl rfl ?_
            refine g_iload dX9_turn_101 rfl ?_
            refine g_icmp_ge 153 dX9_turn_103 (by decide) (fun c_40 => ?_) (fun c_40 => ?_)
            · skip
              refine g_iconst (0) rfl dX9_turn_153 ?_
              refine g_istore dX9_turn_154 (by decide) ?_
              refine g_iload dX9_turn_156 rfl ?_
              refine g_if_eq 172 dX9_turn_158 (by decide) (fun _ => ?_) (fun h9 => absurd h9 (by decide))
              refine g_iinc (1) dX9_turn_172 rfl rfl (by decide) ?_
              refine g_goto 23 dX9_turn_175 (by decide) ?_
              refine g_to _ _ (ihi5 trivial) (by show _ = MW cy a (tnS3 (tnF3 (tnF2 (mtn0 S) 625) i5) i5); unfold tnS3; first | (simp only [reduceIte, *]; done) | ((repeat' split) <;> first | contradiction | rfl)) ⟨rfl, rfl, (by rw [← nI_1]; rfl), trivial⟩
            · skip
              refine g_iload dX9_turn_106 rfl ?_
              refine g_if_lt 124 dX9_turn_108 (by decide) (fun c_42 => ?_) (fun c_42 => ?_)
              · skip
                exact absurd c_42 (vp_nl (dg3 (by assumption)))
              · skip
                refine g_iload_n (i := 3) dX9_turn_111 rfl rfl ?_
                refine g_iload dX9_turn_112 rfl ?_
                refine g_icmp_ge 153 dX9_turn_114 (by decide) (fun c_43 => ?_) (fun c_43 => ?_)
                · skip
                  refine g_iconst (0) rfl dX9_turn_153 ?_
                  refine g_istore dX9_turn_154 (by decide) ?_
                  refine g_iload dX9_turn_156 rfl ?_
                  refine g_if_eq 172 dX9_turn_158 (by decide) (fun _ => ?_) (fun h9 => absurd h9 (by decide))
                  refine g_iinc (1) dX9_turn_172 rfl rfl (by decide) ?_
                  refine g_goto 23 dX9_turn_175 (by decide) ?_
                  refine g_to _ _ (ihi5 trivial) (by show _ = MW cy a (tnS3 (tnF3 (tnF2 (mtn0 S) 625) i5) i5); unfold tnS3; first | (simp only [reduceIte, *]; done) | ((repeat' split) <;> first | contradiction | rfl)) ⟨rfl, rfl, (by rw [← nI_1]; rfl), trivial⟩
                · skip
                  refine g_iload dX9_turn_117 rfl ?_
                  refine g_iload dX9_turn_119 rfl ?_
                  refine g_icmp_eq 153 dX9_turn_121 (by decide) (fun c_45 => ?_) (fun c_45 => ?_)
                  · skip
                    refine g_iconst (0) rfl dX9_turn_153 ?_
                    refine g_istore dX9_turn_154 (by decide) ?_
                    refine g_iload dX9_turn_156 rfl ?_
                    refine g_if_eq 172 dX9_turn_158 (by decide) (fun _ => ?_) (fun h9 => absurd h9 (by decide))
                    refine g_iinc (1) dX9_turn_172 rfl rfl (by decide) ?_
                    refine g_goto 23 dX9_turn_175 (by decide) ?_
                    refine g_to _ _ (ihi5 trivial) (by show _ = MW cy a (tnS3 (tnF3 (tnF2 (mtn0 S) 625) i5) i5); unfold tnS3; first | (simp only [reduceIte, *]; done) | ((repeat' split) <;> first | contradiction | rfl)) ⟨rfl, rfl, (by rw [← nI_1]; rfl), trivial⟩
                  · skip
                    refine g_iload dX9_turn_124 rfl ?_
                    refine g_if_lt 149 dX9_turn_126 (by decide) (fun _ => ?_) (fun h9 => absurd h9 (by decide))
                    refine g_iconst (1) rfl dX9_turn_149 ?_
                    refine g_goto 154 dX9_turn_150 (by decide) ?_
                    refine g_istore dX9_turn_154 (by decide) ?_
                    refine g_iload dX9_turn_156 rfl ?_
                    refine g_if_eq 172 dX9_turn_158 (by decide) (fun h9 => absurd h9 (by decide)) (fun _ => ?_)
                    refine g_aload_n (i := 0) dX9_turn_161 rfl rfl ?_
                    refine g_iload_n (i := 3) dX9_turn_162 rfl rfl ?_
                    refine g_iload dX9_turn_163 rfl ?_
                    refine g_iload dX9_turn_165 rfl ?_
                    refine g_iload dX9_turn_167 rfl ?_
                    refine g_callVf 4 0 gX9_turn_X9_look rfl rfl rfl ⟨Nat.le_of_ble_eq_true rfl, Nat.le_of_ble_eq_true rfl⟩ ⟨Nat.le_of_ble_eq_true rfl, Nat.le_of_ble_eq_true rfl⟩ (by exact Nat.le_of_ble_eq_true rfl) (by decide +kernel) rfl rfl rfl dX9_turn_169 (M_look3 _ D cy a _ _ _ _ _ (dg1 (by assumption)) (dg2 (by assumption)) (vp_nn (dg3 (by assumption))) (dg3 (by assumption)) (by decide)) rfl (fun vu_49 wu_49 hu_49 => ?_)
                    obtain ⟨rfl, rfl⟩ := hu_49
                    refine g_iinc (1) dX9_turn_172 rfl rfl (by decide) ?_
                    refine g_goto 23 dX9_turn_175 (by decide) ?_
                    refine g_to _ _ (ihi5 trivial) (by show _ = MW cy a (tnS3 (tnF3 (tnF2 (mtn0 S) 625) i5) i5); unfold tnS3; first | (simp only [reduceIte, *]; done) | ((repeat' split) <;> first | contradiction | rfl)) ⟨rfl, rfl, (by rw [← nI_1]; rfl), trivial⟩
          · skip
            refine g_goto 172 dX9_turn_97 (by decide) ?_
            refine g_iinc (1) dX9_turn_172 rfl rfl (by decide) ?_
            refine g_goto 23 dX9_turn_175 (by decide) ?_
            refine g_to _ _ (ihi5 trivial) (by show _ = MW cy a (tnS3 (tnF3 (tnF2 (mtn0 S) 625) i5) i5); unfold tnS3; first | (simp only [reduceIte, *]; done) | ((repeat' split) <;> first | contradiction | rfl)) ⟨rfl, rfl, (by rw [← nI_1]; rfl), trivial⟩
    · skip
      exact absurd (nI_le (Nat.le_refl _) (by first | decide | omega)) c_3
  · skip
    refine g_iload_n (i := 2) dX9_turn_23 rfl rfl ?_
    refine g_sipush (625) rfl dX9_turn_24 ?_
    refine g_icmp_ge 178 dX9_turn_27 (by decide) (fun c_50 => ?_) (fun c_50 => ?_)
    · skip
      exact absurd c_50 (nI_ge hi2 (by first | decide | omega))
    · skip
      refine g_iload_n (i := 2) dX9_turn_30 rfl rfl ?_
      refine g_bipush (125) rfl dX9_turn_31 ?_
      refine g_idiv (by decide) dX9_turn_33 ?_
      refine g_istore_n (i := 3) dX9_turn_34 rfl (by decide) ?_
      refine g_iload_n (i := 2) dX9_turn_35 rfl rfl ?_
      refine g_bipush (25) rfl dX9_turn_36 ?_
      refine g_idiv (by decide) dX9_turn_38 ?_
      refine g_iconst (5) rfl dX9_turn_39 ?_
      refine g_irem (by decide) dX9_turn_40 ?_
      refine g_istore dX9_turn_41 (by decide) ?_
      refine g_iload_n (i := 1) dX9_turn_43 rfl rfl ?_
      refine g_iconst (2) rfl dX9_turn_44 ?_
      refine g_icmp_le 56 dX9_turn_45 (by decide) (fun _ => ?_) (fun h9 => absurd h9 (by decide))
      refine g_iconst (-1) rfl dX9_turn_56 ?_
      refine g_istore dX9_turn_57 (by decide) ?_
      refine g_iload_n (i := 1) dX9_turn_59 rfl rfl ?_
      refine g_iconst (3) rfl dX9_turn_60 ?_
      refine g_icmp_le 70 dX9_turn_61 (by decide) (fun _ => ?_) (fun h9 => absurd h9 (by decide))
      refine g_iconst (-1) rfl dX9_turn_70 ?_
      refine g_istore dX9_turn_71 (by decide) ?_
      refine g_iload_n (i := 1) dX9_turn_73 rfl rfl ?_
      refine g_iconst (3) rfl dX9_turn_74 ?_
      refine g_icmp_ge 86 dX9_turn_75 (by decide) (fun h9 => absurd h9 (by decide)) (fun _ => ?_)
      refine g_iload_n (i := 2) dX9_turn_78 rfl rfl ?_
      refine g_iconst (5) rfl dX9_turn_79 ?_
      refine g_idiv (by decide) dX9_turn_80 ?_
      refine g_iconst (5) rfl dX9_turn_81 ?_
      refine g_irem (by decide) dX9_turn_82 ?_
      refine g_if_ne 172 dX9_turn_83 (by decide) (fun c_54 => ?_) (fun c_54 => ?_)
      · skip
        refine g_iinc (1) dX9_turn_172 rfl rfl (by decide) ?_
        refine g_goto 23 dX9_turn_175 (by decide) ?_
        refine g_to _ _ (ihi2 trivial) (by show _ = MW cy a (tnS2 (tnF2 (mtn0 S) i2) i2); unfold tnS2; first | (simp only [reduceIte, *]; done) | ((repeat' split) <;> first | contradiction | rfl)) ⟨rfl, rfl, (by rw [← nI_1]; rfl), trivial⟩
      · skip
        refine g_iload_n (i := 1) dX9_turn_86 rfl rfl ?_
        refine g_iconst (4) rfl dX9_turn_87 ?_
        refine g_icmp_ge 100 dX9_turn_88 (by decide) (fun h9 => absurd h9 (by decide)) (fun _ => ?_)
        refine g_iload_n (i := 2) dX9_turn_91 rfl rfl ?_
        refine g_iconst (5) rfl dX9_turn_92 ?_
        refine g_irem (by decide) dX9_turn_93 ?_
        refine g_if_eq 100 dX9_turn_94 (by decide) (fun c_56 => ?_) (fun c_56 => ?_)
        · skip
          refine g_iload_n (i := 3) dX9_turn_100 rfl rfl ?_
          refine g_iload dX9_turn_101 rfl ?_
          refine g_icmp_ge 153 dX9_turn_103 (by decide) (fun c_57 => ?_) (fun c_57 => ?_)
          · skip
            refine g_iconst (0) rfl dX9_turn_153 ?_
            refine g_istore dX9_turn_154 (by decide) ?_
            refine g_iload dX9_turn_156 rfl ?_
            refine g_if_eq 172 dX9_turn_158 (by decide) (fun _ => ?_) (fun h9 => absurd h9 (by decide))
            refine g_iinc (1) dX9_turn_172 rfl rfl (by decide) ?_
            refine g_goto 23 dX9_turn_175 (by decide) ?_
            refine g_to _ _ (ihi2 trivial) (by show _ = MW cy a (tnS2 (tnF2 (mtn0 S) i2) i2); unfold tnS2; first | (simp only [reduceIte, *]; done) | ((repeat' split) <;> first | contradiction | rfl)) ⟨rfl, rfl, (by rw [← nI_1]; rfl), trivial⟩
          · skip
            refine g_iload dX9_turn_106 rfl ?_
            refine g_if_lt 124 dX9_turn_108 (by decide) (fun _ => ?_) (fun h9 => absurd h9 (by decide))
            refine g_iload dX9_turn_124 rfl ?_
            refine g_if_lt 149 dX9_turn_126 (by decide) (fun _ => ?_) (fun h9 => absurd h9 (by decide))
            refine g_iconst (1) rfl dX9_turn_149 ?_
            refine g_goto 154 dX9_turn_150 (by decide) ?_
            refine g_istore dX9_turn_154 (by decide) ?_
            refine g_iload dX9_turn_156 rfl ?_
            refine g_if_eq 172 dX9_turn_158 (by decide) (fun h9 => absurd h9 (by decide)) (fun _ => ?_)
            refine g_aload_n (i := 0) dX9_turn_161 rfl rfl ?_
            refine g_iload_n (i := 3) dX9_turn_162 rfl rfl ?_
            refine g_iload dX9_turn_163 rfl ?_
            refine g_iload dX9_turn_165 rfl ?_
            refine g_iload dX9_turn_167 rfl ?_
            refine g_callVf 4 0 gX9_turn_X9_look rfl rfl rfl ⟨Nat.le_of_ble_eq_true rfl, Nat.le_of_ble_eq_true rfl⟩ ⟨Nat.le_of_ble_eq_true rfl, Nat.le_of_ble_eq_true rfl⟩ (by exact Nat.le_of_ble_eq_true rfl) (by decide +kernel) rfl rfl rfl dX9_turn_169 (M_look2 _ D cy a _ _ _ _ _ (dg1 (by assumption)) (dg2 (by assumption)) (by decide) (by decide)) rfl (fun vu_62 wu_62 hu_62 => ?_)
            obtain ⟨rfl, rfl⟩ := hu_62
            refine g_iinc (1) dX9_turn_172 rfl rfl (by decide) ?_
            refine g_goto 23 dX9_turn_175 (by decide) ?_
            refine g_to _ _ (ihi2 trivial) (by show _ = MW cy a (tnS2 (tnF2 (mtn0 S) i2) i2); unfold tnS2; first | (simp only [reduceIte, *]; done) | ((repeat' split) <;> first | contradiction | rfl)) ⟨rfl, rfl, (by rw [← nI_1]; rfl), trivial⟩
        · skip
          refine g_goto 172 dX9_turn_97 (by decide) ?_
          refine g_iinc (1) dX9_turn_172 rfl rfl (by decide) ?_
          refine g_goto 23 dX9_turn_175 (by decide) ?_
          refine g_to _ _ (ihi2 trivial) (by show _ = MW cy a (tnS2 (tnF2 (mtn0 S) i2) i2); unfold tnS2; first | (simp only [reduceIte, *]; done) | ((repeat' split) <;> first | contradiction | rfl)) ⟨rfl, rfl, (by rw [← nI_1]; rfl), trivial⟩

