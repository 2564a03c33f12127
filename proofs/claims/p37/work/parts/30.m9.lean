theorem mbN {S : MS} (hI : minv S) : ∃ N : Nat, N ≤ 40 ∧ S.1 4 = nI N := by
  obtain ⟨⟨h1, h2⟩, -⟩ := hI
  obtain ⟨t, ht, e1⟩ := nI_of (x := S.1 4) (by rw [Int32.lt_iff_toInt_lt, show (0 : Int32).toInt = 0 from by decide]; omega)
  rw [e1, nI_toInt ht] at h2
  exact ⟨t, by omega, e1⟩
/-- what the first bills give of pledges -/
def plT (S : MS) (h q : Int32) : Nat → Int64
  | 0 => 0
  | i + 1 => plT S h q i + (if (S.2.2.1 5 i = 2 ∧ S.2.2.1 10 i = 4 ∧ ¬ S.2.2.1 14 i = 0 ∧ S.2.2.1 7 i = h ∧ S.2.2.1 8 i = q) then (S.2.2.1 9 i).toInt64 else 0)
def mpled (S : MS) (h q : Int32) : Int64 := if S.2.2.2 15 (10 * h + q).toNatClampNeg < plT S h q (S.1 4).toNatClampNeg then S.2.2.2 15 (10 * h + q).toNatClampNeg else plT S h q (S.1 4).toNatClampNeg

set_option maxHeartbeats 4000000 in
set_option maxRecDepth 100000 in
/-- a claim of rank 0 -/
theorem M_pledged (l : Launch) (D : va_G) (cy : Nat → ClassId) (a : Nat → Nat) (S : MS) (hI : minv S) (h q : Int32) (hh : vp_in h 10) (hq : vp_in q 10) : Ct l D clx (tyx cy) yX9_pledged wsX9_pledged (rmD 1) 0 0 [.ref (a 0), .int h, .int q] (MW cy a S) (fun r9 w9 => r9 = some (.long (mpled S h q)) ∧ w9 = MW cy a S) := by
  refine g_start (cc := cX9_pledged) (maxL := 7) (ret := (some .long)) (by decide) rfl (Nat.le_of_ble_eq_true rfl) (fun v w1 h => by obtain ⟨rfl, -⟩ := h; exact rfl) (fun Γ hlΓ => ?_)
  subst hlΓ
  obtain ⟨N9, hN9, eN9⟩ := mbN hI
  refine g_lconst 0 rfl dX9_pledged_0 ?_
  refine g_lstore_n (i := 3) dX9_pledged_1 rfl (by decide) ?_
  refine g_iconst (0) rfl dX9_pledged_2 ?_
  refine g_istore dX9_pledged_3 (by decide) ?_
  refine g_cnt N9 (fun i => True) (fun i => MW cy a S) (fun i => [(0, .ref (a 0)), (1, .int h), (2, .int q), (3, .long (plT S h q i)), (5, .int (nI i))]) 0 (by first | decide | omega) trivial (by rfl) (by refine ⟨rfl, rfl, rfl, rfl, rfl, trivial⟩) ?_ (fun i1 hi1 gi1 ihi1 => ?_)
  · intro gN
    refine g_iload dX9_pledged_5 rfl ?_
    refine g_aload_n (i := 0) dX9_pledged_7 rfl rfl ?_
    refine m_get 4 dX9_pledged_8 (List.mem_of_getElem? (i := 1) rfl) (fun w h => List.mem_cons_of_mem _ (List.mem_append_right _ h)) (by decide) rfl ?_
    refine g_icmp_ge 101 dX9_pledged_11 (by decide) (fun c_2 => ?_) (fun c_2 => ?_)
    · skip
      refine g_lload_n (i := 3) dX9_pledged_101 rfl rfl ?_
      refine g_aload_n (i := 0) dX9_pledged_102 rfl rfl ?_
      refine m_get 15 dX9_pledged_103 (List.mem_of_getElem? (i := 8) rfl) (fun w h => List.mem_cons_of_mem _ (List.mem_append_right _ h)) (by decide) rfl ?_
      refine g_bipush (10) rfl dX9_pledged_106 ?_
      refine g_iload_n (i := 1) dX9_pledged_108 rfl rfl ?_
      refine g_imul dX9_pledged_109 ?_
      refine g_iload_n (i := 2) dX9_pledged_110 rfl rfl ?_
      refine g_iadd dX9_pledged_111 ?_
      refine m_lald 15 13 100 dX9_pledged_112 rfl (ix100 hh hq) ?_
      refine g_mminL (List.mem_of_getElem? (i := 9) rfl) (List.mem_of_getElem? (i := 10) rfl) (List.mem_of_getElem? (i := 11) rfl) (List.mem_of_getElem? (i := 12) rfl) (Nat.le_of_ble_eq_true rfl) (by exact Nat.le_of_ble_eq_true rfl) (Nat.le_of_ble_eq_true rfl) (Nat.le_of_ble_eq_true rfl) dX9_pledged_113 ?_
      refine g_lret dX9_pledged_116 ?_
      refine ⟨?_, rfl⟩
      unfold mpled; rw [eN9, nI_clamp (by omega)]
    · skip
      exact absurd (by rw [eN9]; exact nI_le (Nat.le_refl _) (by omega)) c_2
  · skip
    refine g_iload dX9_pledged_5 rfl ?_
    refine g_aload_n (i := 0) dX9_pledged_7 rfl rfl ?_
    refine m_get 4 dX9_pledged_8 (List.mem_of_getElem? (i := 1) rfl) (fun w h => List.mem_cons_of_mem _ (List.mem_append_right _ h)) (by decide) rfl ?_
    refine g_icmp_ge 101 dX9_pledged_11 (by decide) (fun c_3 => ?_) (fun c_3 => ?_)
    · skip
      exact absurd c_3 (by rw [eN9]; exact nI_ge hi1 (by omega))
    · skip
      refine g_aload_n (i := 0) dX9_pledged_14 rfl rfl ?_
      refine m_get 5 dX9_pledged_15 (List.mem_of_getElem? (i := 2) rfl) (fun w h => List.mem_cons_of_mem _ (List.mem_append_right _ h)) (by decide) rfl ?_
      refine g_iload dX9_pledged_18 rfl ?_
      refine m_ialdN 5 3 40 dX9_pledged_20 rfl (by omega) (by decide) ?_
      refine g_iconst (2) rfl dX9_pledged_21 ?_
      refine g_icmp_ne 72 dX9_pledged_22 (by decide) (fun c_4 => ?_) (fun c_4 => ?_)
      · skip
        refine g_iconst (0) rfl dX9_pledged_72 ?_
        refine g_istore dX9_pledged_73 (by decide) ?_
        refine g_lload_n (i := 3) dX9_pledged_75 rfl rfl ?_
        refine g_iload dX9_pledged_76 rfl ?_
        refine g_if_eq 92 dX9_pledged_78 (by decide) (fun _ => ?_) (fun h9 => absurd h9 (by decide))
        refine g_lconst 0 rfl dX9_pledged_92 ?_
        refine g_ladd dX9_pledged_93 ?_
        refine g_lstore_n (i := 3) dX9_pledged_94 rfl (by decide) ?_
        refine g_iinc (1) dX9_pledged_95 rfl rfl (by decide) ?_
        refine g_goto 5 dX9_pledged_98 (by decide) ?_
        refine g_to _ _ (ihi1 trivial) rfl ⟨rfl, rfl, rfl, (congrArg (fun z => some (Value.long z)) (by show _ = plT S h q i1 + (if _ then _ else _); first | rw [if_pos ⟨by assumption, by assumption, by assumption, by assumption, by assumption⟩] | rw [if_neg (fun h9 => absurd h9.1 (by assumption))] | rw [if_neg (fun h9 => absurd h9.2.1 (by assumption))] | rw [if_neg (fun h9 => absurd h9.2.2.2.1 (by assumption))] | rw [if_neg (fun h9 => absurd h9.2.2.2.2 (by assumption))] | rw [if_neg (fun h9 => absurd (by assumption) h9.2.2.1)])), (by rw [← nI_1]; rfl), trivial⟩
      · skip
        refine g_aload_n (i := 0) dX9_pledged_25 rfl rfl ?_
        refine m_get 10 dX9_pledged_26 (List.mem_of_getElem? (i := 3) rfl) (fun w h => List.mem_cons_of_mem _ (List.mem_append_right _ h)) (by decide) rfl ?_
        refine g_iload dX9_pledged_29 rfl ?_
        refine m_ialdN 10 8 40 dX9_pledged_31 rfl (by omega) (by decide) ?_
        refine g_iconst (4) rfl dX9_pledged_32 ?_
        refine g_icmp_ne 72 dX9_pledged_33 (by decide) (fun c_6 => ?_) (fun c_6 => ?_)
        · skip
          refine g_iconst (0) rfl dX9_pledged_72 ?_
          refine g_istore dX9_pledged_73 (by decide) ?_
          refine g_lload_n (i := 3) dX9_pledged_75 rfl rfl ?_
          refine g_iload dX9_pledged_76 rfl ?_
          refine g_if_eq 92 dX9_pledged_78 (by decide) (fun _ => ?_) (fun h9 => absurd h9 (by decide))
          refine g_lconst 0 rfl dX9_pledged_92 ?_
          refine g_ladd dX9_pledged_93 ?_
          refine g_lstore_n (i := 3) dX9_pledged_94 rfl (by decide) ?_
          refine g_iinc (1) dX9_pledged_95 rfl rfl (by decide) ?_
          refine g_goto 5 dX9_pledged_98 (by decide) ?_
          refine g_to _ _ (ihi1 trivial) rfl ⟨rfl, rfl, rfl, (congrArg (fun z => some (Value.long z)) (by show _ = plT S h q i1 + (if _ then _ else _); first | rw [if_pos ⟨by assumption, by assumption, by assumption, by assumption, by assumption⟩] | rw [if_neg (fun h9 => absurd h9.1 (by assumption))] | rw [if_neg (fun h9 => absurd h9.2.1 (by assumption))] | rw [if_neg (fun h9 => absurd h9.2.2.2.1 (by assumption))] | rw [if_neg (fun h9 => absurd h9.2.2.2.2 (by assumption))] | rw [if_neg (fun h9 => absurd (by assumption) h9.2.2.1)])), (by rw [← nI_1]; rfl), trivial⟩
        · skip
          refine g_aload_n (i := 0) dX9_pledged_36 rfl rfl ?_
          refine m_get 14 dX9_pledged_37 (List.mem_of_getElem? (i := 4) rfl) (fun w h => List.mem_cons_of_mem _ (List.mem_append_right _ h)) (by decide) rfl ?_
          refine g_iload dX9_pledged_40 rfl ?_
          refine m_zaldN 14 12 40 dX9_pledged_42 rfl (by omega) (by decide) ?_
          refine g_if_eq 72 dX9_pledged_43 (by decide) (fun c_8 => ?_) (fun c_8 => ?_)
          · skip
            refine g_iconst (0) rfl dX9_pledged_72 ?_
            refine g_istore dX9_pledged_73 (by decide) ?_
            refine g_lload_n (i := 3) dX9_pledged_75 rfl rfl ?_
            refine g_iload dX9_pledged_76 rfl ?_
            refine g_if_eq 92 dX9_pledged_78 (by decide) (fun _ => ?_) (fun h9 => absurd h9 (by decide))
            refine g_lconst 0 rfl dX9_pledged_92 ?_
            refine g_ladd dX9_pledged_93 ?_
            refine g_lstore_n (i := 3) dX9_pledged_94 rfl (by decide) ?_
            refine g_iinc (1) dX9_pledged_95 rfl rfl (by decide) ?_
            refine g_goto 5 dX9_pledged_98 (by decide) ?_
            refine g_to _ _ (ihi1 trivial) rfl ⟨rfl, rfl, rfl, (congrArg (fun z => some (Value.long z)) (by show _ = plT S h q i1 + (if _ then _ else _); first | rw [if_pos ⟨by assumption, by assumption, by assumption, by assumption, by assumption⟩] | rw [if_neg (fun h9 => absurd h9.1 (by assumption))] | rw [if_neg (fun h9 => absurd h9.2.1 (by assumption))] | rw [if_neg (fun h9 => absurd h9.2.2.2.1 (by assumption))] | rw [if_neg (fun h9 => absurd h9.2.2.2.2 (by assumption))] | rw [if_neg (fun h9 => absurd (by assumption) h9.2.2.1)])), (by rw [← nI_1]; rfl), trivial⟩
          · skip
            refine g_aload_n (i := 0) dX9_pledged_46 rfl rfl ?_
            refine m_get 7 dX9_pledged_47 (List.mem_of_getElem? (i := 5) rfl) (fun w h => List.mem_cons_of_mem _ (List.mem_append_right _ h)) (by decide) rfl ?_
            refine g_iload dX9_pledged_50 rfl ?_
            refine m_ialdN 7 5 40 dX9_pledged_52 rfl (by omega) (by decide) ?_
            refine g_iload_n (i := 1) dX9_pledged_53 rfl rfl ?_
            refine g_icmp_ne 72 dX9_pledged_54 (by decide) (fun c_10 => ?_) (fun c_10 => ?_)
            · skip
              refine g_iconst (0) rfl dX9_pledged_72 ?_
              refine g_istore dX9_pledged_73 (by decide) ?_
              refine g_lload_n (i := 3) dX9_pledged_75 rfl rfl ?_
              refine g_iload dX9_pledged_76 rfl ?_
              refine g_if_eq 92 dX9_pledged_78 (by decide) (fun _ => ?_) (fun h9 => absurd h9 (by decide))
              refine g_lconst 0 rfl dX9_pledged_92 ?_
              refine g_ladd dX9_pledged_93 ?_
              refine g_lstore_n (i := 3) dX9_pledged_94 rfl (by decide) ?_
              refine g_iinc (1) dX9_pledged_95 rfl rfl (by decide) ?_
              refine g_goto 5 dX9_pledged_98 (by decide) ?_
              refine g_to _ _ (ihi1 trivial) rfl ⟨rfl, rfl, rfl, (congrArg (fun z => some (Value.long z)) (by show _ = plT S h q i1 + (if _ then _ else _); first | rw [if_pos ⟨by assumption, by assumption, by assumption, by assumption, by assumption⟩] | rw [if_neg (fun h9 => absurd h9.1 (by assumption))] | rw [if_neg (fun h9 => absurd h9.2.1 (by assumption))] | rw [if_neg (fun h9 => absurd h9.2.2.2.1 (by assumption))] | rw [if_neg (fun h9 => absurd h9.2.2.2.2 (by assumption))] | rw [if_neg (fun h9 => absurd (by assumption) h9.2.2.1)])), (by rw [← nI_1]; rfl), trivial⟩
            · skip
              refine g_aload_n (i := 0) dX9_pledged_57 rfl rfl ?_
              refine m_get 8 dX9_pledged_58 (List.mem_of_getElem? (i := 6) rfl) (fun w h => List.mem_cons_of_mem _ (List.mem_append_right _ h)) (by decide) rfl ?_
              refine g_iload dX9_pledged_61 rfl ?_
              refine m_ialdN 8 6 40 dX9_pledged_63 rfl (by omega) (by decide) ?_
              refine g_iload_n (i := 2) dX9_pledged_64 rfl rfl ?_
              refine g_icmp_ne 72 dX9_pledged_65 (by decide) (fun c_12 => ?_) (fun c_12 => ?_)
              · skip
                refine g_iconst (0) rfl dX9_pledged_72 ?_
                refine g_istore dX9_pledged_73 (by decide) ?_
                refine g_lload_n (i := 3) dX9_pledged_75 rfl rfl ?_
                refine g_iload dX9_pledged_76 rfl ?_
                refine g_if_eq 92 dX9_pledged_78 (by decide) (fun _ => ?_) (fun h9 => absurd h9 (by decide))
                refine g_lconst 0 rfl dX9_pledged_92 ?_
                refine g_ladd dX9_pledged_93 ?_
                refine g_lstore_n (i := 3) dX9_pledged_94 rfl (by decide) ?_
                refine g_iinc (1) dX9_pledged_95 rfl rfl (by decide) ?_
                refine g_goto 5 dX9_pledged_98 (by decide) ?_
                refine g_to _ _ (ihi1 trivial) rfl ⟨rfl, rfl, rfl, (congrArg (fun z => some (Value.long z)) (by show _ = plT S h q i1 + (if _ then _ else _); first | rw [if_pos ⟨by assumption, by assumption, by assumption, by assumption, by assumption⟩] | rw [if_neg (fun h9 => absurd h9.1 (by assumption))] | rw [if_neg (fun h9 => absurd h9.2.1 (by assumption))] | rw [if_neg (fun h9 => absurd h9.2.2.2.1 (by assumption))] | rw [if_neg (fun h9 => absurd h9.2.2.2.2 (by assumption))] | rw [if_neg (fun h9 => absurd (by assumption) h9.2.2.1)])), (by rw [← nI_1]; rfl), trivial⟩
              · skip
                refine g_iconst (1) rfl dX9_pledged_68 ?_
                refine g_goto 73 dX9_pledged_69 (by decide) ?_
                refine g_istore dX9_pledged_73 (by decide) ?_
                refine g_lload_n (i := 3) dX9_pledged_75 rfl rfl ?_
                refine g_iload dX9_pledged_76 rfl ?_
                refine g_if_eq 92 dX9_pledged_78 (by decide) (fun h9 => absurd h9 (by decide)) (fun _ => ?_)
                refine g_aload_n (i := 0) dX9_pledged_81 rfl rfl ?_
                refine m_get 9 dX9_pledged_82 (List.mem_of_getElem? (i := 7) rfl) (fun w h => List.mem_cons_of_mem _ (List.mem_append_right _ h)) (by decide) rfl ?_
                refine g_iload dX9_pledged_85 rfl ?_
                refine m_ialdN 9 7 40 dX9_pledged_87 rfl (by omega) (by decide) ?_
                refine g_i2l dX9_pledged_88 ?_
                refine g_goto 93 dX9_pledged_89 (by decide) ?_
                refine g_ladd dX9_pledged_93 ?_
                refine g_lstore_n (i := 3) dX9_pledged_94 rfl (by decide) ?_
                refine g_iinc (1) dX9_pledged_95 rfl rfl (by decide) ?_
                refine g_goto 5 dX9_pledged_98 (by decide) ?_
                refine g_to _ _ (ihi1 trivial) rfl ⟨rfl, rfl, rfl, (congrArg (fun z => some (Value.long z)) (by show _ = plT S h q i1 + (if _ then _ else _); first | rw [if_pos ⟨by assumption, by assumption, by assumption, by assumption, by assumption⟩] | rw [if_neg (fun h9 => absurd h9.1 (by assumption))] | rw [if_neg (fun h9 => absurd h9.2.1 (by assumption))] | rw [if_neg (fun h9 => absurd h9.2.2.2.1 (by assumption))] | rw [if_neg (fun h9 => absurd h9.2.2.2.2 (by assumption))] | rw [if_neg (fun h9 => absurd (by assumption) h9.2.2.1)])), (by rw [← nI_1]; rfl), trivial⟩

def shA (S : MS) : Nat → Int64
  | 0 => 0
  | i + 1 => shA S i + S.2.2.2 53 i
/-- all claims are met -/
def shG (S : MS) : Nat → MS
  | 0 => S
  | i + 1 => sB (shG S i) 54 i ((shG S i).2.2.2 54 i + (shG S i).2.2.2 53 i)
/-- each gets its portion; what is left -/
def shP (S : MS) (sm al : Int64) : Nat → MS
  | 0 => S
  | i + 1 => sB (shP S sm al i) 54 i ((shP S sm al i).2.2.2 54 i + sm * (shP S sm al i).2.2.2 53 i / al)
def shL (S : MS) (sm al : Int64) : Nat → Int64
  | 0 => sm
  | i + 1 => shL S sm al i - sm * (shP S sm al i).2.2.2 53 i / al
/-- what is left over goes 1 to each that has a claim -/
def shR : Nat → Nat → Int64 → MS → MS
  | 0, _, _, S => S
  | j + 1, i, lf, S => if lf ≤ 0 then S else if S.2.2.2 53 i ≤ 0 then shR j (i + 1) lf S else shR j (i + 1) (lf - 1) (sB S 54 i (S.2.2.2 54 i + 1))
def mf_share (S : MS) (sm : Int64) : Int64 × MS := if sm < shA S 10 then (0, shR 10 0 (shL S sm (shA S 10) 10) (shP S sm (shA S 10) 10)) else (sm - shA S 10, shG S 10)
theorem sh_ne {x y : Int64} (h0 : 0 ≤ x) (h : x < y) : ¬ y = 0 := by
  rw [Int64.le_iff_toInt_le] at h0
  rw [Int64.lt_iff_toInt_lt] at h
  intro e
  rw [e] at h
  exact absurd h (by rw [show (0 : Int64).toInt = 0 from by decide] at h0 ⊢; omega)
theorem shR1 {i : Nat} {lf : Int64} {T X : MS} (hi : i < 10) (h : lf ≤ 0) (g : shR (10 - i) i lf T = X) : T = X := by
  rw [← g, show 10 - i = (10 - (i + 1)) + 1 by omega]
  exact (if_pos h).symm
theorem shR2 {i : Nat} {lf : Int64} {T X : MS} (hi : i < 10) (h : ¬ lf ≤ 0) (h2 : T.2.2.2 53 i ≤ 0) (g : shR (10 - i) i lf T = X) : shR (10 - (i + 1)) (i + 1) lf T = X := by
  rw [← g, show 10 - i = (10 - (i + 1)) + 1 by omega]
  exact ((if_neg h).trans (if_pos h2)).symm
theorem shR3 {i : Nat} {lf : Int64} {T X : MS} (hi : i < 10) (h : ¬ lf ≤ 0) (h2 : ¬ T.2.2.2 53 i ≤ 0) (g : shR (10 - i) i lf T = X) : shR (10 - (i + 1)) (i + 1) (lf - 1) (sB T 54 i (T.2.2.2 54 i + 1)) = X := by
  rw [← g, show 10 - i = (10 - (i + 1)) + 1 by omega]
  exact ((if_neg h).trans (if_neg h2)).symm
theorem nI_lt10 {i : Nat} (hi : i ≤ 10) (h : ¬ (10 : Int32) ≤ nI i) : i < 10 := by
  rcases Nat.lt_or_ge i 10 with q | q
  · exact q
  · exact absurd (nI_le (a := 10) (b := i) q (by omega)) h
theorem nI_ge10 {i : Nat} (hi : i ≤ 10) (h : (10 : Int32) ≤ nI i) : i = 10 := by
  rcases Nat.lt_or_ge i 10 with q | q
  · exact absurd h (nI_ge (a := i) (b := 10) q (by decide))
  · omega

set_option maxHeartbeats 4000000 in
set_option maxRecDepth 100000 in
/-- a sum is parted among the claims -/
theorem M_share (l : Launch) (D : va_G) (cy : Nat → ClassId) (a : Nat → Nat) (S : MS) (sm : Int64) (h0 : 0 ≤ sm) : Ct l D clx (tyx cy) yX9_share wsX9_share (rmD 0) 0 0 [.ref (a 0), .long sm] (MW cy a S) (fun r9 w9 => r9 = some (.long (mf_share S sm).1) ∧ w9 = MW cy a (mf_share S sm).2) := by
  refine g_start (cc := cX9_share) (maxL := 10) (ret := (some .long)) (by decide) rfl (Nat.le_of_ble_eq_true rfl) (fun v w1 h => by obtain ⟨rfl, -⟩ := h; exact rfl) (fun Γ hlΓ => ?_)
  subst hlΓ
  refine g_lconst 0 rfl dX9_share_0 ?_
  refine g_lstore_n (i := 3) dX9_share_1 rfl (by decide) ?_
  refine g_iconst (0) rfl dX9_share_2 ?_
  refine g_istore dX9_share_3 (by decide) ?_
  refine g_cnt 10 (fun i => True) (fun i => MW cy a S) (fun i => [(0, .ref (a 0)), (1, .long sm), (3, .long (shA S i)), (5, .int (nI i))]) 0 (by first | decide | omega) trivial (by rfl) (by refine ⟨rfl, rfl, rfl, rfl, trivial⟩) ?_ (fun i1 hi1 gi1 ihi1 => ?_)
  · intro gN
    refine g_iload dX9_share_5 rfl ?_
    refine g_bipush (10) rfl dX9_share_7 ?_
    refine g_icmp_ge 28 dX9_share_9 (by decide) (fun c_2 => ?_) (fun c_2 => ?_)
    · skip
      refine g_lload_n (i := 1) dX9_share_28 rfl rfl ?_
      refine g_lload_n (i := 3) dX9_share_29 rfl rfl ?_
      refine g_lcmp_lt 71 dX9_share_30 dX9_share_31 (by decide) (fun c_3 => ?_) (fun c_3 => ?_)
      · skip
        refine g_lload_n (i := 1) dX9_share_71 rfl rfl ?_
        refine g_lstore dX9_share_72 (by decide) ?_
        refine g_iconst (0) rfl dX9_share_74 ?_
        refine g_istore dX9_share_75 (by decide) ?_
        refine g_cnt 10 (fun i => True) (fun i => MW cy a (shP S sm (shA S 10) i)) (fun i => [(0, .ref (a 0)), (1, .long sm), (3, .long (shA S 10)), (5, .long (shL S sm (shA S 10) i)), (7, .int (nI i))]) 0 (by first | decide | omega) trivial (by rfl) (by refine ⟨rfl, rfl, rfl, rfl, rfl, trivial⟩) ?_ (fun i4 hi4 gi4 ihi4 => ?_)
        · intro gN
          refine g_iload dX9_share_77 rfl ?_
          refine g_bipush (10) rfl dX9_share_79 ?_
          refine g_icmp_ge 122 dX9_share_81 (by decide) (fun c_5 => ?_) (fun c_5 => ?_)
          · skip
            refine g_iconst (0) rfl dX9_share_122 ?_
            refine g_istore dX9_share_123 (by decide) ?_
            refine g_whl (σ := Nat × Int64 × MS) (fun x => 10 - x.1) (fun x => x.1 ≤ 10 ∧ shR (10 - x.1) x.1 x.2.1 x.2.2 = shR 10 0 (shL S sm (shA S 10) 10) (shP S sm (shA S 10) 10)) (fun x => MW cy a x.2.2) (fun x => [(0, .ref (a 0)), (1, .long sm), (3, .long (shA S 10)), (5, .long x.2.1), (7, .int (nI x.1))]) (0, shL S sm (shA S 10) 10, shP S sm (shA S 10) 10) ⟨Nat.zero_le _, rfl⟩ rfl ⟨rfl, rfl, rfl, rfl, rfl, trivial⟩ (fun x gx ih => ?_)
            obtain ⟨i, lf, T⟩ := x
            obtain ⟨hi, gx⟩ := gx
            replace hi : i ≤ 10 := hi
            replace gx : shR (10 - i) i lf T = shR 10 0 (shL S sm (shA S 10) 10) (shP S sm (shA S 10) 10) := gx
            refine g_iload dX9_share_125 rfl ?_
            refine g_bipush (10) rfl dX9_share_127 ?_
            refine g_icmp_ge 174 dX9_share_129 (by decide) (fun c_7 => ?_) (fun c_7 => ?_)
            · skip
              have e10 : i = 10 := nI_ge10 hi c_7
              subst e10
              have gX : T = shR 10 0 (shL S sm (shA S 10) 10) (shP S sm (shA S 10) 10) := gx
              refine g_lconst 0 rfl dX9_share_174 ?_
              refine g_lret dX9_share_175 ?_
              unfold mf_share; rw [if_pos (by assumption), gX]; exact ⟨rfl, rfl⟩
            · skip
              have hlt : i < 10 := nI_lt10 hi c_7
              refine g_lload dX9_share_132 rfl ?_
              refine g_lconst 0 rfl dX9_share_134 ?_
              refine g_lcmp_le 174 dX9_share_135 dX9_share_136 (by decide) (fun c_8 => ?_) (fun c_8 => ?_)
              · skip
                have gX : T = shR 10 0 (shL S sm (shA S 10) 10) (shP S sm (shA S 10) 10) := shR1 hlt c_8 gx
                refine g_lconst 0 rfl dX9_share_174 ?_
                refine g_lret dX9_share_175 ?_
                unfold mf_share; rw [if_pos (by assumption), gX]; exact ⟨rfl, rfl⟩
              · skip
                refine g_aload_n (i := 0) dX9_share_139 rfl rfl ?_
                refine m_get 53 dX9_share_140 (List.mem_of_getElem? (i := 1) rfl) (fun w h => List.mem_cons_of_mem _ (List.mem_append_right _ h)) (by decide) rfl ?_
                refine g_iload dX9_share_143 rfl ?_
                refine m_laldN 53 38 10 dX9_share_145 rfl (by omega) (by decide) ?_
                refine g_lconst 0 rfl dX9_share_146 ?_
                refine g_lcmp_le 168 dX9_share_147 dX9_share_148 (by decide) (fun c_9 => ?_) (fun c_9 => ?_)
                · skip
                  refine g_iinc (1) dX9_share_168 rfl rfl (by decide) ?_
                  refine g_goto 125 dX9_share_171 (by decide) ?_
                  first | exact g_to _ _ (ih (i + 1, lf, T) ⟨(by show i + 1 ≤ 10; omega), shR2 hlt (by assumption) (by assumption) gx⟩ (by show 10 - (i + 1) < 10 - i; omega)) rfl ⟨rfl, rfl, rfl, rfl, (by rw [← nI_1]; rfl), trivial⟩ | exact g_to _ _ (ih (i + 1, lf - 1, sB T 54 i (T.2.2.2 54 i + 1)) ⟨(by show i + 1 ≤ 10; omega), shR3 hlt (by assumption) (by assumption) gx⟩ (by show 10 - (i + 1) < 10 - i; omega)) rfl ⟨rfl, rfl, rfl, rfl, (by rw [← nI_1]; rfl), trivial⟩
                · skip
                  refine g_aload_n (i := 0) dX9_share_151 rfl rfl ?_
                  refine m_get 54 dX9_share_152 (List.mem_of_getElem? (i := 2) rfl) (fun w h => List.mem_cons_of_mem _ (List.mem_append_right _ h)) (by decide) rfl ?_
                  refine g_iload dX9_share_155 rfl ?_
                  refine g_dup2_11 rfl rfl dX9_share_157 ?_
                  refine m_laldN 54 39 10 dX9_share_158 rfl (by omega) (by decide) ?_
                  refine g_lconst 1 rfl dX9_share_159 ?_
                  refine g_ladd dX9_share_160 ?_
                  refine m_lastN 54 39 10 dX9_share_161 rfl (by omega) (by decide) (wsA_54 _ _ _ _ _) ?_
                  refine g_lload dX9_share_162 rfl ?_
                  refine g_lconst 1 rfl dX9_share_164 ?_
                  refine g_lsub dX9_share_165 ?_
                  refine g_lstore dX9_share_166 (by decide) ?_
                  refine g_iinc (1) dX9_share_168 rfl rfl (by decide) ?_
                  refine g_goto 125 dX9_share_171 (by decide) ?_
                  first | exact g_to _ _ (ih (i + 1, lf, T) ⟨(by show i + 1 ≤ 10; omega), shR2 hlt (by assumption) (by assumption) gx⟩ (by show 10 - (i + 1) < 10 - i; omega)) rfl ⟨rfl, rfl, rfl, rfl, (by rw [← nI_1]; rfl), trivial⟩ | exact g_to _ _ (ih (i + 1, lf - 1, sB T 54 i (T.2.2.2 54 i + 1)) ⟨(by show i + 1 ≤ 10; omega), shR3 hlt (by assumption) (by assumption) gx⟩ (by show 10 - (i + 1) < 10 - i; omega)) rfl ⟨rfl, rfl, rfl, rfl, (by rw [← nI_1]; rfl), trivial⟩
          · skip
            exact absurd (nI_le (Nat.le_refl _) (by first | decide | omega)) c_5
        · skip
          refine g_iload dX9_share_77 rfl ?_
          refine g_bipush (10) rfl dX9_share_79 ?_
          refine g_icmp_ge 122 dX9_share_81 (by decide) (fun c_10 => ?_) (fun c_10 => ?_)
          · skip
            exact absurd c_10 (nI_ge hi4 (by first | decide | omega))
          · skip
            refine g_lload_n (i := 1) dX9_share_84 rfl rfl ?_
            refine g_aload_n (i := 0) dX9_share_85 rfl rfl ?_
            refine m_get 53 dX9_share_86 (List.mem_of_getElem? (i := 1) rfl) (fun w h => List.mem_cons_of_mem _ (List.mem_append_right _ h)) (by decide) rfl ?_
            refine g_iload dX9_share_89 rfl ?_
            refine m_laldN 53 38 10 dX9_share_91 rfl (by omega) (by decide) ?_
            refine g_lmul dX9_share_92 ?_
            refine g_lload_n (i := 3) dX9_share_93 rfl rfl ?_
            refine g_ldiv (sh_ne h0 (by assumption)) dX9_share_94 ?_
            refine g_lstore dX9_share_95 (by decide) ?_
            refine g_aload_n (i := 0) dX9_share_97 rfl rfl ?_
            refine m_get 54 dX9_share_98 (List.mem_of_getElem? (i := 2) rfl) (fun w h => List.mem_cons_of_mem _ (List.mem_append_right _ h)) (by decide) rfl ?_
            refine g_iload dX9_share_101 rfl ?_
            refine g_dup2_11 rfl rfl dX9_share_103 ?_
            refine m_laldN 54 39 10 dX9_share_104 rfl (by omega) (by decide) ?_
            refine g_lload dX9_share_105 rfl ?_
            refine g_ladd dX9_share_107 ?_
            refine m_lastN 54 39 10 dX9_share_108 rfl (by omega) (by decide) (wsA_54 _ _ _ _ _) ?_
            refine g_lload dX9_share_109 rfl ?_
            refine g_lload dX9_share_111 rfl ?_
            refine g_lsub dX9_share_113 ?_
            refine g_lstore dX9_share_114 (by decide) ?_
            refine g_iinc (1) dX9_share_116 rfl rfl (by decide) ?_
            refine g_goto 77 dX9_share_119 (by decide) ?_
            refine g_to _ _ (ihi4 (trivial)) rfl (by refine ⟨(by first | rfl | (rw [← nI_1]; rfl) | (rw [← nI_1]; rfl)), (by first | rfl | (rw [← nI_1]; rfl) | (rw [← nI_1]; rfl)), (by first | rfl | (rw [← nI_1]; rfl) | (rw [← nI_1]; rfl)), (by first | rfl | (rw [← nI_1]; rfl) | (rw [← nI_1]; rfl)), (by first | rfl | (rw [← nI_1]; rfl) | (rw [← nI_1]; rfl)), trivial⟩)
      · skip
        refine g_iconst (0) rfl dX9_share_34 ?_
        refine g_istore dX9_share_35 (by decide) ?_
        refine g_cnt 10 (fun i => True) (fun i => MW cy a (shG S i)) (fun i => [(0, .ref (a 0)), (1, .long sm), (3, .long (shA S 10)), (5, .int (nI i))]) 0 (by first | decide | omega) trivial (by rfl) (by refine ⟨rfl, rfl, rfl, rfl, trivial⟩) ?_ (fun i11 hi11 gi11 ihi11 => ?_)
        · intro gN
          refine g_iload dX9_share_37 rfl ?_
          refine g_bipush (10) rfl dX9_share_39 ?_
          refine g_icmp_ge 67 dX9_share_41 (by decide) (fun c_12 => ?_) (fun c_12 => ?_)
          · skip
            refine g_lload_n (i := 1) dX9_share_67 rfl rfl ?_
            refine g_lload_n (i := 3) dX9_share_68 rfl rfl ?_
            refine g_lsub dX9_share_69 ?_
            refine g_lret dX9_share_70 ?_
            unfold mf_share; rw [if_neg (by assumption)]; exact ⟨rfl, rfl⟩
          · skip
            exact absurd (nI_le (Nat.le_refl _) (by first | decide | omega)) c_12
        · skip
          refine g_iload dX9_share_37 rfl ?_
          refine g_bipush (10) rfl dX9_share_39 ?_
          refine g_icmp_ge 67 dX9_share_41 (by decide) (fun c_13 => ?_) (fun c_13 => ?_)
          · skip
            exact absurd c_13 (nI_ge hi11 (by first | decide | omega))
          · skip
            refine g_aload_n (i := 0) dX9_share_44 rfl rfl ?_
            refine m_get 54 dX9_share_45 (List.mem_of_getElem? (i := 2) rfl) (fun w h => List.mem_cons_of_mem _ (List.mem_append_right _ h)) (by decide) rfl ?_
            refine g_iload dX9_share_48 rfl ?_
            refine g_dup2_11 rfl rfl dX9_share_50 ?_
            refine m_laldN 54 39 10 dX9_share_51 rfl (by omega) (by decide) ?_
            refine g_aload_n (i := 0) dX9_share_52 rfl rfl ?_
            refine m_get 53 dX9_share_53 (List.mem_of_getElem? (i := 1) rfl) (fun w h => List.mem_cons_of_mem _ (List.mem_append_right _ h)) (by decide) rfl ?_
            refine g_iload dX9_share_56 rfl ?_
            refine m_laldN 53 38 10 dX9_share_58 rfl (by omega) (by decide) ?_
            refine g_ladd dX9_share_59 ?_
            refine m_lastN 54 39 10 dX9_share_60 rfl (by omega) (by decide) (wsA_54 _ _ _ _ _) ?_
            refine g_iinc (1) dX9_share_61 rfl rfl (by decide) ?_
            refine g_goto 37 dX9_share_64 (by decide) ?_
            refine g_to _ _ (ihi11 (trivial)) rfl (by refine ⟨(by first | rfl | (rw [← nI_1]; rfl) | (rw [← nI_1]; rfl)), (by first | rfl | (rw [← nI_1]; rfl) | (rw [← nI_1]; rfl)), (by first | rfl | (rw [← nI_1]; rfl) | (rw [← nI_1]; rfl)), (by first | rfl | (rw [← nI_1]; rfl) | (rw [← nI_1]; rfl)), trivial⟩)
    · skip
      exact absurd (nI_le (Nat.le_refl _) (by first | decide | omega)) c_2
  · skip
    refine g_iload dX9_share_5 rfl ?_
    refine g_bipush (10) rfl dX9_share_7 ?_
    refine g_icmp_ge 28 dX9_share_9 (by decide) (fun c_14 => ?_) (fun c_14 => ?_)
    · skip
      exact absurd c_14 (nI_ge hi1 (by first | decide | omega))
    · skip
      refine g_lload_n (i := 3) dX9_share_12 rfl rfl ?_
      refine g_aload_n (i := 0) dX9_share_13 rfl rfl ?_
      refine m_get 53 dX9_share_14 (List.mem_of_getElem? (i := 1) rfl) (fun w h => List.mem_cons_of_mem _ (List.mem_append_right _ h)) (by decide) rfl ?_
      refine g_iload dX9_share_17 rfl ?_
      refine m_laldN 53 38 10 dX9_share_19 rfl (by omega) (by decide) ?_
      refine g_ladd dX9_share_20 ?_
      refine g_lstore_n (i := 3) dX9_share_21 rfl (by decide) ?_
      refine g_iinc (1) dX9_share_22 rfl rfl (by decide) ?_
      refine g_goto 5 dX9_share_25 (by decide) ?_
      refine g_to _ _ (ihi1 (trivial)) rfl (by refine ⟨(by first | rfl | (rw [← nI_1]; rfl) | (rw [← nI_1]; rfl)), (by first | rfl | (rw [← nI_1]; rfl) | (rw [← nI_1]; rfl)), (by first | rfl | (rw [← nI_1]; rfl) | (rw [← nI_1]; rfl)), (by first | rfl | (rw [← nI_1]; rfl) | (rw [← nI_1]; rfl)), trivial⟩)

