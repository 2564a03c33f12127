theorem vpi4 {i : Int32} (h : 0 ≤ i ∧ i ≤ 3) : vp_in i 4 := vpi h.1 h.2 (by decide)
theorem vpn4 {i : Int32} (h : -1 ≤ i ∧ i ≤ 3) (h0 : ¬ i < 0) : vp_in i 4 := vpi (Int32.not_lt.mp h0) h.2 (by decide)
theorem ix40 {h q : Int32} (hh : vp_in h 10) (hq : vp_in q 4) : vp_in (4 * h + q) 40 := ixm 4 10 hh hq (by decide) (by decide) (by decide)
theorem ix50 {h q : Int32} (hh : vp_in h 10) (hq : vp_in q 5) : vp_in (5 * h + q) 50 := ixm 5 10 hh hq (by decide) (by decide) (by decide)
theorem ix25 {h q : Int32} (hh : vp_in h 5) (hq : vp_in q 5) : vp_in (5 * h + q) 25 := ixm 5 5 hh hq (by decide) (by decide) (by decide)
theorem ix200 {h q : Int32} (hh : vp_in h 40) (hq : vp_in q 5) : vp_in (5 * h + q) 200 := ixm 5 40 hh hq (by decide) (by decide) (by decide)
theorem ix160 {h q : Int32} (hh : vp_in h 40) (hq : vp_in q 4) : vp_in (4 * h + q) 160 := ixm 4 40 hh hq (by decide) (by decide) (by decide)
theorem vp_nat {x : Int32} {n : Nat} (h : vp_in x n) : x.toNatClampNeg < n := Nat.not_le.mp fun q => h (Or.inr q)
theorem mtell {S : MS} (hI : minv S) (h : ¬ S.1 20 = 30) : vp_in (S.1 20) 30 := by
  obtain ⟨-, ⟨h1, h2⟩, -⟩ := hI
  rw [vp_in_iff]
  refine ⟨h1, ?_⟩
  have h3 : (S.1 20).toInt ≠ 30 := fun e => h (Int32.toInt_inj.mp (e.trans (by decide)))
  omega
theorem mend {S : MS} (hI : minv S) {b : Int32} (hb : vp_in b 40) (h : ¬ S.2.2.1 11 b.toNatClampNeg = 4) : vp_in (S.2.2.1 11 b.toNatClampNeg) 4 := by
  obtain ⟨-, -, -, -, he, -⟩ := hI
  have h2 := he _ (vp_nat hb)
  rw [vp_in_iff]
  refine ⟨h2.1, ?_⟩
  have h3 : (S.2.2.1 11 b.toNatClampNeg).toInt ≠ 4 := fun e => h (Int32.toInt_inj.mp (e.trans (by decide)))
  omega
theorem mhol {S : MS} (hI : minv S) {b : Int32} (hb : vp_in b 40) : vp_in (S.2.2.1 6 b.toNatClampNeg) 10 ∧ vp_in (S.2.2.1 7 b.toNatClampNeg) 10 ∧ vp_in (S.2.2.1 8 b.toNatClampNeg) 10 ∧ vp_in (S.2.2.1 10 b.toNatClampNeg) 5 := hI.2.2.2.2.2.1 _ (vp_nat hb)

def mf_drawn (S : MS) (b kd dr de py am : Int32) : MS := mf_becomes (sB (sB (sB (sB (sB (sA (sA (sA (sA (sA (sA (sA S 5 b.toNatClampNeg kd) 6 b.toNatClampNeg dr) 7 b.toNatClampNeg de) 8 b.toNatClampNeg py) 9 b.toNatClampNeg am) 11 b.toNatClampNeg 0) 14 b.toNatClampNeg (vp_nar .boolean 0)) 13 (5 * b + 0).toNatClampNeg (-1)) 13 (5 * b + (0 + 1)).toNatClampNeg (-1)) 13 (5 * b + (0 + 1 + 1)).toNatClampNeg (-1)) 13 (5 * b + (0 + 1 + 1 + 1)).toNatClampNeg (-1)) 13 (5 * b + (0 + 1 + 1 + 1 + 1)).toNatClampNeg (-1)) b 0
def mf_draw (S : MS) (kd dr de py am : Int32) : Int64 × MS := if (0 ≤ kd ∧ kd ≤ 2) ∧ (0 ≤ dr ∧ dr ≤ 9) ∧ (0 ≤ de ∧ de ≤ 9) ∧ (0 ≤ py ∧ py ≤ 9) ∧ (1 ≤ am ∧ am ≤ 100000) then (if dr = py then mf_finding S (-1000000000005) else if S.1 4 = 40 then mf_finding S (-1000000000004) else ((S.1 4).toInt64, sI (mf_drawn S (S.1 4) kd dr de py am) 4 ((mf_drawn S (S.1 4) kd dr de py am).1 4 + 1))) else mf_finding S (-1000000000001)
set_option maxHeartbeats 4000000 in
set_option maxRecDepth 100000 in
/-- draw -/
theorem M_draw (l : Launch) (D : va_G) (cy : Nat → ClassId) (a : Nat → Nat) (S : MS) (hI : minv S) (kd dr de py am : Int32) : Ct l D clx (tyx cy) yX9_draw wsX9_draw (rmD 2) 0 0 [.ref (a 0), .int kd, .int dr, .int de, .int py, .int am] (MW cy a S) (fun r9 w9 => r9 = some (.long (mf_draw S kd dr de py am).1) ∧ w9 = MW cy a (mf_draw S kd dr de py am).2) := by
  refine g_start (cc := cX9_draw) (maxL := 8) (ret := (some .long)) (by decide) rfl (Nat.le_of_ble_eq_true rfl) (fun v w1 h => by obtain ⟨rfl, -⟩ := h; exact rfl) (fun Γ hlΓ => ?_)
  subst hlΓ
  refine g_iload_n (i := 1) dX9_draw_0 rfl rfl ?_
  refine g_iconst (0) rfl dX9_draw_1 ?_
  refine g_iconst (2) rfl dX9_draw_2 ?_
  refine g_callSf 3 gX9_draw_X9_in rfl rfl rfl ⟨Nat.le_of_ble_eq_true rfl, Nat.le_of_ble_eq_true rfl⟩ ⟨Nat.le_of_ble_eq_true rfl, Nat.le_of_ble_eq_true rfl⟩ (by exact Nat.le_of_ble_eq_true rfl) (by decide +kernel) rfl dX9_draw_3 (M_in _ D cy a _ _ _ _) rfl (fun vu_1 wu_1 hu_1 => ?_)
  rcases hu_1 with ⟨rfl, hu_1, rfl⟩ | ⟨rfl, hu_1, rfl⟩
  · skip
    refine g_if_eq 42 dX9_draw_6 (by decide) (fun h9 => absurd h9 (by decide)) (fun _ => ?_)
    refine g_iload_n (i := 2) dX9_draw_9 rfl rfl ?_
    refine g_callSf 1 gX9_draw_X9_isHouse rfl rfl rfl ⟨Nat.le_of_ble_eq_true rfl, Nat.le_of_ble_eq_true rfl⟩ ⟨Nat.le_of_ble_eq_true rfl, Nat.le_of_ble_eq_true rfl⟩ (by exact Nat.le_of_ble_eq_true rfl) (by decide +kernel) rfl dX9_draw_10 (M_isHouse _ D cy a _ _) rfl (fun vu_3 wu_3 hu_3 => ?_)
    rcases hu_3 with ⟨rfl, hu_3, rfl⟩ | ⟨rfl, hu_3, rfl⟩
    · skip
      refine g_if_eq 42 dX9_draw_13 (by decide) (fun h9 => absurd h9 (by decide)) (fun _ => ?_)
      refine g_iload_n (i := 3) dX9_draw_16 rfl rfl ?_
      refine g_callSf 1 gX9_draw_X9_isHouse rfl rfl rfl ⟨Nat.le_of_ble_eq_true rfl, Nat.le_of_ble_eq_true rfl⟩ ⟨Nat.le_of_ble_eq_true rfl, Nat.le_of_ble_eq_true rfl⟩ (by exact Nat.le_of_ble_eq_true rfl) (by decide +kernel) rfl dX9_draw_17 (M_isHouse _ D cy a _ _) rfl (fun vu_5 wu_5 hu_5 => ?_)
      rcases hu_5 with ⟨rfl, hu_5, rfl⟩ | ⟨rfl, hu_5, rfl⟩
      · skip
        refine g_if_eq 42 dX9_draw_20 (by decide) (fun h9 => absurd h9 (by decide)) (fun _ => ?_)
        refine g_iload dX9_draw_23 rfl ?_
        refine g_callSf 1 gX9_draw_X9_isHouse rfl rfl rfl ⟨Nat.le_of_ble_eq_true rfl, Nat.le_of_ble_eq_true rfl⟩ ⟨Nat.le_of_ble_eq_true rfl, Nat.le_of_ble_eq_true rfl⟩ (by exact Nat.le_of_ble_eq_true rfl) (by decide +kernel) rfl dX9_draw_25 (M_isHouse _ D cy a _ _) rfl (fun vu_7 wu_7 hu_7 => ?_)
        rcases hu_7 with ⟨rfl, hu_7, rfl⟩ | ⟨rfl, hu_7, rfl⟩
        · skip
          refine g_if_eq 42 dX9_draw_28 (by decide) (fun h9 => absurd h9 (by decide)) (fun _ => ?_)
          refine g_iload dX9_draw_31 rfl ?_
          refine g_iconst (1) rfl dX9_draw_33 ?_
          refine g_ldc (100000) (List.mem_of_getElem? (i := 1) rfl) dX9_draw_34 ?_
          refine g_callSf 3 gX9_draw_X9_in rfl rfl rfl ⟨Nat.le_of_ble_eq_true rfl, Nat.le_of_ble_eq_true rfl⟩ ⟨Nat.le_of_ble_eq_true rfl, Nat.le_of_ble_eq_true rfl⟩ (by exact Nat.le_of_ble_eq_true rfl) (by decide +kernel) rfl dX9_draw_36 (M_in _ D cy a _ _ _ _) rfl (fun vu_9 wu_9 hu_9 => ?_)
          rcases hu_9 with ⟨rfl, hu_9, rfl⟩ | ⟨rfl, hu_9, rfl⟩
          · skip
            refine g_if_ne 50 dX9_draw_39 (by decide) (fun _ => ?_) (fun h9 => absurd h9 (by decide))
            refine g_iload_n (i := 2) dX9_draw_50 rfl rfl ?_
            refine g_iload dX9_draw_51 rfl ?_
            refine g_icmp_ne 64 dX9_draw_53 (by decide) (fun c_11 => ?_) (fun c_11 => ?_)
            · skip
              refine g_aload_n (i := 0) dX9_draw_64 rfl rfl ?_
              refine m_get 4 dX9_draw_65 (List.mem_of_getElem? (i := 4) rfl) (fun w h => List.mem_cons_of_mem _ (List.mem_append_right _ h)) (by decide) rfl ?_
              refine g_bipush (40) rfl dX9_draw_68 ?_
              refine g_icmp_ne 81 dX9_draw_70 (by decide) (fun c_12 => ?_) (fun c_12 => ?_)
              · skip
                refine g_aload_n (i := 0) dX9_draw_81 rfl rfl ?_
                refine m_get 4 dX9_draw_82 (List.mem_of_getElem? (i := 4) rfl) (fun w h => List.mem_cons_of_mem _ (List.mem_append_right _ h)) (by decide) rfl ?_
                refine g_istore dX9_draw_85 (by decide) ?_
                refine g_aload_n (i := 0) dX9_draw_87 rfl rfl ?_
                refine m_get 5 dX9_draw_88 (List.mem_of_getElem? (i := 6) rfl) (fun w h => List.mem_cons_of_mem _ (List.mem_append_right _ h)) (by decide) rfl ?_
                refine g_iload dX9_draw_91 rfl ?_
                refine g_iload_n (i := 1) dX9_draw_93 rfl rfl ?_
                refine m_iast 5 3 40 dX9_draw_94 rfl (mnew hI (by assumption)) (wsA_5 _ _ _ _ _) ?_
                refine g_aload_n (i := 0) dX9_draw_95 rfl rfl ?_
                refine m_get 6 dX9_draw_96 (List.mem_of_getElem? (i := 7) rfl) (fun w h => List.mem_cons_of_mem _ (List.mem_append_right _ h)) (by decide) rfl ?_
                refine g_iload dX9_draw_99 rfl ?_
                refine g_iload_n (i := 2) dX9_draw_101 rfl rfl ?_
                refine m_iast 6 4 40 dX9_draw_102 rfl (mnew hI (by assumption)) (wsA_6 _ _ _ _ _) ?_
                refine g_aload_n (i := 0) dX9_draw_103 rfl rfl ?_
                refine m_get 7 dX9_draw_104 (List.mem_of_getElem? (i := 8) rfl) (fun w h => List.mem_cons_of_mem _ (List.mem_append_right _ h)) (by decide) rfl ?_
                refine g_iload dX9_draw_107 rfl ?_
                refine g_iload_n (i := 3) dX9_draw_109 rfl rfl ?_
                refine m_iast 7 5 40 dX9_draw_110 rfl (mnew hI (by assumption)) (wsA_7 _ _ _ _ _) ?_
                refine g_aload_n (i := 0) dX9_draw_111 rfl rfl ?_
                refine m_get 8 dX9_draw_112 (List.mem_of_getElem? (i := 9) rfl) (fun w h => List.mem_cons_of_mem _ (List.mem_append_right _ h)) (by decide) rfl ?_
                refine g_iload dX9_draw_115 rfl ?_
                refine g_iload dX9_draw_117 rfl ?_
                refine m_iast 8 6 40 dX9_draw_119 rfl (mnew hI (by assumption)) (wsA_8 _ _ _ _ _) ?_
                refine g_aload_n (i := 0) dX9_draw_120 rfl rfl ?_
                refine m_get 9 dX9_draw_121 (List.mem_of_getElem? (i := 10) rfl) (fun w h => List.mem_cons_of_mem _ (List.mem_append_right _ h)) (by decide) rfl ?_
                refine g_iload dX9_draw_124 rfl ?_
                refine g_iload dX9_draw_126 rfl ?_
                refine m_iast 9 7 40 dX9_draw_128 rfl (mnew hI (by assumption)) (wsA_9 _ _ _ _ _) ?_
                refine g_aload_n (i := 0) dX9_draw_129 rfl rfl ?_
                refine m_get 11 dX9_draw_130 (List.mem_of_getElem? (i := 11) rfl) (fun w h => List.mem_cons_of_mem _ (List.mem_append_right _ h)) (by decide) rfl ?_
                refine g_iload dX9_draw_133 rfl ?_
                refine g_iconst (0) rfl dX9_draw_135 ?_
                refine m_iast 11 9 40 dX9_draw_136 rfl (mnew hI (by assumption)) (wsA_11 _ _ _ _ _) ?_
                refine g_aload_n (i := 0) dX9_draw_137 rfl rfl ?_
                refine m_get 14 dX9_draw_138 (List.mem_of_getElem? (i := 12) rfl) (fun w h => List.mem_cons_of_mem _ (List.mem_append_right _ h)) (by decide) rfl ?_
                refine g_iload dX9_draw_141 rfl ?_
                refine g_iconst (0) rfl dX9_draw_143 ?_
                refine m_zast 14 12 40 dX9_draw_144 rfl (mnew hI (by assumption)) (wsA_14 _ _ _ _ _) ?_
                refine g_iconst (0) rfl dX9_draw_145 ?_
                refine g_istore dX9_draw_146 (by decide) ?_
                refine g_iload dX9_draw_148 rfl ?_
                refine g_iconst (5) rfl dX9_draw_150 ?_
                refine g_icmp_ge 175 dX9_draw_151 (by decide) (fun h9 => absurd h9 (by decide)) (fun _ => ?_)
                refine g_aload_n (i := 0) dX9_draw_154 rfl rfl ?_
                refine m_get 13 dX9_draw_155 (List.mem_of_getElem? (i := 13) rfl) (fun w h => List.mem_cons_of_mem _ (List.mem_append_right _ h)) (by decide) rfl ?_
                refine g_iconst (5) rfl dX9_draw_158 ?_
                refine g_iload dX9_draw_159 rfl ?_
                refine g_imul dX9_draw_161 ?_
                refine g_iload dX9_draw_162 rfl ?_
                refine g_iadd dX9_draw_164 ?_
                refine g_ldc2 (-1) (List.mem_of_getElem? (i := 14) rfl) dX9_draw_165 ?_
                refine m_last 13 11 200 dX9_draw_168 rfl (ix200 (mnew hI (by assumption)) (by unfold vp_in; decide)) (wsA_13 _ _ _ _ _) ?_
                refine g_iinc (1) dX9_draw_169 rfl rfl (by decide) ?_
                refine g_goto 148 dX9_draw_172 (by decide) ?_
                refine g_iload dX9_draw_148 rfl ?_
                refine g_iconst (5) rfl dX9_draw_150 ?_
                refine g_icmp_ge 175 dX9_draw_151 (by decide) (fun h9 => absurd h9 (by decide)) (fun _ => ?_)
                refine g_aload_n (i := 0) dX9_draw_154 rfl rfl ?_
                refine m_get 13 dX9_draw_155 (List.mem_of_getElem? (i := 13) rfl) (fun w h => List.mem_cons_of_mem _ (List.mem_append_right _ h)) (by decide) rfl ?_
                refine g_iconst (5) rfl dX9_draw_158 ?_
                refine g_iload dX9_draw_159 rfl ?_
                refine g_imul dX9_draw_161 ?_
                refine g_iload dX9_draw_162 rfl ?_
                refine g_iadd dX9_draw_164 ?_
                refine g_ldc2 (-1) (List.mem_of_getElem? (i := 14) rfl) dX9_draw_165 ?_
                refine m_last 13 11 200 dX9_draw_168 rfl (ix200 (mnew hI (by assumption)) (by unfold vp_in; decide)) (wsA_13 _ _ _ _ _) ?_
                refine g_iinc (1) dX9_draw_169 rfl rfl (by decide) ?_
                refine g_goto 148 dX9_draw_172 (by decide) ?_
                refine g_iload dX9_draw_148 rfl ?_
                refine g_iconst (5) rfl dX9_draw_150 ?_
                refine g_icmp_ge 175 dX9_draw_151 (by decide) (fun h9 => absurd h9 (by decide)) (fun _ => ?_)
                refine g_aload_n (i := 0) dX9_draw_154 rfl rfl ?_
                refine m_get 13 dX9_draw_155 (List.mem_of_getElem? (i := 13) rfl) (fun w h => List.mem_cons_of_mem _ (List.mem_append_right _ h)) (by decide) rfl ?_
                refine g_iconst (5) rfl dX9_draw_158 ?_
                refine g_iload dX9_draw_159 rfl ?_
                refine g_imul dX9_draw_161 ?_
                refine g_iload dX9_draw_162 rfl ?_
                refine g_iadd dX9_draw_164 ?_
                refine g_ldc2 (-1) (List.mem_of_getElem? (i := 14) rfl) dX9_draw_165 ?_
                refine m_last 13 11 200 dX9_draw_168 rfl (ix200 (mnew hI (by assumption)) (by unfold vp_in; decide)) (wsA_13 _ _ _ _ _) ?_
                refine g_iinc (1) dX9_draw_169 rfl rfl (by decide) ?_
                refine g_goto 148 dX9_draw_172 (by decide) ?_
                refine g_iload dX9_draw_148 rfl ?_
                refine g_iconst (5) rfl dX9_draw_150 ?_
                refine g_icmp_ge 175 dX9_draw_151 (by decide) (fun h9 => absurd h9 (by decide)) (fun _ => ?_)
                refine g_aload_n (i := 0) dX9_draw_154 rfl rfl ?_
                refine m_get 13 dX9_draw_155 (List.mem_of_getElem? (i := 13) rfl) (fun w h => List.mem_cons_of_mem _ (List.mem_append_right _ h)) (by decide) rfl ?_
                refine g_iconst (5) rfl dX9_draw_158 ?_
                refine g_iload dX9_draw_159 rfl ?_
                refine g_imul dX9_draw_161 ?_
                refine g_iload dX9_draw_162 rfl ?_
                refine g_iadd dX9_draw_164 ?_
                refine g_ldc2 (-1) (List.mem_of_getElem? (i := 14) rfl) dX9_draw_165 ?_
                refine m_last 13 11 200 dX9_draw_168 rfl (ix200 (mnew hI (by assumption)) (by unfold vp_in; decide)) (wsA_13 _ _ _ _ _) ?_
                refine g_iinc (1) dX9_draw_169 rfl rfl (by decide) ?_
                refine g_goto 148 dX9_draw_172 (by decide) ?_
                refine g_iload dX9_draw_148 rfl ?_
                refine g_iconst (5) rfl dX9_draw_150 ?_
                refine g_icmp_ge 175 dX9_draw_151 (by decide) (fun h9 => absurd h9 (by decide)) (fun _ => ?_)
                refine g_aload_n (i := 0) dX9_draw_154 rfl rfl ?_
                refine m_get 13 dX9_draw_155 (List.mem_of_getElem? (i := 13) rfl) (fun w h => List.mem_cons_of_mem _ (List.mem_append_right _ h)) (by decide) rfl ?_
                refine g_iconst (5) rfl dX9_draw_158 ?_
                refine g_iload dX9_draw_159 rfl ?_
                refine g_imul dX9_draw_161 ?_
                refine g_iload dX9_draw_162 rfl ?_
                refine g_iadd dX9_draw_164 ?_
                refine g_ldc2 (-1) (List.mem_of_getElem? (i := 14) rfl) dX9_draw_165 ?_
                refine m_last 13 11 200 dX9_draw_168 rfl (ix200 (mnew hI (by assumption)) (by unfold vp_in; decide)) (wsA_13 _ _ _ _ _) ?_
                refine g_iinc (1) dX9_draw_169 rfl rfl (by decide) ?_
                refine g_goto 148 dX9_draw_172 (by decide) ?_
                refine g_iload dX9_draw_148 rfl ?_
                refine g_iconst (5) rfl dX9_draw_150 ?_
                refine g_icmp_ge 175 dX9_draw_151 (by decide) (fun _ => ?_) (fun h9 => absurd h9 (by decide))
                refine g_aload_n (i := 0) dX9_draw_175 rfl rfl ?_
                refine g_iload dX9_draw_176 rfl ?_
                refine g_iconst (0) rfl dX9_draw_178 ?_
                refine g_callVf 2 0 gX9_draw_X9_becomes rfl rfl rfl ⟨Nat.le_of_ble_eq_true rfl, Nat.le_of_ble_eq_true rfl⟩ ⟨Nat.le_of_ble_eq_true rfl, Nat.le_of_ble_eq_true rfl⟩ (by exact Nat.le_of_ble_eq_true rfl) (by decide +kernel) rfl rfl rfl dX9_draw_179 (M_becomes _ D cy a _ _ _ (by first | with_reducible assumption | exact mbill hI (by with_reducible assumption) | exact mnew hI (by with_reducible assumption)) (by unfold vp_in; decide)) rfl (fun vu_19 wu_19 hu_19 => ?_)
                obtain ⟨rfl, rfl⟩ := hu_19
                refine g_aload_n (i := 0) dX9_draw_182 rfl rfl ?_
                refine g_dup rfl dX9_draw_183 ?_
                refine m_get 4 dX9_draw_184 (List.mem_of_getElem? (i := 4) rfl) (fun w h => List.mem_cons_of_mem _ (List.mem_append_right _ h)) (by decide) rfl ?_
                refine g_iconst (1) rfl dX9_draw_187 ?_
                refine g_iadd dX9_draw_188 ?_
                refine m_puti 4 dX9_draw_189 (List.mem_of_getElem? (i := 4) rfl) (fun w h => List.mem_cons_of_mem _ (List.mem_append_right _ h)) (by decide) rfl rfl rfl (wsI_4 _ _ _ _) ?_
                refine g_iload dX9_draw_192 rfl ?_
                refine g_i2l dX9_draw_194 ?_
                refine g_lret dX9_draw_195 ?_
                unfold mf_draw; (repeat' split) <;> first | contradiction | (with_reducible exact ⟨rfl, rfl⟩) | (exfalso; simp_all; done) | exact ⟨rfl, rfl⟩
              · skip
                refine g_aload_n (i := 0) dX9_draw_73 rfl rfl ?_
                refine g_ldc2 (-1000000000004) (List.mem_of_getElem? (i := 5) rfl) dX9_draw_74 ?_
                refine g_callVf 1 0 gX9_draw_X9_finding rfl rfl rfl ⟨Nat.le_of_ble_eq_true rfl, Nat.le_of_ble_eq_true rfl⟩ ⟨Nat.le_of_ble_eq_true rfl, Nat.le_of_ble_eq_true rfl⟩ (by exact Nat.le_of_ble_eq_true rfl) (by decide +kernel) rfl rfl rfl dX9_draw_77 (M_finding _ D cy a _ _ (by unfold vp_in; decide)) rfl (fun vu_20 wu_20 hu_20 => ?_)
                obtain ⟨rfl, rfl⟩ := hu_20
                refine g_lret dX9_draw_80 ?_
                unfold mf_draw; (repeat' split) <;> first | contradiction | (with_reducible exact ⟨rfl, rfl⟩) | (exfalso; simp_all; done) | exact ⟨rfl, rfl⟩
            · skip
              refine g_aload_n (i := 0) dX9_draw_56 rfl rfl ?_
              refine g_ldc2 (-1000000000005) (List.mem_of_getElem? (i := 3) rfl) dX9_draw_57 ?_
              refine g_callVf 1 0 gX9_draw_X9_finding rfl rfl rfl ⟨Nat.le_of_ble_eq_true rfl, Nat.le_of_ble_eq_true rfl⟩ ⟨Nat.le_of_ble_eq_true rfl, Nat.le_of_ble_eq_true rfl⟩ (by exact Nat.le_of_ble_eq_true rfl) (by decide +kernel) rfl rfl rfl dX9_draw_60 (M_finding _ D cy a _ _ (by unfold vp_in; decide)) rfl (fun vu_21 wu_21 hu_21 => ?_)
              obtain ⟨rfl, rfl⟩ := hu_21
              refine g_lret dX9_draw_63 ?_
              unfold mf_draw; (repeat' split) <;> first | contradiction | (with_reducible exact ⟨rfl, rfl⟩) | (exfalso; simp_all; done) | exact ⟨rfl, rfl⟩
          · skip
            refine g_if_ne 50 dX9_draw_39 (by decide) (fun h9 => absurd h9 (by decide)) (fun _ => ?_)
            refine g_aload_n (i := 0) dX9_draw_42 rfl rfl ?_
            refine g_ldc2 (-1000000000001) (List.mem_of_getElem? (i := 2) rfl) dX9_draw_43 ?_
            refine g_callVf 1 0 gX9_draw_X9_finding rfl rfl rfl ⟨Nat.le_of_ble_eq_true rfl, Nat.le_of_ble_eq_true rfl⟩ ⟨Nat.le_of_ble_eq_true rfl, Nat.le_of_ble_eq_true rfl⟩ (by exact Nat.le_of_ble_eq_true rfl) (by decide +kernel) rfl rfl rfl dX9_draw_46 (M_finding _ D cy a _ _ (by unfold vp_in; decide)) rfl (fun vu_23 wu_23 hu_23 => ?_)
            obtain ⟨rfl, rfl⟩ := hu_23
            refine g_lret dX9_draw_49 ?_
            unfold mf_draw; (repeat' split) <;> first | contradiction | (with_reducible exact ⟨rfl, rfl⟩) | (exfalso; simp_all; done) | exact ⟨rfl, rfl⟩
        · skip
          refine g_if_eq 42 dX9_draw_28 (by decide) (fun _ => ?_) (fun h9 => absurd h9 (by decide))
          refine g_aload_n (i := 0) dX9_draw_42 rfl rfl ?_
          refine g_ldc2 (-1000000000001) (List.mem_of_getElem? (i := 2) rfl) dX9_draw_43 ?_
          refine g_callVf 1 0 gX9_draw_X9_finding rfl rfl rfl ⟨Nat.le_of_ble_eq_true rfl, Nat.le_of_ble_eq_true rfl⟩ ⟨Nat.le_of_ble_eq_true rfl, Nat.le_of_ble_eq_true rfl⟩ (by exact Nat.le_of_ble_eq_true rfl) (by decide +kernel) rfl rfl rfl dX9_draw_46 (M_finding _ D cy a _ _ (by unfold vp_in; decide)) rfl (fun vu_25 wu_25 hu_25 => ?_)
          obtain ⟨rfl, rfl⟩ := hu_25
          refine g_lret dX9_draw_49 ?_
          unfold mf_draw; (repeat' split) <;> first | contradiction | (with_reducible exact ⟨rfl, rfl⟩) | (exfalso; simp_all; done) | exact ⟨rfl, rfl⟩
      · skip
        refine g_if_eq 42 dX9_draw_20 (by decide) (fun _ => ?_) (fun h9 => absurd h9 (by decide))
        refine g_aload_n (i := 0) dX9_draw_42 rfl rfl ?_
        refine g_ldc2 (-1000000000001) (List.mem_of_getElem? (i := 2) rfl) dX9_draw_43 ?_
        refine g_callVf 1 0 gX9_draw_X9_finding rfl rfl rfl ⟨Nat.le_of_ble_eq_true rfl, Nat.le_of_ble_eq_true rfl⟩ ⟨Nat.le_of_ble_eq_true rfl, Nat.le_of_ble_eq_true rfl⟩ (by exact Nat.le_of_ble_eq_true rfl) (by decide +kernel) rfl rfl rfl dX9_draw_46 (M_finding _ D cy a _ _ (by unfold vp_in; decide)) rfl (fun vu_27 wu_27 hu_27 => ?_)
        obtain ⟨rfl, rfl⟩ := hu_27
        refine g_lret dX9_draw_49 ?_
        unfold mf_draw; (repeat' split) <;> first | contradiction | (with_reducible exact ⟨rfl, rfl⟩) | (exfalso; simp_all; done) | exact ⟨rfl, rfl⟩
    · skip
      refine g_if_eq 42 dX9_draw_13 (by decide) (fun _ => ?_) (fun h9 => absurd h9 (by decide))
      refine g_aload_n (i := 0) dX9_draw_42 rfl rfl ?_
      refine g_ldc2 (-1000000000001) (List.mem_of_getElem? (i := 2) rfl) dX9_draw_43 ?_
      refine g_callVf 1 0 gX9_draw_X9_finding rfl rfl rfl ⟨Nat.le_of_ble_eq_true rfl, Nat.le_of_ble_eq_true rfl⟩ ⟨Nat.le_of_ble_eq_true rfl, Nat.le_of_ble_eq_true rfl⟩ (by exact Nat.le_of_ble_eq_true rfl) (by decide +kernel) rfl rfl rfl dX9_draw_46 (M_finding _ D cy a _ _ (by unfold vp_in; decide)) rfl (fun vu_29 wu_29 hu_29 => ?_)
      obtain ⟨rfl, rfl⟩ := hu_29
      refine g_lret dX9_draw_49 ?_
      unfold mf_draw; (repeat' split) <;> first | contradiction | (with_reducible exact ⟨rfl, rfl⟩) | (exfalso; simp_all; done) | exact ⟨rfl, rfl⟩
  · skip
    refine g_if_eq 42 dX9_draw_6 (by decide) (fun _ => ?_) (fun h9 => absurd h9 (by decide))
    refine g_aload_n (i := 0) dX9_draw_42 rfl rfl ?_
    refine g_ldc2 (-1000000000001) (List.mem_of_getElem? (i := 2) rfl) dX9_draw_43 ?_
    refine g_callVf 1 0 gX9_draw_X9_finding rfl rfl rfl ⟨Nat.le_of_ble_eq_true rfl, Nat.le_of_ble_eq_true rfl⟩ ⟨Nat.le_of_ble_eq_true rfl, Nat.le_of_ble_eq_true rfl⟩ (by exact Nat.le_of_ble_eq_true rfl) (by decide +kernel) rfl rfl rfl dX9_draw_46 (M_finding _ D cy a _ _ (by unfold vp_in; decide)) rfl (fun vu_31 wu_31 hu_31 => ?_)
    obtain ⟨rfl, rfl⟩ := hu_31
    refine g_lret dX9_draw_49 ?_
    unfold mf_draw; (repeat' split) <;> first | contradiction | (with_reducible exact ⟨rfl, rfl⟩) | (exfalso; simp_all; done) | exact ⟨rfl, rfl⟩

def mf_pass1 (S : MS) (b h : Int32) : MS := sA S 8 b.toNatClampNeg h
def mf_pass2 (S : MS) (b : Int32) : MS := sA (sA S 12 (4 * b + S.2.2.1 11 b.toNatClampNeg).toNatClampNeg (S.2.2.1 8 b.toNatClampNeg)) 11 b.toNatClampNeg ((sA S 12 (4 * b + S.2.2.1 11 b.toNatClampNeg).toNatClampNeg (S.2.2.1 8 b.toNatClampNeg)).2.2.1 11 b.toNatClampNeg + 1)
def mf_pass (S : MS) (b h : Int32) : Int64 × MS := if (0 ≤ b ∧ b ≤ S.1 4 - 1) ∧ (0 ≤ h ∧ h ≤ 9) then (if ¬ S.2.2.1 10 b.toNatClampNeg = 0 ∧ ¬ S.2.2.1 10 b.toNatClampNeg = 1 then mf_finding S (-1000000000003) else if S.2.2.1 8 b.toNatClampNeg = h then mf_finding S (-1000000000005) else if S.2.2.1 5 b.toNatClampNeg = 1 then (((mf_pass1 S b h).2.2.1 11 b.toNatClampNeg).toInt64, mf_pass1 S b h) else if S.2.2.1 11 b.toNatClampNeg = 4 then mf_finding S (-1000000000004) else (((mf_pass1 (mf_pass2 S b) b h).2.2.1 11 b.toNatClampNeg).toInt64, mf_pass1 (mf_pass2 S b) b h)) else mf_finding S (-1000000000001)
set_option maxHeartbeats 4000000 in
set_option maxRecDepth 100000 in
/-- pass -/
theorem M_pass (l : Launch) (D : va_G) (cy : Nat → ClassId) (a : Nat → Nat) (S : MS) (hI : minv S) (b h : Int32) : Ct l D clx (tyx cy) yX9_pass wsX9_pass (rmD 2) 0 0 [.ref (a 0), .int b, .int h] (MW cy a S) (fun r9 w9 => r9 = some (.long (mf_pass S b h).1) ∧ w9 = MW cy a (mf_pass S b h).2) := by
  refine g_start (cc := cX9_pass) (maxL := 3) (ret := (some .long)) (by decide) rfl (Nat.le_of_ble_eq_true rfl) (fun v w1 h => by obtain ⟨rfl, -⟩ := h; exact rfl) (fun Γ hlΓ => ?_)
  subst hlΓ
  refine g_aload_n (i := 0) dX9_pass_0 rfl rfl ?_
  refine g_iload_n (i := 1) dX9_pass_1 rfl rfl ?_
  refine g_callVf 1 0 gX9_pass_X9_isBill rfl rfl rfl ⟨Nat.le_of_ble_eq_true rfl, Nat.le_of_ble_eq_true rfl⟩ ⟨Nat.le_of_ble_eq_true rfl, Nat.le_of_ble_eq_true rfl⟩ (by exact Nat.le_of_ble_eq_true rfl) (by decide +kernel) rfl rfl rfl dX9_pass_2 (M_isBill _ D cy a _ _) rfl (fun vu_1 wu_1 hu_1 => ?_)
  rcases hu_1 with ⟨rfl, hu_1, rfl⟩ | ⟨rfl, hu_1, rfl⟩
  · skip
    refine g_if_eq 15 dX9_pass_5 (by decide) (fun h9 => absurd h9 (by decide)) (fun _ => ?_)
    refine g_iload_n (i := 2) dX9_pass_8 rfl rfl ?_
    refine g_callSf 1 gX9_pass_X9_isHouse rfl rfl rfl ⟨Nat.le_of_ble_eq_true rfl, Nat.le_of_ble_eq_true rfl⟩ ⟨Nat.le_of_ble_eq_true rfl, Nat.le_of_ble_eq_true rfl⟩ (by exact Nat.le_of_ble_eq_true rfl) (by decide +kernel) rfl dX9_pass_9 (M_isHouse _ D cy a _ _) rfl (fun vu_3 wu_3 hu_3 => ?_)
    rcases hu_3 with ⟨rfl, hu_3, rfl⟩ | ⟨rfl, hu_3, rfl⟩
    · skip
      refine g_if_ne 23 dX9_pass_12 (by decide) (fun _ => ?_) (fun h9 => absurd h9 (by decide))
      refine g_aload_n (i := 0) dX9_pass_23 rfl rfl ?_
      refine m_get 10 dX9_pass_24 (List.mem_of_getElem? (i := 2) rfl) (fun w h => List.mem_cons_of_mem _ (List.mem_append_right _ h)) (by decide) rfl ?_
      refine g_iload_n (i := 1) dX9_pass_27 rfl rfl ?_
      refine m_iald 10 8 40 dX9_pass_28 rfl (mbill hI (by assumption)) ?_
      refine g_if_eq 50 dX9_pass_29 (by decide) (fun c_5 => ?_) (fun c_5 => ?_)
      · skip
        refine g_aload_n (i := 0) dX9_pass_50 rfl rfl ?_
        refine m_get 8 dX9_pass_51 (List.mem_of_getElem? (i := 4) rfl) (fun w h => List.mem_cons_of_mem _ (List.mem_append_right _ h)) (by decide) rfl ?_
        refine g_iload_n (i := 1) dX9_pass_54 rfl rfl ?_
        refine m_iald 8 6 40 dX9_pass_55 rfl (mbill hI (by assumption)) ?_
        refine g_iload_n (i := 2) dX9_pass_56 rfl rfl ?_
        refine g_icmp_ne 68 dX9_pass_57 (by decide) (fun c_6 => ?_) (fun c_6 => ?_)
        · skip
          refine g_aload_n (i := 0) dX9_pass_68 rfl rfl ?_
          refine m_get 5 dX9_pass_69 (List.mem_of_getElem? (i := 6) rfl) (fun w h => List.mem_cons_of_mem _ (List.mem_append_right _ h)) (by decide) rfl ?_
          refine g_iload_n (i := 1) dX9_pass_72 rfl rfl ?_
          refine m_iald 5 3 40 dX9_pass_73 rfl (mbill hI (by assumption)) ?_
          refine g_iconst (1) rfl dX9_pass_74 ?_
          refine g_icmp_eq 127 dX9_pass_75 (by decide) (fun c_7 => ?_) (fun c_7 => ?_)
          · skip
            refine g_aload_n (i := 0) dX9_pass_127 rfl rfl ?_
            refine m_get 8 dX9_pass_128 (List.mem_of_getElem? (i := 4) rfl) (fun w h => List.mem_cons_of_mem _ (List.mem_append_right _ h)) (by decide) rfl ?_
            refine g_iload_n (i := 1) dX9_pass_131 rfl rfl ?_
            refine g_iload_n (i := 2) dX9_pass_132 rfl rfl ?_
            refine m_iast 8 6 40 dX9_pass_133 rfl (mbill hI (by assumption)) (wsA_8 _ _ _ _ _) ?_
            refine g_aload_n (i := 0) dX9_pass_134 rfl rfl ?_
            refine m_get 11 dX9_pass_135 (List.mem_of_getElem? (i := 7) rfl) (fun w h => List.mem_cons_of_mem _ (List.mem_append_right _ h)) (by decide) rfl ?_
            refine g_iload_n (i := 1) dX9_pass_138 rfl rfl ?_
            refine m_iald 11 9 40 dX9_pass_139 rfl (mbill hI (by assumption)) ?_
            refine g_i2l dX9_pass_140 ?_
            refine g_lret dX9_pass_141 ?_
            unfold mf_pass; (repeat' split) <;> first | contradiction | (with_reducible exact ⟨rfl, rfl⟩) | (exfalso; simp_all; done) | exact ⟨rfl, rfl⟩
          · skip
            refine g_aload_n (i := 0) dX9_pass_78 rfl rfl ?_
            refine m_get 11 dX9_pass_79 (List.mem_of_getElem? (i := 7) rfl) (fun w h => List.mem_cons_of_mem _ (List.mem_append_right _ h)) (by decide) rfl ?_
            refine g_iload_n (i := 1) dX9_pass_82 rfl rfl ?_
            refine m_iald 11 9 40 dX9_pass_83 rfl (mbill hI (by assumption)) ?_
            refine g_iconst (4) rfl dX9_pass_84 ?_
            refine g_icmp_ne 96 dX9_pass_85 (by decide) (fun c_8 => ?_) (fun c_8 => ?_)
            · skip
              refine g_aload_n (i := 0) dX9_pass_96 rfl rfl ?_
              refine m_get 12 dX9_pass_97 (List.mem_of_getElem? (i := 9) rfl) (fun w h => List.mem_cons_of_mem _ (List.mem_append_right _ h)) (by decide) rfl ?_
              refine g_iconst (4) rfl dX9_pass_100 ?_
              refine g_iload_n (i := 1) dX9_pass_101 rfl rfl ?_
              refine g_imul dX9_pass_102 ?_
              refine g_aload_n (i := 0) dX9_pass_103 rfl rfl ?_
              refine m_get 11 dX9_pass_104 (List.mem_of_getElem? (i := 7) rfl) (fun w h => List.mem_cons_of_mem _ (List.mem_append_right _ h)) (by decide) rfl ?_
              refine g_iload_n (i := 1) dX9_pass_107 rfl rfl ?_
              refine m_iald 11 9 40 dX9_pass_108 rfl (mbill hI (by assumption)) ?_
              refine g_iadd dX9_pass_109 ?_
              refine g_aload_n (i := 0) dX9_pass_110 rfl rfl ?_
              refine m_get 8 dX9_pass_111 (List.mem_of_getElem? (i := 4) rfl) (fun w h => List.mem_cons_of_mem _ (List.mem_append_right _ h)) (by decide) rfl ?_
              refine g_iload_n (i := 1) dX9_pass_114 rfl rfl ?_
              refine m_iald 8 6 40 dX9_pass_115 rfl (mbill hI (by assumption)) ?_
              refine m_iast 12 10 160 dX9_pass_116 rfl (ix160 (mbill hI (by assumption)) (mend hI (mbill hI (by assumption)) (by assumption))) (wsA_12 _ _ _ _ _) ?_
              refine g_aload_n (i := 0) dX9_pass_117 rfl rfl ?_
              refine m_get 11 dX9_pass_118 (List.mem_of_getElem? (i := 7) rfl) (fun w h => List.mem_cons_of_mem _ (List.mem_append_right _ h)) (by decide) rfl ?_
              refine g_iload_n (i := 1) dX9_pass_121 rfl rfl ?_
              refine g_dup2_11 rfl rfl dX9_pass_122 ?_
              refine m_iald 11 9 40 dX9_pass_123 rfl (mbill hI (by assumption)) ?_
              refine g_iconst (1) rfl dX9_pass_124 ?_
              refine g_iadd dX9_pass_125 ?_
              refine m_iast 11 9 40 dX9_pass_126 rfl (mbill hI (by assumption)) (wsA_11 _ _ _ _ _) ?_
              refine g_aload_n (i := 0) dX9_pass_127 rfl rfl ?_
              refine m_get 8 dX9_pass_128 (List.mem_of_getElem? (i := 4) rfl) (fun w h => List.mem_cons_of_mem _ (List.mem_append_right _ h)) (by decide) rfl ?_
              refine g_iload_n (i := 1) dX9_pass_131 rfl rfl ?_
              refine g_iload_n (i := 2) dX9_pass_132 rfl rfl ?_
              refine m_iast 8 6 40 dX9_pass_133 rfl (mbill hI (by assumption)) (wsA_8 _ _ _ _ _) ?_
              refine g_aload_n (i := 0) dX9_pass_134 rfl rfl ?_
              refine m_get 11 dX9_pass_135 (List.mem_of_getElem? (i := 7) rfl) (fun w h => List.mem_cons_of_mem _ (List.mem_append_right _ h)) (by decide) rfl ?_
              refine g_iload_n (i := 1) dX9_pass_138 rfl rfl ?_
              refine m_iald 11 9 40 dX9_pass_139 rfl (mbill hI (by assumption)) ?_
              refine g_i2l dX9_pass_140 ?_
              refine g_lret dX9_pass_141 ?_
              unfold mf_pass; (repeat' split) <;> first | contradiction | (with_reducible exact ⟨rfl, rfl⟩) | (exfalso; simp_all; done) | exact ⟨rfl, rfl⟩
            · skip
              refine g_aload_n (i := 0) dX9_pass_88 rfl rfl ?_
              refine g_ldc2 (-1000000000004) (List.mem_of_getElem? (i := 8) rfl) dX9_pass_89 ?_
              refine g_callVf 1 0 gX9_pass_X9_finding rfl rfl rfl ⟨Nat.le_of_ble_eq_true rfl, Nat.le_of_ble_eq_true rfl⟩ ⟨Nat.le_of_ble_eq_true rfl, Nat.le_of_ble_eq_true rfl⟩ (by exact Nat.le_of_ble_eq_true rfl) (by decide +kernel) rfl rfl rfl dX9_pass_92 (M_finding _ D cy a _ _ (by unfold vp_in; decide)) rfl (fun vu_9 wu_9 hu_9 => ?_)
              obtain ⟨rfl, rfl⟩ := hu_9
              refine g_lret dX9_pass_95 ?_
              unfold mf_pass; (repeat' split) <;> first | contradiction | (with_reducible exact ⟨rfl, rfl⟩) | (exfalso; simp_all; done) | exact ⟨rfl, rfl⟩
        · skip
          refine g_aload_n (i := 0) dX9_pass_60 rfl rfl ?_
          refine g_ldc2 (-1000000000005) (List.mem_of_getElem? (i := 5) rfl) dX9_pass_61 ?_
          refine g_callVf 1 0 gX9_pass_X9_finding rfl rfl rfl ⟨Nat.le_of_ble_eq_true rfl, Nat.le_of_ble_eq_true rfl⟩ ⟨Nat.le_of_ble_eq_true rfl, Nat.le_of_ble_eq_true rfl⟩ (by exact Nat.le_of_ble_eq_true rfl) (by decide +kernel) rfl rfl rfl dX9_pass_64 (M_finding _ D cy a _ _ (by unfold vp_in; decide)) rfl (fun vu_10 wu_10 hu_10 => ?_)
          obtain ⟨rfl, rfl⟩ := hu_10
          refine g_lret dX9_pass_67 ?_
          unfold mf_pass; (repeat' split) <;> first | contradiction | (with_reducible exact ⟨rfl, rfl⟩) | (exfalso; simp_all; done) | exact ⟨rfl, rfl⟩
      · skip
        refine g_aload_n (i := 0) dX9_pass_32 rfl rfl ?_
        refine m_get 10 dX9_pass_33 (List.mem_of_getElem? (i := 2) rfl) (fun w h => List.mem_cons_of_mem _ (List.mem_append_right _ h)) (by decide) rfl ?_
        refine g_iload_n (i := 1) dX9_pass_36 rfl rfl ?_
        refine m_iald 10 8 40 dX9_pass_37 rfl (mbill hI (by assumption)) ?_
        refine g_iconst (1) rfl dX9_pass_38 ?_
        refine g_icmp_eq 50 dX9_pass_39 (by decide) (fun c_11 => ?_) (fun c_11 => ?_)
        · skip
          refine g_aload_n (i := 0) dX9_pass_50 rfl rfl ?_
          refine m_get 8 dX9_pass_51 (List.mem_of_getElem? (i := 4) rfl) (fun w h => List.mem_cons_of_mem _ (List.mem_append_right _ h)) (by decide) rfl ?_
          refine g_iload_n (i := 1) dX9_pass_54 rfl rfl ?_
          refine m_iald 8 6 40 dX9_pass_55 rfl (mbill hI (by assumption)) ?_
          refine g_iload_n (i := 2) dX9_pass_56 rfl rfl ?_
          refine g_icmp_ne 68 dX9_pass_57 (by decide) (fun c_12 => ?_) (fun c_12 => ?_)
          · skip
            refine g_aload_n (i := 0) dX9_pass_68 rfl rfl ?_
            refine m_get 5 dX9_pass_69 (List.mem_of_getElem? (i := 6) rfl) (fun w h => List.mem_cons_of_mem _ (List.mem_append_right _ h)) (by decide) rfl ?_
            refine g_iload_n (i := 1) dX9_pass_72 rfl rfl ?_
            refine m_iald 5 3 40 dX9_pass_73 rfl (mbill hI (by assumption)) ?_
            refine g_iconst (1) rfl dX9_pass_74 ?_
            refine g_icmp_eq 127 dX9_pass_75 (by decide) (fun c_13 => ?_) (fun c_13 => ?_)
            · skip
              refine g_aload_n (i := 0) dX9_pass_127 rfl rfl ?_
              refine m_get 8 dX9_pass_128 (List.mem_of_getElem? (i := 4) rfl) (fun w h => List.mem_cons_of_mem _ (List.mem_append_right _ h)) (by decide) rfl ?_
              refine g_iload_n (i := 1) dX9_pass_131 rfl rfl ?_
              refine g_iload_n (i := 2) dX9_pass_132 rfl rfl ?_
              refine m_iast 8 6 40 dX9_pass_133 rfl (mbill hI (by assumption)) (wsA_8 _ _ _ _ _) ?_
              refine g_aload_n (i := 0) dX9_pass_134 rfl rfl ?_
              refine m_get 11 dX9_pass_135 (List.mem_of_getElem? (i := 7) rfl) (fun w h => List.mem_cons_of_mem _ (List.mem_append_right _ h)) (by decide) rfl ?_
              refine g_iload_n (i := 1) dX9_pass_138 rfl rfl ?_
              refine m_iald 11 9 40 dX9_pass_139 rfl (mbill hI (by assumption)) ?_
              refine g_i2l dX9_pass_140 ?_
              refine g_lret dX9_pass_141 ?_
              unfold mf_pass; (repeat' split) <;> first | contradiction | (with_reducible exact ⟨rfl, rfl⟩) | (exfalso; simp_all; done) | exact ⟨rfl, rfl⟩
            · skip
              refine g_aload_n (i := 0) dX9_pass_78 rfl rfl ?_
              refine m_get 11 dX9_pass_79 (List.mem_of_getElem? (i := 7) rfl) (fun w h => List.mem_cons_of_mem _ (List.mem_append_right _ h)) (by decide) rfl ?_
              refine g_iload_n (i := 1) dX9_pass_82 rfl rfl ?_
              refine m_iald 11 9 40 dX9_pass_83 rfl (mbill hI (by assumption)) ?_
              refine g_iconst (4) rfl dX9_pass_84 ?_
              refine g_icmp_ne 96 dX9_pass_85 (by decide) (fun c_14 => ?_) (fun c_14 => ?_)
              · skip
                refine g_aload_n (i := 0) dX9_pass_96 rfl rfl ?_
                refine m_get 12 dX9_pass_97 (List.mem_of_getElem? (i := 9) rfl) (fun w h => List.mem_cons_of_mem _ (List.mem_append_right _ h)) (by decide) rfl ?_
                refine g_iconst (4) rfl dX9_pass_100 ?_
                refine g_iload_n (i := 1) dX9_pass_101 rfl rfl ?_
                refine g_imul dX9_pass_102 ?_
                refine g_aload_n (i := 0) dX9_pass_103 rfl rfl ?_
                refine m_get 11 dX9_pass_104 (List.mem_of_getElem? (i := 7) rfl) (fun w h => List.mem_cons_of_mem _ (List.mem_append_right _ h)) (by decide) rfl ?_
                refine g_iload_n (i := 1) dX9_pass_107 rfl rfl ?_
                refine m_iald 11 9 40 dX9_pass_108 rfl (mbill hI (by assumption)) ?_
                refine g_iadd dX9_pass_109 ?_
                refine g_aload_n (i := 0) dX9_pass_110 rfl rfl ?_
                refine m_get 8 dX9_pass_111 (List.mem_of_getElem? (i := 4) rfl) (fun w h => List.mem_cons_of_mem _ (List.mem_append_right _ h)) (by decide) rfl ?_
                refine g_iload_n (i := 1) dX9_pass_114 rfl rfl ?_
                refine m_iald 8 6 40 dX9_pass_115 rfl (mbill hI (by assumption)) ?_
                refine m_iast 12 10 160 dX9_pass_116 rfl (ix160 (mbill hI (by assumption)) (mend hI (mbill hI (by assumption)) (by assumption))) (wsA_12 _ _ _ _ _) ?_
                refine g_aload_n (i := 0) dX9_pass_117 rfl rfl ?_
                refine m_get 11 dX9_pass_118 (List.mem_of_getElem? (i := 7) rfl) (fun w h => List.mem_cons_of_mem _ (List.mem_append_right _ h)) (by decide) rfl ?_
                refine g_iload_n (i := 1) dX9_pass_121 rfl rfl ?_
                refine g_dup2_11 rfl rfl dX9_pass_122 ?_
                refine m_iald 11 9 40 dX9_pass_123 rfl (mbill hI (by assumption)) ?_
                refine g_iconst (1) rfl dX9_pass_124 ?_
                refine g_iadd dX9_pass_125 ?_
                refine m_iast 11 9 40 dX9_pass_126 rfl (mbill hI (by assumption)) (wsA_11 _ _ _ _ _) ?_
                refine g_aload_n (i := 0) dX9_pass_127 rfl rfl ?_
                refine m_get 8 dX9_pass_128 (List.mem_of_getElem? (i := 4) rfl) (fun w h => List.mem_cons_of_mem _ (List.mem_append_right _ h)) (by decide) rfl ?_
                refine g_iload_n (i := 1) dX9_pass_131 rfl rfl ?_
                refine g_iload_n (i := 2) dX9_pass_132 rfl rfl ?_
                refine m_iast 8 6 40 dX9_pass_133 rfl (mbill hI (by assumption)) (wsA_8 _ _ _ _ _) ?_
                refine g_aload_n (i := 0) dX9_pass_134 rfl rfl ?_
                refine m_get 11 dX9_pass_135 (List.mem_of_getElem? (i := 7) rfl) (fun w h => List.mem_cons_of_mem _ (List.mem_append_right _ h)) (by decide) rfl ?_
                refine g_iload_n (i := 1) dX9_pass_138 rfl rfl ?_
                refine m_iald 11 9 40 dX9_pass_139 rfl (mbill hI (by assumption)) ?_
                refine g_i2l dX9_pass_140 ?_
                refine g_lret dX9_pass_141 ?_
                unfold mf_pass; (repeat' split) <;> first | contradiction | (with_reducible exact ⟨rfl, rfl⟩) | (exfalso; simp_all; done) | exact ⟨rfl, rfl⟩
              · skip
                refine g_aload_n (i := 0) dX9_pass_88 rfl rfl ?_
                refine g_ldc2 (-1000000000004) (List.mem_of_getElem? (i := 8) rfl) dX9_pass_89 ?_
                refine g_callVf 1 0 gX9_pass_X9_finding rfl rfl rfl ⟨Nat.le_of_ble_eq_true rfl, Nat.le_of_ble_eq_true rfl⟩ ⟨Nat.le_of_ble_eq_true rfl, Nat.le_of_ble_eq_true rfl⟩ (by exact Nat.le_of_ble_eq_true rfl) (by decide +kernel) rfl rfl rfl dX9_pass_92 (M_finding _ D cy a _ _ (by unfold vp_in; decide)) rfl (fun vu_15 wu_15 hu_15 => ?_)
                obtain ⟨rfl, rfl⟩ := hu_15
                refine g_lret dX9_pass_95 ?_
                unfold mf_pass; (repeat' split) <;> first | contradiction | (with_reducible exact ⟨rfl, rfl⟩) | (exfalso; simp_all; done) | exact ⟨rfl, rfl⟩
          · skip
            refine g_aload_n (i := 0) dX9_pass_60 rfl rfl ?_
            refine g_ldc2 (-1000000000005) (List.mem_of_getElem? (i := 5) rfl) dX9_pass_61 ?_
            refine g_callVf 1 0 gX9_pass_X9_finding rfl rfl rfl ⟨Nat.le_of_ble_eq_true rfl, Nat.le_of_ble_eq_true rfl⟩ ⟨Nat.le_of_ble_eq_true rfl, Nat.le_of_ble_eq_true rfl⟩ (by exact Nat.le_of_ble_eq_true rfl) (by decide +kernel) rfl rfl rfl dX9_pass_64 (M_finding _ D cy a _ _ (by unfold vp_in; decide)) rfl (fun vu_16 wu_16 hu_16 => ?_)
            obtain ⟨rfl, rfl⟩ := hu_16
            refine g_lret dX9_pass_67 ?_
            unfold mf_pass; (repeat' split) <;> first | contradiction | (with_reducible exact ⟨rfl, rfl⟩) | (exfalso; simp_all; done) | exact ⟨rfl, rfl⟩
        · skip
          refine g_aload_n (i := 0) dX9_pass_42 rfl rfl ?_
          refine g_ldc2 (-1000000000003) (List.mem_of_getElem? (i := 3) rfl) dX9_pass_43 ?_
          refine g_callVf 1 0 gX9_pass_X9_finding rfl rfl rfl ⟨Nat.le_of_ble_eq_true rfl, Nat.le_of_ble_eq_true rfl⟩ ⟨Nat.le_of_ble_eq_true rfl, Nat.le_of_ble_eq_true rfl⟩ (by exact Nat.le_of_ble_eq_true rfl) (by decide +kernel) rfl rfl rfl dX9_pass_46 (M_finding _ D cy a _ _ (by unfold vp_in; decide)) rfl (fun vu_17 wu_17 hu_17 => ?_)
          obtain ⟨rfl, rfl⟩ := hu_17
          refine g_lret dX9_pass_49 ?_
          unfold mf_pass; (repeat' split) <;> first | contradiction | (with_reducible exact ⟨rfl, rfl⟩) | (exfalso; simp_all; done) | exact ⟨rfl, rfl⟩
    · skip
      refine g_if_ne 23 dX9_pass_12 (by decide) (fun h9 => absurd h9 (by decide)) (fun _ => ?_)
      refine g_aload_n (i := 0) dX9_pass_15 rfl rfl ?_
      refine g_ldc2 (-1000000000001) (List.mem_of_getElem? (i := 1) rfl) dX9_pass_16 ?_
      refine g_callVf 1 0 gX9_pass_X9_finding rfl rfl rfl ⟨Nat.le_of_ble_eq_true rfl, Nat.le_of_ble_eq_true rfl⟩ ⟨Nat.le_of_ble_eq_true rfl, Nat.le_of_ble_eq_true rfl⟩ (by exact Nat.le_of_ble_eq_true rfl) (by decide +kernel) rfl rfl rfl dX9_pass_19 (M_finding _ D cy a _ _ (by unfold vp_in; decide)) rfl (fun vu_19 wu_19 hu_19 => ?_)
      obtain ⟨rfl, rfl⟩ := hu_19
      refine g_lret dX9_pass_22 ?_
      unfold mf_pass; (repeat' split) <;> first | contradiction | (with_reducible exact ⟨rfl, rfl⟩) | (exfalso; simp_all; done) | exact ⟨rfl, rfl⟩
  · skip
    refine g_if_eq 15 dX9_pass_5 (by decide) (fun _ => ?_) (fun h9 => absurd h9 (by decide))
    refine g_aload_n (i := 0) dX9_pass_15 rfl rfl ?_
    refine g_ldc2 (-1000000000001) (List.mem_of_getElem? (i := 1) rfl) dX9_pass_16 ?_
    refine g_callVf 1 0 gX9_pass_X9_finding rfl rfl rfl ⟨Nat.le_of_ble_eq_true rfl, Nat.le_of_ble_eq_true rfl⟩ ⟨Nat.le_of_ble_eq_true rfl, Nat.le_of_ble_eq_true rfl⟩ (by exact Nat.le_of_ble_eq_true rfl) (by decide +kernel) rfl rfl rfl dX9_pass_19 (M_finding _ D cy a _ _ (by unfold vp_in; decide)) rfl (fun vu_21 wu_21 hu_21 => ?_)
    obtain ⟨rfl, rfl⟩ := hu_21
    refine g_lret dX9_pass_22 ?_
    unfold mf_pass; (repeat' split) <;> first | contradiction | (with_reducible exact ⟨rfl, rfl⟩) | (exfalso; simp_all; done) | exact ⟨rfl, rfl⟩

def mf_take (S : MS) (b r : Int32) : Int64 × MS := if (0 ≤ b ∧ b ≤ S.1 4 - 1) then (if S.2.2.1 10 b.toNatClampNeg = 0 then (if mday S ≤ 6 then (((mf_becomes S b (if r = 0 then 1 else 2)).2.2.1 10 b.toNatClampNeg).toInt64, mf_becomes S b (if r = 0 then 1 else 2)) else mf_finding S (-1000000000007)) else mf_finding S (-1000000000003)) else mf_finding S (-1000000000001)
set_option maxHeartbeats 4000000 in
set_option maxRecDepth 100000 in
/-- take -/
theorem M_take (l : Launch) (D : va_G) (cy : Nat → ClassId) (a : Nat → Nat) (S : MS) (hI : minv S) (b r : Int32) : Ct l D clx (tyx cy) yX9_take wsX9_take (rmD 2) 0 0 [.ref (a 0), .int b, .int r] (MW cy a S) (fun r9 w9 => r9 = some (.long (mf_take S b r).1) ∧ w9 = MW cy a (mf_take S b r).2) := by
  refine g_start (cc := cX9_take) (maxL := 3) (ret := (some .long)) (by decide) rfl (Nat.le_of_ble_eq_true rfl) (fun v w1 h => by obtain ⟨rfl, -⟩ := h; exact rfl) (fun Γ hlΓ => ?_)
  subst hlΓ
  refine g_aload_n (i := 0) dX9_take_0 rfl rfl ?_
  refine g_iload_n (i := 1) dX9_take_1 rfl rfl ?_
  refine g_callVf 1 0 gX9_take_X9_isBill rfl rfl rfl ⟨Nat.le_of_ble_eq_true rfl, Nat.le_of_ble_eq_true rfl⟩ ⟨Nat.le_of_ble_eq_true rfl, Nat.le_of_ble_eq_true rfl⟩ (by exact Nat.le_of_ble_eq_true rfl) (by decide +kernel) rfl rfl rfl dX9_take_2 (M_isBill _ D cy a _ _) rfl (fun vu_1 wu_1 hu_1 => ?_)
  rcases hu_1 with ⟨rfl, hu_1, rfl⟩ | ⟨rfl, hu_1, rfl⟩
  · skip
    refine g_if_ne 16 dX9_take_5 (by decide) (fun _ => ?_) (fun h9 => absurd h9 (by decide))
    refine g_aload_n (i := 0) dX9_take_16 rfl rfl ?_
    refine m_get 10 dX9_take_17 (List.mem_of_getElem? (i := 2) rfl) (fun w h => List.mem_cons_of_mem _ (List.mem_append_right _ h)) (by decide) rfl ?_
    refine g_iload_n (i := 1) dX9_take_20 rfl rfl ?_
    refine m_iald 10 8 40 dX9_take_21 rfl (mbill hI (by assumption)) ?_
    refine g_if_eq 33 dX9_take_22 (by decide) (fun c_3 => ?_) (fun c_3 => ?_)
    · skip
      refine g_aload_n (i := 0) dX9_take_33 rfl rfl ?_
      refine g_callVf 0 0 gX9_take_X9_isEarly rfl rfl rfl ⟨Nat.le_of_ble_eq_true rfl, Nat.le_of_ble_eq_true rfl⟩ ⟨Nat.le_of_ble_eq_true rfl, Nat.le_of_ble_eq_true rfl⟩ (by exact Nat.le_of_ble_eq_true rfl) (by decide +kernel) rfl rfl rfl dX9_take_34 (M_isEarly _ D cy a _) rfl (fun vu_4 wu_4 hu_4 => ?_)
      rcases hu_4 with ⟨rfl, hu_4, rfl⟩ | ⟨rfl, hu_4, rfl⟩
      · skip
        refine g_if_ne 48 dX9_take_37 (by decide) (fun _ => ?_) (fun h9 => absurd h9 (by decide))
        refine g_aload_n (i := 0) dX9_take_48 rfl rfl ?_
        refine g_iload_n (i := 1) dX9_take_49 rfl rfl ?_
        refine g_iload_n (i := 2) dX9_take_50 rfl rfl ?_
        refine g_if_eq 58 dX9_take_51 (by decide) (fun c_6 => ?_) (fun c_6 => ?_)
        · skip
          refine g_iconst (1) rfl dX9_take_58 ?_
          refine g_callVf 2 0 gX9_take_X9_becomes rfl rfl rfl ⟨Nat.le_of_ble_eq_true rfl, Nat.le_of_ble_eq_true rfl⟩ ⟨Nat.le_of_ble_eq_true rfl, Nat.le_of_ble_eq_true rfl⟩ (by exact Nat.le_of_ble_eq_true rfl) (by decide +kernel) rfl rfl rfl dX9_take_59 (M_becomes _ D cy a _ _ _ (by first | with_reducible assumption | exact mbill hI (by with_reducible assumption) | exact mnew hI (by with_reducible assumption)) (by unfold vp_in; decide)) rfl (fun vu_7 wu_7 hu_7 => ?_)
          obtain ⟨rfl, rfl⟩ := hu_7
          refine g_aload_n (i := 0) dX9_take_62 rfl rfl ?_
          refine m_get 10 dX9_take_63 (List.mem_of_getElem? (i := 2) rfl) (fun w h => List.mem_cons_of_mem _ (List.mem_append_right _ h)) (by decide) rfl ?_
          refine g_iload_n (i := 1) dX9_take_66 rfl rfl ?_
          refine m_iald 10 8 40 dX9_take_67 rfl (mbill hI (by assumption)) ?_
          refine g_i2l dX9_take_68 ?_
          refine g_lret dX9_take_69 ?_
          unfold mf_take; (repeat' split) <;> first | contradiction | (with_reducible exact ⟨rfl, rfl⟩) | (exfalso; simp_all; done) | exact ⟨rfl, rfl⟩
        · skip
          refine g_iconst (2) rfl dX9_take_54 ?_
          refine g_goto 59 dX9_take_55 (by decide) ?_
          refine g_callVf 2 0 gX9_take_X9_becomes rfl rfl rfl ⟨Nat.le_of_ble_eq_true rfl, Nat.le_of_ble_eq_true rfl⟩ ⟨Nat.le_of_ble_eq_true rfl, Nat.le_of_ble_eq_true rfl⟩ (by exact Nat.le_of_ble_eq_true rfl) (by decide +kernel) rfl rfl rfl dX9_take_59 (M_becomes _ D cy a _ _ _ (by first | with_reducible assumption | exact mbill hI (by with_reducible assumption) | exact mnew hI (by with_reducible assumption)) (by unfold vp_in; decide)) rfl (fun vu_8 wu_8 hu_8 => ?_)
          obtain ⟨rfl, rfl⟩ := hu_8
          refine g_aload_n (i := 0) dX9_take_62 rfl rfl ?_
          refine m_get 10 dX9_take_63 (List.mem_of_getElem? (i := 2) rfl) (fun w h => List.mem_cons_of_mem _ (List.mem_append_right _ h)) (by decide) rfl ?_
          refine g_iload_n (i := 1) dX9_take_66 rfl rfl ?_
          refine m_iald 10 8 40 dX9_take_67 rfl (mbill hI (by assumption)) ?_
          refine g_i2l dX9_take_68 ?_
          refine g_lret dX9_take_69 ?_
          unfold mf_take; (repeat' split) <;> first | contradiction | (with_reducible exact ⟨rfl, rfl⟩) | (exfalso; simp_all; done) | exact ⟨rfl, rfl⟩
      · skip
        refine g_if_ne 48 dX9_take_37 (by decide) (fun h9 => absurd h9 (by decide)) (fun _ => ?_)
        refine g_aload_n (i := 0) dX9_take_40 rfl rfl ?_
        refine g_ldc2 (-1000000000007) (List.mem_of_getElem? (i := 4) rfl) dX9_take_41 ?_
        refine g_callVf 1 0 gX9_take_X9_finding rfl rfl rfl ⟨Nat.le_of_ble_eq_true rfl, Nat.le_of_ble_eq_true rfl⟩ ⟨Nat.le_of_ble_eq_true rfl, Nat.le_of_ble_eq_true rfl⟩ (by exact Nat.le_of_ble_eq_true rfl) (by decide +kernel) rfl rfl rfl dX9_take_44 (M_finding _ D cy a _ _ (by unfold vp_in; decide)) rfl (fun vu_10 wu_10 hu_10 => ?_)
        obtain ⟨rfl, rfl⟩ := hu_10
        refine g_lret dX9_take_47 ?_
        unfold mf_take; (repeat' split) <;> first | contradiction | (with_reducible exact ⟨rfl, rfl⟩) | (exfalso; simp_all; done) | exact ⟨rfl, rfl⟩
    · skip
      refine g_aload_n (i := 0) dX9_take_25 rfl rfl ?_
      refine g_ldc2 (-1000000000003) (List.mem_of_getElem? (i := 3) rfl) dX9_take_26 ?_
      refine g_callVf 1 0 gX9_take_X9_finding rfl rfl rfl ⟨Nat.le_of_ble_eq_true rfl, Nat.le_of_ble_eq_true rfl⟩ ⟨Nat.le_of_ble_eq_true rfl, Nat.le_of_ble_eq_true rfl⟩ (by exact Nat.le_of_ble_eq_true rfl) (by decide +kernel) rfl rfl rfl dX9_take_29 (M_finding _ D cy a _ _ (by unfold vp_in; decide)) rfl (fun vu_11 wu_11 hu_11 => ?_)
      obtain ⟨rfl, rfl⟩ := hu_11
      refine g_lret dX9_take_32 ?_
      unfold mf_take; (repeat' split) <;> first | contradiction | (with_reducible exact ⟨rfl, rfl⟩) | (exfalso; simp_all; done) | exact ⟨rfl, rfl⟩
  · skip
    refine g_if_ne 16 dX9_take_5 (by decide) (fun h9 => absurd h9 (by decide)) (fun _ => ?_)
    refine g_aload_n (i := 0) dX9_take_8 rfl rfl ?_
    refine g_ldc2 (-1000000000001) (List.mem_of_getElem? (i := 1) rfl) dX9_take_9 ?_
    refine g_callVf 1 0 gX9_take_X9_finding rfl rfl rfl ⟨Nat.le_of_ble_eq_true rfl, Nat.le_of_ble_eq_true rfl⟩ ⟨Nat.le_of_ble_eq_true rfl, Nat.le_of_ble_eq_true rfl⟩ (by exact Nat.le_of_ble_eq_true rfl) (by decide +kernel) rfl rfl rfl dX9_take_12 (M_finding _ D cy a _ _ (by unfold vp_in; decide)) rfl (fun vu_13 wu_13 hu_13 => ?_)
    obtain ⟨rfl, rfl⟩ := hu_13
    refine g_lret dX9_take_15 ?_
    unfold mf_take; (repeat' split) <;> first | contradiction | (with_reducible exact ⟨rfl, rfl⟩) | (exfalso; simp_all; done) | exact ⟨rfl, rfl⟩

def mf_paid (S : MS) (b : Int32) : MS := sA (mf_becomes (mf_ctow S (S.2.2.1 7 b.toNatClampNeg) (S.2.2.1 8 b.toNatClampNeg) (S.2.2.1 9 b.toNatClampNeg).toInt64) b 4) 14 b.toNatClampNeg (vp_nar .boolean 1)
def mf_pay (S : MS) (b : Int32) : Int64 × MS := if (0 ≤ b ∧ b ≤ S.1 4 - 1) then (if S.2.2.1 10 b.toNatClampNeg = 1 then (if mday S ≤ 6 then mf_finding S (-1000000000007) else if (¬ S.2.2.1 7 b.toNatClampNeg = S.2.2.1 8 b.toNatClampNeg ∧ (1000000000 < mwould S (S.2.2.1 7 b.toNatClampNeg) (S.2.2.1 8 b.toNatClampNeg) (S.2.2.1 9 b.toNatClampNeg).toInt64 ∨ mwould S (S.2.2.1 7 b.toNatClampNeg) (S.2.2.1 8 b.toNatClampNeg) (S.2.2.1 9 b.toNatClampNeg).toInt64 < -1000000000)) then mf_finding S (-1000000000004) else (if S.2.2.1 7 b.toNatClampNeg = S.2.2.1 8 b.toNatClampNeg then 0 else ((mf_paid S b).2.2.1 9 b.toNatClampNeg).toInt64, mf_paid S b)) else mf_finding S (-1000000000003)) else mf_finding S (-1000000000001)
set_option maxHeartbeats 4000000 in
set_option maxRecDepth 100000 in
/-- pay -/
theorem M_pay (l : Launch) (D : va_G) (cy : Nat → ClassId) (a : Nat → Nat) (S : MS) (hI : minv S) (b : Int32) : Ct l D clx (tyx cy) yX9_pay wsX9_pay (rmD 3) 0 0 [.ref (a 0), .int b] (MW cy a S) (fun r9 w9 => r9 = some (.long (mf_pay S b).1) ∧ w9 = MW cy a (mf_pay S b).2) := by
  refine g_start (cc := cX9_pay) (maxL := 4) (ret := (some .long)) (by decide) rfl (Nat.le_of_ble_eq_true rfl) (fun v w1 h => by obtain ⟨rfl, -⟩ := h; exact rfl) (fun Γ hlΓ => ?_)
  subst hlΓ
  refine g_aload_n (i := 0) dX9_pay_0 rfl rfl ?_
  refine g_iload_n (i := 1) dX9_pay_1 rfl rfl ?_
  refine g_callVf 1 0 gX9_pay_X9_isBill rfl rfl rfl ⟨Nat.le_of_ble_eq_true rfl, Nat.le_of_ble_eq_true rfl⟩ ⟨Nat.le_of_ble_eq_true rfl, Nat.le_of_ble_eq_true rfl⟩ (by exact Nat.le_of_ble_eq_true rfl) (by decide +kernel) rfl rfl rfl dX9_pay_2 (M_isBill _ D cy a _ _) rfl (fun vu_1 wu_1 hu_1 => ?_)
  rcases hu_1 with ⟨rfl, hu_1, rfl⟩ | ⟨rfl, hu_1, rfl⟩
  · skip
    refine g_if_ne 16 dX9_pay_5 (by decide) (fun _ => ?_) (fun h9 => absurd h9 (by decide))
    refine g_aload_n (i := 0) dX9_pay_16 rfl rfl ?_
    refine m_get 10 dX9_pay_17 (List.mem_of_getElem? (i := 2) rfl) (fun w h => List.mem_cons_of_mem _ (List.mem_append_right _ h)) (by decide) rfl ?_
    refine g_iload_n (i := 1) dX9_pay_20 rfl rfl ?_
    refine m_iald 10 8 40 dX9_pay_21 rfl (mbill hI (by assumption)) ?_
    refine g_iconst (1) rfl dX9_pay_22 ?_
    refine g_icmp_eq 34 dX9_pay_23 (by decide) (fun c_3 => ?_) (fun c_3 => ?_)
    · skip
      refine g_aload_n (i := 0) dX9_pay_34 rfl rfl ?_
      refine g_callVf 0 0 gX9_pay_X9_isEarly rfl rfl rfl ⟨Nat.le_of_ble_eq_true rfl, Nat.le_of_ble_eq_true rfl⟩ ⟨Nat.le_of_ble_eq_true rfl, Nat.le_of_ble_eq_true rfl⟩ (by exact Nat.le_of_ble_eq_true rfl) (by decide +kernel) rfl rfl rfl dX9_pay_35 (M_isEarly _ D cy a _) rfl (fun vu_4 wu_4 hu_4 => ?_)
      rcases hu_4 with ⟨rfl, hu_4, rfl⟩ | ⟨rfl, hu_4, rfl⟩
      · skip
        refine g_if_eq 49 dX9_pay_38 (by decide) (fun h9 => absurd h9 (by decide)) (fun _ => ?_)
        refine g_aload_n (i := 0) dX9_pay_41 rfl rfl ?_
        refine g_ldc2 (-1000000000007) (List.mem_of_getElem? (i := 4) rfl) dX9_pay_42 ?_
        refine g_callVf 1 0 gX9_pay_X9_finding rfl rfl rfl ⟨Nat.le_of_ble_eq_true rfl, Nat.le_of_ble_eq_true rfl⟩ ⟨Nat.le_of_ble_eq_true rfl, Nat.le_of_ble_eq_true rfl⟩ (by exact Nat.le_of_ble_eq_true rfl) (by decide +kernel) rfl rfl rfl dX9_pay_45 (M_finding _ D cy a _ _ (by unfold vp_in; decide)) rfl (fun vu_6 wu_6 hu_6 => ?_)
        obtain ⟨rfl, rfl⟩ := hu_6
        refine g_lret dX9_pay_48 ?_
        unfold mf_pay; (repeat' split) <;> first | contradiction | (with_reducible exact ⟨rfl, rfl⟩) | (exfalso; simp_all; done) | exact ⟨rfl, rfl⟩
      · skip
        refine g_if_eq 49 dX9_pay_38 (by decide) (fun _ => ?_) (fun h9 => absurd h9 (by decide))
        refine g_aload_n (i := 0) dX9_pay_49 rfl rfl ?_
        refine m_get 7 dX9_pay_50 (List.mem_of_getElem? (i := 5) rfl) (fun w h => List.mem_cons_of_mem _ (List.mem_append_right _ h)) (by decide) rfl ?_
        refine g_iload_n (i := 1) dX9_pay_53 rfl rfl ?_
        refine m_iald 7 5 40 dX9_pay_54 rfl (mbill hI (by assumption)) ?_
        refine g_istore_n (i := 2) dX9_pay_55 rfl (by decide) ?_
        refine g_aload_n (i := 0) dX9_pay_56 rfl rfl ?_
        refine m_get 8 dX9_pay_57 (List.mem_of_getElem? (i := 6) rfl) (fun w h => List.mem_cons_of_mem _ (List.mem_append_right _ h)) (by decide) rfl ?_
        refine g_iload_n (i := 1) dX9_pay_60 rfl rfl ?_
        refine m_iald 8 6 40 dX9_pay_61 rfl (mbill hI (by assumption)) ?_
        refine g_istore_n (i := 3) dX9_pay_62 rfl (by decide) ?_
        refine g_aload_n (i := 0) dX9_pay_63 rfl rfl ?_
        refine g_iload_n (i := 2) dX9_pay_64 rfl rfl ?_
        refine g_iload_n (i := 3) dX9_pay_65 rfl rfl ?_
        refine g_aload_n (i := 0) dX9_pay_66 rfl rfl ?_
        refine m_get 9 dX9_pay_67 (List.mem_of_getElem? (i := 7) rfl) (fun w h => List.mem_cons_of_mem _ (List.mem_append_right _ h)) (by decide) rfl ?_
        refine g_iload_n (i := 1) dX9_pay_70 rfl rfl ?_
        refine m_iald 9 7 40 dX9_pay_71 rfl (mbill hI (by assumption)) ?_
        refine g_i2l dX9_pay_72 ?_
        refine g_callVf 3 0 gX9_pay_X9_isTooMuch rfl rfl rfl ⟨Nat.le_of_ble_eq_true rfl, Nat.le_of_ble_eq_true rfl⟩ ⟨Nat.le_of_ble_eq_true rfl, Nat.le_of_ble_eq_true rfl⟩ (by exact Nat.le_of_ble_eq_true rfl) (by decide +kernel) rfl rfl rfl dX9_pay_73 (M_isTooMuch _ D cy a _ _ _ _ ((mhol hI (mbill hI (by assumption))).2.1) ((mhol hI (mbill hI (by assumption))).2.2.1)) rfl (fun vu_8 wu_8 hu_8 => ?_)
        rcases hu_8 with ⟨rfl, hu_8, rfl⟩ | ⟨rfl, hu_8, rfl⟩
        · skip
          refine g_if_eq 87 dX9_pay_76 (by decide) (fun h9 => absurd h9 (by decide)) (fun _ => ?_)
          refine g_aload_n (i := 0) dX9_pay_79 rfl rfl ?_
          refine g_ldc2 (-1000000000004) (List.mem_of_getElem? (i := 8) rfl) dX9_pay_80 ?_
          refine g_callVf 1 0 gX9_pay_X9_finding rfl rfl rfl ⟨Nat.le_of_ble_eq_true rfl, Nat.le_of_ble_eq_true rfl⟩ ⟨Nat.le_of_ble_eq_true rfl, Nat.le_of_ble_eq_true rfl⟩ (by exact Nat.le_of_ble_eq_true rfl) (by decide +kernel) rfl rfl rfl dX9_pay_83 (M_finding _ D cy a _ _ (by unfold vp_in; decide)) rfl (fun vu_10 wu_10 hu_10 => ?_)
          obtain ⟨rfl, rfl⟩ := hu_10
          refine g_lret dX9_pay_86 ?_
          unfold mf_pay; (repeat' split) <;> first | contradiction | (with_reducible exact ⟨rfl, rfl⟩) | (exfalso; simp_all; done) | exact ⟨rfl, rfl⟩
        · skip
          refine g_if_eq 87 dX9_pay_76 (by decide) (fun _ => ?_) (fun h9 => absurd h9 (by decide))
          refine g_aload_n (i := 0) dX9_pay_87 rfl rfl ?_
          refine g_iload_n (i := 2) dX9_pay_88 rfl rfl ?_
          refine g_iload_n (i := 3) dX9_pay_89 rfl rfl ?_
          refine g_aload_n (i := 0) dX9_pay_90 rfl rfl ?_
          refine m_get 9 dX9_pay_91 (List.mem_of_getElem? (i := 7) rfl) (fun w h => List.mem_cons_of_mem _ (List.mem_append_right _ h)) (by decide) rfl ?_
          refine g_iload_n (i := 1) dX9_pay_94 rfl rfl ?_
          refine m_iald 9 7 40 dX9_pay_95 rfl (mbill hI (by assumption)) ?_
          refine g_i2l dX9_pay_96 ?_
          refine g_callVf 3 0 gX9_pay_X9_comesToOwe rfl rfl rfl ⟨Nat.le_of_ble_eq_true rfl, Nat.le_of_ble_eq_true rfl⟩ ⟨Nat.le_of_ble_eq_true rfl, Nat.le_of_ble_eq_true rfl⟩ (by exact Nat.le_of_ble_eq_true rfl) (by decide +kernel) rfl rfl rfl dX9_pay_97 (M_comesToOwe _ D cy a _ _ _ _ ((mhol hI (mbill hI (by assumption))).2.1) ((mhol hI (mbill hI (by assumption))).2.2.1)) rfl (fun vu_12 wu_12 hu_12 => ?_)
          obtain ⟨rfl, rfl⟩ := hu_12
          refine g_aload_n (i := 0) dX9_pay_100 rfl rfl ?_
          refine g_iload_n (i := 1) dX9_pay_101 rfl rfl ?_
          refine g_iconst (4) rfl dX9_pay_102 ?_
          refine g_callVf 2 0 gX9_pay_X9_becomes rfl rfl rfl ⟨Nat.le_of_ble_eq_true rfl, Nat.le_of_ble_eq_true rfl⟩ ⟨Nat.le_of_ble_eq_true rfl, Nat.le_of_ble_eq_true rfl⟩ (by exact Nat.le_of_ble_eq_true rfl) (by decide +kernel) rfl rfl rfl dX9_pay_103 (M_becomes _ D cy a _ _ _ (by first | with_reducible assumption | exact mbill hI (by with_reducible assumption) | exact mnew hI (by with_reducible assumption)) (by unfold vp_in; decide)) rfl (fun vu_13 wu_13 hu_13 => ?_)
          obtain ⟨rfl, rfl⟩ := hu_13
          refine g_aload_n (i := 0) dX9_pay_106 rfl rfl ?_
          refine m_get 14 dX9_pay_107 (List.mem_of_getElem? (i := 9) rfl) (fun w h => List.mem_cons_of_mem _ (List.mem_append_right _ h)) (by decide) rfl ?_
          refine g_iload_n (i := 1) dX9_pay_110 rfl rfl ?_
          refine g_iconst (1) rfl dX9_pay_111 ?_
          refine m_zast 14 12 40 dX9_pay_112 rfl (mbill hI (by assumption)) (wsA_14 _ _ _ _ _) ?_
          refine g_iload_n (i := 2) dX9_pay_113 rfl rfl ?_
          refine g_iload_n (i := 3) dX9_pay_114 rfl rfl ?_
          refine g_icmp_ne 122 dX9_pay_115 (by decide) (fun c_14 => ?_) (fun c_14 => ?_)
          · skip
            refine g_aload_n (i := 0) dX9_pay_122 rfl rfl ?_
            refine m_get 9 dX9_pay_123 (List.mem_of_getElem? (i := 7) rfl) (fun w h => List.mem_cons_of_mem _ (List.mem_append_right _ h)) (by decide) rfl ?_
            refine g_iload_n (i := 1) dX9_pay_126 rfl rfl ?_
            refine m_iald 9 7 40 dX9_pay_127 rfl (mbill hI (by assumption)) ?_
            refine g_i2l dX9_pay_128 ?_
            refine g_lret dX9_pay_129 ?_
            unfold mf_pay; (repeat' split) <;> first | contradiction | (with_reducible exact ⟨rfl, rfl⟩) | (exfalso; simp_all; done) | exact ⟨rfl, rfl⟩
          · skip
            refine g_lconst 0 rfl dX9_pay_118 ?_
            refine g_goto 129 dX9_pay_119 (by decide) ?_
            refine g_lret dX9_pay_129 ?_
            unfold mf_pay; (repeat' split) <;> first | contradiction | (with_reducible exact ⟨rfl, rfl⟩) | (exfalso; simp_all; done) | exact ⟨rfl, rfl⟩
    · skip
      refine g_aload_n (i := 0) dX9_pay_26 rfl rfl ?_
      refine g_ldc2 (-1000000000003) (List.mem_of_getElem? (i := 3) rfl) dX9_pay_27 ?_
      refine g_callVf 1 0 gX9_pay_X9_finding rfl rfl rfl ⟨Nat.le_of_ble_eq_true rfl, Nat.le_of_ble_eq_true rfl⟩ ⟨Nat.le_of_ble_eq_true rfl, Nat.le_of_ble_eq_true rfl⟩ (by exact Nat.le_of_ble_eq_true rfl) (by decide +kernel) rfl rfl rfl dX9_pay_30 (M_finding _ D cy a _ _ (by unfold vp_in; decide)) rfl (fun vu_15 wu_15 hu_15 => ?_)
      obtain ⟨rfl, rfl⟩ := hu_15
      refine g_lret dX9_pay_33 ?_
      unfold mf_pay; (repeat' split) <;> first | contradiction | (with_reducible exact ⟨rfl, rfl⟩) | (exfalso; simp_all; done) | exact ⟨rfl, rfl⟩
  · skip
    refine g_if_ne 16 dX9_pay_5 (by decide) (fun h9 => absurd h9 (by decide)) (fun _ => ?_)
    refine g_aload_n (i := 0) dX9_pay_8 rfl rfl ?_
    refine g_ldc2 (-1000000000001) (List.mem_of_getElem? (i := 1) rfl) dX9_pay_9 ?_
    refine g_callVf 1 0 gX9_pay_X9_finding rfl rfl rfl ⟨Nat.le_of_ble_eq_true rfl, Nat.le_of_ble_eq_true rfl⟩ ⟨Nat.le_of_ble_eq_true rfl, Nat.le_of_ble_eq_true rfl⟩ (by exact Nat.le_of_ble_eq_true rfl) (by decide +kernel) rfl rfl rfl dX9_pay_12 (M_finding _ D cy a _ _ (by unfold vp_in; decide)) rfl (fun vu_17 wu_17 hu_17 => ?_)
    obtain ⟨rfl, rfl⟩ := hu_17
    refine g_lret dX9_pay_15 ?_
    unfold mf_pay; (repeat' split) <;> first | contradiction | (with_reducible exact ⟨rfl, rfl⟩) | (exfalso; simp_all; done) | exact ⟨rfl, rfl⟩

def mf_protest (S : MS) (b : Int32) : Int64 × MS := if (0 ≤ b ∧ b ≤ S.1 4 - 1) then (if S.2.2.1 10 b.toNatClampNeg = 2 then ((mf_becomes S b 3).2.1 0 - (mf_becomes S b 3).2.2.2 13 (5 * b + 2).toNatClampNeg, mf_becomes S b 3) else mf_finding S (-1000000000003)) else mf_finding S (-1000000000001)
set_option maxHeartbeats 4000000 in
set_option maxRecDepth 100000 in
/-- protest -/
theorem M_protest (l : Launch) (D : va_G) (cy : Nat → ClassId) (a : Nat → Nat) (S : MS) (hI : minv S) (b : Int32) : Ct l D clx (tyx cy) yX9_protest wsX9_protest (rmD 2) 0 0 [.ref (a 0), .int b] (MW cy a S) (fun r9 w9 => r9 = some (.long (mf_protest S b).1) ∧ w9 = MW cy a (mf_protest S b).2) := by
  refine g_start (cc := cX9_protest) (maxL := 2) (ret := (some .long)) (by decide) rfl (Nat.le_of_ble_eq_true rfl) (fun v w1 h => by obtain ⟨rfl, -⟩ := h; exact rfl) (fun Γ hlΓ => ?_)
  subst hlΓ
  refine g_aload_n (i := 0) dX9_protest_0 rfl rfl ?_
  refine g_iload_n (i := 1) dX9_protest_1 rfl rfl ?_
  refine g_callVf 1 0 gX9_protest_X9_isBill rfl rfl rfl ⟨Nat.le_of_ble_eq_true rfl, Nat.le_of_ble_eq_true rfl⟩ ⟨Nat.le_of_ble_eq_true rfl, Nat.le_of_ble_eq_true rfl⟩ (by exact Nat.le_of_ble_eq_true rfl) (by decide +kernel) rfl rfl rfl dX9_protest_2 (M_isBill _ D cy a _ _) rfl (fun vu_1 wu_1 hu_1 => ?_)
  rcases hu_1 with ⟨rfl, hu_1, rfl⟩ | ⟨rfl, hu_1, rfl⟩
  · skip
    refine g_if_ne 16 dX9_protest_5 (by decide) (fun _ => ?_) (fun h9 => absurd h9 (by decide))
    refine g_aload_n (i := 0) dX9_protest_16 rfl rfl ?_
    refine m_get 10 dX9_protest_17 (List.mem_of_getElem? (i := 2) rfl) (fun w h => List.mem_cons_of_mem _ (List.mem_append_right _ h)) (by decide) rfl ?_
    refine g_iload_n (i := 1) dX9_protest_20 rfl rfl ?_
    refine m_iald 10 8 40 dX9_protest_21 rfl (mbill hI (by assumption)) ?_
    refine g_iconst (2) rfl dX9_protest_22 ?_
    refine g_icmp_eq 34 dX9_protest_23 (by decide) (fun c_3 => ?_) (fun c_3 => ?_)
    · skip
      refine g_aload_n (i := 0) dX9_protest_34 rfl rfl ?_
      refine g_iload_n (i := 1) dX9_protest_35 rfl rfl ?_
      refine g_iconst (3) rfl dX9_protest_36 ?_
      refine g_callVf 2 0 gX9_protest_X9_becomes rfl rfl rfl ⟨Nat.le_of_ble_eq_true rfl, Nat.le_of_ble_eq_true rfl⟩ ⟨Nat.le_of_ble_eq_true rfl, Nat.le_of_ble_eq_true rfl⟩ (by exact Nat.le_of_ble_eq_true rfl) (by decide +kernel) rfl rfl rfl dX9_protest_37 (M_becomes _ D cy a _ _ _ (by first | with_reducible assumption | exact mbill hI (by with_reducible assumption) | exact mnew hI (by with_reducible assumption)) (by unfold vp_in; decide)) rfl (fun vu_4 wu_4 hu_4 => ?_)
      obtain ⟨rfl, rfl⟩ := hu_4
      refine g_aload_n (i := 0) dX9_protest_40 rfl rfl ?_
      refine m_get 0 dX9_protest_41 (List.mem_of_getElem? (i := 4) rfl) (fun w h => List.mem_cons_of_mem _ (List.mem_append_right _ h)) (by decide) rfl ?_
      refine g_aload_n (i := 0) dX9_protest_44 rfl rfl ?_
      refine m_get 13 dX9_protest_45 (List.mem_of_getElem? (i := 5) rfl) (fun w h => List.mem_cons_of_mem _ (List.mem_append_right _ h)) (by decide) rfl ?_
      refine g_iconst (5) rfl dX9_protest_48 ?_
      refine g_iload_n (i := 1) dX9_protest_49 rfl rfl ?_
      refine g_imul dX9_protest_50 ?_
      refine g_iconst (2) rfl dX9_protest_51 ?_
      refine g_iadd dX9_protest_52 ?_
      refine m_lald 13 11 200 dX9_protest_53 rfl (ix200 (mbill hI (by assumption)) (by unfold vp_in; decide)) ?_
      refine g_lsub dX9_protest_54 ?_
      refine g_lret dX9_protest_55 ?_
      unfold mf_protest; (repeat' split) <;> first | contradiction | (with_reducible exact ⟨rfl, rfl⟩) | (exfalso; simp_all; done) | exact ⟨rfl, rfl⟩
    · skip
      refine g_aload_n (i := 0) dX9_protest_26 rfl rfl ?_
      refine g_ldc2 (-1000000000003) (List.mem_of_getElem? (i := 3) rfl) dX9_protest_27 ?_
      refine g_callVf 1 0 gX9_protest_X9_finding rfl rfl rfl ⟨Nat.le_of_ble_eq_true rfl, Nat.le_of_ble_eq_true rfl⟩ ⟨Nat.le_of_ble_eq_true rfl, Nat.le_of_ble_eq_true rfl⟩ (by exact Nat.le_of_ble_eq_true rfl) (by decide +kernel) rfl rfl rfl dX9_protest_30 (M_finding _ D cy a _ _ (by unfold vp_in; decide)) rfl (fun vu_5 wu_5 hu_5 => ?_)
      obtain ⟨rfl, rfl⟩ := hu_5
      refine g_lret dX9_protest_33 ?_
      unfold mf_protest; (repeat' split) <;> first | contradiction | (with_reducible exact ⟨rfl, rfl⟩) | (exfalso; simp_all; done) | exact ⟨rfl, rfl⟩
  · skip
    refine g_if_ne 16 dX9_protest_5 (by decide) (fun h9 => absurd h9 (by decide)) (fun _ => ?_)
    refine g_aload_n (i := 0) dX9_protest_8 rfl rfl ?_
    refine g_ldc2 (-1000000000001) (List.mem_of_getElem? (i := 1) rfl) dX9_protest_9 ?_
    refine g_callVf 1 0 gX9_protest_X9_finding rfl rfl rfl ⟨Nat.le_of_ble_eq_true rfl, Nat.le_of_ble_eq_true rfl⟩ ⟨Nat.le_of_ble_eq_true rfl, Nat.le_of_ble_eq_true rfl⟩ (by exact Nat.le_of_ble_eq_true rfl) (by decide +kernel) rfl rfl rfl dX9_protest_12 (M_finding _ D cy a _ _ (by unfold vp_in; decide)) rfl (fun vu_7 wu_7 hu_7 => ?_)
    obtain ⟨rfl, rfl⟩ := hu_7
    refine g_lret dX9_protest_15 ?_
    unfold mf_protest; (repeat' split) <;> first | contradiction | (with_reducible exact ⟨rfl, rfl⟩) | (exfalso; simp_all; done) | exact ⟨rfl, rfl⟩

def mf_as (S : MS) (b kd : Int32) : Int64 × MS := if (0 ≤ b ∧ b ≤ S.1 4 - 1) ∧ (0 ≤ kd ∧ kd ≤ 2) then (if kd = 0 then ((S.2.2.1 9 b.toNatClampNeg).toInt64, S) else if S.2.2.1 5 b.toNatClampNeg = kd then ((S.2.2.1 9 b.toNatClampNeg).toInt64, S) else mf_finding S (-1000000000005)) else mf_finding S (-1000000000001)
set_option maxHeartbeats 4000000 in
set_option maxRecDepth 100000 in
/-- as -/
theorem M_as (l : Launch) (D : va_G) (cy : Nat → ClassId) (a : Nat → Nat) (S : MS) (hI : minv S) (b kd : Int32) : Ct l D clx (tyx cy) yX9_as wsX9_as (rmD 2) 0 0 [.ref (a 0), .int b, .int kd] (MW cy a S) (fun r9 w9 => r9 = some (.long (mf_as S b kd).1) ∧ w9 = MW cy a (mf_as S b kd).2) := by
  refine g_start (cc := cX9_as) (maxL := 3) (ret := (some .long)) (by decide) rfl (Nat.le_of_ble_eq_true rfl) (fun v w1 h => by obtain ⟨rfl, -⟩ := h; exact rfl) (fun Γ hlΓ => ?_)
  subst hlΓ
  refine g_aload_n (i := 0) dX9_as_0 rfl rfl ?_
  refine g_iload_n (i := 1) dX9_as_1 rfl rfl ?_
  refine g_callVf 1 0 gX9_as_X9_isBill rfl rfl rfl ⟨Nat.le_of_ble_eq_true rfl, Nat.le_of_ble_eq_true rfl⟩ ⟨Nat.le_of_ble_eq_true rfl, Nat.le_of_ble_eq_true rfl⟩ (by exact Nat.le_of_ble_eq_true rfl) (by decide +kernel) rfl rfl rfl dX9_as_2 (M_isBill _ D cy a _ _) rfl (fun vu_1 wu_1 hu_1 => ?_)
  rcases hu_1 with ⟨rfl, hu_1, rfl⟩ | ⟨rfl, hu_1, rfl⟩
  · skip
    refine g_if_eq 17 dX9_as_5 (by decide) (fun h9 => absurd h9 (by decide)) (fun _ => ?_)
    refine g_iload_n (i := 2) dX9_as_8 rfl rfl ?_
    refine g_iconst (0) rfl dX9_as_9 ?_
    refine g_iconst (2) rfl dX9_as_10 ?_
    refine g_callSf 3 gX9_as_X9_in rfl rfl rfl ⟨Nat.le_of_ble_eq_true rfl, Nat.le_of_ble_eq_true rfl⟩ ⟨Nat.le_of_ble_eq_true rfl, Nat.le_of_ble_eq_true rfl⟩ (by exact Nat.le_of_ble_eq_true rfl) (by decide +kernel) rfl dX9_as_11 (M_in _ D cy a _ _ _ _) rfl (fun vu_3 wu_3 hu_3 => ?_)
    rcases hu_3 with ⟨rfl, hu_3, rfl⟩ | ⟨rfl, hu_3, rfl⟩
    · skip
      refine g_if_ne 25 dX9_as_14 (by decide) (fun _ => ?_) (fun h9 => absurd h9 (by decide))
      refine g_iload_n (i := 2) dX9_as_25 rfl rfl ?_
      refine g_if_eq 39 dX9_as_26 (by decide) (fun c_5 => ?_) (fun c_5 => ?_)
      · skip
        refine g_aload_n (i := 0) dX9_as_39 rfl rfl ?_
        refine m_get 9 dX9_as_40 (List.mem_of_getElem? (i := 3) rfl) (fun w h => List.mem_cons_of_mem _ (List.mem_append_right _ h)) (by decide) rfl ?_
        refine g_iload_n (i := 1) dX9_as_43 rfl rfl ?_
        refine m_iald 9 7 40 dX9_as_44 rfl (mbill hI (by assumption)) ?_
        refine g_i2l dX9_as_45 ?_
        refine g_goto 56 dX9_as_46 (by decide) ?_
        refine g_lret dX9_as_56 ?_
        unfold mf_as; (repeat' split) <;> first | contradiction | (with_reducible exact ⟨rfl, rfl⟩) | (exfalso; simp_all; done) | exact ⟨rfl, rfl⟩
      · skip
        refine g_aload_n (i := 0) dX9_as_29 rfl rfl ?_
        refine m_get 5 dX9_as_30 (List.mem_of_getElem? (i := 2) rfl) (fun w h => List.mem_cons_of_mem _ (List.mem_append_right _ h)) (by decide) rfl ?_
        refine g_iload_n (i := 1) dX9_as_33 rfl rfl ?_
        refine m_iald 5 3 40 dX9_as_34 rfl (mbill hI (by assumption)) ?_
        refine g_iload_n (i := 2) dX9_as_35 rfl rfl ?_
        refine g_icmp_ne 49 dX9_as_36 (by decide) (fun c_6 => ?_) (fun c_6 => ?_)
        · skip
          refine g_aload_n (i := 0) dX9_as_49 rfl rfl ?_
          refine g_ldc2 (-1000000000005) (List.mem_of_getElem? (i := 4) rfl) dX9_as_50 ?_
          refine g_callVf 1 0 gX9_as_X9_finding rfl rfl rfl ⟨Nat.le_of_ble_eq_true rfl, Nat.le_of_ble_eq_true rfl⟩ ⟨Nat.le_of_ble_eq_true rfl, Nat.le_of_ble_eq_true rfl⟩ (by exact Nat.le_of_ble_eq_true rfl) (by decide +kernel) rfl rfl rfl dX9_as_53 (M_finding _ D cy a _ _ (by unfold vp_in; decide)) rfl (fun vu_7 wu_7 hu_7 => ?_)
          obtain ⟨rfl, rfl⟩ := hu_7
          refine g_lret dX9_as_56 ?_
          unfold mf_as; (repeat' split) <;> first | contradiction | (with_reducible exact ⟨rfl, rfl⟩) | (exfalso; simp_all; done) | exact ⟨rfl, rfl⟩
        · skip
          refine g_aload_n (i := 0) dX9_as_39 rfl rfl ?_
          refine m_get 9 dX9_as_40 (List.mem_of_getElem? (i := 3) rfl) (fun w h => List.mem_cons_of_mem _ (List.mem_append_right _ h)) (by decide) rfl ?_
          refine g_iload_n (i := 1) dX9_as_43 rfl rfl ?_
          refine m_iald 9 7 40 dX9_as_44 rfl (mbill hI (by assumption)) ?_
          refine g_i2l dX9_as_45 ?_
          refine g_goto 56 dX9_as_46 (by decide) ?_
          refine g_lret dX9_as_56 ?_
          unfold mf_as; (repeat' split) <;> first | contradiction | (with_reducible exact ⟨rfl, rfl⟩) | (exfalso; simp_all; done) | exact ⟨rfl, rfl⟩
    · skip
      refine g_if_ne 25 dX9_as_14 (by decide) (fun h9 => absurd h9 (by decide)) (fun _ => ?_)
      refine g_aload_n (i := 0) dX9_as_17 rfl rfl ?_
      refine g_ldc2 (-1000000000001) (List.mem_of_getElem? (i := 1) rfl) dX9_as_18 ?_
      refine g_callVf 1 0 gX9_as_X9_finding rfl rfl rfl ⟨Nat.le_of_ble_eq_true rfl, Nat.le_of_ble_eq_true rfl⟩ ⟨Nat.le_of_ble_eq_true rfl, Nat.le_of_ble_eq_true rfl⟩ (by exact Nat.le_of_ble_eq_true rfl) (by decide +kernel) rfl rfl rfl dX9_as_21 (M_finding _ D cy a _ _ (by unfold vp_in; decide)) rfl (fun vu_9 wu_9 hu_9 => ?_)
      obtain ⟨rfl, rfl⟩ := hu_9
      refine g_lret dX9_as_24 ?_
      unfold mf_as; (repeat' split) <;> first | contradiction | (with_reducible exact ⟨rfl, rfl⟩) | (exfalso; simp_all; done) | exact ⟨rfl, rfl⟩
  · skip
    refine g_if_eq 17 dX9_as_5 (by decide) (fun _ => ?_) (fun h9 => absurd h9 (by decide))
    refine g_aload_n (i := 0) dX9_as_17 rfl rfl ?_
    refine g_ldc2 (-1000000000001) (List.mem_of_getElem? (i := 1) rfl) dX9_as_18 ?_
    refine g_callVf 1 0 gX9_as_X9_finding rfl rfl rfl ⟨Nat.le_of_ble_eq_true rfl, Nat.le_of_ble_eq_true rfl⟩ ⟨Nat.le_of_ble_eq_true rfl, Nat.le_of_ble_eq_true rfl⟩ (by exact Nat.le_of_ble_eq_true rfl) (by decide +kernel) rfl rfl rfl dX9_as_21 (M_finding _ D cy a _ _ (by unfold vp_in; decide)) rfl (fun vu_11 wu_11 hu_11 => ?_)
    obtain ⟨rfl, rfl⟩ := hu_11
    refine g_lret dX9_as_24 ?_
    unfold mf_as; (repeat' split) <;> first | contradiction | (with_reducible exact ⟨rfl, rfl⟩) | (exfalso; simp_all; done) | exact ⟨rfl, rfl⟩

def mf_owe (S : MS) (h q v : Int32) : Int64 × MS := if (0 ≤ h ∧ h ≤ 9) ∧ (0 ≤ q ∧ q ≤ 9) ∧ ¬ h = q ∧ (1 ≤ v ∧ v ≤ 1000000) then (if (¬ h = q ∧ (1000000000 < mwould S h q v.toInt64 ∨ mwould S h q v.toInt64 < -1000000000)) then mf_finding S (-1000000000004) else ((mf_ctow S h q v.toInt64).2.2.2 15 (10 * h + q).toNatClampNeg, mf_ctow S h q v.toInt64)) else mf_finding S (-1000000000001)
set_option maxHeartbeats 4000000 in
set_option maxRecDepth 100000 in
/-- owe -/
theorem M_owe (l : Launch) (D : va_G) (cy : Nat → ClassId) (a : Nat → Nat) (S : MS) (h q v : Int32) : Ct l D clx (tyx cy) yX9_owe wsX9_owe (rmD 3) 0 0 [.ref (a 0), .int h, .int q, .int v] (MW cy a S) (fun r9 w9 => r9 = some (.long (mf_owe S h q v).1) ∧ w9 = MW cy a (mf_owe S h q v).2) := by
  refine g_start (cc := cX9_owe) (maxL := 4) (ret := (some .long)) (by decide) rfl (Nat.le_of_ble_eq_true rfl) (fun v w1 h => by obtain ⟨rfl, -⟩ := h; exact rfl) (fun Γ hlΓ => ?_)
  subst hlΓ
  refine g_iload_n (i := 1) dX9_owe_0 rfl rfl ?_
  refine g_callSf 1 gX9_owe_X9_isHouse rfl rfl rfl ⟨Nat.le_of_ble_eq_true rfl, Nat.le_of_ble_eq_true rfl⟩ ⟨Nat.le_of_ble_eq_true rfl, Nat.le_of_ble_eq_true rfl⟩ (by exact Nat.le_of_ble_eq_true rfl) (by decide +kernel) rfl dX9_owe_1 (M_isHouse _ D cy a _ _) rfl (fun vu_1 wu_1 hu_1 => ?_)
  rcases hu_1 with ⟨rfl, hu_1, rfl⟩ | ⟨rfl, hu_1, rfl⟩
  · skip
    refine g_if_eq 30 dX9_owe_4 (by decide) (fun h9 => absurd h9 (by decide)) (fun _ => ?_)
    refine g_iload_n (i := 2) dX9_owe_7 rfl rfl ?_
    refine g_callSf 1 gX9_owe_X9_isHouse rfl rfl rfl ⟨Nat.le_of_ble_eq_true rfl, Nat.le_of_ble_eq_true rfl⟩ ⟨Nat.le_of_ble_eq_true rfl, Nat.le_of_ble_eq_true rfl⟩ (by exact Nat.le_of_ble_eq_true rfl) (by decide +kernel) rfl dX9_owe_8 (M_isHouse _ D cy a _ _) rfl (fun vu_3 wu_3 hu_3 => ?_)
    rcases hu_3 with ⟨rfl, hu_3, rfl⟩ | ⟨rfl, hu_3, rfl⟩
    · skip
      refine g_if_eq 30 dX9_owe_11 (by decide) (fun h9 => absurd h9 (by decide)) (fun _ => ?_)
      refine g_iload_n (i := 1) dX9_owe_14 rfl rfl ?_
      refine g_iload_n (i := 2) dX9_owe_15 rfl rfl ?_
      refine g_icmp_eq 30 dX9_owe_16 (by decide) (fun c_5 => ?_) (fun c_5 => ?_)
      · skip
        refine g_aload_n (i := 0) dX9_owe_30 rfl rfl ?_
        refine g_ldc2 (-1000000000001) (List.mem_of_getElem? (i := 2) rfl) dX9_owe_31 ?_
        refine g_callVf 1 0 gX9_owe_X9_finding rfl rfl rfl ⟨Nat.le_of_ble_eq_true rfl, Nat.le_of_ble_eq_true rfl⟩ ⟨Nat.le_of_ble_eq_true rfl, Nat.le_of_ble_eq_true rfl⟩ (by exact Nat.le_of_ble_eq_true rfl) (by decide +kernel) rfl rfl rfl dX9_owe_34 (M_finding _ D cy a _ _ (by unfold vp_in; decide)) rfl (fun vu_6 wu_6 hu_6 => ?_)
        obtain ⟨rfl, rfl⟩ := hu_6
        refine g_lret dX9_owe_37 ?_
        unfold mf_owe; (repeat' split) <;> first | contradiction | (with_reducible exact ⟨rfl, rfl⟩) | (exfalso; simp_all; done) | exact ⟨rfl, rfl⟩
      · skip
        refine g_iload_n (i := 3) dX9_owe_19 rfl rfl ?_
        refine g_iconst (1) rfl dX9_owe_20 ?_
        refine g_ldcw (1000000) (List.mem_of_getElem? (i := 1) rfl) dX9_owe_21 ?_
        refine g_callSf 3 gX9_owe_X9_in rfl rfl rfl ⟨Nat.le_of_ble_eq_true rfl, Nat.le_of_ble_eq_true rfl⟩ ⟨Nat.le_of_ble_eq_true rfl, Nat.le_of_ble_eq_true rfl⟩ (by exact Nat.le_of_ble_eq_true rfl) (by decide +kernel) rfl dX9_owe_24 (M_in _ D cy a _ _ _ _) rfl (fun vu_7 wu_7 hu_7 => ?_)
        rcases hu_7 with ⟨rfl, hu_7, rfl⟩ | ⟨rfl, hu_7, rfl⟩
        · skip
          refine g_if_ne 38 dX9_owe_27 (by decide) (fun _ => ?_) (fun h9 => absurd h9 (by decide))
          refine g_aload_n (i := 0) dX9_owe_38 rfl rfl ?_
          refine g_iload_n (i := 1) dX9_owe_39 rfl rfl ?_
          refine g_iload_n (i := 2) dX9_owe_40 rfl rfl ?_
          refine g_iload_n (i := 3) dX9_owe_41 rfl rfl ?_
          refine g_i2l dX9_owe_42 ?_
          refine g_callVf 3 0 gX9_owe_X9_isTooMuch rfl rfl rfl ⟨Nat.le_of_ble_eq_true rfl, Nat.le_of_ble_eq_true rfl⟩ ⟨Nat.le_of_ble_eq_true rfl, Nat.le_of_ble_eq_true rfl⟩ (by exact Nat.le_of_ble_eq_true rfl) (by decide +kernel) rfl rfl rfl dX9_owe_43 (M_isTooMuch _ D cy a _ _ _ _ (vpi10 (by assumption)) (vpi10 (by assumption))) rfl (fun vu_9 wu_9 hu_9 => ?_)
          rcases hu_9 with ⟨rfl, hu_9, rfl⟩ | ⟨rfl, hu_9, rfl⟩
          · skip
            refine g_if_eq 57 dX9_owe_46 (by decide) (fun h9 => absurd h9 (by decide)) (fun _ => ?_)
            refine g_aload_n (i := 0) dX9_owe_49 rfl rfl ?_
            refine g_ldc2 (-1000000000004) (List.mem_of_getElem? (i := 3) rfl) dX9_owe_50 ?_
            refine g_callVf 1 0 gX9_owe_X9_finding rfl rfl rfl ⟨Nat.le_of_ble_eq_true rfl, Nat.le_of_ble_eq_true rfl⟩ ⟨Nat.le_of_ble_eq_true rfl, Nat.le_of_ble_eq_true rfl⟩ (by exact Nat.le_of_ble_eq_true rfl) (by decide +kernel) rfl rfl rfl dX9_owe_53 (M_finding _ D cy a _ _ (by unfold vp_in; decide)) rfl (fun vu_11 wu_11 hu_11 => ?_)
            obtain ⟨rfl, rfl⟩ := hu_11
            refine g_lret dX9_owe_56 ?_
            unfold mf_owe; (repeat' split) <;> first | contradiction | (with_reducible exact ⟨rfl, rfl⟩) | (exfalso; simp_all; done) | exact ⟨rfl, rfl⟩
          · skip
            refine g_if_eq 57 dX9_owe_46 (by decide) (fun _ => ?_) (fun h9 => absurd h9 (by decide))
            refine g_aload_n (i := 0) dX9_owe_57 rfl rfl ?_
            refine g_iload_n (i := 1) dX9_owe_58 rfl rfl ?_
            refine g_iload_n (i := 2) dX9_owe_59 rfl rfl ?_
            refine g_iload_n (i := 3) dX9_owe_60 rfl rfl ?_
            refine g_i2l dX9_owe_61 ?_
            refine g_callVf 3 0 gX9_owe_X9_comesToOwe rfl rfl rfl ⟨Nat.le_of_ble_eq_true rfl, Nat.le_of_ble_eq_true rfl⟩ ⟨Nat.le_of_ble_eq_true rfl, Nat.le_of_ble_eq_true rfl⟩ (by exact Nat.le_of_ble_eq_true rfl) (by decide +kernel) rfl rfl rfl dX9_owe_62 (M_comesToOwe _ D cy a _ _ _ _ (vpi10 (by assumption)) (vpi10 (by assumption))) rfl (fun vu_13 wu_13 hu_13 => ?_)
            obtain ⟨rfl, rfl⟩ := hu_13
            refine g_aload_n (i := 0) dX9_owe_65 rfl rfl ?_
            refine m_get 15 dX9_owe_66 (List.mem_of_getElem? (i := 4) rfl) (fun w h => List.mem_cons_of_mem _ (List.mem_append_right _ h)) (by decide) rfl ?_
            refine g_bipush (10) rfl dX9_owe_69 ?_
            refine g_iload_n (i := 1) dX9_owe_71 rfl rfl ?_
            refine g_imul dX9_owe_72 ?_
            refine g_iload_n (i := 2) dX9_owe_73 rfl rfl ?_
            refine g_iadd dX9_owe_74 ?_
            refine m_lald 15 13 100 dX9_owe_75 rfl (ix100 (vpi10 (by assumption)) (vpi10 (by assumption))) ?_
            refine g_lret dX9_owe_76 ?_
            unfold mf_owe; (repeat' split) <;> first | contradiction | (with_reducible exact ⟨rfl, rfl⟩) | (exfalso; simp_all; done) | exact ⟨rfl, rfl⟩
        · skip
          refine g_if_ne 38 dX9_owe_27 (by decide) (fun h9 => absurd h9 (by decide)) (fun _ => ?_)
          refine g_aload_n (i := 0) dX9_owe_30 rfl rfl ?_
          refine g_ldc2 (-1000000000001) (List.mem_of_getElem? (i := 2) rfl) dX9_owe_31 ?_
          refine g_callVf 1 0 gX9_owe_X9_finding rfl rfl rfl ⟨Nat.le_of_ble_eq_true rfl, Nat.le_of_ble_eq_true rfl⟩ ⟨Nat.le_of_ble_eq_true rfl, Nat.le_of_ble_eq_true rfl⟩ (by exact Nat.le_of_ble_eq_true rfl) (by decide +kernel) rfl rfl rfl dX9_owe_34 (M_finding _ D cy a _ _ (by unfold vp_in; decide)) rfl (fun vu_15 wu_15 hu_15 => ?_)
          obtain ⟨rfl, rfl⟩ := hu_15
          refine g_lret dX9_owe_37 ?_
          unfold mf_owe; (repeat' split) <;> first | contradiction | (with_reducible exact ⟨rfl, rfl⟩) | (exfalso; simp_all; done) | exact ⟨rfl, rfl⟩
    · skip
      refine g_if_eq 30 dX9_owe_11 (by decide) (fun _ => ?_) (fun h9 => absurd h9 (by decide))
      refine g_aload_n (i := 0) dX9_owe_30 rfl rfl ?_
      refine g_ldc2 (-1000000000001) (List.mem_of_getElem? (i := 2) rfl) dX9_owe_31 ?_
      refine g_callVf 1 0 gX9_owe_X9_finding rfl rfl rfl ⟨Nat.le_of_ble_eq_true rfl, Nat.le_of_ble_eq_true rfl⟩ ⟨Nat.le_of_ble_eq_true rfl, Nat.le_of_ble_eq_true rfl⟩ (by exact Nat.le_of_ble_eq_true rfl) (by decide +kernel) rfl rfl rfl dX9_owe_34 (M_finding _ D cy a _ _ (by unfold vp_in; decide)) rfl (fun vu_17 wu_17 hu_17 => ?_)
      obtain ⟨rfl, rfl⟩ := hu_17
      refine g_lret dX9_owe_37 ?_
      unfold mf_owe; (repeat' split) <;> first | contradiction | (with_reducible exact ⟨rfl, rfl⟩) | (exfalso; simp_all; done) | exact ⟨rfl, rfl⟩
  · skip
    refine g_if_eq 30 dX9_owe_4 (by decide) (fun _ => ?_) (fun h9 => absurd h9 (by decide))
    refine g_aload_n (i := 0) dX9_owe_30 rfl rfl ?_
    refine g_ldc2 (-1000000000001) (List.mem_of_getElem? (i := 2) rfl) dX9_owe_31 ?_
    refine g_callVf 1 0 gX9_owe_X9_finding rfl rfl rfl ⟨Nat.le_of_ble_eq_true rfl, Nat.le_of_ble_eq_true rfl⟩ ⟨Nat.le_of_ble_eq_true rfl, Nat.le_of_ble_eq_true rfl⟩ (by exact Nat.le_of_ble_eq_true rfl) (by decide +kernel) rfl rfl rfl dX9_owe_34 (M_finding _ D cy a _ _ (by unfold vp_in; decide)) rfl (fun vu_19 wu_19 hu_19 => ?_)
    obtain ⟨rfl, rfl⟩ := hu_19
    refine g_lret dX9_owe_37 ?_
    unfold mf_owe; (repeat' split) <;> first | contradiction | (with_reducible exact ⟨rfl, rfl⟩) | (exfalso; simp_all; done) | exact ⟨rfl, rfl⟩

def mf_owes (S : MS) (h q : Int32) : Int64 × MS := if (0 ≤ h ∧ h ≤ 9) ∧ (0 ≤ q ∧ q ≤ 9) ∧ ¬ h = q then (S.2.2.2 15 (10 * h + q).toNatClampNeg, S) else mf_finding S (-1000000000001)
set_option maxHeartbeats 4000000 in
set_option maxRecDepth 100000 in
/-- owes -/
theorem M_owes (l : Launch) (D : va_G) (cy : Nat → ClassId) (a : Nat → Nat) (S : MS) (h q : Int32) : Ct l D clx (tyx cy) yX9_owes wsX9_owes (rmD 2) 0 0 [.ref (a 0), .int h, .int q] (MW cy a S) (fun r9 w9 => r9 = some (.long (mf_owes S h q).1) ∧ w9 = MW cy a (mf_owes S h q).2) := by
  refine g_start (cc := cX9_owes) (maxL := 3) (ret := (some .long)) (by decide) rfl (Nat.le_of_ble_eq_true rfl) (fun v w1 h => by obtain ⟨rfl, -⟩ := h; exact rfl) (fun Γ hlΓ => ?_)
  subst hlΓ
  refine g_iload_n (i := 1) dX9_owes_0 rfl rfl ?_
  refine g_callSf 1 gX9_owes_X9_isHouse rfl rfl rfl ⟨Nat.le_of_ble_eq_true rfl, Nat.le_of_ble_eq_true rfl⟩ ⟨Nat.le_of_ble_eq_true rfl, Nat.le_of_ble_eq_true rfl⟩ (by exact Nat.le_of_ble_eq_true rfl) (by decide +kernel) rfl dX9_owes_1 (M_isHouse _ D cy a _ _) rfl (fun vu_1 wu_1 hu_1 => ?_)
  rcases hu_1 with ⟨rfl, hu_1, rfl⟩ | ⟨rfl, hu_1, rfl⟩
  · skip
    refine g_if_eq 33 dX9_owes_4 (by decide) (fun h9 => absurd h9 (by decide)) (fun _ => ?_)
    refine g_iload_n (i := 2) dX9_owes_7 rfl rfl ?_
    refine g_callSf 1 gX9_owes_X9_isHouse rfl rfl rfl ⟨Nat.le_of_ble_eq_true rfl, Nat.le_of_ble_eq_true rfl⟩ ⟨Nat.le_of_ble_eq_true rfl, Nat.le_of_ble_eq_true rfl⟩ (by exact Nat.le_of_ble_eq_true rfl) (by decide +kernel) rfl dX9_owes_8 (M_isHouse _ D cy a _ _) rfl (fun vu_3 wu_3 hu_3 => ?_)
    rcases hu_3 with ⟨rfl, hu_3, rfl⟩ | ⟨rfl, hu_3, rfl⟩
    · skip
      refine g_if_eq 33 dX9_owes_11 (by decide) (fun h9 => absurd h9 (by decide)) (fun _ => ?_)
      refine g_iload_n (i := 1) dX9_owes_14 rfl rfl ?_
      refine g_iload_n (i := 2) dX9_owes_15 rfl rfl ?_
      refine g_icmp_eq 33 dX9_owes_16 (by decide) (fun c_5 => ?_) (fun c_5 => ?_)
      · skip
        refine g_aload_n (i := 0) dX9_owes_33 rfl rfl ?_
        refine g_ldc2 (-1000000000001) (List.mem_of_getElem? (i := 2) rfl) dX9_owes_34 ?_
        refine g_callVf 1 0 gX9_owes_X9_finding rfl rfl rfl ⟨Nat.le_of_ble_eq_true rfl, Nat.le_of_ble_eq_true rfl⟩ ⟨Nat.le_of_ble_eq_true rfl, Nat.le_of_ble_eq_true rfl⟩ (by exact Nat.le_of_ble_eq_true rfl) (by decide +kernel) rfl rfl rfl dX9_owes_37 (M_finding _ D cy a _ _ (by unfold vp_in; decide)) rfl (fun vu_6 wu_6 hu_6 => ?_)
        obtain ⟨rfl, rfl⟩ := hu_6
        refine g_lret dX9_owes_40 ?_
        unfold mf_owes; (repeat' split) <;> first | contradiction | (with_reducible exact ⟨rfl, rfl⟩) | (exfalso; simp_all; done) | exact ⟨rfl, rfl⟩
      · skip
        refine g_aload_n (i := 0) dX9_owes_19 rfl rfl ?_
        refine m_get 15 dX9_owes_20 (List.mem_of_getElem? (i := 1) rfl) (fun w h => List.mem_cons_of_mem _ (List.mem_append_right _ h)) (by decide) rfl ?_
        refine g_bipush (10) rfl dX9_owes_23 ?_
        refine g_iload_n (i := 1) dX9_owes_25 rfl rfl ?_
        refine g_imul dX9_owes_26 ?_
        refine g_iload_n (i := 2) dX9_owes_27 rfl rfl ?_
        refine g_iadd dX9_owes_28 ?_
        refine m_lald 15 13 100 dX9_owes_29 rfl (ix100 (vpi10 (by assumption)) (vpi10 (by assumption))) ?_
        refine g_goto 40 dX9_owes_30 (by decide) ?_
        refine g_lret dX9_owes_40 ?_
        unfold mf_owes; (repeat' split) <;> first | contradiction | (with_reducible exact ⟨rfl, rfl⟩) | (exfalso; simp_all; done) | exact ⟨rfl, rfl⟩
    · skip
      refine g_if_eq 33 dX9_owes_11 (by decide) (fun _ => ?_) (fun h9 => absurd h9 (by decide))
      refine g_aload_n (i := 0) dX9_owes_33 rfl rfl ?_
      refine g_ldc2 (-1000000000001) (List.mem_of_getElem? (i := 2) rfl) dX9_owes_34 ?_
      refine g_callVf 1 0 gX9_owes_X9_finding rfl rfl rfl ⟨Nat.le_of_ble_eq_true rfl, Nat.le_of_ble_eq_true rfl⟩ ⟨Nat.le_of_ble_eq_true rfl, Nat.le_of_ble_eq_true rfl⟩ (by exact Nat.le_of_ble_eq_true rfl) (by decide +kernel) rfl rfl rfl dX9_owes_37 (M_finding _ D cy a _ _ (by unfold vp_in; decide)) rfl (fun vu_8 wu_8 hu_8 => ?_)
      obtain ⟨rfl, rfl⟩ := hu_8
      refine g_lret dX9_owes_40 ?_
      unfold mf_owes; (repeat' split) <;> first | contradiction | (with_reducible exact ⟨rfl, rfl⟩) | (exfalso; simp_all; done) | exact ⟨rfl, rfl⟩
  · skip
    refine g_if_eq 33 dX9_owes_4 (by decide) (fun _ => ?_) (fun h9 => absurd h9 (by decide))
    refine g_aload_n (i := 0) dX9_owes_33 rfl rfl ?_
    refine g_ldc2 (-1000000000001) (List.mem_of_getElem? (i := 2) rfl) dX9_owes_34 ?_
    refine g_callVf 1 0 gX9_owes_X9_finding rfl rfl rfl ⟨Nat.le_of_ble_eq_true rfl, Nat.le_of_ble_eq_true rfl⟩ ⟨Nat.le_of_ble_eq_true rfl, Nat.le_of_ble_eq_true rfl⟩ (by exact Nat.le_of_ble_eq_true rfl) (by decide +kernel) rfl rfl rfl dX9_owes_37 (M_finding _ D cy a _ _ (by unfold vp_in; decide)) rfl (fun vu_10 wu_10 hu_10 => ?_)
    obtain ⟨rfl, rfl⟩ := hu_10
    refine g_lret dX9_owes_40 ?_
    unfold mf_owes; (repeat' split) <;> first | contradiction | (with_reducible exact ⟨rfl, rfl⟩) | (exfalso; simp_all; done) | exact ⟨rfl, rfl⟩

def mnetT (S : MS) (h : Int32) : Nat → Int64
  | 0 => 0
  | i + 1 => mnetT S h i + (S.2.2.2 15 (10 * nI i + h).toNatClampNeg - S.2.2.2 15 (10 * h + nI i).toNatClampNeg)
set_option maxHeartbeats 4000000 in
set_option maxRecDepth 100000 in
/-- the net of a house -/
theorem M_netOf (l : Launch) (D : va_G) (cy : Nat → ClassId) (a : Nat → Nat) (S : MS) (h : Int32) (hh : vp_in h 10) : Ct l D clx (tyx cy) yX9_netOf wsX9_netOf (rmD 0) 0 0 [.ref (a 0), .int h] (MW cy a S) (fun r9 w9 => r9 = some (.long (mnetT S h 10)) ∧ w9 = MW cy a S) := by
  refine g_start (cc := cX9_netOf) (maxL := 5) (ret := (some .long)) (by decide) rfl (Nat.le_of_ble_eq_true rfl) (fun v w1 h => by obtain ⟨rfl, -⟩ := h; exact rfl) (fun Γ hlΓ => ?_)
  subst hlΓ
  refine g_lconst 0 rfl dX9_netOf_0 ?_
  refine g_lstore_n (i := 2) dX9_netOf_1 rfl (by decide) ?_
  refine g_iconst (0) rfl dX9_netOf_2 ?_
  refine g_istore dX9_netOf_3 (by decide) ?_
  refine g_cnt 10 (fun i => True) (fun i => MW cy a S) (fun i => [(0, .ref (a 0)), (1, .int h), (2, .long (mnetT S h i)), (4, .int (nI i))]) 0 (by first | decide | omega) trivial (by rfl) (by refine ⟨rfl, rfl, rfl, rfl, trivial⟩) ?_ (fun i1 hi1 gi1 ihi1 => ?_)
  · intro gN
    refine g_iload dX9_netOf_5 rfl ?_
    refine g_bipush (10) rfl dX9_netOf_7 ?_
    refine g_icmp_ge 46 dX9_netOf_9 (by decide) (fun c_2 => ?_) (fun c_2 => ?_)
    · skip
      refine g_lload_n (i := 2) dX9_netOf_46 rfl rfl ?_
      refine g_lret dX9_netOf_47 ?_
      exact ⟨rfl, rfl⟩
    · skip
      exact absurd (nI_le (Nat.le_refl _) (by decide)) c_2
  · skip
    refine g_iload dX9_netOf_5 rfl ?_
    refine g_bipush (10) rfl dX9_netOf_7 ?_
    refine g_icmp_ge 46 dX9_netOf_9 (by decide) (fun c_3 => ?_) (fun c_3 => ?_)
    · skip
      exact absurd c_3 (nI_ge hi1 (by decide))
    · skip
      refine g_lload_n (i := 2) dX9_netOf_12 rfl rfl ?_
      refine g_aload_n (i := 0) dX9_netOf_13 rfl rfl ?_
      refine m_get 15 dX9_netOf_14 (List.mem_of_getElem? (i := 1) rfl) (fun w h => List.mem_cons_of_mem _ (List.mem_append_right _ h)) (by decide) rfl ?_
      refine g_bipush (10) rfl dX9_netOf_17 ?_
      refine g_iload dX9_netOf_19 rfl ?_
      refine g_imul dX9_netOf_21 ?_
      refine g_iload_n (i := 1) dX9_netOf_22 rfl rfl ?_
      refine g_iadd dX9_netOf_23 ?_
      refine m_lald 15 13 100 dX9_netOf_24 rfl (ix100 (vp_in_nI (by assumption) (by decide)) (by assumption)) ?_
      refine g_aload_n (i := 0) dX9_netOf_25 rfl rfl ?_
      refine m_get 15 dX9_netOf_26 (List.mem_of_getElem? (i := 1) rfl) (fun w h => List.mem_cons_of_mem _ (List.mem_append_right _ h)) (by decide) rfl ?_
      refine g_bipush (10) rfl dX9_netOf_29 ?_
      refine g_iload_n (i := 1) dX9_netOf_31 rfl rfl ?_
      refine g_imul dX9_netOf_32 ?_
      refine g_iload dX9_netOf_33 rfl ?_
      refine g_iadd dX9_netOf_35 ?_
      refine m_lald 15 13 100 dX9_netOf_36 rfl (ix100 (by assumption) (vp_in_nI (by assumption) (by decide))) ?_
      refine g_lsub dX9_netOf_37 ?_
      refine g_ladd dX9_netOf_38 ?_
      refine g_lstore_n (i := 2) dX9_netOf_39 rfl (by decide) ?_
      refine g_iinc (1) dX9_netOf_40 rfl rfl (by decide) ?_
      refine g_goto 5 dX9_netOf_43 (by decide) ?_
      refine g_to _ _ (ihi1 (trivial)) rfl (by refine ⟨(by first | rfl | (rw [← nI_1]; rfl) | (rw [← nI_1]; rfl)), (by first | rfl | (rw [← nI_1]; rfl) | (rw [← nI_1]; rfl)), (by first | rfl | (rw [← nI_1]; rfl) | (rw [← nI_1]; rfl)), (by first | rfl | (rw [← nI_1]; rfl) | (rw [← nI_1]; rfl)), trivial⟩)

def mf_net (S : MS) (h : Int32) : Int64 × MS := if (0 ≤ h ∧ h ≤ 9) then (mnetT S h 10, S) else mf_finding S (-1000000000001)
set_option maxHeartbeats 4000000 in
set_option maxRecDepth 100000 in
/-- net -/
theorem M_net (l : Launch) (D : va_G) (cy : Nat → ClassId) (a : Nat → Nat) (S : MS) (h : Int32) : Ct l D clx (tyx cy) yX9_net wsX9_net (rmD 2) 0 0 [.ref (a 0), .int h] (MW cy a S) (fun r9 w9 => r9 = some (.long (mf_net S h).1) ∧ w9 = MW cy a (mf_net S h).2) := by
  refine g_start (cc := cX9_net) (maxL := 2) (ret := (some .long)) (by decide) rfl (Nat.le_of_ble_eq_true rfl) (fun v w1 h => by obtain ⟨rfl, -⟩ := h; exact rfl) (fun Γ hlΓ => ?_)
  subst hlΓ
  refine g_iload_n (i := 1) dX9_net_0 rfl rfl ?_
  refine g_callSf 1 gX9_net_X9_isHouse rfl rfl rfl ⟨Nat.le_of_ble_eq_true rfl, Nat.le_of_ble_eq_true rfl⟩ ⟨Nat.le_of_ble_eq_true rfl, Nat.le_of_ble_eq_true rfl⟩ (by exact Nat.le_of_ble_eq_true rfl) (by decide +kernel) rfl dX9_net_1 (M_isHouse _ D cy a _ _) rfl (fun vu_1 wu_1 hu_1 => ?_)
  rcases hu_1 with ⟨rfl, hu_1, rfl⟩ | ⟨rfl, hu_1, rfl⟩
  · skip
    refine g_if_eq 15 dX9_net_4 (by decide) (fun h9 => absurd h9 (by decide)) (fun _ => ?_)
    refine g_aload_n (i := 0) dX9_net_7 rfl rfl ?_
    refine g_iload_n (i := 1) dX9_net_8 rfl rfl ?_
    refine g_callVf 1 0 gX9_net_X9_netOf rfl rfl rfl ⟨Nat.le_of_ble_eq_true rfl, Nat.le_of_ble_eq_true rfl⟩ ⟨Nat.le_of_ble_eq_true rfl, Nat.le_of_ble_eq_true rfl⟩ (by exact Nat.le_of_ble_eq_true rfl) (by decide +kernel) rfl rfl rfl dX9_net_9 (M_netOf _ D cy a _ _ (by first | assumption | exact vpi10 (by assumption) | exact vp_in_nI (by assumption) (by decide))) rfl (fun vu_3 wu_3 hu_3 => ?_)
    obtain ⟨rfl, rfl⟩ := hu_3
    refine g_goto 22 dX9_net_12 (by decide) ?_
    refine g_lret dX9_net_22 ?_
    unfold mf_net; (repeat' split) <;> first | contradiction | (with_reducible exact ⟨rfl, rfl⟩) | (exfalso; simp_all; done) | exact ⟨rfl, rfl⟩
  · skip
    refine g_if_eq 15 dX9_net_4 (by decide) (fun _ => ?_) (fun h9 => absurd h9 (by decide))
    refine g_aload_n (i := 0) dX9_net_15 rfl rfl ?_
    refine g_ldc2 (-1000000000001) (List.mem_of_getElem? (i := 1) rfl) dX9_net_16 ?_
    refine g_callVf 1 0 gX9_net_X9_finding rfl rfl rfl ⟨Nat.le_of_ble_eq_true rfl, Nat.le_of_ble_eq_true rfl⟩ ⟨Nat.le_of_ble_eq_true rfl, Nat.le_of_ble_eq_true rfl⟩ (by exact Nat.le_of_ble_eq_true rfl) (by decide +kernel) rfl rfl rfl dX9_net_19 (M_finding _ D cy a _ _ (by unfold vp_in; decide)) rfl (fun vu_5 wu_5 hu_5 => ?_)
    obtain ⟨rfl, rfl⟩ := hu_5
    refine g_lret dX9_net_22 ?_
    unfold mf_net; (repeat' split) <;> first | contradiction | (with_reducible exact ⟨rfl, rfl⟩) | (exfalso; simp_all; done) | exact ⟨rfl, rfl⟩

def mall (S : MS) : Nat → Int64
  | 0 => 0
  | i + 1 => mall S i + S.2.2.2 15 i
set_option maxHeartbeats 4000000 in
set_option maxRecDepth 100000 in
/-- what is owed in all -/
theorem M_owedInAll (l : Launch) (D : va_G) (cy : Nat → ClassId) (a : Nat → Nat) (S : MS) : Ct l D clx (tyx cy) yX9_owedInAll wsX9_owedInAll (rmD 0) 0 0 [.ref (a 0)] (MW cy a S) (fun r9 w9 => r9 = some (.long (mall S 100)) ∧ w9 = MW cy a S) := by
  refine g_start (cc := cX9_owedInAll) (maxL := 4) (ret := (some .long)) (by decide) rfl (Nat.le_of_ble_eq_true rfl) (fun v w1 h => by obtain ⟨rfl, -⟩ := h; exact rfl) (fun Γ hlΓ => ?_)
  subst hlΓ
  refine g_lconst 0 rfl dX9_owedInAll_0 ?_
  refine g_lstore_n (i := 1) dX9_owedInAll_1 rfl (by decide) ?_
  refine g_iconst (0) rfl dX9_owedInAll_2 ?_
  refine g_istore_n (i := 3) dX9_owedInAll_3 rfl (by decide) ?_
  refine g_cnt 100 (fun i => True) (fun i => MW cy a S) (fun i => [(0, .ref (a 0)), (1, .long (mall S i)), (3, .int (nI i))]) 0 (by first | decide | omega) trivial (by rfl) (by refine ⟨rfl, rfl, rfl, trivial⟩) ?_ (fun i1 hi1 gi1 ihi1 => ?_)
  · intro gN
    refine g_iload_n (i := 3) dX9_owedInAll_4 rfl rfl ?_
    refine g_bipush (100) rfl dX9_owedInAll_5 ?_
    refine g_icmp_ge 25 dX9_owedInAll_7 (by decide) (fun c_2 => ?_) (fun c_2 => ?_)
    · skip
      refine g_lload_n (i := 1) dX9_owedInAll_25 rfl rfl ?_
      refine g_lret dX9_owedInAll_26 ?_
      exact ⟨rfl, rfl⟩
    · skip
      exact absurd (nI_le (Nat.le_refl _) (by decide)) c_2
  · skip
    refine g_iload_n (i := 3) dX9_owedInAll_4 rfl rfl ?_
    refine g_bipush (100) rfl dX9_owedInAll_5 ?_
    refine g_icmp_ge 25 dX9_owedInAll_7 (by decide) (fun c_3 => ?_) (fun c_3 => ?_)
    · skip
      exact absurd c_3 (nI_ge hi1 (by decide))
    · skip
      refine g_lload_n (i := 1) dX9_owedInAll_10 rfl rfl ?_
      refine g_aload_n (i := 0) dX9_owedInAll_11 rfl rfl ?_
      refine m_get 15 dX9_owedInAll_12 (List.mem_of_getElem? (i := 1) rfl) (fun w h => List.mem_cons_of_mem _ (List.mem_append_right _ h)) (by decide) rfl ?_
      refine g_iload_n (i := 3) dX9_owedInAll_15 rfl rfl ?_
      refine m_laldN 15 13 100 dX9_owedInAll_16 rfl (by omega) (by decide) ?_
      refine g_ladd dX9_owedInAll_17 ?_
      refine g_lstore_n (i := 1) dX9_owedInAll_18 rfl (by decide) ?_
      refine g_iinc (1) dX9_owedInAll_19 rfl rfl (by decide) ?_
      refine g_goto 4 dX9_owedInAll_22 (by decide) ?_
      refine g_to _ _ (ihi1 (trivial)) rfl (by refine ⟨(by first | rfl | (rw [← nI_1]; rfl) | (rw [← nI_1]; rfl)), (by first | rfl | (rw [← nI_1]; rfl) | (rw [← nI_1]; rfl)), (by first | rfl | (rw [← nI_1]; rfl) | (rw [← nI_1]; rfl)), trivial⟩)

def mf_coin (S : MS) (kd w f : Int32) : Int64 × MS := if (0 ≤ kd ∧ kd ≤ 3) ∧ (0 ≤ w ∧ w ≤ 1000) ∧ (0 ≤ f ∧ f ≤ 1000) then (((sA S 16 kd.toNatClampNeg (w * f / 1000)).2.2.1 16 kd.toNatClampNeg).toInt64, sA S 16 kd.toNatClampNeg (w * f / 1000)) else mf_finding S (-1000000000001)
set_option maxHeartbeats 4000000 in
set_option maxRecDepth 100000 in
/-- coin -/
theorem M_coin (l : Launch) (D : va_G) (cy : Nat → ClassId) (a : Nat → Nat) (S : MS) (kd w f : Int32) : Ct l D clx (tyx cy) yX9_coin wsX9_coin (rmD 2) 0 0 [.ref (a 0), .int kd, .int w, .int f] (MW cy a S) (fun r9 w9 => r9 = some (.long (mf_coin S kd w f).1) ∧ w9 = MW cy a (mf_coin S kd w f).2) := by
  refine g_start (cc := cX9_coin) (maxL := 4) (ret := (some .long)) (by decide) rfl (Nat.le_of_ble_eq_true rfl) (fun v w1 h => by obtain ⟨rfl, -⟩ := h; exact rfl) (fun Γ hlΓ => ?_)
  subst hlΓ
  refine g_iload_n (i := 1) dX9_coin_0 rfl rfl ?_
  refine g_iconst (0) rfl dX9_coin_1 ?_
  refine g_iconst (3) rfl dX9_coin_2 ?_
  refine g_callSf 3 gX9_coin_X9_in rfl rfl rfl ⟨Nat.le_of_ble_eq_true rfl, Nat.le_of_ble_eq_true rfl⟩ ⟨Nat.le_of_ble_eq_true rfl, Nat.le_of_ble_eq_true rfl⟩ (by exact Nat.le_of_ble_eq_true rfl) (by decide +kernel) rfl dX9_coin_3 (M_in _ D cy a _ _ _ _) rfl (fun vu_1 wu_1 hu_1 => ?_)
  rcases hu_1 with ⟨rfl, hu_1, rfl⟩ | ⟨rfl, hu_1, rfl⟩
  · skip
    refine g_if_eq 31 dX9_coin_6 (by decide) (fun h9 => absurd h9 (by decide)) (fun _ => ?_)
    refine g_iload_n (i := 2) dX9_coin_9 rfl rfl ?_
    refine g_iconst (0) rfl dX9_coin_10 ?_
    refine g_sipush (1000) rfl dX9_coin_11 ?_
    refine g_callSf 3 gX9_coin_X9_in rfl rfl rfl ⟨Nat.le_of_ble_eq_true rfl, Nat.le_of_ble_eq_true rfl⟩ ⟨Nat.le_of_ble_eq_true rfl, Nat.le_of_ble_eq_true rfl⟩ (by exact Nat.le_of_ble_eq_true rfl) (by decide +kernel) rfl dX9_coin_14 (M_in _ D cy a _ _ _ _) rfl (fun vu_3 wu_3 hu_3 => ?_)
    rcases hu_3 with ⟨rfl, hu_3, rfl⟩ | ⟨rfl, hu_3, rfl⟩
    · skip
      refine g_if_eq 31 dX9_coin_17 (by decide) (fun h9 => absurd h9 (by decide)) (fun _ => ?_)
      refine g_iload_n (i := 3) dX9_coin_20 rfl rfl ?_
      refine g_iconst (0) rfl dX9_coin_21 ?_
      refine g_sipush (1000) rfl dX9_coin_22 ?_
      refine g_callSf 3 gX9_coin_X9_in rfl rfl rfl ⟨Nat.le_of_ble_eq_true rfl, Nat.le_of_ble_eq_true rfl⟩ ⟨Nat.le_of_ble_eq_true rfl, Nat.le_of_ble_eq_true rfl⟩ (by exact Nat.le_of_ble_eq_true rfl) (by decide +kernel) rfl dX9_coin_25 (M_in _ D cy a _ _ _ _) rfl (fun vu_5 wu_5 hu_5 => ?_)
      rcases hu_5 with ⟨rfl, hu_5, rfl⟩ | ⟨rfl, hu_5, rfl⟩
      · skip
        refine g_if_ne 39 dX9_coin_28 (by decide) (fun _ => ?_) (fun h9 => absurd h9 (by decide))
        refine g_aload_n (i := 0) dX9_coin_39 rfl rfl ?_
        refine m_get 16 dX9_coin_40 (List.mem_of_getElem? (i := 2) rfl) (fun w h => List.mem_cons_of_mem _ (List.mem_append_right _ h)) (by decide) rfl ?_
        refine g_iload_n (i := 1) dX9_coin_43 rfl rfl ?_
        refine g_iload_n (i := 2) dX9_coin_44 rfl rfl ?_
        refine g_iload_n (i := 3) dX9_coin_45 rfl rfl ?_
        refine g_imul dX9_coin_46 ?_
        refine g_sipush (1000) rfl dX9_coin_47 ?_
        refine g_idiv (by decide) dX9_coin_50 ?_
        refine m_iast 16 14 4 dX9_coin_51 rfl (vpi4 (by assumption)) (wsA_16 _ _ _ _ _) ?_
        refine g_aload_n (i := 0) dX9_coin_52 rfl rfl ?_
        refine m_get 16 dX9_coin_53 (List.mem_of_getElem? (i := 2) rfl) (fun w h => List.mem_cons_of_mem _ (List.mem_append_right _ h)) (by decide) rfl ?_
        refine g_iload_n (i := 1) dX9_coin_56 rfl rfl ?_
        refine m_iald 16 14 4 dX9_coin_57 rfl (vpi4 (by assumption)) ?_
        refine g_i2l dX9_coin_58 ?_
        refine g_lret dX9_coin_59 ?_
        unfold mf_coin; (repeat' split) <;> first | contradiction | (with_reducible exact ⟨rfl, rfl⟩) | (exfalso; simp_all; done) | exact ⟨rfl, rfl⟩
      · skip
        refine g_if_ne 39 dX9_coin_28 (by decide) (fun h9 => absurd h9 (by decide)) (fun _ => ?_)
        refine g_aload_n (i := 0) dX9_coin_31 rfl rfl ?_
        refine g_ldc2 (-1000000000001) (List.mem_of_getElem? (i := 1) rfl) dX9_coin_32 ?_
        refine g_callVf 1 0 gX9_coin_X9_finding rfl rfl rfl ⟨Nat.le_of_ble_eq_true rfl, Nat.le_of_ble_eq_true rfl⟩ ⟨Nat.le_of_ble_eq_true rfl, Nat.le_of_ble_eq_true rfl⟩ (by exact Nat.le_of_ble_eq_true rfl) (by decide +kernel) rfl rfl rfl dX9_coin_35 (M_finding _ D cy a _ _ (by unfold vp_in; decide)) rfl (fun vu_8 wu_8 hu_8 => ?_)
        obtain ⟨rfl, rfl⟩ := hu_8
        refine g_lret dX9_coin_38 ?_
        unfold mf_coin; (repeat' split) <;> first | contradiction | (with_reducible exact ⟨rfl, rfl⟩) | (exfalso; simp_all; done) | exact ⟨rfl, rfl⟩
    · skip
      refine g_if_eq 31 dX9_coin_17 (by decide) (fun _ => ?_) (fun h9 => absurd h9 (by decide))
      refine g_aload_n (i := 0) dX9_coin_31 rfl rfl ?_
      refine g_ldc2 (-1000000000001) (List.mem_of_getElem? (i := 1) rfl) dX9_coin_32 ?_
      refine g_callVf 1 0 gX9_coin_X9_finding rfl rfl rfl ⟨Nat.le_of_ble_eq_true rfl, Nat.le_of_ble_eq_true rfl⟩ ⟨Nat.le_of_ble_eq_true rfl, Nat.le_of_ble_eq_true rfl⟩ (by exact Nat.le_of_ble_eq_true rfl) (by decide +kernel) rfl rfl rfl dX9_coin_35 (M_finding _ D cy a _ _ (by unfold vp_in; decide)) rfl (fun vu_10 wu_10 hu_10 => ?_)
      obtain ⟨rfl, rfl⟩ := hu_10
      refine g_lret dX9_coin_38 ?_
      unfold mf_coin; (repeat' split) <;> first | contradiction | (with_reducible exact ⟨rfl, rfl⟩) | (exfalso; simp_all; done) | exact ⟨rfl, rfl⟩
  · skip
    refine g_if_eq 31 dX9_coin_6 (by decide) (fun _ => ?_) (fun h9 => absurd h9 (by decide))
    refine g_aload_n (i := 0) dX9_coin_31 rfl rfl ?_
    refine g_ldc2 (-1000000000001) (List.mem_of_getElem? (i := 1) rfl) dX9_coin_32 ?_
    refine g_callVf 1 0 gX9_coin_X9_finding rfl rfl rfl ⟨Nat.le_of_ble_eq_true rfl, Nat.le_of_ble_eq_true rfl⟩ ⟨Nat.le_of_ble_eq_true rfl, Nat.le_of_ble_eq_true rfl⟩ (by exact Nat.le_of_ble_eq_true rfl) (by decide +kernel) rfl rfl rfl dX9_coin_35 (M_finding _ D cy a _ _ (by unfold vp_in; decide)) rfl (fun vu_12 wu_12 hu_12 => ?_)
    obtain ⟨rfl, rfl⟩ := hu_12
    refine g_lret dX9_coin_38 ?_
    unfold mf_coin; (repeat' split) <;> first | contradiction | (with_reducible exact ⟨rfl, rfl⟩) | (exfalso; simp_all; done) | exact ⟨rfl, rfl⟩

def mf_purse (S : MS) (h kd v : Int32) : Int64 × MS := if (0 ≤ h ∧ h ≤ 9) ∧ (0 ≤ kd ∧ kd ≤ 3) ∧ (0 ≤ v ∧ v ≤ 1000) then ((S.2.2.1 17 (4 * h + kd).toNatClampNeg).toInt64, sA S 17 (4 * h + kd).toNatClampNeg v) else mf_finding S (-1000000000001)
set_option maxHeartbeats 4000000 in
set_option maxRecDepth 100000 in
/-- purse -/
theorem M_purse (l : Launch) (D : va_G) (cy : Nat → ClassId) (a : Nat → Nat) (S : MS) (h kd v : Int32) : Ct l D clx (tyx cy) yX9_purse wsX9_purse (rmD 2) 0 0 [.ref (a 0), .int h, .int kd, .int v] (MW cy a S) (fun r9 w9 => r9 = some (.long (mf_purse S h kd v).1) ∧ w9 = MW cy a (mf_purse S h kd v).2) := by
  refine g_start (cc := cX9_purse) (maxL := 5) (ret := (some .long)) (by decide) rfl (Nat.le_of_ble_eq_true rfl) (fun v w1 h => by obtain ⟨rfl, -⟩ := h; exact rfl) (fun Γ hlΓ => ?_)
  subst hlΓ
  refine g_iload_n (i := 1) dX9_purse_0 rfl rfl ?_
  refine g_callSf 1 gX9_purse_X9_isHouse rfl rfl rfl ⟨Nat.le_of_ble_eq_true rfl, Nat.le_of_ble_eq_true rfl⟩ ⟨Nat.le_of_ble_eq_true rfl, Nat.le_of_ble_eq_true rfl⟩ (by exact Nat.le_of_ble_eq_true rfl) (by decide +kernel) rfl dX9_purse_1 (M_isHouse _ D cy a _ _) rfl (fun vu_1 wu_1 hu_1 => ?_)
  rcases hu_1 with ⟨rfl, hu_1, rfl⟩ | ⟨rfl, hu_1, rfl⟩
  · skip
    refine g_if_eq 27 dX9_purse_4 (by decide) (fun h9 => absurd h9 (by decide)) (fun _ => ?_)
    refine g_iload_n (i := 2) dX9_purse_7 rfl rfl ?_
    refine g_iconst (0) rfl dX9_purse_8 ?_
    refine g_iconst (3) rfl dX9_purse_9 ?_
    refine g_callSf 3 gX9_purse_X9_in rfl rfl rfl ⟨Nat.le_of_ble_eq_true rfl, Nat.le_of_ble_eq_true rfl⟩ ⟨Nat.le_of_ble_eq_true rfl, Nat.le_of_ble_eq_true rfl⟩ (by exact Nat.le_of_ble_eq_true rfl) (by decide +kernel) rfl dX9_purse_10 (M_in _ D cy a _ _ _ _) rfl (fun vu_3 wu_3 hu_3 => ?_)
    rcases hu_3 with ⟨rfl, hu_3, rfl⟩ | ⟨rfl, hu_3, rfl⟩
    · skip
      refine g_if_eq 27 dX9_purse_13 (by decide) (fun h9 => absurd h9 (by decide)) (fun _ => ?_)
      refine g_iload_n (i := 3) dX9_purse_16 rfl rfl ?_
      refine g_iconst (0) rfl dX9_purse_17 ?_
      refine g_sipush (1000) rfl dX9_purse_18 ?_
      refine g_callSf 3 gX9_purse_X9_in rfl rfl rfl ⟨Nat.le_of_ble_eq_true rfl, Nat.le_of_ble_eq_true rfl⟩ ⟨Nat.le_of_ble_eq_true rfl, Nat.le_of_ble_eq_true rfl⟩ (by exact Nat.le_of_ble_eq_true rfl) (by decide +kernel) rfl dX9_purse_21 (M_in _ D cy a _ _ _ _) rfl (fun vu_5 wu_5 hu_5 => ?_)
      rcases hu_5 with ⟨rfl, hu_5, rfl⟩ | ⟨rfl, hu_5, rfl⟩
      · skip
        refine g_if_ne 35 dX9_purse_24 (by decide) (fun _ => ?_) (fun h9 => absurd h9 (by decide))
        refine g_aload_n (i := 0) dX9_purse_35 rfl rfl ?_
        refine m_get 17 dX9_purse_36 (List.mem_of_getElem? (i := 2) rfl) (fun w h => List.mem_cons_of_mem _ (List.mem_append_right _ h)) (by decide) rfl ?_
        refine g_iconst (4) rfl dX9_purse_39 ?_
        refine g_iload_n (i := 1) dX9_purse_40 rfl rfl ?_
        refine g_imul dX9_purse_41 ?_
        refine g_iload_n (i := 2) dX9_purse_42 rfl rfl ?_
        refine g_iadd dX9_purse_43 ?_
        refine m_iald 17 15 40 dX9_purse_44 rfl (ix40 (vpi10 (by assumption)) (vpi4 (by assumption))) ?_
        refine g_istore dX9_purse_45 (by decide) ?_
        refine g_aload_n (i := 0) dX9_purse_47 rfl rfl ?_
        refine m_get 17 dX9_purse_48 (List.mem_of_getElem? (i := 2) rfl) (fun w h => List.mem_cons_of_mem _ (List.mem_append_right _ h)) (by decide) rfl ?_
        refine g_iconst (4) rfl dX9_purse_51 ?_
        refine g_iload_n (i := 1) dX9_purse_52 rfl rfl ?_
        refine g_imul dX9_purse_53 ?_
        refine g_iload_n (i := 2) dX9_purse_54 rfl rfl ?_
        refine g_iadd dX9_purse_55 ?_
        refine g_iload_n (i := 3) dX9_purse_56 rfl rfl ?_
        refine m_iast 17 15 40 dX9_purse_57 rfl (ix40 (vpi10 (by assumption)) (vpi4 (by assumption))) (wsA_17 _ _ _ _ _) ?_
        refine g_iload dX9_purse_58 rfl ?_
        refine g_i2l dX9_purse_60 ?_
        refine g_lret dX9_purse_61 ?_
        unfold mf_purse; (repeat' split) <;> first | contradiction | (with_reducible exact ⟨rfl, rfl⟩) | (exfalso; simp_all; done) | exact ⟨rfl, rfl⟩
      · skip
        refine g_if_ne 35 dX9_purse_24 (by decide) (fun h9 => absurd h9 (by decide)) (fun _ => ?_)
        refine g_aload_n (i := 0) dX9_purse_27 rfl rfl ?_
        refine g_ldc2 (-1000000000001) (List.mem_of_getElem? (i := 1) rfl) dX9_purse_28 ?_
        refine g_callVf 1 0 gX9_purse_X9_finding rfl rfl rfl ⟨Nat.le_of_ble_eq_true rfl, Nat.le_of_ble_eq_true rfl⟩ ⟨Nat.le_of_ble_eq_true rfl, Nat.le_of_ble_eq_true rfl⟩ (by exact Nat.le_of_ble_eq_true rfl) (by decide +kernel) rfl rfl rfl dX9_purse_31 (M_finding _ D cy a _ _ (by unfold vp_in; decide)) rfl (fun vu_8 wu_8 hu_8 => ?_)
        obtain ⟨rfl, rfl⟩ := hu_8
        refine g_lret dX9_purse_34 ?_
        unfold mf_purse; (repeat' split) <;> first | contradiction | (with_reducible exact ⟨rfl, rfl⟩) | (exfalso; simp_all; done) | exact ⟨rfl, rfl⟩
    · skip
      refine g_if_eq 27 dX9_purse_13 (by decide) (fun _ => ?_) (fun h9 => absurd h9 (by decide))
      refine g_aload_n (i := 0) dX9_purse_27 rfl rfl ?_
      refine g_ldc2 (-1000000000001) (List.mem_of_getElem? (i := 1) rfl) dX9_purse_28 ?_
      refine g_callVf 1 0 gX9_purse_X9_finding rfl rfl rfl ⟨Nat.le_of_ble_eq_true rfl, Nat.le_of_ble_eq_true rfl⟩ ⟨Nat.le_of_ble_eq_true rfl, Nat.le_of_ble_eq_true rfl⟩ (by exact Nat.le_of_ble_eq_true rfl) (by decide +kernel) rfl rfl rfl dX9_purse_31 (M_finding _ D cy a _ _ (by unfold vp_in; decide)) rfl (fun vu_10 wu_10 hu_10 => ?_)
      obtain ⟨rfl, rfl⟩ := hu_10
      refine g_lret dX9_purse_34 ?_
      unfold mf_purse; (repeat' split) <;> first | contradiction | (with_reducible exact ⟨rfl, rfl⟩) | (exfalso; simp_all; done) | exact ⟨rfl, rfl⟩
  · skip
    refine g_if_eq 27 dX9_purse_4 (by decide) (fun _ => ?_) (fun h9 => absurd h9 (by decide))
    refine g_aload_n (i := 0) dX9_purse_27 rfl rfl ?_
    refine g_ldc2 (-1000000000001) (List.mem_of_getElem? (i := 1) rfl) dX9_purse_28 ?_
    refine g_callVf 1 0 gX9_purse_X9_finding rfl rfl rfl ⟨Nat.le_of_ble_eq_true rfl, Nat.le_of_ble_eq_true rfl⟩ ⟨Nat.le_of_ble_eq_true rfl, Nat.le_of_ble_eq_true rfl⟩ (by exact Nat.le_of_ble_eq_true rfl) (by decide +kernel) rfl rfl rfl dX9_purse_31 (M_finding _ D cy a _ _ (by unfold vp_in; decide)) rfl (fun vu_12 wu_12 hu_12 => ?_)
    obtain ⟨rfl, rfl⟩ := hu_12
    refine g_lret dX9_purse_34 ?_
    unfold mf_purse; (repeat' split) <;> first | contradiction | (with_reducible exact ⟨rfl, rfl⟩) | (exfalso; simp_all; done) | exact ⟨rfl, rfl⟩

def mhasT (S : MS) (h : Int32) : Nat → Int64
  | 0 => 0
  | i + 1 => mhasT S h i + (S.2.2.1 17 (4 * h + nI i).toNatClampNeg).toInt64 * (S.2.2.1 16 i).toInt64
def mf_has (S : MS) (h kd : Int32) : Int64 × MS := if (0 ≤ h ∧ h ≤ 9) ∧ (-1 ≤ kd ∧ kd ≤ 3) then (if kd < 0 then (mhasT S h 4, S) else ((S.2.2.1 17 (4 * h + kd).toNatClampNeg).toInt64, S)) else mf_finding S (-1000000000001)
set_option maxHeartbeats 4000000 in
set_option maxRecDepth 100000 in
/-- has -/
theorem M_has (l : Launch) (D : va_G) (cy : Nat → ClassId) (a : Nat → Nat) (S : MS) (h kd : Int32) : Ct l D clx (tyx cy) yX9_has wsX9_has (rmD 2) 0 0 [.ref (a 0), .int h, .int kd] (MW cy a S) (fun r9 w9 => r9 = some (.long (mf_has S h kd).1) ∧ w9 = MW cy a (mf_has S h kd).2) := by
  refine g_start (cc := cX9_has) (maxL := 6) (ret := (some .long)) (by decide) rfl (Nat.le_of_ble_eq_true rfl) (fun v w1 h => by obtain ⟨rfl, -⟩ := h; exact rfl) (fun Γ hlΓ => ?_)
  subst hlΓ
  refine g_iload_n (i := 1) dX9_has_0 rfl rfl ?_
  refine g_callSf 1 gX9_has_X9_isHouse rfl rfl rfl ⟨Nat.le_of_ble_eq_true rfl, Nat.le_of_ble_eq_true rfl⟩ ⟨Nat.le_of_ble_eq_true rfl, Nat.le_of_ble_eq_true rfl⟩ (by exact Nat.le_of_ble_eq_true rfl) (by decide +kernel) rfl dX9_has_1 (M_isHouse _ D cy a _ _) rfl (fun vu_1 wu_1 hu_1 => ?_)
  rcases hu_1 with ⟨rfl, hu_1, rfl⟩ | ⟨rfl, hu_1, rfl⟩
  · skip
    refine g_if_eq 16 dX9_has_4 (by decide) (fun h9 => absurd h9 (by decide)) (fun _ => ?_)
    refine g_iload_n (i := 2) dX9_has_7 rfl rfl ?_
    refine g_iconst (-1) rfl dX9_has_8 ?_
    refine g_iconst (3) rfl dX9_has_9 ?_
    refine g_callSf 3 gX9_has_X9_in rfl rfl rfl ⟨Nat.le_of_ble_eq_true rfl, Nat.le_of_ble_eq_true rfl⟩ ⟨Nat.le_of_ble_eq_true rfl, Nat.le_of_ble_eq_true rfl⟩ (by exact Nat.le_of_ble_eq_true rfl) (by decide +kernel) rfl dX9_has_10 (M_in _ D cy a _ _ _ _) rfl (fun vu_3 wu_3 hu_3 => ?_)
    rcases hu_3 with ⟨rfl, hu_3, rfl⟩ | ⟨rfl, hu_3, rfl⟩
    · skip
      refine g_if_ne 24 dX9_has_13 (by decide) (fun _ => ?_) (fun h9 => absurd h9 (by decide))
      refine g_iload_n (i := 2) dX9_has_24 rfl rfl ?_
      refine g_if_lt 40 dX9_has_25 (by decide) (fun c_5 => ?_) (fun c_5 => ?_)
      · skip
        refine g_lconst 0 rfl dX9_has_40 ?_
        refine g_lstore_n (i := 3) dX9_has_41 rfl (by decide) ?_
        refine g_iconst (0) rfl dX9_has_42 ?_
        refine g_istore dX9_has_43 (by decide) ?_
        refine g_cnt 4 (fun i => True) (fun i => MW cy a S) (fun i => [(0, .ref (a 0)), (1, .int h), (2, .int kd), (3, .long (mhasT S h i)), (5, .int (nI i))]) 0 (by first | decide | omega) trivial (by rfl) (by refine ⟨rfl, rfl, rfl, rfl, rfl, trivial⟩) ?_ (fun i6 hi6 gi6 ihi6 => ?_)
        · intro gN
          refine g_iload dX9_has_45 rfl ?_
          refine g_iconst (4) rfl dX9_has_47 ?_
          refine g_icmp_ge 81 dX9_has_48 (by decide) (fun c_7 => ?_) (fun c_7 => ?_)
          · skip
            refine g_lload_n (i := 3) dX9_has_81 rfl rfl ?_
            refine g_lret dX9_has_82 ?_
            unfold mf_has; (repeat' split) <;> first | contradiction | (with_reducible exact ⟨rfl, rfl⟩) | (exfalso; simp_all; done) | exact ⟨rfl, rfl⟩
          · skip
            exact absurd (nI_le (Nat.le_refl _) (by decide)) c_7
        · skip
          refine g_iload dX9_has_45 rfl ?_
          refine g_iconst (4) rfl dX9_has_47 ?_
          refine g_icmp_ge 81 dX9_has_48 (by decide) (fun c_8 => ?_) (fun c_8 => ?_)
          · skip
            exact absurd c_8 (nI_ge hi6 (by decide))
          · skip
            refine g_lload_n (i := 3) dX9_has_51 rfl rfl ?_
            refine g_aload_n (i := 0) dX9_has_52 rfl rfl ?_
            refine m_get 17 dX9_has_53 (List.mem_of_getElem? (i := 2) rfl) (fun w h => List.mem_cons_of_mem _ (List.mem_append_right _ h)) (by decide) rfl ?_
            refine g_iconst (4) rfl dX9_has_56 ?_
            refine g_iload_n (i := 1) dX9_has_57 rfl rfl ?_
            refine g_imul dX9_has_58 ?_
            refine g_iload dX9_has_59 rfl ?_
            refine g_iadd dX9_has_61 ?_
            refine m_iald 17 15 40 dX9_has_62 rfl (ix40 (vpi10 (by assumption)) (vp_in_nI (by assumption) (by decide))) ?_
            refine g_i2l dX9_has_63 ?_
            refine g_aload_n (i := 0) dX9_has_64 rfl rfl ?_
            refine m_get 16 dX9_has_65 (List.mem_of_getElem? (i := 3) rfl) (fun w h => List.mem_cons_of_mem _ (List.mem_append_right _ h)) (by decide) rfl ?_
            refine g_iload dX9_has_68 rfl ?_
            refine m_ialdN 16 14 4 dX9_has_70 rfl (by omega) (by decide) ?_
            refine g_i2l dX9_has_71 ?_
            refine g_lmul dX9_has_72 ?_
            refine g_ladd dX9_has_73 ?_
            refine g_lstore_n (i := 3) dX9_has_74 rfl (by decide) ?_
            refine g_iinc (1) dX9_has_75 rfl rfl (by decide) ?_
            refine g_goto 45 dX9_has_78 (by decide) ?_
            refine g_to _ _ (ihi6 (trivial)) rfl (by refine ⟨(by first | rfl | (rw [← nI_1]; rfl) | (rw [← nI_1]; rfl)), (by first | rfl | (rw [← nI_1]; rfl) | (rw [← nI_1]; rfl)), (by first | rfl | (rw [← nI_1]; rfl) | (rw [← nI_1]; rfl)), (by first | rfl | (rw [← nI_1]; rfl) | (rw [← nI_1]; rfl)), (by first | rfl | (rw [← nI_1]; rfl) | (rw [← nI_1]; rfl)), trivial⟩)
      · skip
        refine g_aload_n (i := 0) dX9_has_28 rfl rfl ?_
        refine m_get 17 dX9_has_29 (List.mem_of_getElem? (i := 2) rfl) (fun w h => List.mem_cons_of_mem _ (List.mem_append_right _ h)) (by decide) rfl ?_
        refine g_iconst (4) rfl dX9_has_32 ?_
        refine g_iload_n (i := 1) dX9_has_33 rfl rfl ?_
        refine g_imul dX9_has_34 ?_
        refine g_iload_n (i := 2) dX9_has_35 rfl rfl ?_
        refine g_iadd dX9_has_36 ?_
        refine m_iald 17 15 40 dX9_has_37 rfl (ix40 (vpi10 (by assumption)) (vpn4 (by assumption) (by assumption))) ?_
        refine g_i2l dX9_has_38 ?_
        refine g_lret dX9_has_39 ?_
        unfold mf_has; (repeat' split) <;> first | contradiction | (with_reducible exact ⟨rfl, rfl⟩) | (exfalso; simp_all; done) | exact ⟨rfl, rfl⟩
    · skip
      refine g_if_ne 24 dX9_has_13 (by decide) (fun h9 => absurd h9 (by decide)) (fun _ => ?_)
      refine g_aload_n (i := 0) dX9_has_16 rfl rfl ?_
      refine g_ldc2 (-1000000000001) (List.mem_of_getElem? (i := 1) rfl) dX9_has_17 ?_
      refine g_callVf 1 0 gX9_has_X9_finding rfl rfl rfl ⟨Nat.le_of_ble_eq_true rfl, Nat.le_of_ble_eq_true rfl⟩ ⟨Nat.le_of_ble_eq_true rfl, Nat.le_of_ble_eq_true rfl⟩ (by exact Nat.le_of_ble_eq_true rfl) (by decide +kernel) rfl rfl rfl dX9_has_20 (M_finding _ D cy a _ _ (by unfold vp_in; decide)) rfl (fun vu_10 wu_10 hu_10 => ?_)
      obtain ⟨rfl, rfl⟩ := hu_10
      refine g_lret dX9_has_23 ?_
      unfold mf_has; (repeat' split) <;> first | contradiction | (with_reducible exact ⟨rfl, rfl⟩) | (exfalso; simp_all; done) | exact ⟨rfl, rfl⟩
  · skip
    refine g_if_eq 16 dX9_has_4 (by decide) (fun _ => ?_) (fun h9 => absurd h9 (by decide))
    refine g_aload_n (i := 0) dX9_has_16 rfl rfl ?_
    refine g_ldc2 (-1000000000001) (List.mem_of_getElem? (i := 1) rfl) dX9_has_17 ?_
    refine g_callVf 1 0 gX9_has_X9_finding rfl rfl rfl ⟨Nat.le_of_ble_eq_true rfl, Nat.le_of_ble_eq_true rfl⟩ ⟨Nat.le_of_ble_eq_true rfl, Nat.le_of_ble_eq_true rfl⟩ (by exact Nat.le_of_ble_eq_true rfl) (by decide +kernel) rfl rfl rfl dX9_has_20 (M_finding _ D cy a _ _ (by unfold vp_in; decide)) rfl (fun vu_12 wu_12 hu_12 => ?_)
    obtain ⟨rfl, rfl⟩ := hu_12
    refine g_lret dX9_has_23 ?_
    unfold mf_has; (repeat' split) <;> first | contradiction | (with_reducible exact ⟨rfl, rfl⟩) | (exfalso; simp_all; done) | exact ⟨rfl, rfl⟩

def mf_vote (S : MS) (h t v : Int32) : Int64 × MS := if (0 ≤ h ∧ h ≤ 9) ∧ (0 ≤ t ∧ t ≤ 4) ∧ (¬ v = 0 → (5000 ≤ v ∧ v ≤ 20000)) then ((S.2.2.1 18 (5 * h + t).toNatClampNeg).toInt64, sA S 18 (5 * h + t).toNatClampNeg v) else mf_finding S (-1000000000001)
set_option maxHeartbeats 4000000 in
set_option maxRecDepth 100000 in
/-- vote -/
theorem M_vote (l : Launch) (D : va_G) (cy : Nat → ClassId) (a : Nat → Nat) (S : MS) (h t v : Int32) : Ct l D clx (tyx cy) yX9_vote wsX9_vote (rmD 2) 0 0 [.ref (a 0), .int h, .int t, .int v] (MW cy a S) (fun r9 w9 => r9 = some (.long (mf_vote S h t v).1) ∧ w9 = MW cy a (mf_vote S h t v).2) := by
  refine g_start (cc := cX9_vote) (maxL := 5) (ret := (some .long)) (by decide) rfl (Nat.le_of_ble_eq_true rfl) (fun v w1 h => by obtain ⟨rfl, -⟩ := h; exact rfl) (fun Γ hlΓ => ?_)
  subst hlΓ
  refine g_iload_n (i := 1) dX9_vote_0 rfl rfl ?_
  refine g_callSf 1 gX9_vote_X9_isHouse rfl rfl rfl ⟨Nat.le_of_ble_eq_true rfl, Nat.le_of_ble_eq_true rfl⟩ ⟨Nat.le_of_ble_eq_true rfl, Nat.le_of_ble_eq_true rfl⟩ (by exact Nat.le_of_ble_eq_true rfl) (by decide +kernel) rfl dX9_vote_1 (M_isHouse _ D cy a _ _) rfl (fun vu_1 wu_1 hu_1 => ?_)
  rcases hu_1 with ⟨rfl, hu_1, rfl⟩ | ⟨rfl, hu_1, rfl⟩
  · skip
    refine g_if_eq 31 dX9_vote_4 (by decide) (fun h9 => absurd h9 (by decide)) (fun _ => ?_)
    refine g_iload_n (i := 2) dX9_vote_7 rfl rfl ?_
    refine g_callSf 1 gX9_vote_X9_isTown rfl rfl rfl ⟨Nat.le_of_ble_eq_true rfl, Nat.le_of_ble_eq_true rfl⟩ ⟨Nat.le_of_ble_eq_true rfl, Nat.le_of_ble_eq_true rfl⟩ (by exact Nat.le_of_ble_eq_true rfl) (by decide +kernel) rfl dX9_vote_8 (M_isTown _ D cy a _ _) rfl (fun vu_3 wu_3 hu_3 => ?_)
    rcases hu_3 with ⟨rfl, hu_3, rfl⟩ | ⟨rfl, hu_3, rfl⟩
    · skip
      refine g_if_eq 31 dX9_vote_11 (by decide) (fun h9 => absurd h9 (by decide)) (fun _ => ?_)
      refine g_iload_n (i := 3) dX9_vote_14 rfl rfl ?_
      refine g_if_eq 39 dX9_vote_15 (by decide) (fun c_5 => ?_) (fun c_5 => ?_)
      · skip
        refine g_aload_n (i := 0) dX9_vote_39 rfl rfl ?_
        refine m_get 18 dX9_vote_40 (List.mem_of_getElem? (i := 2) rfl) (fun w h => List.mem_cons_of_mem _ (List.mem_append_right _ h)) (by decide) rfl ?_
        refine g_iconst (5) rfl dX9_vote_43 ?_
        refine g_iload_n (i := 1) dX9_vote_44 rfl rfl ?_
        refine g_imul dX9_vote_45 ?_
        refine g_iload_n (i := 2) dX9_vote_46 rfl rfl ?_
        refine g_iadd dX9_vote_47 ?_
        refine m_iald 18 16 50 dX9_vote_48 rfl (ix50 (vpi10 (by assumption)) (vpi5 (by assumption))) ?_
        refine g_istore dX9_vote_49 (by decide) ?_
        refine g_aload_n (i := 0) dX9_vote_51 rfl rfl ?_
        refine m_get 18 dX9_vote_52 (List.mem_of_getElem? (i := 2) rfl) (fun w h => List.mem_cons_of_mem _ (List.mem_append_right _ h)) (by decide) rfl ?_
        refine g_iconst (5) rfl dX9_vote_55 ?_
        refine g_iload_n (i := 1) dX9_vote_56 rfl rfl ?_
        refine g_imul dX9_vote_57 ?_
        refine g_iload_n (i := 2) dX9_vote_58 rfl rfl ?_
        refine g_iadd dX9_vote_59 ?_
        refine g_iload_n (i := 3) dX9_vote_60 rfl rfl ?_
        refine m_iast 18 16 50 dX9_vote_61 rfl (ix50 (vpi10 (by assumption)) (vpi5 (by assumption))) (wsA_18 _ _ _ _ _) ?_
        refine g_iload dX9_vote_62 rfl ?_
        refine g_i2l dX9_vote_64 ?_
        refine g_lret dX9_vote_65 ?_
        unfold mf_vote; (repeat' split) <;> first | contradiction | (with_reducible exact ⟨rfl, rfl⟩) | (exfalso; simp_all; done) | exact ⟨rfl, rfl⟩
      · skip
        refine g_iload_n (i := 3) dX9_vote_18 rfl rfl ?_
        refine g_sipush (5000) rfl dX9_vote_19 ?_
        refine g_sipush (20000) rfl dX9_vote_22 ?_
        refine g_callSf 3 gX9_vote_X9_in rfl rfl rfl ⟨Nat.le_of_ble_eq_true rfl, Nat.le_of_ble_eq_true rfl⟩ ⟨Nat.le_of_ble_eq_true rfl, Nat.le_of_ble_eq_true rfl⟩ (by exact Nat.le_of_ble_eq_true rfl) (by decide +kernel) rfl dX9_vote_25 (M_in _ D cy a _ _ _ _) rfl (fun vu_6 wu_6 hu_6 => ?_)
        rcases hu_6 with ⟨rfl, hu_6, rfl⟩ | ⟨rfl, hu_6, rfl⟩
        · skip
          refine g_if_ne 39 dX9_vote_28 (by decide) (fun _ => ?_) (fun h9 => absurd h9 (by decide))
          refine g_aload_n (i := 0) dX9_vote_39 rfl rfl ?_
          refine m_get 18 dX9_vote_40 (List.mem_of_getElem? (i := 2) rfl) (fun w h => List.mem_cons_of_mem _ (List.mem_append_right _ h)) (by decide) rfl ?_
          refine g_iconst (5) rfl dX9_vote_43 ?_
          refine g_iload_n (i := 1) dX9_vote_44 rfl rfl ?_
          refine g_imul dX9_vote_45 ?_
          refine g_iload_n (i := 2) dX9_vote_46 rfl rfl ?_
          refine g_iadd dX9_vote_47 ?_
          refine m_iald 18 16 50 dX9_vote_48 rfl (ix50 (vpi10 (by assumption)) (vpi5 (by assumption))) ?_
          refine g_istore dX9_vote_49 (by decide) ?_
          refine g_aload_n (i := 0) dX9_vote_51 rfl rfl ?_
          refine m_get 18 dX9_vote_52 (List.mem_of_getElem? (i := 2) rfl) (fun w h => List.mem_cons_of_mem _ (List.mem_append_right _ h)) (by decide) rfl ?_
          refine g_iconst (5) rfl dX9_vote_55 ?_
          refine g_iload_n (i := 1) dX9_vote_56 rfl rfl ?_
          refine g_imul dX9_vote_57 ?_
          refine g_iload_n (i := 2) dX9_vote_58 rfl rfl ?_
          refine g_iadd dX9_vote_59 ?_
          refine g_iload_n (i := 3) dX9_vote_60 rfl rfl ?_
          refine m_iast 18 16 50 dX9_vote_61 rfl (ix50 (vpi10 (by assumption)) (vpi5 (by assumption))) (wsA_18 _ _ _ _ _) ?_
          refine g_iload dX9_vote_62 rfl ?_
          refine g_i2l dX9_vote_64 ?_
          refine g_lret dX9_vote_65 ?_
          unfold mf_vote; (repeat' split) <;> first | contradiction | (with_reducible exact ⟨rfl, rfl⟩) | (exfalso; simp_all; done) | exact ⟨rfl, rfl⟩
        · skip
          refine g_if_ne 39 dX9_vote_28 (by decide) (fun h9 => absurd h9 (by decide)) (fun _ => ?_)
          refine g_aload_n (i := 0) dX9_vote_31 rfl rfl ?_
          refine g_ldc2 (-1000000000001) (List.mem_of_getElem? (i := 1) rfl) dX9_vote_32 ?_
          refine g_callVf 1 0 gX9_vote_X9_finding rfl rfl rfl ⟨Nat.le_of_ble_eq_true rfl, Nat.le_of_ble_eq_true rfl⟩ ⟨Nat.le_of_ble_eq_true rfl, Nat.le_of_ble_eq_true rfl⟩ (by exact Nat.le_of_ble_eq_true rfl) (by decide +kernel) rfl rfl rfl dX9_vote_35 (M_finding _ D cy a _ _ (by unfold vp_in; decide)) rfl (fun vu_9 wu_9 hu_9 => ?_)
          obtain ⟨rfl, rfl⟩ := hu_9
          refine g_lret dX9_vote_38 ?_
          unfold mf_vote; (repeat' split) <;> first | contradiction | (with_reducible exact ⟨rfl, rfl⟩) | (exfalso; simp_all; done) | exact ⟨rfl, rfl⟩
    · skip
      refine g_if_eq 31 dX9_vote_11 (by decide) (fun _ => ?_) (fun h9 => absurd h9 (by decide))
      refine g_aload_n (i := 0) dX9_vote_31 rfl rfl ?_
      refine g_ldc2 (-1000000000001) (List.mem_of_getElem? (i := 1) rfl) dX9_vote_32 ?_
      refine g_callVf 1 0 gX9_vote_X9_finding rfl rfl rfl ⟨Nat.le_of_ble_eq_true rfl, Nat.le_of_ble_eq_true rfl⟩ ⟨Nat.le_of_ble_eq_true rfl, Nat.le_of_ble_eq_true rfl⟩ (by exact Nat.le_of_ble_eq_true rfl) (by decide +kernel) rfl rfl rfl dX9_vote_35 (M_finding _ D cy a _ _ (by unfold vp_in; decide)) rfl (fun vu_11 wu_11 hu_11 => ?_)
      obtain ⟨rfl, rfl⟩ := hu_11
      refine g_lret dX9_vote_38 ?_
      unfold mf_vote; (repeat' split) <;> first | contradiction | (with_reducible exact ⟨rfl, rfl⟩) | (exfalso; simp_all; done) | exact ⟨rfl, rfl⟩
  · skip
    refine g_if_eq 31 dX9_vote_4 (by decide) (fun _ => ?_) (fun h9 => absurd h9 (by decide))
    refine g_aload_n (i := 0) dX9_vote_31 rfl rfl ?_
    refine g_ldc2 (-1000000000001) (List.mem_of_getElem? (i := 1) rfl) dX9_vote_32 ?_
    refine g_callVf 1 0 gX9_vote_X9_finding rfl rfl rfl ⟨Nat.le_of_ble_eq_true rfl, Nat.le_of_ble_eq_true rfl⟩ ⟨Nat.le_of_ble_eq_true rfl, Nat.le_of_ble_eq_true rfl⟩ (by exact Nat.le_of_ble_eq_true rfl) (by decide +kernel) rfl rfl rfl dX9_vote_35 (M_finding _ D cy a _ _ (by unfold vp_in; decide)) rfl (fun vu_13 wu_13 hu_13 => ?_)
    obtain ⟨rfl, rfl⟩ := hu_13
    refine g_lret dX9_vote_38 ?_
    unfold mf_vote; (repeat' split) <;> first | contradiction | (with_reducible exact ⟨rfl, rfl⟩) | (exfalso; simp_all; done) | exact ⟨rfl, rfl⟩

def mf_offer (S : MS) (f t v : Int32) : Int64 × MS := if (0 ≤ f ∧ f ≤ 4) ∧ (0 ≤ t ∧ t ≤ 4) ∧ ¬ f = t ∧ (0 ≤ v ∧ v ≤ 20000) then ((S.2.2.1 19 (5 * f + t).toNatClampNeg).toInt64, sA S 19 (5 * f + t).toNatClampNeg v) else mf_finding S (-1000000000001)
set_option maxHeartbeats 4000000 in
set_option maxRecDepth 100000 in
/-- offer -/
theorem M_offer (l : Launch) (D : va_G) (cy : Nat → ClassId) (a : Nat → Nat) (S : MS) (f t v : Int32) : Ct l D clx (tyx cy) yX9_offer wsX9_offer (rmD 2) 0 0 [.ref (a 0), .int f, .int t, .int v] (MW cy a S) (fun r9 w9 => r9 = some (.long (mf_offer S f t v).1) ∧ w9 = MW cy a (mf_offer S f t v).2) := by
  refine g_start (cc := cX9_offer) (maxL := 5) (ret := (some .long)) (by decide) rfl (Nat.le_of_ble_eq_true rfl) (fun v w1 h => by obtain ⟨rfl, -⟩ := h; exact rfl) (fun Γ hlΓ => ?_)
  subst hlΓ
  refine g_iload_n (i := 1) dX9_offer_0 rfl rfl ?_
  refine g_callSf 1 gX9_offer_X9_isTown rfl rfl rfl ⟨Nat.le_of_ble_eq_true rfl, Nat.le_of_ble_eq_true rfl⟩ ⟨Nat.le_of_ble_eq_true rfl, Nat.le_of_ble_eq_true rfl⟩ (by exact Nat.le_of_ble_eq_true rfl) (by decide +kernel) rfl dX9_offer_1 (M_isTown _ D cy a _ _) rfl (fun vu_1 wu_1 hu_1 => ?_)
  rcases hu_1 with ⟨rfl, hu_1, rfl⟩ | ⟨rfl, hu_1, rfl⟩
  · skip
    refine g_if_eq 30 dX9_offer_4 (by decide) (fun h9 => absurd h9 (by decide)) (fun _ => ?_)
    refine g_iload_n (i := 2) dX9_offer_7 rfl rfl ?_
    refine g_callSf 1 gX9_offer_X9_isTown rfl rfl rfl ⟨Nat.le_of_ble_eq_true rfl, Nat.le_of_ble_eq_true rfl⟩ ⟨Nat.le_of_ble_eq_true rfl, Nat.le_of_ble_eq_true rfl⟩ (by exact Nat.le_of_ble_eq_true rfl) (by decide +kernel) rfl dX9_offer_8 (M_isTown _ D cy a _ _) rfl (fun vu_3 wu_3 hu_3 => ?_)
    rcases hu_3 with ⟨rfl, hu_3, rfl⟩ | ⟨rfl, hu_3, rfl⟩
    · skip
      refine g_if_eq 30 dX9_offer_11 (by decide) (fun h9 => absurd h9 (by decide)) (fun _ => ?_)
      refine g_iload_n (i := 1) dX9_offer_14 rfl rfl ?_
      refine g_iload_n (i := 2) dX9_offer_15 rfl rfl ?_
      refine g_icmp_eq 30 dX9_offer_16 (by decide) (fun c_5 => ?_) (fun c_5 => ?_)
      · skip
        refine g_aload_n (i := 0) dX9_offer_30 rfl rfl ?_
        refine g_ldc2 (-1000000000001) (List.mem_of_getElem? (i := 1) rfl) dX9_offer_31 ?_
        refine g_callVf 1 0 gX9_offer_X9_finding rfl rfl rfl ⟨Nat.le_of_ble_eq_true rfl, Nat.le_of_ble_eq_true rfl⟩ ⟨Nat.le_of_ble_eq_true rfl, Nat.le_of_ble_eq_true rfl⟩ (by exact Nat.le_of_ble_eq_true rfl) (by decide +kernel) rfl rfl rfl dX9_offer_34 (M_finding _ D cy a _ _ (by unfold vp_in; decide)) rfl (fun vu_6 wu_6 hu_6 => ?_)
        obtain ⟨rfl, rfl⟩ := hu_6
        refine g_lret dX9_offer_37 ?_
        unfold mf_offer; (repeat' split) <;> first | contradiction | (with_reducible exact ⟨rfl, rfl⟩) | (exfalso; simp_all; done) | exact ⟨rfl, rfl⟩
      · skip
        refine g_iload_n (i := 3) dX9_offer_19 rfl rfl ?_
        refine g_iconst (0) rfl dX9_offer_20 ?_
        refine g_sipush (20000) rfl dX9_offer_21 ?_
        refine g_callSf 3 gX9_offer_X9_in rfl rfl rfl ⟨Nat.le_of_ble_eq_true rfl, Nat.le_of_ble_eq_true rfl⟩ ⟨Nat.le_of_ble_eq_true rfl, Nat.le_of_ble_eq_true rfl⟩ (by exact Nat.le_of_ble_eq_true rfl) (by decide +kernel) rfl dX9_offer_24 (M_in _ D cy a _ _ _ _) rfl (fun vu_7 wu_7 hu_7 => ?_)
        rcases hu_7 with ⟨rfl, hu_7, rfl⟩ | ⟨rfl, hu_7, rfl⟩
        · skip
          refine g_if_ne 38 dX9_offer_27 (by decide) (fun _ => ?_) (fun h9 => absurd h9 (by decide))
          refine g_aload_n (i := 0) dX9_offer_38 rfl rfl ?_
          refine m_get 19 dX9_offer_39 (List.mem_of_getElem? (i := 2) rfl) (fun w h => List.mem_cons_of_mem _ (List.mem_append_right _ h)) (by decide) rfl ?_
          refine g_iconst (5) rfl dX9_offer_42 ?_
          refine g_iload_n (i := 1) dX9_offer_43 rfl rfl ?_
          refine g_imul dX9_offer_44 ?_
          refine g_iload_n (i := 2) dX9_offer_45 rfl rfl ?_
          refine g_iadd dX9_offer_46 ?_
          refine m_iald 19 17 25 dX9_offer_47 rfl (ix25 (vpi5 (by assumption)) (vpi5 (by assumption))) ?_
          refine g_istore dX9_offer_48 (by decide) ?_
          refine g_aload_n (i := 0) dX9_offer_50 rfl rfl ?_
          refine m_get 19 dX9_offer_51 (List.mem_of_getElem? (i := 2) rfl) (fun w h => List.mem_cons_of_mem _ (List.mem_append_right _ h)) (by decide) rfl ?_
          refine g_iconst (5) rfl dX9_offer_54 ?_
          refine g_iload_n (i := 1) dX9_offer_55 rfl rfl ?_
          refine g_imul dX9_offer_56 ?_
          refine g_iload_n (i := 2) dX9_offer_57 rfl rfl ?_
          refine g_iadd dX9_offer_58 ?_
          refine g_iload_n (i := 3) dX9_offer_59 rfl rfl ?_
          refine m_iast 19 17 25 dX9_offer_60 rfl (ix25 (vpi5 (by assumption)) (vpi5 (by assumption))) (wsA_19 _ _ _ _ _) ?_
          refine g_iload dX9_offer_61 rfl ?_
          refine g_i2l dX9_offer_63 ?_
          refine g_lret dX9_offer_64 ?_
          unfold mf_offer; (repeat' split) <;> first | contradiction | (with_reducible exact ⟨rfl, rfl⟩) | (exfalso; simp_all; done) | exact ⟨rfl, rfl⟩
        · skip
          refine g_if_ne 38 dX9_offer_27 (by decide) (fun h9 => absurd h9 (by decide)) (fun _ => ?_)
          refine g_aload_n (i := 0) dX9_offer_30 rfl rfl ?_
          refine g_ldc2 (-1000000000001) (List.mem_of_getElem? (i := 1) rfl) dX9_offer_31 ?_
          refine g_callVf 1 0 gX9_offer_X9_finding rfl rfl rfl ⟨Nat.le_of_ble_eq_true rfl, Nat.le_of_ble_eq_true rfl⟩ ⟨Nat.le_of_ble_eq_true rfl, Nat.le_of_ble_eq_true rfl⟩ (by exact Nat.le_of_ble_eq_true rfl) (by decide +kernel) rfl rfl rfl dX9_offer_34 (M_finding _ D cy a _ _ (by unfold vp_in; decide)) rfl (fun vu_10 wu_10 hu_10 => ?_)
          obtain ⟨rfl, rfl⟩ := hu_10
          refine g_lret dX9_offer_37 ?_
          unfold mf_offer; (repeat' split) <;> first | contradiction | (with_reducible exact ⟨rfl, rfl⟩) | (exfalso; simp_all; done) | exact ⟨rfl, rfl⟩
    · skip
      refine g_if_eq 30 dX9_offer_11 (by decide) (fun _ => ?_) (fun h9 => absurd h9 (by decide))
      refine g_aload_n (i := 0) dX9_offer_30 rfl rfl ?_
      refine g_ldc2 (-1000000000001) (List.mem_of_getElem? (i := 1) rfl) dX9_offer_31 ?_
      refine g_callVf 1 0 gX9_offer_X9_finding rfl rfl rfl ⟨Nat.le_of_ble_eq_true rfl, Nat.le_of_ble_eq_true rfl⟩ ⟨Nat.le_of_ble_eq_true rfl, Nat.le_of_ble_eq_true rfl⟩ (by exact Nat.le_of_ble_eq_true rfl) (by decide +kernel) rfl rfl rfl dX9_offer_34 (M_finding _ D cy a _ _ (by unfold vp_in; decide)) rfl (fun vu_12 wu_12 hu_12 => ?_)
      obtain ⟨rfl, rfl⟩ := hu_12
      refine g_lret dX9_offer_37 ?_
      unfold mf_offer; (repeat' split) <;> first | contradiction | (with_reducible exact ⟨rfl, rfl⟩) | (exfalso; simp_all; done) | exact ⟨rfl, rfl⟩
  · skip
    refine g_if_eq 30 dX9_offer_4 (by decide) (fun _ => ?_) (fun h9 => absurd h9 (by decide))
    refine g_aload_n (i := 0) dX9_offer_30 rfl rfl ?_
    refine g_ldc2 (-1000000000001) (List.mem_of_getElem? (i := 1) rfl) dX9_offer_31 ?_
    refine g_callVf 1 0 gX9_offer_X9_finding rfl rfl rfl ⟨Nat.le_of_ble_eq_true rfl, Nat.le_of_ble_eq_true rfl⟩ ⟨Nat.le_of_ble_eq_true rfl, Nat.le_of_ble_eq_true rfl⟩ (by exact Nat.le_of_ble_eq_true rfl) (by decide +kernel) rfl rfl rfl dX9_offer_34 (M_finding _ D cy a _ _ (by unfold vp_in; decide)) rfl (fun vu_14 wu_14 hu_14 => ?_)
    obtain ⟨rfl, rfl⟩ := hu_14
    refine g_lret dX9_offer_37 ?_
    unfold mf_offer; (repeat' split) <;> first | contradiction | (with_reducible exact ⟨rfl, rfl⟩) | (exfalso; simp_all; done) | exact ⟨rfl, rfl⟩

def mf_told (S : MS) (v : Int32) : MS := sI (sA S 21 (S.1 20).toNatClampNeg v) 20 ((sA S 21 (S.1 20).toNatClampNeg v).1 20 + 1)
def mf_tell (S : MS) (v : Int32) : Int64 × MS := if S.1 20 = 30 then mf_finding S (-1000000000004) else (((mf_told S v).1 20).toInt64, mf_told S v)
set_option maxHeartbeats 4000000 in
set_option maxRecDepth 100000 in
/-- tell -/
theorem M_tell (l : Launch) (D : va_G) (cy : Nat → ClassId) (a : Nat → Nat) (S : MS) (hI : minv S) (v : Int32) : Ct l D clx (tyx cy) yX9_tell wsX9_tell (rmD 1) 0 0 [.ref (a 0), .int v] (MW cy a S) (fun r9 w9 => r9 = some (.long (mf_tell S v).1) ∧ w9 = MW cy a (mf_tell S v).2) := by
  refine g_start (cc := cX9_tell) (maxL := 2) (ret := (some .long)) (by decide) rfl (Nat.le_of_ble_eq_true rfl) (fun v w1 h => by obtain ⟨rfl, -⟩ := h; exact rfl) (fun Γ hlΓ => ?_)
  subst hlΓ
  refine g_aload_n (i := 0) dX9_tell_0 rfl rfl ?_
  refine m_get 20 dX9_tell_1 (List.mem_of_getElem? (i := 1) rfl) (fun w h => List.mem_cons_of_mem _ (List.mem_append_right _ h)) (by decide) rfl ?_
  refine g_bipush (30) rfl dX9_tell_4 ?_
  refine g_icmp_ne 17 dX9_tell_6 (by decide) (fun c_1 => ?_) (fun c_1 => ?_)
  · skip
    refine g_aload_n (i := 0) dX9_tell_17 rfl rfl ?_
    refine m_get 21 dX9_tell_18 (List.mem_of_getElem? (i := 3) rfl) (fun w h => List.mem_cons_of_mem _ (List.mem_append_right _ h)) (by decide) rfl ?_
    refine g_aload_n (i := 0) dX9_tell_21 rfl rfl ?_
    refine m_get 20 dX9_tell_22 (List.mem_of_getElem? (i := 1) rfl) (fun w h => List.mem_cons_of_mem _ (List.mem_append_right _ h)) (by decide) rfl ?_
    refine g_iload_n (i := 1) dX9_tell_25 rfl rfl ?_
    refine m_iast 21 18 30 dX9_tell_26 rfl (mtell hI (by assumption)) (wsA_21 _ _ _ _ _) ?_
    refine g_aload_n (i := 0) dX9_tell_27 rfl rfl ?_
    refine g_dup rfl dX9_tell_28 ?_
    refine m_get 20 dX9_tell_29 (List.mem_of_getElem? (i := 1) rfl) (fun w h => List.mem_cons_of_mem _ (List.mem_append_right _ h)) (by decide) rfl ?_
    refine g_iconst (1) rfl dX9_tell_32 ?_
    refine g_iadd dX9_tell_33 ?_
    refine m_puti 20 dX9_tell_34 (List.mem_of_getElem? (i := 1) rfl) (fun w h => List.mem_cons_of_mem _ (List.mem_append_right _ h)) (by decide) rfl rfl rfl (wsI_20 _ _ _ _) ?_
    refine g_aload_n (i := 0) dX9_tell_37 rfl rfl ?_
    refine m_get 20 dX9_tell_38 (List.mem_of_getElem? (i := 1) rfl) (fun w h => List.mem_cons_of_mem _ (List.mem_append_right _ h)) (by decide) rfl ?_
    refine g_i2l dX9_tell_41 ?_
    refine g_lret dX9_tell_42 ?_
    unfold mf_tell; (repeat' split) <;> first | contradiction | (with_reducible exact ⟨rfl, rfl⟩) | (exfalso; simp_all; done) | exact ⟨rfl, rfl⟩
  · skip
    refine g_aload_n (i := 0) dX9_tell_9 rfl rfl ?_
    refine g_ldc2 (-1000000000004) (List.mem_of_getElem? (i := 2) rfl) dX9_tell_10 ?_
    refine g_callVf 1 0 gX9_tell_X9_finding rfl rfl rfl ⟨Nat.le_of_ble_eq_true rfl, Nat.le_of_ble_eq_true rfl⟩ ⟨Nat.le_of_ble_eq_true rfl, Nat.le_of_ble_eq_true rfl⟩ (by exact Nat.le_of_ble_eq_true rfl) (by decide +kernel) rfl rfl rfl dX9_tell_13 (M_finding _ D cy a _ _ (by unfold vp_in; decide)) rfl (fun vu_2 wu_2 hu_2 => ?_)
    obtain ⟨rfl, rfl⟩ := hu_2
    refine g_lret dX9_tell_16 ?_
    unfold mf_tell; (repeat' split) <;> first | contradiction | (with_reducible exact ⟨rfl, rfl⟩) | (exfalso; simp_all; done) | exact ⟨rfl, rfl⟩

theorem vpk {i : Int32} (h : 1 ≤ i ∧ i ≤ 7) : vp_in i 8 := by
  refine vpi (h := 7) ?_ h.2 (by decide)
  have := h.1
  rw [Int32.le_iff_toInt_le] at this ⊢
  have e1 : (1 : Int32).toInt = 1 := by decide
  have e0 : (0 : Int32).toInt = 0 := by decide
  omega
def mf_found (S : MS) (q : Int32) : Int64 × MS := if (1 ≤ q ∧ q ≤ 7) then (S.2.2.2 22 q.toNatClampNeg, S) else mf_finding S (-1000000000001)
set_option maxHeartbeats 4000000 in
set_option maxRecDepth 100000 in
/-- found -/
theorem M_found (l : Launch) (D : va_G) (cy : Nat → ClassId) (a : Nat → Nat) (S : MS) (q : Int32) : Ct l D clx (tyx cy) yX9_found wsX9_found (rmD 2) 0 0 [.ref (a 0), .int q] (MW cy a S) (fun r9 w9 => r9 = some (.long (mf_found S q).1) ∧ w9 = MW cy a (mf_found S q).2) := by
  refine g_start (cc := cX9_found) (maxL := 2) (ret := (some .long)) (by decide) rfl (Nat.le_of_ble_eq_true rfl) (fun v w1 h => by obtain ⟨rfl, -⟩ := h; exact rfl) (fun Γ hlΓ => ?_)
  subst hlΓ
  refine g_iload_n (i := 1) dX9_found_0 rfl rfl ?_
  refine g_iconst (1) rfl dX9_found_1 ?_
  refine g_bipush (7) rfl dX9_found_2 ?_
  refine g_callSf 3 gX9_found_X9_in rfl rfl rfl ⟨Nat.le_of_ble_eq_true rfl, Nat.le_of_ble_eq_true rfl⟩ ⟨Nat.le_of_ble_eq_true rfl, Nat.le_of_ble_eq_true rfl⟩ (by exact Nat.le_of_ble_eq_true rfl) (by decide +kernel) rfl dX9_found_4 (M_in _ D cy a _ _ _ _) rfl (fun vu_1 wu_1 hu_1 => ?_)
  rcases hu_1 with ⟨rfl, hu_1, rfl⟩ | ⟨rfl, hu_1, rfl⟩
  · skip
    refine g_if_eq 19 dX9_found_7 (by decide) (fun h9 => absurd h9 (by decide)) (fun _ => ?_)
    refine g_aload_n (i := 0) dX9_found_10 rfl rfl ?_
    refine m_get 22 dX9_found_11 (List.mem_of_getElem? (i := 1) rfl) (fun w h => List.mem_cons_of_mem _ (List.mem_append_right _ h)) (by decide) rfl ?_
    refine g_iload_n (i := 1) dX9_found_14 rfl rfl ?_
    refine m_lald 22 19 8 dX9_found_15 rfl (vpk (by assumption)) ?_
    refine g_goto 26 dX9_found_16 (by decide) ?_
    refine g_lret dX9_found_26 ?_
    unfold mf_found; (repeat' split) <;> first | contradiction | (with_reducible exact ⟨rfl, rfl⟩) | (exfalso; simp_all; done) | exact ⟨rfl, rfl⟩
  · skip
    refine g_if_eq 19 dX9_found_7 (by decide) (fun _ => ?_) (fun h9 => absurd h9 (by decide))
    refine g_aload_n (i := 0) dX9_found_19 rfl rfl ?_
    refine g_ldc2 (-1000000000001) (List.mem_of_getElem? (i := 2) rfl) dX9_found_20 ?_
    refine g_callVf 1 0 gX9_found_X9_finding rfl rfl rfl ⟨Nat.le_of_ble_eq_true rfl, Nat.le_of_ble_eq_true rfl⟩ ⟨Nat.le_of_ble_eq_true rfl, Nat.le_of_ble_eq_true rfl⟩ (by exact Nat.le_of_ble_eq_true rfl) (by decide +kernel) rfl rfl rfl dX9_found_23 (M_finding _ D cy a _ _ (by unfold vp_in; decide)) rfl (fun vu_4 wu_4 hu_4 => ?_)
    obtain ⟨rfl, rfl⟩ := hu_4
    refine g_lret dX9_found_26 ?_
    unfold mf_found; (repeat' split) <;> first | contradiction | (with_reducible exact ⟨rfl, rfl⟩) | (exfalso; simp_all; done) | exact ⟨rfl, rfl⟩

set_option maxHeartbeats 4000000 in
set_option maxRecDepth 100000 in
/-- fault -/
theorem M_fault (l : Launch) (D : va_G) (cy : Nat → ClassId) (a : Nat → Nat) (S : MS) : Ct l D clx (tyx cy) yX9_fault wsX9_fault (rmD 0) 0 0 [.ref (a 0)] (MW cy a S) (fun r9 w9 => r9 = some (.long ((S.2.1 37, S)).1) ∧ w9 = MW cy a ((S.2.1 37, S)).2) := by
  refine g_start (cc := cX9_fault) (maxL := 1) (ret := (some .long)) (by decide) rfl (Nat.le_of_ble_eq_true rfl) (fun v w1 h => by obtain ⟨rfl, -⟩ := h; exact rfl) (fun Γ hlΓ => ?_)
  subst hlΓ
  refine g_aload_n (i := 0) dX9_fault_0 rfl rfl ?_
  refine m_get 37 dX9_fault_1 (List.mem_of_getElem? (i := 1) rfl) (fun w h => List.mem_cons_of_mem _ (List.mem_append_right _ h)) (by decide) rfl ?_
  refine g_lret dX9_fault_4 ?_
  exact ⟨rfl, rfl⟩

theorem tsw6 (x : Int32) : x = 0 ∨ x = 1 ∨ x = 2 ∨ x = 3 ∨ x = 4 ∨ x = 5 ∨ (x.toInt < 0 ∨ 5 < x.toInt) := by
  have h : ∀ (c : Int32) (j : Int), c.toInt = j → x.toInt = j → x = c := fun c j h1 h2 => Int32.toInt_inj.mp (h2.trans h1.symm)
  by_cases h0 : x.toInt < 0 ∨ 5 < x.toInt
  · simp [h0]
  · have : x.toInt = 0 ∨ x.toInt = 1 ∨ x.toInt = 2 ∨ x.toInt = 3 ∨ x.toInt = 4 ∨ x.toInt = 5 := by omega
    rcases this with e | e | e | e | e | e
    · exact Or.inl (h 0 0 (by decide) e)
    · exact Or.inr (Or.inl (h 1 1 (by decide) e))
    · exact Or.inr (Or.inr (Or.inl (h 2 2 (by decide) e)))
    · exact Or.inr (Or.inr (Or.inr (Or.inl (h 3 3 (by decide) e))))
    · exact Or.inr (Or.inr (Or.inr (Or.inr (Or.inl (h 4 4 (by decide) e)))))
    · exact Or.inr (Or.inr (Or.inr (Or.inr (Or.inr (Or.inl (h 5 5 (by decide) e))))))
def mf_count (S : MS) (x : Int32) : Int64 × MS := if x = 0 then (S.2.1 0, S) else if x = 1 then ((S.1 4).toInt64, S) else if x = 2 then ((S.1 23).toInt64, S) else if x = 3 then (mall S 100, S) else if x = 4 then ((S.1 20).toInt64, S) else if x = 5 then ((S.1 36).toInt64, S) else mf_finding S (-1000000000001)
set_option maxHeartbeats 4000000 in
set_option maxRecDepth 100000 in
/-- count -/
theorem M_count (l : Launch) (D : va_G) (cy : Nat → ClassId) (a : Nat → Nat) (S : MS) (x : Int32) : Ct l D clx (tyx cy) yX9_count wsX9_count (rmD 1) 0 0 [.ref (a 0), .int x] (MW cy a S) (fun r9 w9 => r9 = some (.long (mf_count S x).1) ∧ w9 = MW cy a (mf_count S x).2) := by
  refine g_start (cc := cX9_count) (maxL := 2) (ret := (some .long)) (by decide) rfl (Nat.le_of_ble_eq_true rfl) (fun v w1 h => by obtain ⟨rfl, -⟩ := h; exact rfl) (fun Γ hlΓ => ?_)
  subst hlΓ
  refine g_iload_n (i := 1) dX9_count_0 rfl rfl ?_
  rcases tsw6 x with rfl | rfl | rfl | rfl | rfl | rfl | hx
  · skip
    refine g_tabIn 40 dX9_count_1 (by decide) (by decide) rfl (by decide) ?_
    refine g_aload_n (i := 0) dX9_count_40 rfl rfl ?_
    refine m_get 0 dX9_count_41 (List.mem_of_getElem? (i := 1) rfl) (fun w h => List.mem_cons_of_mem _ (List.mem_append_right _ h)) (by decide) rfl ?_
    refine g_lret dX9_count_44 ?_
    unfold mf_count; (repeat' split) <;> first | contradiction | (with_reducible exact ⟨rfl, rfl⟩) | (exfalso; subst_vars; revert hx; decide) | (exfalso; simp_all; done) | exact ⟨rfl, rfl⟩
  · skip
    refine g_tabIn 45 dX9_count_1 (by decide) (by decide) rfl (by decide) ?_
    refine g_aload_n (i := 0) dX9_count_45 rfl rfl ?_
    refine m_get 4 dX9_count_46 (List.mem_of_getElem? (i := 2) rfl) (fun w h => List.mem_cons_of_mem _ (List.mem_append_right _ h)) (by decide) rfl ?_
    refine g_i2l dX9_count_49 ?_
    refine g_lret dX9_count_50 ?_
    unfold mf_count; (repeat' split) <;> first | contradiction | (with_reducible exact ⟨rfl, rfl⟩) | (exfalso; subst_vars; revert hx; decide) | (exfalso; simp_all; done) | exact ⟨rfl, rfl⟩
  · skip
    refine g_tabIn 51 dX9_count_1 (by decide) (by decide) rfl (by decide) ?_
    refine g_aload_n (i := 0) dX9_count_51 rfl rfl ?_
    refine m_get 23 dX9_count_52 (List.mem_of_getElem? (i := 3) rfl) (fun w h => List.mem_cons_of_mem _ (List.mem_append_right _ h)) (by decide) rfl ?_
    refine g_i2l dX9_count_55 ?_
    refine g_lret dX9_count_56 ?_
    unfold mf_count; (repeat' split) <;> first | contradiction | (with_reducible exact ⟨rfl, rfl⟩) | (exfalso; subst_vars; revert hx; decide) | (exfalso; simp_all; done) | exact ⟨rfl, rfl⟩
  · skip
    refine g_tabIn 57 dX9_count_1 (by decide) (by decide) rfl (by decide) ?_
    refine g_aload_n (i := 0) dX9_count_57 rfl rfl ?_
    refine g_callVf 0 0 gX9_count_X9_owedInAll rfl rfl rfl ⟨Nat.le_of_ble_eq_true rfl, Nat.le_of_ble_eq_true rfl⟩ ⟨Nat.le_of_ble_eq_true rfl, Nat.le_of_ble_eq_true rfl⟩ (by exact Nat.le_of_ble_eq_true rfl) (by decide +kernel) rfl rfl rfl dX9_count_58 (M_owedInAll _ D cy a _) rfl (fun vu_1 wu_1 hu_1 => ?_)
    obtain ⟨rfl, rfl⟩ := hu_1
    refine g_lret dX9_count_61 ?_
    unfold mf_count; (repeat' split) <;> first | contradiction | (with_reducible exact ⟨rfl, rfl⟩) | (exfalso; subst_vars; revert hx; decide) | (exfalso; simp_all; done) | exact ⟨rfl, rfl⟩
  · skip
    refine g_tabIn 62 dX9_count_1 (by decide) (by decide) rfl (by decide) ?_
    refine g_aload_n (i := 0) dX9_count_62 rfl rfl ?_
    refine m_get 20 dX9_count_63 (List.mem_of_getElem? (i := 4) rfl) (fun w h => List.mem_cons_of_mem _ (List.mem_append_right _ h)) (by decide) rfl ?_
    refine g_i2l dX9_count_66 ?_
    refine g_lret dX9_count_67 ?_
    unfold mf_count; (repeat' split) <;> first | contradiction | (with_reducible exact ⟨rfl, rfl⟩) | (exfalso; subst_vars; revert hx; decide) | (exfalso; simp_all; done) | exact ⟨rfl, rfl⟩
  · skip
    refine g_tabIn 68 dX9_count_1 (by decide) (by decide) rfl (by decide) ?_
    refine g_aload_n (i := 0) dX9_count_68 rfl rfl ?_
    refine m_get 36 dX9_count_69 (List.mem_of_getElem? (i := 5) rfl) (fun w h => List.mem_cons_of_mem _ (List.mem_append_right _ h)) (by decide) rfl ?_
    refine g_i2l dX9_count_72 ?_
    refine g_lret dX9_count_73 ?_
    unfold mf_count; (repeat' split) <;> first | contradiction | (with_reducible exact ⟨rfl, rfl⟩) | (exfalso; subst_vars; revert hx; decide) | (exfalso; simp_all; done) | exact ⟨rfl, rfl⟩
  · skip
    refine g_tabOut 74 dX9_count_1 hx (by decide) ?_
    refine g_aload_n (i := 0) dX9_count_74 rfl rfl ?_
    refine g_ldc2 (-1000000000001) (List.mem_of_getElem? (i := 6) rfl) dX9_count_75 ?_
    refine g_callVf 1 0 gX9_count_X9_finding rfl rfl rfl ⟨Nat.le_of_ble_eq_true rfl, Nat.le_of_ble_eq_true rfl⟩ ⟨Nat.le_of_ble_eq_true rfl, Nat.le_of_ble_eq_true rfl⟩ (by exact Nat.le_of_ble_eq_true rfl) (by decide +kernel) rfl rfl rfl dX9_count_78 (M_finding _ D cy a _ _ (by unfold vp_in; decide)) rfl (fun vu_2 wu_2 hu_2 => ?_)
    obtain ⟨rfl, rfl⟩ := hu_2
    refine g_lret dX9_count_81 ?_
    unfold mf_count; (repeat' split) <;> first | contradiction | (with_reducible exact ⟨rfl, rfl⟩) | (exfalso; subst_vars; revert hx; decide) | (exfalso; simp_all; done) | exact ⟨rfl, rfl⟩

def mpay (S : MS) (i x : Int32) : Int64 := if x = 0 then (S.2.2.1 47 i.toNatClampNeg).toInt64 else if x = 1 then (S.2.2.1 48 i.toNatClampNeg).toInt64 else S.2.2.2 49 i.toNatClampNeg
set_option maxHeartbeats 4000000 in
set_option maxRecDepth 100000 in
/-- a figure of a payment -/
theorem M_paymentOf (l : Launch) (D : va_G) (cy : Nat → ClassId) (a : Nat → Nat) (S : MS) (i x : Int32) (hi : vp_in i 10) : Ct l D clx (tyx cy) yX9_paymentOf wsX9_paymentOf (rmD 0) 0 0 [.ref (a 0), .int i, .int x] (MW cy a S) (fun r9 w9 => r9 = some (.long (mpay S i x)) ∧ w9 = MW cy a S) := by
  refine g_start (cc := cX9_paymentOf) (maxL := 3) (ret := (some .long)) (by decide) rfl (Nat.le_of_ble_eq_true rfl) (fun v w1 h => by obtain ⟨rfl, -⟩ := h; exact rfl) (fun Γ hlΓ => ?_)
  subst hlΓ
  refine g_iload_n (i := 2) dX9_paymentOf_0 rfl rfl ?_
  refine g_if_ne 14 dX9_paymentOf_1 (by decide) (fun c_1 => ?_) (fun c_1 => ?_)
  · skip
    refine g_iload_n (i := 2) dX9_paymentOf_14 rfl rfl ?_
    refine g_iconst (1) rfl dX9_paymentOf_15 ?_
    refine g_icmp_ne 29 dX9_paymentOf_16 (by decide) (fun c_2 => ?_) (fun c_2 => ?_)
    · skip
      refine g_aload_n (i := 0) dX9_paymentOf_29 rfl rfl ?_
      refine m_get 49 dX9_paymentOf_30 (List.mem_of_getElem? (i := 3) rfl) (fun w h => List.mem_cons_of_mem _ (List.mem_append_right _ h)) (by decide) rfl ?_
      refine g_iload_n (i := 1) dX9_paymentOf_33 rfl rfl ?_
      refine m_lald 49 36 10 dX9_paymentOf_34 rfl hi ?_
      refine g_lret dX9_paymentOf_35 ?_
      unfold mpay; (repeat' split) <;> first | contradiction | (with_reducible exact ⟨rfl, rfl⟩) | (exfalso; simp_all; done) | exact ⟨rfl, rfl⟩
    · skip
      refine g_aload_n (i := 0) dX9_paymentOf_19 rfl rfl ?_
      refine m_get 48 dX9_paymentOf_20 (List.mem_of_getElem? (i := 2) rfl) (fun w h => List.mem_cons_of_mem _ (List.mem_append_right _ h)) (by decide) rfl ?_
      refine g_iload_n (i := 1) dX9_paymentOf_23 rfl rfl ?_
      refine m_iald 48 35 10 dX9_paymentOf_24 rfl hi ?_
      refine g_i2l dX9_paymentOf_25 ?_
      refine g_goto 35 dX9_paymentOf_26 (by decide) ?_
      refine g_lret dX9_paymentOf_35 ?_
      unfold mpay; (repeat' split) <;> first | contradiction | (with_reducible exact ⟨rfl, rfl⟩) | (exfalso; simp_all; done) | exact ⟨rfl, rfl⟩
  · skip
    refine g_aload_n (i := 0) dX9_paymentOf_4 rfl rfl ?_
    refine m_get 47 dX9_paymentOf_5 (List.mem_of_getElem? (i := 1) rfl) (fun w h => List.mem_cons_of_mem _ (List.mem_append_right _ h)) (by decide) rfl ?_
    refine g_iload_n (i := 1) dX9_paymentOf_8 rfl rfl ?_
    refine m_iald 47 34 10 dX9_paymentOf_9 rfl hi ?_
    refine g_i2l dX9_paymentOf_10 ?_
    refine g_goto 35 dX9_paymentOf_11 (by decide) ?_
    refine g_lret dX9_paymentOf_35 ?_
    unfold mpay; (repeat' split) <;> first | contradiction | (with_reducible exact ⟨rfl, rfl⟩) | (exfalso; simp_all; done) | exact ⟨rfl, rfl⟩

