/-- a bill whose houses, state, endorsers are in their rows -/
def bok (b : BL) : Prop := vp_in (b.2.1 1) 10 ∧ vp_in (b.2.1 2) 10 ∧ vp_in (b.2.1 4) 10 ∧ vp_in (b.2.1 5) 5 ∧ (0 ≤ b.2.1 6 ∧ b.2.1 6 ≤ 4) ∧ ∀ i, i < 4 → vp_in (b.2.2 8 i) 10
def ciB (T : MS) (B : List BL) : Prop := T.1 16 = nI B.length ∧ B.length ≤ 40 ∧ ∀ b ∈ B, bok b
def ciS (T : MS) : Prop := ∀ h, h < 10 → vp_in (T.2.2.1 2 h) 5
def ciT (T : MS) : Prop := ∃ n, n ≤ 30 ∧ T.1 17 = nI n
def ciL (T : MS) : Prop := ∃ n, n ≤ 400 ∧ T.1 20 = nI n
def ciC (T : MS) (q : Nat) : Prop := (∃ n, n ≤ 8 ∧ T.1 q = nI n) ∧ (∀ c, c < 8 → ∃ k, k ≤ 4 ∧ T.2.2.1 (q + 2) c = nI k) ∧ (∀ k, k < 32 → vp_in (T.2.2.1 (q + 3) k) 5) ∧ (∀ c, c < 8 → T.2.2.1 (q + 1) c = 0 ∨ T.2.2.1 (q + 1) c = 1)
def ciP (T : MS) : Prop := (∃ n, n ≤ 10 ∧ T.1 41 = nI n) ∧ ∀ i, i < 10 → vp_in (T.2.2.1 46 i) 10 ∧ vp_in (T.2.2.1 47 i) 10
/-- what holds of every state of the class that a run comes to -/
def cinv (T : MS) (B : List BL) : Prop := ciB T B ∧ ciS T ∧ ciT T ∧ ciL T ∧ ciC T 70 ∧ ciC T 80 ∧ ciP T
def bz : BL := (fun _ => 0, fun _ => 0, fun _ _ => 0)
def bat (B : List BL) (x : Int32) : BL := (B[x.toNatClampNeg]?).getD bz
abbrev bcnd (T : MS) (x : Int32) : Prop := 0 ≤ x ∧ x < T.1 16
theorem bset_bat {B : List BL} {x : Int32} (h : x.toNatClampNeg < B.length) : B.set x.toNatClampNeg (bat B x) = B := by
  unfold bat
  rw [List.getElem?_eq_getElem h, Option.getD_some]
  exact List.set_getElem_self h
theorem bidx {T : MS} {B : List BL} {x : Int32} (hI : ciB T B) (h : bcnd T x) : x.toNatClampNeg < B.length := by
  obtain ⟨h1, h2, -⟩ := hI
  obtain ⟨h3, h4⟩ := h
  obtain ⟨j, hj, e⟩ := nI_of (x := x) (Int32.not_lt.mpr h3)
  rw [h1, Int32.lt_iff_toInt_lt, e, nI_toInt hj, nI_toInt (by omega)] at h4
  rw [e, nI_clamp hj]
  omega
theorem bmem {B : List BL} {x : Int32} (h : x.toNatClampNeg < B.length) : bat B x ∈ B := by
  unfold bat
  rw [List.getElem?_eq_getElem h, Option.getD_some]
  exact List.getElem_mem h
theorem bokx {T : MS} {B : List BL} {x : Int32} (hI : ciB T B) (h : bcnd T x) : bok (bat B x) := hI.2.2 _ (bmem (bidx hI h))
theorem bvp {T : MS} {B : List BL} {x : Int32} (hI : ciB T B) (h : bcnd T x) : vp_in x 40 := by
  rw [vp_in_iff]
  obtain ⟨h1, h2, -⟩ := hI
  obtain ⟨h3, h4⟩ := h
  rw [h1, Int32.lt_iff_toInt_lt, nI_toInt (by omega)] at h4
  rw [Int32.le_iff_toInt_le] at h3
  have : (0 : Int32).toInt = 0 := by decide
  omega
abbrev chold (f s n : Int32) : Prop := if s = 5 then f < n else if s = 6 then f = n else n < f
set_option maxHeartbeats 4000000 in
set_option maxRecDepth 100000 in
/-- a test -/
theorem K_holds (l : Launch) (D : va_G) (cy : Nat → ClassId) (a : Nat → Nat) (T : MS) (B : List BL) (f x n : Int32) : Ct l D clx (tyx cy) yX2_holds wsX2_holds (rmC 0) 0 0 [.int f, .int x, .int n] (CW cy a T B) (fun r9 w9 => (r9 = some (.int 1) ∧ (chold f x n) ∧ w9 = CW cy a T B) ∨ (r9 = some (.int 0) ∧ ¬ (chold f x n) ∧ w9 = CW cy a T B)) := by
  refine g_start (cc := cX2_holds) (maxL := 3) (ret := (some .boolean)) (by decide) rfl (Nat.le_of_ble_eq_true rfl) (fun v w1 h => by rcases h with ⟨rfl, -, -⟩ | ⟨rfl, -, -⟩ <;> exact ⟨.boolean, rfl, rfl⟩) (fun Γ hlΓ => ?_)
  subst hlΓ
  refine g_iload_n (i := 1) dX2_holds_0 rfl rfl ?_
  by_cases h5 : x = 5
  · subst h5
    refine g_lksw 28 dX2_holds_1 (by decide) rfl (by decide) ?_
    refine g_iload_n (i := 0) dX2_holds_28 rfl rfl ?_
    refine g_iload_n (i := 2) dX2_holds_29 rfl rfl ?_
    refine g_icmp_ge 37 dX2_holds_30 (by decide) (fun c_1 => ?_) (fun c_1 => ?_)
    · skip
      refine g_iconst (0) rfl dX2_holds_37 ?_
      refine g_iret dX2_holds_38 ?_
      first | exact Or.inl ⟨rfl, (by unfold chold; simp_all [Int32.not_lt, Int32.not_le]), rfl⟩ | exact Or.inr ⟨rfl, (by unfold chold; simp_all [Int32.not_lt, Int32.not_le]), rfl⟩
    · skip
      refine g_iconst (1) rfl dX2_holds_33 ?_
      refine g_goto 38 dX2_holds_34 (by decide) ?_
      refine g_iret dX2_holds_38 ?_
      first | exact Or.inl ⟨rfl, (by unfold chold; simp_all [Int32.not_lt, Int32.not_le]), rfl⟩ | exact Or.inr ⟨rfl, (by unfold chold; simp_all [Int32.not_lt, Int32.not_le]), rfl⟩
  by_cases h6 : x = 6
  · subst h6
    refine g_lksw 39 dX2_holds_1 (by decide) rfl (by decide) ?_
    refine g_iload_n (i := 0) dX2_holds_39 rfl rfl ?_
    refine g_iload_n (i := 2) dX2_holds_40 rfl rfl ?_
    refine g_icmp_ne 48 dX2_holds_41 (by decide) (fun c_2 => ?_) (fun c_2 => ?_)
    · skip
      refine g_iconst (0) rfl dX2_holds_48 ?_
      refine g_iret dX2_holds_49 ?_
      first | exact Or.inl ⟨rfl, (by unfold chold; simp_all [Int32.not_lt, Int32.not_le]), rfl⟩ | exact Or.inr ⟨rfl, (by unfold chold; simp_all [Int32.not_lt, Int32.not_le]), rfl⟩
    · skip
      refine g_iconst (1) rfl dX2_holds_44 ?_
      refine g_goto 49 dX2_holds_45 (by decide) ?_
      refine g_iret dX2_holds_49 ?_
      first | exact Or.inl ⟨rfl, (by unfold chold; simp_all [Int32.not_lt, Int32.not_le]), rfl⟩ | exact Or.inr ⟨rfl, (by unfold chold; simp_all [Int32.not_lt, Int32.not_le]), rfl⟩
  refine g_lksw (off := 49) 50 dX2_holds_1 (by decide) ((lv_osw h5 rfl).trans ((lv_osw h6 rfl).trans rfl)) (by decide) ?_
  refine g_iload_n (i := 0) dX2_holds_50 rfl rfl ?_
  refine g_iload_n (i := 2) dX2_holds_51 rfl rfl ?_
  refine g_icmp_le 59 dX2_holds_52 (by decide) (fun c_3 => ?_) (fun c_3 => ?_)
  · skip
    refine g_iconst (0) rfl dX2_holds_59 ?_
    refine g_iret dX2_holds_60 ?_
    first | exact Or.inl ⟨rfl, (by unfold chold; simp_all [Int32.not_lt, Int32.not_le]), rfl⟩ | exact Or.inr ⟨rfl, (by unfold chold; simp_all [Int32.not_lt, Int32.not_le]), rfl⟩
  · skip
    refine g_iconst (1) rfl dX2_holds_55 ?_
    refine g_goto 60 dX2_holds_56 (by decide) ?_
    refine g_iret dX2_holds_60 ?_
    first | exact Or.inl ⟨rfl, (by unfold chold; simp_all [Int32.not_lt, Int32.not_le]), rfl⟩ | exact Or.inr ⟨rfl, (by unfold chold; simp_all [Int32.not_lt, Int32.not_le]), rfl⟩

/-- test k of clause c holds for the facts -/
abbrev chk (T : MS) (c k : Nat) : Prop := chold (T.2.2.1 4 (T.2.2.1 73 (4 * c + k)).toNatClampNeg) (T.2.2.1 74 (4 * c + k)) (T.2.2.1 75 (4 * c + k))
theorem ct_s {T : MS} {c k : Nat} (h : ∀ j, j < k → chk T c j) (h2 : chk T c k) : ∀ j, j < k + 1 → chk T c j := by
  intro j hj
  by_cases e : j = k
  · subst e; exact h2
  · exact h j (by omega)
theorem n4c (c k : Nat) : nI c * 4 + nI k = nI (4 * c + k) := by
  rw [show (4 : Int32) = nI 4 from rfl, pk_mul, nI_add, Nat.mul_comm]
set_option maxHeartbeats 4000000 in
set_option maxRecDepth 100000 in
/-- all tests of a clause hold -/
theorem K_allTests (l : Launch) (D : va_G) (cy : Nat → ClassId) (a : Nat → Nat) (T : MS) (B : List BL) (c N : Nat) (hc : c < 8) (hN : N ≤ 4) (hkN : T.2.2.1 72 c = nI N) (hv : ∀ k, k < 32 → vp_in (T.2.2.1 73 k) 5) : Ct l D clx (tyx cy) yX2_allTestsHold wsX2_allTestsHold (rmC 1) 0 0 [.ref (a 202), .int (nI c), .ref (a 4)] (CW cy a T B) (fun r9 w9 => (r9 = some (.int 1) ∧ (∀ k, k < N → chk T c k) ∧ w9 = CW cy a T B) ∨ (r9 = some (.int 0) ∧ ¬ (∀ k, k < N → chk T c k) ∧ w9 = CW cy a T B)) := by
  refine g_start (cc := cX2_allTestsHold) (maxL := 5) (ret := (some .boolean)) (by decide) rfl (Nat.le_of_ble_eq_true rfl) (fun v w1 h => by rcases h with ⟨rfl, -, -⟩ | ⟨rfl, -, -⟩ <;> exact ⟨.boolean, rfl, rfl⟩) (fun Γ hlΓ => ?_)
  subst hlΓ
  refine g_iconst (0) rfl dX2_allTestsHold_0 ?_
  refine g_istore_n (i := 3) dX2_allTestsHold_1 rfl (by decide) ?_
  refine g_cnt N (fun i => ∀ j, j < i → chk T c j) (fun i => CW cy a T B) (fun i => [(0, .ref (a 202)), (1, .int (nI c)), (2, .ref (a 4)), (3, .int (nI i))]) 0 (by first | decide | omega) (fun j h => absurd h (Nat.not_lt_zero j)) (by rfl) (by refine ⟨rfl, rfl, rfl, rfl, trivial⟩) ?_ (fun i1 hi1 gi1 ihi1 => ?_)
  · intro gNi1
    refine g_iload_n (i := 3) dX2_allTestsHold_2 rfl rfl ?_
    refine g_aload_n (i := 0) dX2_allTestsHold_3 rfl rfl ?_
    refine g_get 59 2 dX2_allTestsHold_4 (List.mem_of_getElem? (i := 1) rfl) (fun w h => List.mem_cons_of_mem _ (List.mem_append_right _ h)) (cO_custom _ _ _ _) rfl (by decide) rfl ?_
    refine g_iload_n (i := 1) dX2_allTestsHold_7 rfl rfl ?_
    refine c_aldN_72 dX2_allTestsHold_8 (by omega) ?_
    refine g_icmp_ge 56 dX2_allTestsHold_9 (by decide) (fun c_2 => ?_) (fun c_2 => ?_)
    · skip
      refine g_iconst (1) rfl dX2_allTestsHold_56 ?_
      refine g_iret dX2_allTestsHold_57 ?_
      exact Or.inl ⟨rfl, by assumption, rfl⟩
    · skip
      exact absurd (by rw [hkN]; exact nI_le (Nat.le_refl _) (by omega)) c_2
  · skip
    refine g_iload_n (i := 3) dX2_allTestsHold_2 rfl rfl ?_
    refine g_aload_n (i := 0) dX2_allTestsHold_3 rfl rfl ?_
    refine g_get 59 2 dX2_allTestsHold_4 (List.mem_of_getElem? (i := 1) rfl) (fun w h => List.mem_cons_of_mem _ (List.mem_append_right _ h)) (cO_custom _ _ _ _) rfl (by decide) rfl ?_
    refine g_iload_n (i := 1) dX2_allTestsHold_7 rfl rfl ?_
    refine c_aldN_72 dX2_allTestsHold_8 (by omega) ?_
    refine g_icmp_ge 56 dX2_allTestsHold_9 (by decide) (fun c_3 => ?_) (fun c_3 => ?_)
    · skip
      exact absurd c_3 (by rw [hkN]; exact nI_ge hi1 (by omega))
    · skip
      refine g_iload_n (i := 1) dX2_allTestsHold_12 rfl rfl ?_
      refine g_iconst (4) rfl dX2_allTestsHold_13 ?_
      refine g_imul dX2_allTestsHold_14 ?_
      refine g_iload_n (i := 3) dX2_allTestsHold_15 rfl rfl ?_
      refine g_iadd dX2_allTestsHold_16 ?_
      refine g_istore dX2_allTestsHold_17 (by decide) ?_
      refine g_nrm [(0, .ref (a 202)), (1, .int (nI c)), (2, .ref (a 4)), (3, .int (nI i1)), (4, .int (nI (4 * c + i1)))] ⟨rfl, rfl, rfl, rfl, congrArg (fun z => some (Value.int z)) (n4c _ _), trivial⟩ ?_
      refine g_aload_n (i := 2) dX2_allTestsHold_19 rfl rfl ?_
      refine g_aload_n (i := 0) dX2_allTestsHold_20 rfl rfl ?_
      refine g_get 59 3 dX2_allTestsHold_21 (List.mem_of_getElem? (i := 2) rfl) (fun w h => List.mem_cons_of_mem _ (List.mem_append_right _ h)) (cO_custom _ _ _ _) rfl (by decide) rfl ?_
      refine g_iload dX2_allTestsHold_24 rfl ?_
      refine c_aldN_73 dX2_allTestsHold_26 (by omega) ?_
      refine c_ald_4 dX2_allTestsHold_27 (hv _ (by omega)) ?_
      refine g_aload_n (i := 0) dX2_allTestsHold_28 rfl rfl ?_
      refine g_get 59 4 dX2_allTestsHold_29 (List.mem_of_getElem? (i := 3) rfl) (fun w h => List.mem_cons_of_mem _ (List.mem_append_right _ h)) (cO_custom _ _ _ _) rfl (by decide) rfl ?_
      refine g_iload dX2_allTestsHold_32 rfl ?_
      refine c_aldN_74 dX2_allTestsHold_34 (by omega) ?_
      refine g_aload_n (i := 0) dX2_allTestsHold_35 rfl rfl ?_
      refine g_get 59 5 dX2_allTestsHold_36 (List.mem_of_getElem? (i := 4) rfl) (fun w h => List.mem_cons_of_mem _ (List.mem_append_right _ h)) (cO_custom _ _ _ _) rfl (by decide) rfl ?_
      refine g_iload dX2_allTestsHold_39 rfl ?_
      refine c_aldN_75 dX2_allTestsHold_41 (by omega) ?_
      refine g_callSf 3 gX2_allTestsHold_X2_holds rfl rfl rfl ⟨Nat.le_of_ble_eq_true rfl, Nat.le_of_ble_eq_true rfl⟩ ⟨Nat.le_of_ble_eq_true rfl, Nat.le_of_ble_eq_true rfl⟩ (by exact Nat.le_of_ble_eq_true rfl) (by decide +kernel) rfl dX2_allTestsHold_42 (K_holds _ D cy a _ _ _ _ _) rfl (fun vu_4 wu_4 hu_4 => ?_)
      rcases hu_4 with ⟨rfl, hu_4, rfl⟩ | ⟨rfl, hu_4, rfl⟩
      · skip
        refine g_if_ne 50 dX2_allTestsHold_45 (by decide) (fun _ => ?_) (fun h9 => absurd h9 (by decide))
        refine g_iinc (1) dX2_allTestsHold_50 rfl rfl (by decide) ?_
        refine g_goto 2 dX2_allTestsHold_53 (by decide) ?_
        refine g_to _ _ (ihi1 (ct_s gi1 (by assumption))) rfl (by refine ⟨(by first | rfl | (rw [← nI_1]; rfl)), (by first | rfl | (rw [← nI_1]; rfl)), (by first | rfl | (rw [← nI_1]; rfl)), (by first | rfl | (rw [← nI_1]; rfl)), trivial⟩)
      · skip
        refine g_if_ne 50 dX2_allTestsHold_45 (by decide) (fun h9 => absurd h9 (by decide)) (fun _ => ?_)
        refine g_iconst (0) rfl dX2_allTestsHold_48 ?_
        refine g_iret dX2_allTestsHold_49 ?_
        exact Or.inr ⟨rfl, fun h9 => absurd (h9 _ (by assumption)) (by assumption), rfl⟩

/-- the custom's word: the first clause all of whose tests hold, from clause c on, n clauses to go; 1 where there is none -/
def cbnd (T : MS) : Nat → Nat → Int32
  | 0, _ => 1
  | n + 1, c => if ∀ k, k < (T.2.2.1 72 c).toNatClampNeg → chk T c k then T.2.2.1 71 c else cbnd T n (c + 1)
def cbound (T : MS) : Int32 := cbnd T (T.1 70).toNatClampNeg 0
theorem cbnd1 {T : MS} {N c k : Nat} (hc : c < N) (hk : k < 2 ^ 31) (e : T.2.2.1 72 c = nI k) (h : ¬ ∀ j, j < k → chk T c j) (g : cbnd T (N - c) c = cbnd T N 0) : cbnd T (N - (c + 1)) (c + 1) = cbnd T N 0 := by
  rw [← g, show N - c = (N - (c + 1)) + 1 by omega]
  refine (if_neg ?_).symm
  rw [e, nI_clamp hk]
  exact h
theorem cbnd2 {T : MS} {N c k : Nat} (hc : c < N) (hk : k < 2 ^ 31) (e : T.2.2.1 72 c = nI k) (h : ∀ j, j < k → chk T c j) (g : cbnd T (N - c) c = cbnd T N 0) : T.2.2.1 71 c = cbnd T N 0 := by
  rw [← g, show N - c = (N - (c + 1)) + 1 by omega]
  refine (if_pos ?_).symm
  rw [e, nI_clamp hk]
  exact h
theorem cbnd3 {T : MS} {N : Nat} (g : cbnd T (N - N) N = cbnd T N 0) : (1 : Int32) = cbnd T N 0 := by
  rw [← g, Nat.sub_self]
  rfl
theorem cbz {T : MS} (hz : ∀ c, c < 8 → T.2.2.1 71 c = 0 ∨ T.2.2.1 71 c = 1) : ∀ (n c : Nat), n + c ≤ 8 → cbnd T n c = 0 ∨ cbnd T n c = 1
  | 0, _, _ => Or.inr rfl
  | n + 1, c, h => by
    show (if _ then _ else _) = (0 : Int32) ∨ (if _ then _ else _) = (1 : Int32)
    split
    · exact hz c (by omega)
    · exact cbz hz n (c + 1) (by omega)
theorem cbnz {x : Int32} (h : x = 0 ∨ x = 1) : narrow .boolean (.int x) = .int x := by rcases h with rfl | rfl <;> rfl
set_option maxHeartbeats 4000000 in
set_option maxRecDepth 100000 in
/-- the custom binds for the facts -/
theorem K_bindsFor (l : Launch) (D : va_G) (cy : Nat → ClassId) (a : Nat → Nat) (T : MS) (B : List BL) (hI : ciC T 70) : Ct l D clx (tyx cy) yX2_bindsFor wsX2_bindsFor (rmC 2) 0 0 [.ref (a 202), .ref (a 4)] (CW cy a T B) (fun r9 w9 => r9 = some (.int (cbound T)) ∧ w9 = CW cy a T B) := by
  refine g_start (cc := cX2_bindsFor) (maxL := 3) (ret := (some .boolean)) (by decide) rfl (Nat.le_of_ble_eq_true rfl) (fun v w1 h => by obtain ⟨rfl, -⟩ := h; exact ⟨.boolean, rfl, cbnz (by obtain ⟨⟨n, hn, e⟩, -, -, hz⟩ := hI; unfold cbound; rw [e, nI_clamp (by omega)]; exact cbz hz _ _ (by omega))⟩) (fun Γ hlΓ => ?_)
  subst hlΓ
  obtain ⟨⟨N9, hN8, hN9⟩, htc, hv, hz⟩ := hI
  refine g_iconst (0) rfl dX2_bindsFor_0 ?_
  refine g_istore_n (i := 2) dX2_bindsFor_1 rfl (by decide) ?_
  refine g_cnt N9 (fun i => cbnd T (N9 - i) i = cbnd T N9 0) (fun i => CW cy a T B) (fun i => [(0, .ref (a 202)), (1, .ref (a 4)), (2, .int (nI i))]) 0 (by first | decide | omega) rfl (by rfl) (by refine ⟨rfl, rfl, rfl, trivial⟩) ?_ (fun i1 hi1 gi1 ihi1 => ?_)
  · intro gNi1
    refine g_iload_n (i := 2) dX2_bindsFor_2 rfl rfl ?_
    refine g_aload_n (i := 0) dX2_bindsFor_3 rfl rfl ?_
    refine g_get 59 0 dX2_bindsFor_4 (List.mem_of_getElem? (i := 1) rfl) (fun w h => List.mem_cons_of_mem _ (List.mem_append_right _ h)) (cO_custom _ _ _ _) rfl (by decide) rfl ?_
    refine g_icmp_ge 32 dX2_bindsFor_7 (by decide) (fun c_2 => ?_) (fun c_2 => ?_)
    · skip
      refine g_iconst (1) rfl dX2_bindsFor_32 ?_
      refine g_iret dX2_bindsFor_33 ?_
      unfold cbound; rw [hN9, nI_clamp (by omega)]; exact ⟨congrArg (fun z => some (Value.int z)) (cbnd3 (by assumption)), rfl⟩
    · skip
      exact absurd (by rw [hN9]; exact nI_le (Nat.le_refl _) (by omega)) c_2
  · skip
    obtain ⟨k9, hk4, hkN⟩ := htc i1 (by omega)
    refine g_iload_n (i := 2) dX2_bindsFor_2 rfl rfl ?_
    refine g_aload_n (i := 0) dX2_bindsFor_3 rfl rfl ?_
    refine g_get 59 0 dX2_bindsFor_4 (List.mem_of_getElem? (i := 1) rfl) (fun w h => List.mem_cons_of_mem _ (List.mem_append_right _ h)) (cO_custom _ _ _ _) rfl (by decide) rfl ?_
    refine g_icmp_ge 32 dX2_bindsFor_7 (by decide) (fun c_3 => ?_) (fun c_3 => ?_)
    · skip
      exact absurd c_3 (by rw [hN9]; exact nI_ge hi1 (by omega))
    · skip
      refine g_aload_n (i := 0) dX2_bindsFor_10 rfl rfl ?_
      refine g_iload_n (i := 2) dX2_bindsFor_11 rfl rfl ?_
      refine g_aload_n (i := 1) dX2_bindsFor_12 rfl rfl ?_
      refine g_callVf 2 59 gX2_bindsFor_X2_allTestsHold rfl rfl rfl ⟨Nat.le_of_ble_eq_true rfl, Nat.le_of_ble_eq_true rfl⟩ ⟨Nat.le_of_ble_eq_true rfl, Nat.le_of_ble_eq_true rfl⟩ (by exact Nat.le_of_ble_eq_true rfl) (by decide +kernel) rfl (cO_custom _ _ _ _) rfl dX2_bindsFor_13 (K_allTests _ D cy a _ _ _ _ (by omega) hk4 hkN hv) rfl (fun vu_4 wu_4 hu_4 => ?_)
      rcases hu_4 with ⟨rfl, hu_4, rfl⟩ | ⟨rfl, hu_4, rfl⟩
      · skip
        refine g_if_eq 26 dX2_bindsFor_16 (by decide) (fun h9 => absurd h9 (by decide)) (fun _ => ?_)
        refine g_aload_n (i := 0) dX2_bindsFor_19 rfl rfl ?_
        refine g_get 59 1 dX2_bindsFor_20 (List.mem_of_getElem? (i := 2) rfl) (fun w h => List.mem_cons_of_mem _ (List.mem_append_right _ h)) (cO_custom _ _ _ _) rfl (by decide) rfl ?_
        refine g_iload_n (i := 2) dX2_bindsFor_23 rfl rfl ?_
        refine c_aldN_71 dX2_bindsFor_24 (by omega) ?_
        refine g_iret dX2_bindsFor_25 ?_
        unfold cbound; rw [hN9, nI_clamp (by omega)]; exact ⟨congrArg (fun z => some (Value.int z)) (cbnd2 (by assumption) (by omega) hkN (by assumption) (by assumption)), rfl⟩
      · skip
        refine g_if_eq 26 dX2_bindsFor_16 (by decide) (fun _ => ?_) (fun h9 => absurd h9 (by decide))
        refine g_iinc (1) dX2_bindsFor_26 rfl rfl (by decide) ?_
        refine g_goto 2 dX2_bindsFor_29 (by decide) ?_
        refine g_to _ _ (ihi1 (cbnd1 hi1 (by omega) hkN (by assumption) gi1)) rfl (by refine ⟨(by first | rfl | (rw [← nI_1]; rfl)), (by first | rfl | (rw [← nI_1]; rfl)), (by first | rfl | (rw [← nI_1]; rfl)), trivial⟩)

def cf_facts (T : MS) (la am hp kd rd : Int32) : MS := sA (sA (sA (sA (sA T 4 0 la) 4 1 am) 4 2 hp) 4 3 kd) 4 4 rd
def cfb (T : MS) (la am hp kd rd : Int32) : Int32 := cbound (cf_facts T la am hp kd rd)
theorem cfbz {T : MS} (hI : ciC T 70) (la am hp kd rd : Int32) : cfb T la am hp kd rd = 0 ∨ cfb T la am hp kd rd = 1 := by
  obtain ⟨⟨n, hn, e⟩, -, -, hz⟩ := hI
  unfold cfb cbound
  rw [show (cf_facts T la am hp kd rd).1 70 = nI n from e, nI_clamp (by omega)]
  exact cbz (T := cf_facts T la am hp kd rd) hz n 0 (by omega)
set_option maxHeartbeats 4000000 in
set_option maxRecDepth 100000 in
/-- the custom binds -/
theorem K_customBinds (l : Launch) (D : va_G) (cy : Nat → ClassId) (a : Nat → Nat) (T : MS) (B : List BL) (hI : ciC T 70) (la am hp kd rd : Int32) : Ct l D clx (tyx cy) yX8_customBinds wsX8_customBinds (rmC 3) 0 0 [.ref (a 200), .int la, .int am, .int hp, .int kd, .int rd] (CW cy a T B) (fun r9 w9 => r9 = some (.int (cfb T la am hp kd rd)) ∧ w9 = CW cy a (cf_facts T la am hp kd rd) B) := by
  refine g_start (cc := cX8_customBinds) (maxL := 6) (ret := (some .boolean)) (by decide) rfl (Nat.le_of_ble_eq_true rfl) (fun v w1 h => by obtain ⟨rfl, -⟩ := h; exact ⟨.boolean, rfl, cbnz (cfbz hI _ _ _ _ _)⟩) (fun Γ hlΓ => ?_)
  subst hlΓ
  refine g_aload_n (i := 0) dX8_customBinds_0 rfl rfl ?_
  refine g_get 0 4 dX8_customBinds_1 (List.mem_of_getElem? (i := 1) rfl) (fun w h => List.mem_cons_of_mem _ (List.mem_append_left _ (List.mem_append_right _ h))) (cO_main _ _ _ _) rfl (by decide) rfl ?_
  refine g_iconst (0) rfl dX8_customBinds_4 ?_
  refine g_iload_n (i := 1) dX8_customBinds_5 rfl rfl ?_
  refine c_ast_4 dX8_customBinds_6 (by unfold vp_in; decide) ?_
  refine g_aload_n (i := 0) dX8_customBinds_7 rfl rfl ?_
  refine g_get 0 4 dX8_customBinds_8 (List.mem_of_getElem? (i := 1) rfl) (fun w h => List.mem_cons_of_mem _ (List.mem_append_left _ (List.mem_append_right _ h))) (cO_main _ _ _ _) rfl (by decide) rfl ?_
  refine g_iconst (1) rfl dX8_customBinds_11 ?_
  refine g_iload_n (i := 2) dX8_customBinds_12 rfl rfl ?_
  refine c_ast_4 dX8_customBinds_13 (by unfold vp_in; decide) ?_
  refine g_aload_n (i := 0) dX8_customBinds_14 rfl rfl ?_
  refine g_get 0 4 dX8_customBinds_15 (List.mem_of_getElem? (i := 1) rfl) (fun w h => List.mem_cons_of_mem _ (List.mem_append_left _ (List.mem_append_right _ h))) (cO_main _ _ _ _) rfl (by decide) rfl ?_
  refine g_iconst (2) rfl dX8_customBinds_18 ?_
  refine g_iload_n (i := 3) dX8_customBinds_19 rfl rfl ?_
  refine c_ast_4 dX8_customBinds_20 (by unfold vp_in; decide) ?_
  refine g_aload_n (i := 0) dX8_customBinds_21 rfl rfl ?_
  refine g_get 0 4 dX8_customBinds_22 (List.mem_of_getElem? (i := 1) rfl) (fun w h => List.mem_cons_of_mem _ (List.mem_append_left _ (List.mem_append_right _ h))) (cO_main _ _ _ _) rfl (by decide) rfl ?_
  refine g_iconst (3) rfl dX8_customBinds_25 ?_
  refine g_iload dX8_customBinds_26 rfl ?_
  refine c_ast_4 dX8_customBinds_28 (by unfold vp_in; decide) ?_
  refine g_aload_n (i := 0) dX8_customBinds_29 rfl rfl ?_
  refine g_get 0 4 dX8_customBinds_30 (List.mem_of_getElem? (i := 1) rfl) (fun w h => List.mem_cons_of_mem _ (List.mem_append_left _ (List.mem_append_right _ h))) (cO_main _ _ _ _) rfl (by decide) rfl ?_
  refine g_iconst (4) rfl dX8_customBinds_33 ?_
  refine g_iload dX8_customBinds_34 rfl ?_
  refine c_ast_4 dX8_customBinds_36 (by unfold vp_in; decide) ?_
  refine g_aload_n (i := 0) dX8_customBinds_37 rfl rfl ?_
  refine g_get 0 12 dX8_customBinds_38 (List.mem_of_getElem? (i := 2) rfl) (fun w h => List.mem_cons_of_mem _ (List.mem_append_left _ (List.mem_append_right _ h))) (cO_main _ _ _ _) rfl (by decide) rfl ?_
  refine g_aload_n (i := 0) dX8_customBinds_41 rfl rfl ?_
  refine g_get 0 4 dX8_customBinds_42 (List.mem_of_getElem? (i := 1) rfl) (fun w h => List.mem_cons_of_mem _ (List.mem_append_left _ (List.mem_append_right _ h))) (cO_main _ _ _ _) rfl (by decide) rfl ?_
  refine g_callVf 1 59 gX8_customBinds_X2_bindsFor rfl rfl rfl ⟨Nat.le_of_ble_eq_true rfl, Nat.le_of_ble_eq_true rfl⟩ ⟨Nat.le_of_ble_eq_true rfl, Nat.le_of_ble_eq_true rfl⟩ (by exact Nat.le_of_ble_eq_true rfl) (by decide +kernel) rfl (cO_custom _ _ _ _) rfl dX8_customBinds_45 (K_bindsFor _ D cy a _ _ (by exact hI)) rfl (fun vu_1 wu_1 hu_1 => ?_)
  obtain ⟨rfl, rfl⟩ := hu_1
  refine g_iret dX8_customBinds_48 ?_
  exact ⟨rfl, rfl⟩

