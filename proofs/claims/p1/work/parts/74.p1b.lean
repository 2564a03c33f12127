theorem np0 {S : MS} (hz : ∀ k, S.2.2.2 15 k = 0) : ∀ i, npA S i = 0 ∧ ∀ k, (npF S i).2.2.2 15 k = 0
  | 0 => ⟨rfl, hz⟩
  | i + 1 => by
    obtain ⟨h1, h2⟩ := np0 hz i
    have e : (npF S (i + 1)).2.2.2 50 i = 0 := by
      show vp_updL ((npF S i).2.2.2 50) i (mnetT (npF S i) (nI i) 10) i = 0
      rw [pk_uLs]
      exact mnet0 h2 (nI i) 10
    refine ⟨?_, fun k => h2 k⟩
    rw [← npA0 e, h1]
    rfl
theorem pl0 {S : MS} (hz : ∀ k, S.2.2.2 15 k = 0) : plRun S (mpl0 S) := by
  refine ⟨mpl0 S, 0, by decide, ?_, rfl, fun j hj => absurd hj (Nat.not_lt_zero j), rfl⟩
  rw [(np0 hz 10).1]
  exact Or.inl ⟨rfl, rfl⟩
theorem plo0 (S : MS) : plOk (mpl0 S) 0 := ⟨by decide, rfl, fun j hj => absurd hj (Nat.not_lt_zero j)⟩
theorem z15 : ∀ k, S0.2.2.2 15 k = 0 := fun _ => rfl
theorem z15' : ∀ k, (sI S0 20 0).2.2.2 15 k = 0 := fun _ => rfl
theorem rn0 {T : MS} (hz : ∀ i j, T.2.2.2 (100 + i) j = 0) : ∀ i, rnA T i = 0 ∧ ∀ q j, (rnF T i).2.2.2 (100 + q) j = 0
  | 0 => ⟨rfl, hz⟩
  | i + 1 => by
    obtain ⟨h1, h2⟩ := rn0 hz i
    have e : (rnF T (i + 1)).2.2.2 42 i = 0 := by
      show vp_updL ((rnF T i).2.2.2 42) i (cnetT (rnF T i) (nI i) 10) i = 0
      rw [pk_uLs]
      exact cnet0 h2 (nI i) 10
    refine ⟨?_, fun q j => ?_⟩
    · rw [← rnA0 e, h1]
    · show (if 100 + q = 42 then vp_updL ((rnF T i).2.2.2 42) i (cnetT (rnF T i) (nI i) 10) else (rnF T i).2.2.2 (100 + q)) j = 0
      rw [if_neg (by omega)]
      exact h2 q j
theorem lzR_40 (T : MS) (A : Nat) : ∀ s, (lzR T A s).1 40 = T.1 40
  | 0 => rfl
  | s + 1 => by
    by_cases h : lzP (lzR T A s) A (s + 1)
    · rw [lz0 h]; exact lzR_40 T A s
    · rw [lz1 h]; exact lzR_40 T A s
theorem ref0 : cf_ref T0 = rf5 T0 := by
  have h1 : rnA (rf1 T0) 10 = 0 := (rn0 (T := rf1 T0) (fun _ _ => rfl) 10).1
  unfold cf_ref
  rw [if_neg (by show ¬ (-1 : Int64) = 0; decide), h1]
  exact (rfR0 rfl rfl).symm
theorem ref41 : (cf_ref T0).1 41 = 0 := by
  rw [ref0]
  unfold rf5 rf4
  rw [cgO_1, lzR_41, auO_1, rnF_1]
  rfl
theorem ref40 : (cf_ref T0).1 40 = 0 := by
  rw [ref0]
  unfold rf5 rf4
  rw [cgO_1, lzR_40, auO_1, rnF_1]
  rfl
theorem e_plan (g : Int32) : (cf_plan T0 g).1 = (mf_plan (mpl0 S0) g).1 := by
  unfold cf_plan mf_plan
  by_cases h : g = 0
  · rw [if_pos h, if_pos h]
    show ((cf_ref T0).1 41).toInt64 = (0 : Int32).toInt64
    rw [ref41]
  · rw [if_neg h, if_neg h]
    show ((cf_ref T0).1 40).toInt64 = (0 : Int32).toInt64
    rw [ref40]
theorem payC {T U : MS} {i w : Int32} (hU : cf_ref T = U) (h41 : U.1 41 = 0) (hw : 0 ≤ w ∧ w ≤ 2) : (cf_payment T i w).1 = (cf_fd U 2).1 := by
  unfold cf_payment
  rw [hU, if_pos hw, h41, if_neg (by intro h9; exact absurd h9.1 (Int32.not_le.mpr h9.2))]
theorem payN {T : MS} {i w : Int32} (hw : ¬ (0 ≤ w ∧ w ≤ 2)) : (cf_payment T i w).1 = (cf_fd T 1).1 := by
  unfold cf_payment
  rw [if_neg hw]
theorem mpayC {S U : MS} {i w : Int32} (h46 : U.1 46 = 0) (hw : 0 ≤ w ∧ w ≤ 2) : (mf_payment S U i w).1 = (mf_finding U (-1000000000002)).1 := by
  unfold mf_payment
  rw [if_pos hw, h46, if_neg (by intro h9; exact nm0 i h9)]
theorem mpayN {S U : MS} {i w : Int32} (hw : ¬ (0 ≤ w ∧ w ≤ 2)) : (mf_payment S U i w).1 = (mf_finding S (-1000000000001)).1 := by
  unfold mf_payment
  rw [if_neg hw]
theorem e_payment (i w : Int32) : (cf_payment T0 i w).1 = (mf_payment S0 (mpl0 S0) i w).1 := by
  by_cases h : 0 ≤ w ∧ w ≤ 2
  · obtain ⟨U, hU⟩ : ∃ U, cf_ref T0 = U := ⟨_, rfl⟩
    have h41 := ref41
    rw [hU] at h41
    rw [payC hU h41 h, mpayC rfl h]
    exact fdE2 U _
  · rw [payN h, mpayN h]
    exact fdE1 T0 S0
theorem cz0 : (0 : Int32).toNatClampNeg = 0 := by decide
theorem clZ0 (T : MS) : ∀ m k, k < m → (clZ T m).2.2.2 15 k = 0
  | 0, k, h => absurd h (Nat.not_lt_zero k)
  | m + 1, k, h => by
    show vp_updL ((clZ T m).2.2.2 15) m 0 k = 0
    by_cases e : k = m
    · subst e; exact pk_uLs
    · rw [pk_uLn e]; exact clZ0 T m k (by omega)
theorem wtot (U : MS) : ∀ m, m ≤ 100 → ctot (cf_wipe U) m = 0
  | 0, _ => rfl
  | m + 1, h => by
    show ctot (cf_wipe U) m + (if 100 ≤ 100 + m / 10 ∧ 100 + m / 10 < 110 ∧ m % 10 < 10 ∧ 10 * (100 + m / 10 - 100) + m % 10 < 100 then (0 : Int64) else U.2.2.2 (100 + m / 10) (m % 10)) = 0
    rw [wtot U m (by omega), if_pos (by omega)]
    decide
theorem e_clear : (cf_clear T0).1 = (mf_clear (mpl0 S0) 0).1 := by
  unfold cf_clear mf_clear
  rw [ref41, cz0]
  show ctot (cf_wipe (cf_ref T0)) 100 = mall (clZ (mpl0 S0) 100) 100
  rw [wtot _ 100 (Nat.le_refl _), mall0 100 (clZ0 _ 100)]
theorem e_check : (cf_check T0).1 = (mf_check S0 (mpl0 (sI S0 20 0)) 0).1 := by
  unfold cf_check mf_check
  rw [ref41, ref_17, cz0, show T0.1 17 = 0 from rfl, cz0]
  show (if 3 * 0 < 0 then (99 : Int64) else 0) = (if (0 : Int32) ≤ 3 * 0 then 0 else 99)
  rw [if_neg (by decide), if_pos (by decide)]
/-- no debts, claims or gets, no bills -/
def zP (S : MS) : Prop := (∀ k, S.2.2.2 15 k = 0) ∧ (∀ k, S.2.2.2 53 k = 0) ∧ (∀ k, S.2.2.2 54 k = 0) ∧ S.1 4 = 0
theorem mpl0z {S : MS} (h : zP S) (x q : Int32) : mpled S x q = 0 := by
  unfold mpled
  rw [h.1, h.2.2.2, cz0]
  show (if (0 : Int64) < 0 then 0 else 0) = 0
  rw [if_neg (by decide)]
theorem upz {f : Nat → Int64} (h : ∀ k, f k = 0) (i : Nat) : ∀ k, vp_updL f i 0 k = 0 := fun k => by
  by_cases e : k = i
  · subst e; exact pk_uLs
  · rw [pk_uLn e]; exact h k
theorem zP54 {S : MS} (h : zP S) (i : Nat) : zP (sB S 54 i 0) := ⟨h.1, h.2.1, upz h.2.2.1 i, h.2.2.2⟩
theorem zP53 {S : MS} (h : zP S) (i : Nat) : zP (sB S 53 i 0) := ⟨h.1, upz h.2.1 i, h.2.2.1, h.2.2.2⟩
theorem ptFz {S : MS} (h : zP S) (x : Int32) : ∀ i, zP (ptF S x i)
  | 0 => h
  | i + 1 => by
    show zP (sB (sB (ptF S x i) 54 i 0) 53 i (mpled (sB (ptF S x i) 54 i 0) x (nI i)))
    have h2 := zP54 (ptFz h x i) i
    rw [mpl0z h2]
    exact zP53 h2 i
theorem ptGz {S : MS} (h : zP S) (x : Int32) : ∀ i, zP (ptG S x i)
  | 0 => h
  | i + 1 => by
    show zP (sB (ptG S x i) 53 i ((ptG S x i).2.2.2 15 (10 * x + nI i).toNatClampNeg - mpled (ptG S x i) x (nI i)))
    have h2 := ptGz h x i
    rw [mpl0z h2, h2.1, Int64.sub_self]
    exact zP53 h2 i
theorem shAz {S : MS} (h : zP S) : ∀ i, shA S i = 0
  | 0 => rfl
  | i + 1 => by
    show shA S i + S.2.2.2 53 i = 0
    rw [shAz h i, h.2.1]
    decide
theorem shGz {S : MS} (h : zP S) : ∀ i, zP (shG S i)
  | 0 => h
  | i + 1 => by
    show zP (sB (shG S i) 54 i ((shG S i).2.2.2 54 i + (shG S i).2.2.2 53 i))
    have h2 := shGz h i
    rw [h2.2.2.1, h2.2.1, show (0 : Int64) + 0 = 0 from by decide]
    exact zP54 h2 i
theorem shz {S : MS} (h : zP S) {sm : Int64} (hs : 0 ≤ sm) : mf_share S sm = (sm, shG S 10) := by
  unfold mf_share
  rw [shAz h, if_neg (Int64.not_lt.mpr hs), Int64.sub_zero]
theorem zP0 : zP S0 := ⟨fun _ => rfl, fun _ => rfl, fun _ => rfl, rfl⟩
theorem prt1n (h sm : Int32) : 0 ≤ (mprt1 S0 h sm).1 := by
  unfold mprt1
  have hz := ptFz zP0 h 10
  by_cases hs : 0 ≤ sm.toInt64
  · rw [shz hz hs]; exact hs
  · unfold mf_share
    rw [shAz hz, if_pos (Int64.not_le.mp hs)]
    show (0 : Int64) ≤ 0
    decide
theorem part0g {S : MS} (h sm : Int32) (c : Nat) (hz : zP S) (hs : 0 ≤ sm.toInt64) : (mprt2 S h sm).2.2.2.2 54 c = 0 := by
  obtain ⟨Z, hZ⟩ : ∃ Z, Z = ptF S h 10 := ⟨_, rfl⟩
  have zZ : zP Z := by rw [hZ]; exact ptFz hz h 10
  obtain ⟨A, hA⟩ : ∃ A, A = shG Z 10 := ⟨_, rfl⟩
  have zA : zP A := by rw [hA]; exact shGz zZ 10
  have e1 : mprt1 S h sm = (sm.toInt64, A) := by
    unfold mprt1
    rw [← hZ, shz zZ hs, ← hA]
  obtain ⟨B, hB⟩ : ∃ B, B = ptG A h 10 := ⟨_, rfl⟩
  have zB : zP B := by rw [hB]; exact ptGz zA h 10
  obtain ⟨C, hC⟩ : ∃ C, C = shG B 10 := ⟨_, rfl⟩
  have zC : zP C := by rw [hC]; exact shGz zB 10
  have e2 : mprt2 S h sm = (sm.toInt64, C) := by
    unfold mprt2
    rw [e1]
    dsimp only
    rw [← hB, shz zB hs, ← hC]
  rw [e2]
  exact zC.2.2.1 c
theorem part0 (h sm c : Int32) (hc : (0 ≤ h ∧ h ≤ 9) ∧ (0 ≤ c ∧ c ≤ 9) ∧ ¬ h = c ∧ (0 ≤ sm ∧ sm ≤ 1000000000)) : (mf_part S0 h sm c).1 = 0 := by
  unfold mf_part
  rw [if_pos hc]
  have e := part0g h sm c.toNatClampNeg zP0 (w_nn hc.2.2.2.1)
  generalize mprt2 S0 h sm = Q at e ⊢
  exact e
/-- no debts, pledges or rests -/
def zQ (T : MS) : Prop := (∀ i j, T.2.2.2 (100 + i) j = 0) ∧ (∀ k, T.2.2.2 65 k = 0) ∧ (∀ k, T.2.2.2 66 k = 0)
theorem zQ65 {T : MS} (h : zQ T) (i : Nat) : zQ (sB T 65 i 0) := ⟨fun q j => by show (if 100 + q = 65 then vp_updL (T.2.2.2 65) i 0 else T.2.2.2 (100 + q)) j = 0; rw [if_neg (by omega)]; exact h.1 q j, upz h.2.1 i, h.2.2⟩
theorem zQ66 {T : MS} (h : zQ T) (i : Nat) : zQ (sB T 66 i 0) := ⟨fun q j => by show (if 100 + q = 66 then vp_updL (T.2.2.2 66) i 0 else T.2.2.2 (100 + q)) j = 0; rw [if_neg (by omega)]; exact h.1 q j, h.2.1, upz h.2.2 i⟩
theorem claimz {T : MS} (h : zQ T) (i : Nat) : zQ (cf_claim T i 0) := by
  unfold cf_claim
  rw [h.2.1, if_neg (by decide), (zQ65 h i).2.1, Int64.sub_self]
  exact zQ66 (zQ65 h i) i
theorem clFz {T : MS} (h : zQ T) (x : Int32) : ∀ i, zQ (clF T x i)
  | 0 => h
  | i + 1 => by
    show zQ (cf_claim (clF T x i) i ((clF T x i).2.2.2 (100 + x.toNatClampNeg) i))
    have h2 := clFz h x i
    rw [h2.1]
    exact claimz h2 i
theorem parTz (h : Int32) : zQ (cf_parT T0 [] h) := by
  refine clFz ⟨fun i j => ?_, fun k => ?_, fun k => rfl⟩ h 10
  · show (if 100 + i = 65 ∧ j < 10 then (0 : Int64) else 0) = 0
    split <;> rfl
  · show (if 65 = 65 ∧ k < 10 then (0 : Int64) else 0) = 0
    split <;> rfl
theorem ptotz {T : MS} {p : Nat} (h : ∀ k, T.2.2.2 p k = 0) : ∀ i, ptot T p i = 0
  | 0 => rfl
  | i + 1 => by
    show ptot T p i + T.2.2.2 p i = 0
    rw [ptotz h i, h]
    decide
theorem cbeh_nn (T : MS) (s : Int64) : 0 ≤ cbeh T s := by
  unfold cbeh
  split
  · next h => exact Int64.le_of_lt h
  · decide
/-- what part answers on a new object -/
theorem e_part {h su c : Int32} {v1 v2 : Int64} (hc : ctwo h c ∧ (0 ≤ su ∧ su ≤ 1000000000)) (h1 : (ptot (cf_parT T0 [] h) 65 10 ≤ su.toInt64 ∨ (cf_parT T0 [] h).2.2.2 65 c.toNatClampNeg = 0) → v1 = (cf_parT T0 [] h).2.2.2 65 c.toNatClampNeg) (h2 : (ptot (cf_parT T0 [] h) 66 10 ≤ cbeh (cf_parT T0 [] h) su.toInt64 ∨ (cf_parT T0 [] h).2.2.2 66 c.toNatClampNeg = 0) → v2 = (cf_parT T0 [] h).2.2.2 66 c.toNatClampNeg) : v1 + v2 = (mf_part S0 h su c).1 := by
  have hz := parTz h
  have e1 := h1 (Or.inr (hz.2.1 _))
  have e2 := h2 (Or.inr (hz.2.2 _))
  rw [hz.2.1] at e1
  rw [hz.2.2] at e2
  rw [e1, e2, part0 h su c ⟨hc.1.1, hc.1.2.1, hc.1.2.2, hc.2⟩]
  decide
theorem e_partN {h su c : Int32} (hc : ¬ (ctwo h c ∧ (0 ≤ su ∧ su ≤ 1000000000))) : (cf_fd T0 1).1 = (mf_part S0 h su c).1 := by
  unfold mf_part
  rw [if_neg (fun h9 => hc ⟨⟨h9.1, h9.2.1, h9.2.2.1⟩, h9.2.2.2⟩)]
  exact fdE1 _ _
theorem e_drawN {kd dr de py am : Int32} (hc : ¬ dcnd kd dr de py am) : (cf_fd T0 1).1 = (mf_draw S0 kd dr de py am).1 := by
  unfold mf_draw
  rw [if_neg hc]
  exact fdE1 _ _
theorem e_drawK {kd dr de py am : Int32} (hc : dcnd kd dr de py am) (h : dr = py) : (cf_fd T0 5).1 = (mf_draw S0 kd dr de py am).1 := by
  unfold mf_draw
  rw [if_pos hc, if_pos h]
  exact fdE5 _ _
theorem e_drawY {kd dr de py am : Int32} (hc : dcnd kd dr de py am) (h : ¬ dr = py) : (T0.1 16 + 1 - 1).toInt64 = (mf_draw S0 kd dr de py am).1 := by
  unfold mf_draw
  rw [if_pos hc, if_neg h, if_neg (by decide)]
  show ((0 : Int32) + 1 - 1).toInt64 = (0 : Int32).toInt64
  decide
