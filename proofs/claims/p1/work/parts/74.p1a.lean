theorem minv0 : minv S0 := by
  refine ⟨⟨by decide, by decide⟩, ⟨by decide, by decide⟩, ⟨by decide, by decide⟩, ⟨by decide, by decide⟩, fun b _ => ⟨?_, ?_⟩, fun b _ => ⟨?_, ?_, ?_, ?_⟩, fun b _ => ?_, fun h _ => ?_, fun c _ => ⟨?_, ?_, Or.inl rfl⟩⟩
  all_goals first | (show 0 ≤ (0 : Int32).toInt; decide) | (show (0 : Int32).toInt ≤ 4; decide) | (show vp_in 0 10; unfold vp_in; decide) | (show vp_in 0 5; unfold vp_in; decide)
theorem ciB0 : ciB T0 [] := ⟨rfl, by decide, fun b hb => absurd hb List.not_mem_nil⟩
theorem ciS0 : ciS T0 := fun h _ => by show vp_in 0 5; unfold vp_in; decide
theorem ciT0 : ciT T0 := ⟨0, by decide, rfl⟩
theorem ciL0 : ciL T0 := ⟨0, by decide, rfl⟩
theorem ciC0 : ciC T0 70 := ⟨⟨0, by decide, rfl⟩, fun c _ => ⟨0, by decide, rfl⟩, fun k _ => by show vp_in 0 5; unfold vp_in; decide, fun c _ => Or.inl rfl⟩
theorem ciP0 : ciP T0 := ⟨⟨0, by decide, rfl⟩, fun i _ => ⟨by show vp_in 0 10; unfold vp_in; decide, by show vp_in 0 10; unfold vp_in; decide⟩⟩
theorem fdE1 (T S : MS) : (cf_fd T 1).1 = (mf_finding S (-1000000000001)).1 := by
  show (-1000000000000 : Int64) - (1 : Int32).toInt64 = -1000000000001
  decide
theorem fdE2 (T S : MS) : (cf_fd T 2).1 = (mf_finding S (-1000000000002)).1 := by
  show (-1000000000000 : Int64) - (2 : Int32).toInt64 = -1000000000002
  decide
theorem fdE3 (T S : MS) : (cf_fd T 3).1 = (mf_finding S (-1000000000003)).1 := by
  show (-1000000000000 : Int64) - (3 : Int32).toInt64 = -1000000000003
  decide
theorem fdE4 (T S : MS) : (cf_fd T 4).1 = (mf_finding S (-1000000000004)).1 := by
  show (-1000000000000 : Int64) - (4 : Int32).toInt64 = -1000000000004
  decide
theorem fdE5 (T S : MS) : (cf_fd T 5).1 = (mf_finding S (-1000000000005)).1 := by
  show (-1000000000000 : Int64) - (5 : Int32).toInt64 = -1000000000005
  decide
theorem fdE6 (T S : MS) : (cf_fd T 6).1 = (mf_finding S (-1000000000006)).1 := by
  show (-1000000000000 : Int64) - (6 : Int32).toInt64 = -1000000000006
  decide
theorem fdE7 (T S : MS) : (cf_fd T 7).1 = (mf_finding S (-1000000000007)).1 := by
  show (-1000000000000 : Int64) - (7 : Int32).toInt64 = -1000000000007
  decide
theorem e_gain (v : Int32) : (cf_gain T0 v).1 = (mf_gain S0 v).1 := by
  unfold cf_gain mf_gain
  by_cases h : 0 ≤ v ∧ v ≤ 200
  · rw [if_pos h, if_pos h]
    rfl
  · rw [if_neg h, if_neg h]
    exact fdE1 _ _
theorem e_road (t v : Int32) : (cf_road T0 t v).1 = (mf_road S0 t v).1 := by
  unfold cf_road mf_road
  by_cases h : (1 ≤ t ∧ t ≤ 4) ∧ (0 ≤ v ∧ v ≤ 30)
  · rw [if_pos h, if_pos h]
    rfl
  · rw [if_neg h, if_neg h]
    exact fdE1 _ _
theorem e_seat (h t : Int32) : (cf_seat T0 h t).1 = (mf_seat S0 h t).1 := by
  unfold cf_seat mf_seat
  by_cases h : (0 ≤ h ∧ h ≤ 9) ∧ (0 ≤ t ∧ t ≤ 4)
  · rw [if_pos h, if_pos h]
    rfl
  · rw [if_neg h, if_neg h]
    exact fdE1 _ _
theorem e_coin (k w f : Int32) : (cf_coin T0 k w f).1 = (mf_coin S0 k w f).1 := by
  unfold cf_coin mf_coin
  by_cases h : (0 ≤ k ∧ k ≤ 3) ∧ (0 ≤ w ∧ w ≤ 1000) ∧ (0 ≤ f ∧ f ≤ 1000)
  · rw [if_pos h, if_pos h]
    show (upd (fun _ => (0 : Int32)) k.toNatClampNeg (w * f / 1000) k.toNatClampNeg).toInt64 = (upd (fun _ => (0 : Int32)) k.toNatClampNeg (w * f / 1000) k.toNatClampNeg).toInt64
    rfl
  · rw [if_neg h, if_neg h]
    exact fdE1 _ _
theorem e_purse (h k v : Int32) : (cf_purse T0 h k v).1 = (mf_purse S0 h k v).1 := by
  unfold cf_purse mf_purse
  by_cases h : (0 ≤ h ∧ h ≤ 9) ∧ (0 ≤ k ∧ k ≤ 3) ∧ (0 ≤ v ∧ v ≤ 1000)
  · rw [if_pos h, if_pos h]
    rfl
  · rw [if_neg h, if_neg h]
    exact fdE1 _ _
theorem e_vote (h t v : Int32) : (cf_vote T0 h t v).1 = (mf_vote S0 h t v).1 := by
  unfold cf_vote mf_vote
  by_cases h : (0 ≤ h ∧ h ≤ 9) ∧ (0 ≤ t ∧ t ≤ 4) ∧ (¬ v = 0 → (5000 ≤ v ∧ v ≤ 20000))
  · rw [if_pos h, if_pos h]
    rfl
  · rw [if_neg h, if_neg h]
    exact fdE1 _ _
theorem e_offer (f t v : Int32) : (cf_offer T0 f t v).1 = (mf_offer S0 f t v).1 := by
  unfold cf_offer mf_offer
  by_cases h : (0 ≤ f ∧ f ≤ 4) ∧ (0 ≤ t ∧ t ≤ 4) ∧ ¬ f = t ∧ (0 ≤ v ∧ v ≤ 20000)
  · rw [if_pos h, if_pos h]
    rfl
  · rw [if_neg h, if_neg h]
    exact fdE1 _ _
theorem e_found (q : Int32) : (cf_found T0 q).1 = (mf_found S0 q).1 := by
  unfold cf_found mf_found
  by_cases h : 1 ≤ q ∧ q ≤ 7
  · rw [if_pos h, if_pos h]
    rfl
  · rw [if_neg h, if_neg h]
    exact fdE1 _ _
theorem e_owes (h q : Int32) : (cf_owes T0 h q).1 = (mf_owes S0 h q).1 := by
  unfold cf_owes mf_owes
  by_cases h : (0 ≤ h ∧ h ≤ 9) ∧ (0 ≤ q ∧ q ≤ 9) ∧ ¬ h = q
  · rw [if_pos h, if_pos h]
    rfl
  · rw [if_neg h, if_neg h]
    exact fdE1 _ _
theorem nb0 (x : Int32) : ¬ bcnd T0 x := fun h => absurd h.1 (Int32.not_le.mpr (show x < 0 from h.2))
theorem nm0 (x : Int32) : ¬ (0 ≤ x ∧ x ≤ S0.1 4 - 1) := by
  intro h
  have h1 := h.1
  have h2 : x ≤ -1 := h.2
  rw [Int32.le_iff_toInt_le] at h1 h2
  have e0 : (0 : Int32).toInt = 0 := by decide
  have e1 : (-1 : Int32).toInt = -1 := by decide
  omega
theorem e_pass (x h : Int32) : (cf_pass T0 [] x h).1 = (mf_pass S0 x h).1 := by
  unfold cf_pass mf_pass
  rw [if_neg (fun h9 => nb0 x h9.1), if_neg (fun h9 => nm0 x h9.1)]
  exact fdE1 T0 S0
theorem e_take (x r : Int32) : (cf_take T0 [] x r).1 = (mf_take S0 x r).1 := by
  unfold cf_take mf_take
  rw [if_neg (nb0 x), if_neg (nm0 x)]
  exact fdE1 T0 S0
theorem e_pay (x : Int32) : (cf_pay T0 [] x).1 = (mf_pay S0 x).1 := by
  unfold cf_pay mf_pay
  rw [if_neg (nb0 x), if_neg (nm0 x)]
  exact fdE1 T0 S0
theorem e_protest (x : Int32) : (cf_protest T0 [] x).1 = (mf_protest S0 x).1 := by
  unfold cf_protest mf_protest
  rw [if_neg (nb0 x), if_neg (nm0 x)]
  exact fdE1 T0 S0
theorem e_recourse (x i : Int32) : (cf_recourse T0 [] x i).1 = (mf_recourse S0 x i).1 := by
  unfold cf_recourse mf_recourse
  rw [if_neg (nb0 x), if_neg (nm0 x)]
  exact fdE1 T0 S0
theorem e_about (x q : Int32) : (cf_about T0 [] x q).1 = (mf_about S0 x q).1 := by
  unfold cf_about mf_about
  rw [if_neg (fun h9 => nb0 x h9.1), if_neg (fun h9 => nm0 x h9.1)]
  exact fdE1 T0 S0
theorem e_as (x k : Int32) : (cf_as T0 [] x k).1 = (mf_as S0 x k).1 := by
  unfold cf_as mf_as
  rw [if_neg (fun h9 => nb0 x h9.1), if_neg (fun h9 => nm0 x h9.1)]
  exact fdE1 T0 S0
theorem e_knows (h x d : Int32) : (cf_knows T0 [] h x d).1 = (mf_knows S0 h x d).1 := by
  unfold cf_knows mf_knows
  rw [if_neg (fun h9 => nb0 x h9.1), if_neg (fun h9 => nm0 x h9.2.1)]
  exact fdE1 T0 S0
/-- no debts, and the same day -/
def zD (d : Nat) (T S : MS) : Prop := (∀ i j, T.2.2.2 (100 + i) j = 0) ∧ (∀ k, S.2.2.2 15 k = 0) ∧ T.1 14 = nI d ∧ S.2.1 0 = lN d
theorem zc (g : Int64) : (0 : Int64) + 0 * g / 1000 = 0 := by
  rw [Int64.zero_mul]
  decide
theorem zD_ok1 {d : Nat} {T S : MS} (h : zD d T S) : cdok T := by
  intro _ m _
  show T.2.2.2 (100 + m / 10) (m % 10) + T.2.2.2 (100 + m / 10) (m % 10) * (T.1 15).toInt64 / 1000 ≤ 1000000000
  rw [h.1, zc]
  decide
theorem zD_ok2 {d : Nat} {T S : MS} (h : zD d T S) : dyok S := by
  intro _ j _
  show S.2.2.2 15 j + S.2.2.2 15 j * (S.1 1).toInt64 / 1000 ≤ 1000000000
  rw [h.2.1, zc]
  decide
theorem zD_s {d : Nat} {T S : MS} (h : zD d T S) : zD (d + 1) (cdOne T) (dyOne S) := by
  obtain ⟨h1, h2, h3, h4⟩ := h
  refine ⟨fun i j => ?_, fun k => ?_, ?_, ?_⟩
  · unfold cdOne
    split
    · show (if 100 ≤ 100 + i ∧ 100 + i < 110 ∧ j < 10 ∧ 10 * (100 + i - 100) + j < 100 then ccar (T.2.2.2 (100 + (100 + i - 100)) j) (T.1 15) else T.2.2.2 (100 + i) j) = 0
      split
      · show T.2.2.2 (100 + (100 + i - 100)) j + T.2.2.2 (100 + (100 + i - 100)) j * (T.1 15).toInt64 / 1000 = 0
        rw [h1, zc]
      · exact h1 i j
    · exact h1 i j
  · unfold dyOne
    split
    · show (if k < 100 then S.2.2.2 15 k + S.2.2.2 15 k * (S.1 1).toInt64 / 1000 else S.2.2.2 15 k) = 0
      split
      · rw [h2, zc]
      · exact h2 k
    · exact h2 k
  · unfold cdOne
    split
    · show T.1 14 + 1 = _
      rw [h3, nI_1]
    · show T.1 14 + 1 = _
      rw [h3, nI_1]
  · unfold dyOne
    split
    · show S.2.1 0 + 1 = _
      rw [h4, lN_1]
    · show S.2.1 0 + 1 = _
      rw [h4, lN_1]
theorem run0 : ∀ (n d : Nat) (T S : MS), zD d T S → d + n < 2 ^ 31 → (cdRun n T).1 = (dyRun n S).1
  | 0, d, T, S, h, hd => by
    show (T.1 14).toInt64 = S.2.1 0
    rw [h.2.2.1, h.2.2.2, nI_l (by omega)]
  | n + 1, d, T, S, h, hd => by
    have e1 : cdRun (n + 1) T = cdRun n (cdOne T) := if_pos (zD_ok1 h)
    have e2 : dyRun (n + 1) S = dyRun n (dyOne S) := if_pos (zD_ok2 h)
    rw [e1, e2]
    exact run0 n (d + 1) _ _ (zD_s h) (by omega)
theorem zD0 : zD 0 T0 S0 := ⟨fun _ _ => rfl, fun _ => rfl, rfl, rfl⟩
theorem e_days (n : Int32) : (cf_days T0 n).1 = (mf_days S0 n).1 := by
  unfold cf_days mf_days
  by_cases h : 1 ≤ n ∧ n ≤ 60
  · rw [if_pos h, if_pos h]
    obtain ⟨N, hN, rfl⟩ := vpN h (by decide)
    have e : (60 : Int32).toInt = 60 := by decide
    rw [nI_clamp (by omega)]
    exact run0 N 0 T0 S0 zD0 (by omega)
  · rw [if_neg h, if_neg h]
    exact fdE1 _ _
theorem chg_at {T : MS} {h q : Int32} {v : Int64} (hne : h.toNatClampNeg ≠ q.toNatClampNeg) : (cf_charge T h q v).2.2.2 (100 + h.toNatClampNeg) q.toNatClampNeg = cmax0 (cwould T h q v) := by
  unfold cf_charge sL sB
  dsimp only
  rw [if_neg (by omega), if_pos rfl]
  exact pk_uLs
theorem ctw_at {S : MS} {h q : Int32} {v : Int64} (hq : ¬ h = q) (hne : (10 * h + q).toNatClampNeg ≠ (10 * q + h).toNatClampNeg) : (mf_ctow S h q v).2.2.2 15 (10 * h + q).toNatClampNeg = (if mwould S h q v ≤ 0 then 0 else mwould S h q v) := by
  unfold mf_ctow
  rw [if_neg hq]
  unfold sB
  dsimp only
  rw [if_pos rfl, if_pos rfl]
  exact (pk_uLn hne).trans pk_uLs
theorem ixne {i j : Nat} (hi : i < 10) (hj : j < 10) (hne : i ≠ j) : (10 * nI i + nI j).toNatClampNeg ≠ (10 * nI j + nI i).toNatClampNeg := by
  have e : ∀ a b : Nat, a < 10 → b < 10 → (10 * nI a + nI b).toNatClampNeg = 10 * a + b := by
    intro a b ha hb
    rw [show (10 : Int32) = nI 10 from rfl, pk_mul, nI_add, nI_clamp (by omega)]
  rw [e i j hi hj, e j i hj hi]
  omega
theorem v64 {v : Int32} (h : 1 ≤ v ∧ v ≤ 1000000) : 0 < v.toInt64 ∧ v.toInt64 ≤ 1000000 := by
  have h1 := h.1
  have h2 := h.2
  rw [Int32.le_iff_toInt_le] at h1 h2
  have e1 : (1 : Int32).toInt = 1 := by decide
  have e2 : (1000000 : Int32).toInt = 1000000 := by decide
  have e3 : (0 : Int64).toInt = 0 := by decide
  have e4 : (1000000 : Int64).toInt = 1000000 := by decide
  rw [Int64.lt_iff_toInt_lt, Int64.le_iff_toInt_le, Int32.toInt_toInt64]
  omega
theorem e_owe (h q v : Int32) : (cf_owe T0 h q v).1 = (mf_owe S0 h q v).1 := by
  unfold cf_owe mf_owe
  by_cases hc : ctwo h q ∧ (1 ≤ v ∧ v ≤ 1000000)
  · obtain ⟨⟨hh, hq, hne⟩, hv⟩ := hc
    rw [if_pos ⟨⟨hh, hq, hne⟩, hv⟩, if_pos (show (0 ≤ h ∧ h ≤ 9) ∧ (0 ≤ q ∧ q ≤ 9) ∧ ¬ h = q ∧ 1 ≤ v ∧ v ≤ 1000000 from ⟨hh, hq, hne, hv⟩)]
    obtain ⟨w1, w2⟩ := v64 hv
    have ec : cwould T0 h q v.toInt64 = v.toInt64 := by show (0 : Int64) - 0 + v.toInt64 = _; rw [Int64.sub_self, Int64.zero_add]
    have em : mwould S0 h q v.toInt64 = v.toInt64 := by show (0 : Int64) - 0 + v.toInt64 = _; rw [Int64.sub_self, Int64.zero_add]
    have n1 : ¬ (1000000000 : Int64) < v.toInt64 := by
      rw [Int64.lt_iff_toInt_lt]
      rw [Int64.le_iff_toInt_le] at w2
      have e4 : (1000000 : Int64).toInt = 1000000 := by decide
      have e5 : (1000000000 : Int64).toInt = 1000000000 := by decide
      omega
    have n2 : ¬ v.toInt64 < (-1000000000 : Int64) := by
      rw [Int64.lt_iff_toInt_lt]
      rw [Int64.lt_iff_toInt_lt] at w1
      have e4 : (0 : Int64).toInt = 0 := by decide
      have e5 : (-1000000000 : Int64).toInt = -1000000000 := by decide
      omega
    rw [ec, em, if_neg (by unfold cabs; rw [if_pos w1]; exact n1), if_neg (by rintro ⟨-, h9 | h9⟩; exact n1 h9; exact n2 h9)]
    obtain ⟨i, hi, rfl⟩ := vp_in_of (vpi10 hh) (by decide)
    obtain ⟨j, hj, rfl⟩ := vp_in_of (vpi10 hq) (by decide)
    have hij : i ≠ j := fun e => hne (by rw [e])
    show (cf_charge T0 (nI i) (nI j) v.toInt64).2.2.2 (100 + (nI i).toNatClampNeg) (nI j).toNatClampNeg = (mf_ctow S0 (nI i) (nI j) v.toInt64).2.2.2 15 (10 * nI i + nI j).toNatClampNeg
    rw [chg_at (by rw [nI_clamp (by omega), nI_clamp (by omega)]; exact hij), ctw_at hne (ixne hi hj hij), ec, em, if_neg (Int64.not_le.mpr w1)]
    exact if_pos w1
  · rw [if_neg hc, if_neg (fun h9 => hc ⟨⟨h9.1, h9.2.1, h9.2.2.1⟩, h9.2.2.2⟩)]
    exact fdE1 _ _
theorem cnet0 {T : MS} (hz : ∀ i j, T.2.2.2 (100 + i) j = 0) (h : Int32) : ∀ i, cnetT T h i = 0
  | 0 => rfl
  | i + 1 => by
    show cnetT T h i + (T.2.2.2 (100 + i) h.toNatClampNeg - T.2.2.2 (100 + h.toNatClampNeg) i) = 0
    rw [cnet0 hz h i, hz, hz]
    decide
theorem mnet0 {S : MS} (hz : ∀ k, S.2.2.2 15 k = 0) (h : Int32) : ∀ i, mnetT S h i = 0
  | 0 => rfl
  | i + 1 => by
    show mnetT S h i + (S.2.2.2 15 (10 * nI i + h).toNatClampNeg - S.2.2.2 15 (10 * h + nI i).toNatClampNeg) = 0
    rw [mnet0 hz h i, hz, hz]
    decide
theorem e_net (h : Int32) : (cf_net T0 h).1 = (mf_net S0 h).1 := by
  unfold cf_net mf_net
  by_cases hc : 0 ≤ h ∧ h ≤ 9
  · rw [if_pos hc, if_pos hc]
    show cnetT T0 h 10 = mnetT S0 h 10
    rw [cnet0 (fun _ _ => rfl), mnet0 (fun _ => rfl)]
  · rw [if_neg hc, if_neg hc]
    exact fdE1 _ _
theorem chas0 (h : Int32) : ∀ i, chasT T0 h i = 0
  | 0 => rfl
  | i + 1 => by
    show chasT T0 h i + (0 : Int32).toInt64 * (0 : Int32).toInt64 = 0
    rw [chas0 h i]
    decide
theorem mhas0 (h : Int32) : ∀ i, mhasT S0 h i = 0
  | 0 => rfl
  | i + 1 => by
    show mhasT S0 h i + (0 : Int32).toInt64 * (0 : Int32).toInt64 = 0
    rw [mhas0 h i]
    decide
theorem km1 (k : Int32) : (k = -1 ∨ (0 ≤ k ∧ k ≤ 3)) ↔ (-1 ≤ k ∧ k ≤ 3) := by
  have e0 : (0 : Int32).toInt = 0 := by decide
  have e1 : (-1 : Int32).toInt = -1 := by decide
  have e3 : (3 : Int32).toInt = 3 := by decide
  rw [← Int32.toInt_inj, Int32.le_iff_toInt_le, Int32.le_iff_toInt_le, Int32.le_iff_toInt_le, e0, e1, e3]
  omega
theorem e_has (h k : Int32) : (cf_has T0 h k).1 = (mf_has S0 h k).1 := by
  unfold cf_has mf_has
  by_cases hc : (0 ≤ h ∧ h ≤ 9) ∧ (k = -1 ∨ (0 ≤ k ∧ k ≤ 3))
  · rw [if_pos hc, if_pos (show (0 ≤ h ∧ h ≤ 9) ∧ -1 ≤ k ∧ k ≤ 3 from ⟨hc.1, (km1 k).mp hc.2⟩)]
    by_cases hk : k = -1
    · subst hk
      rw [if_pos rfl, if_pos (by decide)]
      show chasT T0 h 4 = mhasT S0 h 4
      rw [chas0, mhas0]
    · rw [if_neg hk, if_neg (Int32.not_lt.mpr (hc.2.resolve_left hk).1)]
      rfl
  · rw [if_neg hc, if_neg (fun h9 => hc ⟨h9.1, (km1 k).mpr h9.2⟩)]
    exact fdE1 _ _
theorem e_settle (h q : Int32) : (cf_settle T0 h q).1 = (mf_settle S0 h q).1 := by
  unfold cf_settle mf_settle
  by_cases hc : ctwo h q
  · rw [if_pos hc, if_pos (show (0 ≤ h ∧ h ≤ 9) ∧ (0 ≤ q ∧ q ≤ 9) ∧ ¬ h = q from hc), if_pos (show T0.2.2.2 (100 + h.toNatClampNeg) q.toNatClampNeg = 0 from rfl), if_pos (show S0.2.2.2 15 (10 * h + q).toNatClampNeg = 0 from rfl)]
    exact fdE2 _ _
  · rw [if_neg hc, if_neg hc]
    exact fdE1 _ _
theorem e_tell (v : Int32) : (cf_tell T0 v).1 = (mf_tell S0 v).1 := by
  unfold cf_tell mf_tell
  rw [if_pos (by decide), if_neg (by decide)]
  rfl
theorem ctot0 {T : MS} (hz : ∀ i j, T.2.2.2 (100 + i) j = 0) : ∀ m, ctot T m = 0
  | 0 => rfl
  | m + 1 => by
    show ctot T m + T.2.2.2 (100 + m / 10) (m % 10) = 0
    rw [ctot0 hz m, hz]
    decide
theorem mall0 {S : MS} : ∀ m, (∀ k, k < m → S.2.2.2 15 k = 0) → mall S m = 0
  | 0, _ => rfl
  | m + 1, h => by
    show mall S m + S.2.2.2 15 m = 0
    rw [mall0 m (fun k hk => h k (by omega)), h m (by omega)]
    decide
theorem e_count (x : Int32) : (cf_count T0 x).1 = (mf_count S0 x).1 := by
  unfold cf_count mf_count
  by_cases h0 : x = 0
  · rw [if_pos h0, if_pos h0]; rfl
  by_cases h1 : x = 1
  · rw [if_neg h0, if_neg h0, if_pos h1, if_pos h1]; rfl
  by_cases h2 : x = 2
  · rw [if_neg h0, if_neg h0, if_neg h1, if_neg h1, if_pos h2, if_pos h2]; rfl
  by_cases h3 : x = 3
  · rw [if_neg h0, if_neg h0, if_neg h1, if_neg h1, if_neg h2, if_neg h2, if_pos h3, if_pos h3]
    show ctot T0 100 = mall S0 100
    rw [ctot0 (fun _ _ => rfl), mall0 100 (fun _ _ => rfl)]
  by_cases h4 : x = 4
  · rw [if_neg h0, if_neg h0, if_neg h1, if_neg h1, if_neg h2, if_neg h2, if_neg h3, if_neg h3, if_pos h4, if_pos h4]; rfl
  by_cases h5 : x = 5
  · rw [if_neg h0, if_neg h0, if_neg h1, if_neg h1, if_neg h2, if_neg h2, if_neg h3, if_neg h3, if_neg h4, if_neg h4, if_pos h5, if_pos h5]; rfl
  rw [if_neg h0, if_neg h0, if_neg h1, if_neg h1, if_neg h2, if_neg h2, if_neg h3, if_neg h3, if_neg h4, if_neg h4, if_neg h5, if_neg h5]
  exact fdE1 _ _
theorem e_feed (e : Int64) (n : Int32) : (cf_feed T0 e n).1 = (mf_feed S0 e n).1 := by
  unfold cf_feed mf_feed
  by_cases h : 1 ≤ n ∧ n ≤ 8
  · rw [if_pos h, if_pos h]
    obtain ⟨N, hN, rfl⟩ := vpN h (by decide)
    have e8 : (8 : Int32).toInt = 8 := by decide
    have hc : T0.1 20 + nI N ≤ 400 := by
      show (0 : Int32) + nI N ≤ 400
      rw [Int32.zero_add, Int32.le_iff_toInt_le, nI_toInt (by omega)]
      have : (400 : Int32).toInt = 400 := by decide
      omega
    rw [if_pos hc, if_pos (show S0.1 36 + nI N ≤ 400 from hc), nI_clamp (by omega)]
    show ((apF T0 e N).1 20).toInt64 = ((fdF S0 e N).1 36).toInt64
    rw [apF_len T0 e (L := 0) rfl, fdI]
    show (nI (0 + N)).toInt64 = ((0 : Int32) + nI N).toInt64
    rw [Int32.zero_add, Nat.zero_add]
  · rw [if_neg h, if_neg h]
    exact fdE1 _ _
theorem e_binds (la am hp kd rd : Int32) : (cf_binds T0 la am hp kd rd).1 = (mf_binds S0 la am hp kd rd).1 := by
  unfold cf_binds mf_binds
  have e1 : cfb T0 la am hp kd rd = 1 := by
    show cbnd (cf_facts T0 la am hp kd rd) ((0 : Int32).toNatClampNeg) 0 = 1
    rw [show (0 : Int32).toNatClampNeg = 0 from by decide]
    rfl
  have e2 : mbound S0 la.toInt64 am hp kd rd = 1 := by
    show mbnd S0 la.toInt64 am hp kd rd ((0 : Int32).toNatClampNeg) 0 = 1
    rw [show (0 : Int32).toNatClampNeg = 0 from by decide]
    rfl
  rw [e1, e2]
  by_cases h : ¬ la < 0 ∧ ¬ am < 0 ∧ ¬ hp < 0 ∧ ¬ kd < 0 ∧ 0 ≤ rd
  · rw [if_pos h, if_pos h, if_neg (by decide), if_neg (by decide)]
  · rw [if_neg h, if_neg h]
    exact fdE1 _ _
theorem mv0 (t : Int32) : ∀ i, mvR T0 t i = (0, T0)
  | 0 => rfl
  | i + 1 => by
    have e : mvR T0 t (i + 1) = mvR T0 t i := mvS0 (by rw [mv0 t i]; rfl)
    rw [e, mv0 t i]
theorem rt0E (t : Int32) : ∀ n i, rtR S0 t n i = mf_finding S0 (-1000000000002)
  | 0, _ => rfl
  | n + 1, i => by
    have e : rtR S0 t (n + 1) i = rtR S0 t n (i + 1) := if_neg (fun h => h.1 (by show (0 : Int32) ≤ 0; decide))
    rw [e, rt0E t n (i + 1)]
theorem e_rate (t : Int32) : (cf_rate T0 t).1 = (mf_rate S0 t).1 := by
  unfold cf_rate mf_rate
  by_cases h : 0 ≤ t ∧ t ≤ 4
  · have e : cf_mid T0 t = 0 := by
      unfold cf_mid
      rw [mv0, if_pos rfl]
    rw [if_pos h, if_pos h, e, if_pos rfl, rt0E]
    exact fdE2 _ _
  · rw [if_neg h, if_neg h]
    exact fdE1 _ _
theorem cprod0 (r n : Nat) : cprod T0 r n = 0 := by
  unfold cprod
  cases cpoN T0 r (n - 1) with
  | none => rfl
  | some q =>
    obtain ⟨u, p⟩ := q
    show cpoV T0 r u p (n - 1) = 0
    unfold cpoV
    split
    · show p * (0 : Int32).toInt64 = 0
      rw [show (0 : Int32).toInt64 = 0 from by decide, Int64.mul_zero]
    · rfl
theorem bt0E (n : Nat) (sc : Int64) (s0 : Int64 × Int32) (h : 0 ≤ s0.1) : ∀ i, btR T0 n sc s0 i = s0
  | 0 => rfl
  | i + 1 => by
    have e : btR T0 n sc s0 (i + 1) = btR T0 n sc s0 i := btS0 (by rw [bt0E n sc s0 h i, cprod0, Int64.mul_zero]; exact h)
    rw [e, bt0E n sc s0 h i]
theorem bt2_0 : bt2 T0 = (10000000000000000, 0) := bt0E 2 100000000 (10000000000000000, 0) (by decide) 25
theorem bt3_0 : bt3 T0 = (10000000000000000, 0) := (congrArg (fun x => btR T0 3 10000 x 125) bt2_0).trans (bt0E 3 10000 (10000000000000000, 0) (by decide) 125)
theorem bt4_0 : bt4 T0 = (10000000000000000, 0) := (congrArg (fun x => btR T0 4 1 x 625) bt3_0).trans (bt0E 4 1 (10000000000000000, 0) (by decide) 625)
set_option maxRecDepth 100000 in
theorem bestOf {T : MS} {x : Int64 × Int32} (h : bt4 T = x) : cf_best T = x.2 := by
  unfold cf_best
  rw [h]
theorem best0 : cf_best T0 = 0 := bestOf bt4_0
def zO (S : MS) : Prop := (∀ k, S.2.2.1 19 k = 0) ∧ 0 ≤ S.2.1 51
theorem mb0 {S : MS} (h : zO S) (c : Int64) : mf_best S 0 c = S := if_pos h.2
theorem z64 : (0 : Int32).toInt64 = 0 := by decide
theorem ml2 {S : MS} (h : zO S) (x y : Int32) : mlook2 S x y = S := by
  unfold mlook2
  rw [h.1, h.1, z64, show (0 : Int64) * 0 * 10000 * 10000 = 0 from by decide, mb0 h]
theorem ml3 {S : MS} (h : zO S) (x y z : Int32) : mlook3 S x y z = S := by
  unfold mlook3
  rw [h.1, h.1, h.1, z64, show (0 : Int64) * 0 * 0 * 10000 = 0 from by decide, mb0 h]
theorem ml4 {S : MS} (h : zO S) (x y z u : Int32) : mlook4 S x y z u = S := by
  unfold mlook4
  rw [h.1, h.1, h.1, h.1, z64, show (0 : Int64) * 0 * 0 * 0 = 0 from by decide, mb0 h]
theorem tn2 {S : MS} (h : zO S) : ∀ i, tnF2 S i = S
  | 0 => rfl
  | i + 1 => by
    show tnS2 (tnF2 S i) i = S
    rw [tn2 h i]
    unfold tnS2
    repeat' split
    all_goals first | rfl | exact ml2 h _ _
theorem tn3 {S : MS} (h : zO S) : ∀ i, tnF3 S i = S
  | 0 => rfl
  | i + 1 => by
    show tnS3 (tnF3 S i) i = S
    rw [tn3 h i]
    unfold tnS3
    repeat' split
    all_goals first | rfl | exact ml3 h _ _ _
theorem tn4 {S : MS} (h : zO S) : ∀ i, tnF4 S i = S
  | 0 => rfl
  | i + 1 => by
    show tnS4 (tnF4 S i) i = S
    rw [tn4 h i]
    unfold tnS4
    repeat' split
    all_goals first | rfl | exact ml4 h _ _ _ _
theorem e_turn : (cf_turn T0).1 = (mf_turn S0).1 := by
  have hz : zO (mtn0 S0) := ⟨fun _ => rfl, by show (0 : Int64) ≤ 10000000000000000; decide⟩
  have e : mtn S0 = mtn0 S0 := by
    unfold mtn
    rw [tn2 hz, tn3 hz, tn4 hz]
  unfold cf_turn mf_turn
  rw [best0, if_pos rfl, e, if_pos (show (mtn0 S0).2.1 52 = -1000000000002 from rfl)]
  exact fdE2 _ _
