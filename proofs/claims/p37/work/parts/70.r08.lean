/-! debts of the reference -/
theorem dnv_upd {M : Int} {f : Nat → Int64} {i : Nat} {v : Int64} (h : dnv M f) (hi : i < 100) (hv : 0 ≤ v.toInt) : dnv (M - dI f i + v.toInt) (vp_updL f i v) := by
  have e : ∀ j, j ≠ i → dI (vp_updL f i v) j = dI f j := fun j hj => by unfold dI; rw [updL_ne _ _ hj]
  have ei : dI (vp_updL f i v) i = v.toInt := by unfold dI; rw [updL_at]
  refine ⟨fun k hk => ?_, ?_⟩
  · by_cases ek : k = i
    · rw [ek, ei]; exact hv
    · rw [e k ek]; exact h.1 k hk
  · rw [isum_upd (dI f) (dI (vp_updL f i v)) i e 100, if_pos hi, ei]
    have := h.2
    omega
theorem dnv_two {M : Int} {f : Nat → Int64} {i j : Nat} {u v : Int64} (h : dnv M f) (hi : i < 100) (hj : j < 100) (hij : j ≠ i) (hu : 0 ≤ u.toInt) (hv : 0 ≤ v.toInt) : dnv (M - dI f i - dI f j + u.toInt + v.toInt) (vp_updL (vp_updL f i u) j v) := by
  have h1 := dnv_upd (v := u) h hi hu
  have h2 := dnv_upd (v := v) h1 hj hv
  have e : dI (vp_updL f i u) j = dI f j := by unfold dI; rw [updL_ne _ _ hij]
  rw [e] at h2
  exact dnv_mono (by omega) h2
theorem ix_nI {x q : Int32} (hx : vp_in x 10) (hq : vp_in q 10) : (10 * x + q).toNatClampNeg = 10 * x.toNatClampNeg + q.toNatClampNeg := by
  obtain ⟨i, hi, rfl⟩ := vp_in_of hx (by decide)
  obtain ⟨j, hj, rfl⟩ := vp_in_of hq (by decide)
  rw [ix10 hi hj, nI_clamp (by omega), nI_clamp (by omega)]
theorem cl_inj {x q : Int32} (hx : vp_in x 10) (hq : vp_in q 10) (h : x.toNatClampNeg = q.toNatClampNeg) : x = q := by
  obtain ⟨i, hi, rfl⟩ := vp_in_of hx (by decide)
  obtain ⟨j, hj, rfl⟩ := vp_in_of hq (by decide)
  rw [nI_clamp (by omega), nI_clamp (by omega)] at h
  rw [h]
theorem would_I {M : Int} (hM : M ≤ 1000000000000) {S : MS} (h : dnv M (S.2.2.2 15)) {x q : Int32} (hx : vp_in x 10) (hq : vp_in q 10) {v : Int64} (hv : -1000000000000 ≤ v.toInt ∧ v.toInt ≤ 1000000000000) : (mwould S x q v).toInt = dI (S.2.2.2 15) (10 * x.toNatClampNeg + q.toNatClampNeg) - dI (S.2.2.2 15) (10 * q.toNatClampNeg + x.toNatClampNeg) + v.toInt := by
  have hx' := vcl hx
  have hq' := vcl hq
  have b1 := h.1 (10 * x.toNatClampNeg + q.toNatClampNeg) (by omega)
  have b2 := h.1 (10 * q.toNatClampNeg + x.toNatClampNeg) (by omega)
  have b3 := dnv_le h (k := 10 * x.toNatClampNeg + q.toNatClampNeg) (by omega)
  have b4 := dnv_le h (k := 10 * q.toNatClampNeg + x.toNatClampNeg) (by omega)
  unfold mwould
  rw [ix_nI hx hq, ix_nI hq hx]
  have e : (S.2.2.2 15 (10 * x.toNatClampNeg + q.toNatClampNeg) - S.2.2.2 15 (10 * q.toNatClampNeg + x.toNatClampNeg)).toInt = dI (S.2.2.2 15) (10 * x.toNatClampNeg + q.toNatClampNeg) - dI (S.2.2.2 15) (10 * q.toNatClampNeg + x.toNatClampNeg) := L_sub (by unfold dI at *; omega) (by unfold dI at *; omega)
  rw [L_add (by rw [e]; omega) (by rw [e]; omega), e]
theorem dn_ctow {M : Int} (hM : M ≤ 1000000000000) {S : MS} (h : dnv M (S.2.2.2 15)) {x q : Int32} (hx : vp_in x 10) (hq : vp_in q 10) {v : Int64} (hv : 0 ≤ v.toInt ∧ v.toInt ≤ 1000000) : dnv (M + 1000000) ((mf_ctow S x q v).2.2.2 15) := by
  unfold mf_ctow
  split
  · exact dnv_mono (by omega) h
  · next hne =>
    have hw := would_I hM h hx hq (v := v) (by omega)
    have hx' := vcl hx
    have hq' := vcl hq
    have hij : 10 * q.toNatClampNeg + x.toNatClampNeg ≠ 10 * x.toNatClampNeg + q.toNatClampNeg := by
      intro e
      exact hne (cl_inj hx hq (by omega))
    have b1 := h.1 (10 * x.toNatClampNeg + q.toNatClampNeg) (by omega)
    have b2 := h.1 (10 * q.toNatClampNeg + x.toNatClampNeg) (by omega)
    have b3 := dnv_le h (k := 10 * x.toNatClampNeg + q.toNatClampNeg) (by omega)
    have b4 := dnv_le h (k := 10 * q.toNatClampNeg + x.toNatClampNeg) (by omega)
    have e0 : (0 : Int64).toInt = 0 := by decide
    have hn : (-mwould S x q v).toInt = -(mwould S x q v).toInt := L_neg (by omega)
    rw [sB_at, sB_at, ix_nI hx hq, ix_nI hq hx]
    refine dnv_mono ?_ (dnv_two h (by omega) (by omega) hij ?_ ?_)
    · split <;> split <;> simp only [Int64.le_iff_toInt_le, e0, hn] at * <;> omega
    · split <;> simp only [Int64.le_iff_toInt_le, e0] at * <;> omega
    · split <;> simp only [Int64.le_iff_toInt_le, e0, hn] at * <;> omega
theorem fx_ctow (S : MS) (x q : Int32) (v : Int64) : (mf_ctow S x q v).1 = S.1 ∧ (mf_ctow S x q v).2.1 = S.2.1 ∧ (mf_ctow S x q v).2.2.1 = S.2.2.1 ∧ ∀ r, r ≠ 15 → (mf_ctow S x q v).2.2.2 r = S.2.2.2 r := by
  unfold mf_ctow
  split
  · exact ⟨rfl, rfl, rfl, fun _ _ => rfl⟩
  · exact ⟨rfl, rfl, rfl, fun r hr => (sB_ne _ _ _ hr).trans (sB_ne _ _ _ hr)⟩
theorem ri_15 {M N : Int} {S T : MS} (h : rinv M S) (e1 : T.1 = S.1) (e2 : T.2.2.1 = S.2.2.1) (hd : dnv N (T.2.2.2 15)) : rinv N T := by
  obtain ⟨⟨a1, a2, a3, a4, a5, a6, a7, a8, a9⟩, b1, b2, b3, b4, b5⟩ := h
  refine ⟨⟨?_, ?_, ?_, ?_, ?_, ?_, ?_, ?_, ?_⟩, ?_, ?_, hd, ?_, ?_⟩
  all_goals try rw [e1]
  all_goals try rw [e2]
  all_goals try assumption
  · intro c hc
    rw [e2]
    exact b1 c hc
theorem ri_ctow {M : Int} (hM : M ≤ 1000000000000) {S : MS} (h : rinv M S) {x q : Int32} (hx : vp_in x 10) (hq : vp_in q 10) {v : Int64} (hv : 0 ≤ v.toInt ∧ v.toInt ≤ 1000000) : rinv (M + 1000000) (mf_ctow S x q v) := by
  obtain ⟨k1, k2, k3, k4⟩ := fx_ctow S x q v
  exact ri_15 h k1 k3 (dn_ctow hM h.2.2.2.1 hx hq hv)
theorem am64 {x : Int32} (h : 0 ≤ x.toInt ∧ x.toInt ≤ 100000) : 0 ≤ x.toInt64.toInt ∧ x.toInt64.toInt ≤ 1000000 := by
  rw [Int32.toInt_toInt64]
  omega
theorem ri_pay {M : Int} (hM : M ≤ 1000000000000) {S : MS} (b : Int32) (h : rinv M S) : rinv (M + 1000000) (mf_pay S b).2 := by
  have h' := ri_mono (N := M + 1000000) (by omega) h
  unfold mf_pay
  split
  · next hv =>
    obtain ⟨hb, -⟩ := bl_in h hv
    repeat' split
    all_goals first | exact h' | skip
    all_goals exact ri_14 (ri_bec (by unfold vp_in; decide) (ri_ctow hM h (h.1.2.2.2.2.2.1 _ hb).2.1 (h.1.2.2.2.2.2.1 _ hb).2.2.1 (am64 (h.2.2.2.2.2 _ hb))))
  · exact h'
theorem mhs_in {M : Int} {S : MS} {b i : Int32} (h : rinv M S) (hb : 0 ≤ b ∧ b ≤ S.1 4 - 1) (hi : -1 ≤ i ∧ i ≤ S.2.2.1 11 b.toNatClampNeg - 1) : vp_in (mhs S b i) 10 := by
  obtain ⟨hb', hv⟩ := bl_in h hb
  unfold mhs
  split
  · next h0 =>
    have e := h.1.2.2.2.2.1 _ hb'
    have h2 := inR hi
    have e1 : (1 : Int32).toInt = 1 := by decide
    rw [I_sub (by rw [e1]; omega) (by rw [e1]; omega), e1] at h2
    rw [Int32.le_iff_toInt_le, show (0 : Int32).toInt = 0 from by decide] at h0
    have hv' := vp_in_iff.mp hv
    have e4 : (4 : Int32).toInt = 4 := by decide
    have k1 : (4 * b).toInt = 4 * b.toInt := by rw [I_mul (by rw [e4]; omega) (by rw [e4]; omega), e4]
    have k2 : (4 * b + i).toInt = 4 * b.toInt + i.toInt := by rw [I_add (by rw [k1]; omega) (by rw [k1]; omega), k1]
    exact h.1.2.2.2.2.2.2.1 _ (vcl (vp_in_iff.mpr ⟨by omega, by omega⟩))
  · exact (h.1.2.2.2.2.2.1 _ hb').1
theorem ri_recourse {M : Int} (hM : M ≤ 1000000000000) {S : MS} (b i : Int32) (h : rinv M S) : rinv (M + 1000000) (mf_recourse S b i).2 := by
  have h' := ri_mono (N := M + 1000000) (by omega) h
  unfold mf_recourse
  split
  · next hv =>
    obtain ⟨hb, -⟩ := bl_in h hv
    split
    · split
      · next hi =>
        have hm := mhs_in h hv hi
        have hc := ri_ctow hM h hm (h.1.2.2.2.2.2.1 _ hb).2.2.1 (am64 (h.2.2.2.2.2 _ hb))
        repeat' split
        all_goals first | exact h' | skip
        all_goals
          show rinv _ (mf_rec2 S b i)
          unfold mf_rec2
          split
          · next h0 =>
            refine ri_11 ?_ (ri_8 hm hc)
            have e := h.1.2.2.2.2.1 _ hb
            have h2 := inR hi
            have e1 : (1 : Int32).toInt = 1 := by decide
            rw [I_sub (by rw [e1]; omega) (by rw [e1]; omega), e1] at h2
            rw [Int32.le_iff_toInt_le, show (0 : Int32).toInt = 0 from by decide] at h0
            omega
          · exact ri_bec (by unfold vp_in; decide) hc
      · exact h'
    · exact h'
  · exact h'
theorem ri_owe {M : Int} (hM : M ≤ 1000000000000) {S : MS} (x q v : Int32) (h : rinv M S) : rinv (M + 1000000) (mf_owe S x q v).2 := by
  have h' := ri_mono (N := M + 1000000) (by omega) h
  unfold mf_owe
  split
  · next hv =>
    split
    · exact h'
    · refine ri_ctow hM h (vin hv.1 (by decide)) (vin hv.2.1 (by decide)) ?_
      have := inR hv.2.2.2
      rw [show (1 : Int32).toInt = 1 from by decide, show (1000000 : Int32).toInt = 1000000 from by decide] at this
      rw [Int32.toInt_toInt64]
      omega
  · exact h'
/-! days -/
theorem cyv_nn {M : Int} (hM : M ≤ 1000000000000) {S : MS} (h : rinv M S) {j : Nat} (hj : j < 100) : 0 ≤ (cyv S j).toInt := by
  have h1 := h.2.2.2.1.1 j hj
  have h2 := dnv_le h.2.2.2.1 hj
  have h3 := h.2.2.1
  unfold dI at h1 h2
  have e3 : ((S.1 1).toInt64).toInt = (S.1 1).toInt := Int32.toInt_toInt64 _
  have hp : 0 ≤ (S.2.2.2 15 j).toInt * (S.1 1).toInt := Int.mul_nonneg h1 h3.1
  have hp2 : (S.2.2.2 15 j).toInt * (S.1 1).toInt ≤ 1000000000000 * 200 := Int.mul_le_mul (by omega) h3.2 h3.1 (by omega)
  have e4 : (S.2.2.2 15 j * (S.1 1).toInt64).toInt = (S.2.2.2 15 j).toInt * (S.1 1).toInt := by rw [L_mul (by rw [e3]; omega) (by rw [e3]; omega), e3]
  have e5 : (S.2.2.2 15 j * (S.1 1).toInt64 / 1000).toInt = (S.2.2.2 15 j).toInt * (S.1 1).toInt / 1000 := by
    rw [Int64.toInt_div, e4, show (1000 : Int64).toInt = 1000 from by decide, Int.tdiv_eq_ediv_of_nonneg hp]
    exact Int.bmod_eq_of_le (by omega) (by omega)
  unfold cyv
  rw [L_add (by rw [e5]; omega) (by rw [e5]; omega), e5]
  omega
theorem ri_crF {M : Int} (hM : M ≤ 1000000000000) (hM0 : 100000000000 ≤ M) {S : MS} (h : rinv M S) (hc : cyok S) : rinv M (crF S 100) := by
  refine ri_15 (T := crF S 100) h rfl rfl ?_
  have e : ∀ j, j < 100 → dI ((crF S 100).2.2.2 15) j = (cyv S j).toInt := fun j hj => by
    show ((if j < 100 then cyv S j else S.2.2.2 15 j) : Int64).toInt = _
    rw [if_pos hj]
  refine ⟨fun k hk => by rw [e k hk]; exact cyv_nn hM h hk, ?_⟩
  have h1 := isum_le (f := dI ((crF S 100).2.2.2 15)) (g := fun _ => 1000000000) 100 (fun j hj => by
    rw [e j hj]
    have := hc j hj
    rw [Int64.le_iff_toInt_le] at this
    exact this)
  have h2 : ∀ n, isum (fun _ => 1000000000) n = 1000000000 * n := by
    intro n
    induction n with
    | zero => rfl
    | succ n ih =>
      show isum (fun _ => 1000000000) n + 1000000000 = _
      rw [ih]
      omega
  rw [h2] at h1
  omega
theorem ri_L0 {M : Int} {S : MS} {v : Int64} (h : rinv M S) : rinv M (sL S 0 v) := h
theorem ri_dyOne {M : Int} (hM : M ≤ 1000000000000) (hM0 : 100000000000 ≤ M) {S : MS} (h : rinv M S) (hc : dyok S) : rinv M (dyOne S) := by
  unfold dyOne
  split
  · next he => exact ri_L0 (ri_crF hM hM0 h (hc he))
  · exact ri_L0 h
theorem ri_dyRun {M : Int} (hM : M ≤ 1000000000000) (hM0 : 100000000000 ≤ M) : ∀ (n : Nat) (S : MS), rinv M S → rinv M (dyRun n S).2
  | 0, S, h => h
  | n + 1, S, h => by
    show rinv M (if dyok S then dyRun n (dyOne S) else mf_finding S (-1000000000004)).2
    split
    · next hc => exact ri_dyRun hM hM0 n _ (ri_dyOne hM hM0 h hc)
    · exact h
theorem ri_days {M : Int} (hM : M ≤ 1000000000000) (hM0 : 100000000000 ≤ M) {S : MS} (n : Int32) (h : rinv M S) : rinv M (mf_days S n).2 := by
  unfold mf_days
  split
  · exact ri_dyRun hM hM0 _ _ h
  · exact h
