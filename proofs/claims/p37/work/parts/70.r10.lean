/-! settle: coins move, the debt is never less than 0 -/
theorem ix4 {x : Int32} {i : Nat} (hx : vp_in x 10) (hi : i < 4) : (4 * x + nI i).toNatClampNeg = 4 * x.toNatClampNeg + i := by
  obtain ⟨j, hj, rfl⟩ := vp_in_of hx (by decide)
  rw [show (4 : Int32) = nI 4 from by decide, nI_mul, nI_add, nI_clamp (by omega), nI_clamp (by omega)]
theorem nI64 {v : Nat} (h : v < 2 ^ 31) : (nI v).toInt64.toInt = v := by rw [Int32.toInt_toInt64, nI_toInt h]
theorem stg_b {S : MS} {x q : Int32} {i v : Nat} {lf : Int64} {p r : Int} (hp : (S.2.2.1 17 (4 * x + nI i).toNatClampNeg).toInt = p) (hr : (S.2.2.1 17 (4 * q + nI i).toNatClampNeg).toInt = r) (hp1 : 0 ≤ p ∧ p ≤ 1000) (hr1 : 0 ≤ r ∧ r ≤ 1000) (hv : 1 ≤ v ∧ v ≤ 1000) (hl : 0 ≤ lf.toInt ∧ lf.toInt ≤ 1000000000000) : (stg S x q i v lf).toInt = min (min p (1000 - r)) (lf.toInt / v) := by
  have e1 : (1000 : Int32).toInt = 1000 := by decide
  have ev := nI64 (v := v) (by omega)
  have es : (1000 - S.2.2.1 17 (4 * q + nI i).toNatClampNeg).toInt = 1000 - r := by rw [I_sub (by rw [e1]; omega) (by rw [e1]; omega), e1, hr]
  have em : (stm S x q i).toInt = min p (1000 - r) := by
    unfold stm
    split
    · next h => rw [Int32.lt_iff_toInt_lt, es, hp] at h; rw [es]; omega
    · next h => rw [Int32.not_lt, Int32.le_iff_toInt_le, es, hp] at h; rw [hp]; omega
  have hq0 : 0 ≤ lf.toInt / v := Int.ediv_nonneg hl.1 (by omega)
  have hq1 : lf.toInt / v ≤ lf.toInt := Int.ediv_le_self _ hl.1
  have ed : (lf / (nI v).toInt64).toInt = lf.toInt / v := by
    rw [Int64.toInt_div, ev, Int.tdiv_eq_ediv_of_nonneg hl.1]
    exact Int.bmod_eq_of_le (by omega) (by omega)
  unfold stg
  split
  · next h =>
    rw [Int64.le_iff_toInt_le, Int32.toInt_toInt64, em, ed] at h
    rw [em]
    omega
  · next h =>
    rw [Int64.not_le, Int64.lt_iff_toInt_lt, Int32.toInt_toInt64, em, ed] at h
    rw [Int64.toInt_toInt32, ed]
    rw [Int.bmod_eq_of_le (by omega) (by omega)]
    omega
theorem st_step {M : Int} {S : MS} {x q : Int32} {i v : Nat} {lf : Int64} (h : rinv M S) (hx : vp_in x 10) (hq : vp_in q 10) (hne : ¬ x = q) (hi : i < 4) (hv : 1 ≤ v ∧ v ≤ 1000) (hl : 0 ≤ lf.toInt ∧ lf.toInt ≤ 1000000000000) : rinv M (stB (stA S x i (stg S x q i v lf)) q i (stg S x q i v lf)) ∧ (stB (stA S x i (stg S x q i v lf)) q i (stg S x q i v lf)).2.2.2 = S.2.2.2 ∧ 0 ≤ (lf - (stg S x q i v lf).toInt64 * (nI v).toInt64).toInt ∧ (lf - (stg S x q i v lf).toInt64 * (nI v).toInt64).toInt ≤ lf.toInt := by
  have hx' := vcl hx
  have hq' := vcl hq
  have hp1 := h.2.2.2.2.1 (4 * x.toNatClampNeg + i) (by omega)
  have hr1 := h.2.2.2.2.1 (4 * q.toNatClampNeg + i) (by omega)
  have eg := stg_b (S := S) (x := x) (q := q) (i := i) (v := v) (lf := lf) rfl rfl (by rw [ix4 hx hi]; exact hp1) (by rw [ix4 hq hi]; exact hr1) hv hl
  generalize stg S x q i v lf = g at eg
  rw [ix4 hx hi, ix4 hq hi] at eg
  have hq0 : 0 ≤ lf.toInt / v := Int.ediv_nonneg hl.1 (by omega)
  have hij : 4 * q.toNatClampNeg + i ≠ 4 * x.toNatClampNeg + i := fun e => hne (cl_inj hx hq (by omega))
  have ev := nI64 (v := v) (by omega)
  have g0 : 0 ≤ g.toInt := by omega
  have gv : g.toInt * v ≤ lf.toInt := by
    have h1 : g.toInt ≤ lf.toInt / v := by omega
    have h2 : g.toInt * v ≤ lf.toInt / v * v := Int.mul_le_mul_of_nonneg_right h1 (by omega)
    have h3 := Int.ediv_mul_le lf.toInt (b := (v : Int)) (by omega)
    omega
  have gv0 : 0 ≤ g.toInt * v := Int.mul_nonneg g0 (by omega)
  have em : (g.toInt64 * (nI v).toInt64).toInt = g.toInt * v := by rw [L_mul (by rw [ev, Int32.toInt_toInt64]; omega) (by rw [ev, Int32.toInt_toInt64]; omega), ev, Int32.toInt_toInt64]
  have el : (lf - g.toInt64 * (nI v).toInt64).toInt = lf.toInt - g.toInt * v := by rw [L_sub (by rw [em]; omega) (by rw [em]; omega), em]
  refine ⟨?_, rfl, by rw [el]; omega, by rw [el]; omega⟩
  unfold stB stA
  rw [ix4 hx hi, ix4 hq hi]
  have e1 : (sA S 17 (4 * x.toNatClampNeg + i) (S.2.2.1 17 (4 * x.toNatClampNeg + i) - g)).2.2.1 17 (4 * q.toNatClampNeg + i) = S.2.2.1 17 (4 * q.toNatClampNeg + i) := by rw [sA_at, updA_ne _ _ hij]
  rw [e1]
  refine ri_17 ?_ (ri_17 ?_ h)
  · rw [I_add (by omega) (by omega)]; omega
  · rw [I_sub (by omega) (by omega)]; omega
theorem st_K {M : Int} {x q : Int32} {v : Nat} (hx : vp_in x 10) (hq : vp_in q 10) (hne : ¬ x = q) (hv : 1 ≤ v ∧ v ≤ 1000) {X : MS × Int64} (h : rinv M X.1) (hl : 0 ≤ X.2.toInt ∧ X.2.toInt ≤ 1000000000000) : ∀ n, n ≤ 4 → rinv M (stK x q v X n).1 ∧ (stK x q v X n).1.2.2.2 = X.1.2.2.2 ∧ 0 ≤ (stK x q v X n).2.toInt ∧ (stK x q v X n).2.toInt ≤ X.2.toInt
  | 0, _ => ⟨h, rfl, hl.1, Int.le_refl _⟩
  | n + 1, hn => by
    obtain ⟨k1, k2, k3, k4⟩ := st_K hx hq hne hv h hl n (by omega)
    unfold stK
    generalize stK x q v X n = Y at k1 k2 k3 k4
    split
    · obtain ⟨a1, a2, a3, a4⟩ := st_step k1 hx hq hne (i := n) (by omega) hv (lf := Y.2) (by omega)
      exact ⟨a1, a2.trans k2, a3, Int.le_trans a4 k4⟩
    · exact ⟨k1, k2, k3, k4⟩
theorem st_V {M : Int} {x q : Int32} (hx : vp_in x 10) (hq : vp_in q 10) (hne : ¬ x = q) {X : MS × Int64} (h : rinv M X.1) (hl : 0 ≤ X.2.toInt ∧ X.2.toInt ≤ 1000000000000) : ∀ n, n ≤ 1000 → rinv M (stV x q X n).1 ∧ (stV x q X n).1.2.2.2 = X.1.2.2.2 ∧ 0 ≤ (stV x q X n).2.toInt ∧ (stV x q X n).2.toInt ≤ X.2.toInt
  | 0, _ => ⟨h, rfl, hl.1, Int.le_refl _⟩
  | n + 1, hn => by
    obtain ⟨k1, k2, k3, k4⟩ := st_V hx hq hne h hl n (by omega)
    unfold stV
    generalize stV x q X n = Y at k1 k2 k3 k4
    obtain ⟨a1, a2, a3, a4⟩ := st_K (v := 1000 - n) hx hq hne (by omega) k1 (by omega) 4 (Nat.le_refl 4)
    exact ⟨a1, a2.trans k2, a3, Int.le_trans a4 k4⟩
theorem stV_1000 {M : Int} {x q : Int32} (hx : vp_in x 10) (hq : vp_in q 10) (hne : ¬ x = q) {X : MS × Int64} (h : rinv M X.1) (hl : 0 ≤ X.2.toInt ∧ X.2.toInt ≤ 1000000000000) {Y : MS × Int64} {n : Nat} (hn : n ≤ 1000) (e : Y = stV x q X n) : rinv M Y.1 ∧ Y.1.2.2.2 = X.1.2.2.2 ∧ 0 ≤ Y.2.toInt ∧ Y.2.toInt ≤ X.2.toInt := by
  rw [e]
  exact st_V hx hq hne h hl n hn
theorem ri_stl {M : Int} {S : MS} {Y : MS × Int64} {i : Nat} (hi : i < 100) (k1 : rinv M Y.1) (k2 : Y.1.2.2.2 = S.2.2.2) (k3 : 0 ≤ Y.2.toInt) (k4 : Y.2.toInt ≤ (S.2.2.2 15 i).toInt) : rinv M (sB Y.1 15 i Y.2) := by
  refine ri_15 (T := sB Y.1 15 i Y.2) k1 rfl rfl ?_
  rw [sB_at]
  refine dnv_mono ?_ (dnv_upd k1.2.2.2.1 hi k3)
  unfold dI
  rw [k2]
  omega
theorem stl_c {S : MS} {x q : Int32} {P : MS → Prop} (h : P S) (hf : ∀ z, P (mf_finding S z).2) (hm : (0 ≤ x ∧ x ≤ 9) ∧ (0 ≤ q ∧ q ≤ 9) ∧ ¬ x = q → ∀ Y, Y = mst S x q → P (sB Y.1 15 (10 * x + q).toNatClampNeg Y.2)) : P (mf_settle S x q).2 := by
  unfold mf_settle
  split
  · next hv =>
    split
    · exact hf _
    · exact hm hv _ rfl
  · exact hf _
theorem ri_settle {M : Int} (hM : M ≤ 1000000000000) {S : MS} (x q : Int32) (h : rinv M S) : rinv M (mf_settle S x q).2 := by
  refine stl_c (P := fun U => rinv M U) h (fun _ => h) (fun hv Y eY => ?_)
  have hx : vp_in x 10 := vin hv.1 (by decide)
  have hq : vp_in q 10 := vin hv.2.1 (by decide)
  have hx' := vcl hx
  have hq' := vcl hq
  have b1 := h.2.2.2.1.1 (10 * x + q).toNatClampNeg (by rw [ix_nI hx hq]; omega)
  have b3 := dnv_le h.2.2.2.1 (k := (10 * x + q).toNatClampNeg) (by rw [ix_nI hx hq]; omega)
  unfold dI at b1 b3
  have b4 : (S.2.2.2 15 (10 * x + q).toNatClampNeg).toInt ≤ 1000000000000 := by omega
  obtain ⟨k1, k2, k3, k4⟩ := stV_1000 hx hq hv.2.2 (X := (S, S.2.2.2 15 (10 * x + q).toNatClampNeg)) h ⟨b1, b4⟩ (Nat.le_refl 1000) eY
  exact ri_stl (by rw [ix_nI hx hq]; omega) k1 k2 k3 k4
/-! the plan's calls -/
theorem ri_fr {M : Int} {S T : MS} (k : fr S T) (h : rinv M S) : rinv M T := by
  obtain ⟨k1, k2, k3, k4⟩ := k
  obtain ⟨⟨a1, a2, a3, a4, a5, a6, a7, a8, a9⟩, b1, b2, b3, b4, b5⟩ := h
  refine ⟨⟨?_, ?_, ?_, ?_, ?_, ?_, ?_, ?_, ?_⟩, ?_, ?_, ?_, ?_, ?_⟩
  · rw [k1 4 (by decide) (by decide)]; exact a1
  · rw [k1 20 (by decide) (by decide)]; exact a2
  · rw [k1 36 (by decide) (by decide)]; exact a3
  · rw [k1 23 (by decide) (by decide)]; exact a4
  · rw [k3 11 (by decide) (by decide) (by decide) (by decide)]; exact a5
  · rw [k3 6 (by decide) (by decide) (by decide) (by decide), k3 7 (by decide) (by decide) (by decide) (by decide), k3 8 (by decide) (by decide) (by decide) (by decide), k3 10 (by decide) (by decide) (by decide) (by decide)]; exact a6
  · rw [k3 12 (by decide) (by decide) (by decide) (by decide)]; exact a7
  · rw [k3 3 (by decide) (by decide) (by decide) (by decide)]; exact a8
  · rw [k3 25 (by decide) (by decide) (by decide) (by decide), k3 24 (by decide) (by decide) (by decide) (by decide)]; exact a9
  · intro c hc; rw [k3 31 (by decide) (by decide) (by decide) (by decide), k3 30 (by decide) (by decide) (by decide) (by decide)]; exact b1 c hc
  · rw [k1 1 (by decide) (by decide)]; exact b2
  · rw [k4 15 (by decide) (by decide) (by decide)]; exact b3
  · rw [k3 17 (by decide) (by decide) (by decide) (by decide)]; exact b4
  · rw [k3 9 (by decide) (by decide) (by decide) (by decide)]; exact b5
theorem ri_plan {M : Int} {T : MS} (g : Int32) (h : rinv M T) : rinv M (mf_plan T g).2 := by
  unfold mf_plan
  split <;> exact h
theorem ri_payment {M : Int} {S T : MS} (i x : Int32) (hS : rinv M S) (h : rinv M T) : rinv M (mf_payment S T i x).2 := by
  unfold mf_payment
  repeat' split
  · exact h
  · exact h
  · exact hS
theorem clZ_sp (T : MS) : ∀ n, (clZ T n).1 = T.1 ∧ (clZ T n).2.1 = T.2.1 ∧ (clZ T n).2.2.1 = T.2.2.1 ∧ (∀ r, r ≠ 15 → (clZ T n).2.2.2 r = T.2.2.2 r) ∧ ∀ j, j < n → (clZ T n).2.2.2 15 j = 0
  | 0 => ⟨rfl, rfl, rfl, fun _ _ => rfl, fun j hj => absurd hj (by omega)⟩
  | n + 1 => by
    obtain ⟨k1, k2, k3, k4, k5⟩ := clZ_sp T n
    refine ⟨k1, k2, k3, fun r hr => (sB_ne _ _ _ hr).trans (k4 r hr), fun j hj => ?_⟩
    show (sB (clZ T n) 15 n 0).2.2.2 15 j = 0
    rw [sB_at]
    by_cases e : j = n
    · rw [e, updL_at]
    · rw [updL_ne _ _ e]; exact k5 j (by omega)
theorem clP_sp {T : MS} {N : Nat} (hO : plOk T N) (hp : ∀ j, j < N → 0 ≤ (T.2.2.2 49 j).toInt) : ∀ n, n ≤ N → (clP T n).1 = T.1 ∧ (clP T n).2.1 = T.2.1 ∧ (clP T n).2.2.1 = T.2.2.1 ∧ (∀ r, r ≠ 15 → (clP T n).2.2.2 r = T.2.2.2 r) ∧ dnv (isum (fun j => (T.2.2.2 49 j).toInt) n) ((clP T n).2.2.2 15)
  | 0, _ => by
    obtain ⟨k1, k2, k3, k4, k5⟩ := clZ_sp T 100
    refine ⟨k1, k2, k3, k4, ?_, ?_⟩
    · intro k hk
      show 0 ≤ ((clZ T 100).2.2.2 15 k).toInt
      rw [k5 k hk]
      decide
    · show isum (dI ((clZ T 100).2.2.2 15)) 100 ≤ 0
      rw [isum_zero 100 (fun j hj => by unfold dI; rw [k5 j hj]; decide)]
      decide
  | n + 1, hn => by
    obtain ⟨k1, k2, k3, k4, k5⟩ := clP_sp hO hp n (by omega)
    have hj := hO.2.2 n (by omega)
    have e47 : (clP T n).2.2.1 47 n = T.2.2.1 47 n := by rw [k3]
    have e48 : (clP T n).2.2.1 48 n = T.2.2.1 48 n := by rw [k3]
    have e49 : (clP T n).2.2.2 49 n = T.2.2.2 49 n := by rw [k4 49 (by decide)]
    have ix := ix_nI hj.1 hj.2
    have i1 := vcl hj.1
    have i2 := vcl hj.2
    refine ⟨k1, k2, k3, fun r hr => (sB_ne _ _ _ hr).trans (k4 r hr), ?_⟩
    show dnv _ ((sB (clP T n) 15 (10 * (clP T n).2.2.1 47 n + (clP T n).2.2.1 48 n).toNatClampNeg ((clP T n).2.2.2 49 n)).2.2.2 15)
    rw [sB_at, e47, e48, e49]
    refine dnv_mono ?_ (dnv_upd k5 (by rw [ix]; omega) (hp n (by omega)))
    have := k5.1 (10 * T.2.2.1 47 n + T.2.2.1 48 n).toNatClampNeg (by rw [ix]; omega)
    show _ ≤ isum (fun j => (T.2.2.2 49 j).toInt) n + (T.2.2.2 49 n).toInt
    omega
theorem ri_clear {M : Int} {T : MS} {N : Nat} (h : rinv M T) (hO : plOk T N) (hp : ∀ j, j < N → 0 ≤ (T.2.2.2 49 j).toInt) (hs : isum (fun j => (T.2.2.2 49 j).toInt) N ≤ M) : rinv M (mf_clear T N).2 := by
  obtain ⟨k1, k2, k3, k4, k5⟩ := clP_sp hO hp N (Nat.le_refl N)
  exact ri_15 h k1 k3 (dnv_mono hs k5)
theorem ri_20 {M : Int} {S : MS} (h : rinv M S) : rinv M (sI S 20 0) := by
  obtain ⟨⟨a1, a2, a3⟩, b⟩ := h
  exact ⟨⟨a1, by show 0 ≤ (0 : Int32).toInt ∧ (0 : Int32).toInt ≤ 30; decide, a3⟩, b⟩
