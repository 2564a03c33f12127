/-! plan, payment, clear, check -/
theorem pl_N {V U : MS} {N : Nat} (h : plM V U) (hO : plOk U N) : N ≤ 10 ∧ V.1 41 = nI N ∧ U.1 46 = nI N ∧ V.1 40 = U.1 44 ∧ ∀ j, j < N → V.2.2.1 46 j = U.2.2.1 47 j ∧ V.2.2.1 47 j = U.2.2.1 48 j ∧ V.2.2.2 48 j = U.2.2.2 49 j := by
  obtain ⟨K, k1, k2, k3, k4, k5⟩ := h
  have e : K = N := (nI_eq (by omega) (by have := hO.1; omega)).mp (k3.symm.trans hO.2.1)
  subst e
  exact ⟨k1, k2, k3, k4, k5⟩
theorem cfg_eq {V U : MS} {N i w : Nat} (h : plM V U) (hO : plOk U N) (hi : i < N) : cfgr V (nI i) (nI w) = mpay U (nI i) (nI w) := by
  obtain ⟨k1, k2, k3, k4, k5⟩ := pl_N h hO
  obtain ⟨a, b, c⟩ := k5 i hi
  unfold cfgr mpay
  rw [if_pos (show 0 ≤ nI i ∧ nI i < V.1 41 from ⟨by rw [show (0 : Int32) = nI 0 from rfl, nI_leI (by omega) (by omega)]; omega, by rw [k2, nI_ltI (by omega) (by omega)]; exact hi⟩), nI_clamp (by omega), a, b, c]
theorem v_neg {v : Int64} (h : 0 ≤ v.toInt) : cmax0 v = v ∧ cmax0 (-v) = 0 := by
  have e0 : (0 : Int64).toInt = 0 := by decide
  have en : (-v).toInt = -v.toInt := L_neg (by omega)
  constructor
  · show (if 0 < v then v else 0) = v
    by_cases q : 0 < v
    · rw [if_pos q]
    · rw [if_neg q]
      apply Int64.toInt_inj.mp
      rw [Int64.lt_iff_toInt_lt, e0] at q
      rw [e0]
      omega
  · show (if 0 < -v then -v else 0) = 0
    rw [if_neg]
    rw [Int64.lt_iff_toInt_lt, e0, en]
    omega
theorem cl_step {V' U' : MS} {p q : Nat} {v : Int64} (hp : p < 10) (hq : q < 10) (hpq : p ≠ q) (hv : 0 ≤ v.toInt) (hD : dbR V' U') (h1 : U'.2.2.2 15 (10 * p + q) = 0) (h2 : U'.2.2.2 15 (10 * q + p) = 0) : dbR (cf_charge V' (nI p) (nI q) v) (sB U' 15 (10 * p + q) v) := by
  have ep : (nI p).toNatClampNeg = p := nI_clamp (by omega)
  have eq : (nI q).toNatClampNeg = q := nI_clamp (by omega)
  have ew : cwould V' (nI p) (nI q) v = v := by
    show V'.2.2.2 (100 + (nI p).toNatClampNeg) (nI q).toNatClampNeg - V'.2.2.2 (100 + (nI q).toNatClampNeg) (nI p).toNatClampNeg + v = v
    rw [ep, eq, hD p q hp hq, hD q p hq hp, h1, h2]
    simp
  obtain ⟨m1, m2⟩ := v_neg hv
  intro a b ha hb
  unfold cf_charge
  rw [ew, m1, m2, ep, eq]
  show (sB (sB V' (100 + p) q v) (100 + q) p 0).2.2.2 (100 + a) b = _
  rw [sB_at U']
  by_cases e1 : a = q
  · subst e1
    rw [sB_at]
    by_cases e2 : b = p
    · subst e2
      rw [updL_at, updL_ne _ _ (by omega), h2]
    · rw [updL_ne _ _ e2, sB_ne _ _ _ (by omega), updL_ne _ _ (by omega)]
      exact hD _ _ ha hb
  · rw [sB_ne _ _ _ (by omega)]
    by_cases e3 : a = p
    · subst e3
      rw [sB_at]
      by_cases e4 : b = q
      · subst e4
        rw [updL_at, updL_at]
      · rw [updL_ne _ _ e4, updL_ne _ _ (by omega)]
        exact hD _ _ ha hb
    · rw [sB_ne _ _ _ (by omega), updL_ne _ _ (by omega)]
      exact hD _ _ ha hb
theorem cl_db {V U : MS} {N c : Nat} {z : Nat → Int} (hV : -1 ≤ (V.2.1 30).toInt ∧ (V.2.1 30).toInt ≤ 1000000) (hM : plM V U) (hO : plOk U N) (hp : ∀ j, j < N → 0 ≤ (U.2.2.2 49 j).toInt) (hd : pdI z U c) : ∀ i, i ≤ N → ((ccl V i).1 = V.1 ∧ (ccl V i).2.1 50 = V.2.1 50 ∧ (ccl V i).2.2.1 = V.2.2.1 ∧ ∀ q, (q < 100 ∨ 110 ≤ q) → (ccl V i).2.2.2 q = V.2.2.2 q) ∧ ((ccl V i).2.1 30).toInt = (V.2.1 30).toInt + 1 + i ∧ dbR (ccl V i) (clP U i) ∧ ∀ a b, a < 10 → b < 10 → (∀ j, j < i → ¬ (U.2.2.1 47 j = nI a ∧ U.2.2.1 48 j = nI b)) → (clP U i).2.2.2 15 (10 * a + b) = 0
  | 0, _ => by
    obtain ⟨k1, k2, k3, k4, k5⟩ := clZ_sp U 100
    refine ⟨⟨rfl, rfl, rfl, fun q hq => ?_⟩, ?_, fun x q hx hq => ?_, fun a b ha hb _ => k5 _ (by omega)⟩
    · funext p
      show (if 100 ≤ q ∧ q < 110 ∧ p < 10 ∧ 10 * (q - 100) + p < 100 then (0 : Int64) else V.2.2.2 q p) = _
      rw [if_neg (by omega)]
    · show (V.2.1 30 + 1).toInt = _
      rw [L_add (by rw [show (1 : Int64).toInt = 1 from by decide]; omega) (by rw [show (1 : Int64).toInt = 1 from by decide]; omega), show (1 : Int64).toInt = 1 from by decide]
      omega
    · show (if 100 ≤ 100 + x ∧ 100 + x < 110 ∧ q < 10 ∧ 10 * (100 + x - 100) + q < 100 then (0 : Int64) else V.2.2.2 (100 + x) q) = (clZ U 100).2.2.2 15 (10 * x + q)
      rw [if_pos (by omega), k5 _ (by omega)]
  | i + 1, hi => by
    obtain ⟨⟨f1, f2, f3, f4⟩, f5, f6, f7⟩ := cl_db hV hM hO hp hd i (by omega)
    obtain ⟨n1, n2, n3, n4, n5⟩ := pl_N hM hO
    obtain ⟨a, b, cc⟩ := n5 i (by omega)
    obtain ⟨g1, g2, g3, g4, g5⟩ := clP_sp hO hp i (by omega)
    have hcN : c = N := (nI_eq (by have := hd.2.1; omega) (by omega)).mp (hd.1.symm.trans n3)
    subst hcN
    obtain ⟨p, q, p1, p2, p3, p4, p5, p6, p7, p8, p9⟩ := hd.2.2.2 i (by omega)
    have hpq : p ≠ q := by intro e; rw [e] at p5; omega
    have eV : ccl V (i + 1) = clS (ccl V i) i := rfl
    have eU : clP U (i + 1) = sB (clP U i) 15 (10 * (clP U i).2.2.1 47 i + (clP U i).2.2.1 48 i).toNatClampNeg ((clP U i).2.2.2 49 i) := rfl
    rw [g3, g4 49 (by decide), p3, p4, ix10 p1 p2] at eU
    have hin : 0 ≤ nI i ∧ nI i < (ccl V i).1 41 := ⟨by rw [show (0 : Int32) = nI 0 from rfl, nI_leI (by omega) (by omega)]; omega, by rw [f1, n2, nI_ltI (by omega) (by omega)]; omega⟩
    have c0 : (cfgr (ccl V i) (nI i) 0).toInt32 = nI p := by
      unfold cfgr
      rw [if_pos hin, if_pos rfl, nI_clamp (by omega), f3, a, p3, to3264]
    have c1 : (cfgr (ccl V i) (nI i) 1).toInt32 = nI q := by
      unfold cfgr
      rw [if_pos hin, if_neg (by decide), if_pos rfl, nI_clamp (by omega), f3, b, p4, to3264]
    have c2 : cfgr (ccl V i) (nI i) 2 = U.2.2.2 49 i := by
      unfold cfgr
      rw [if_pos hin, if_neg (by decide), if_neg (by decide), nI_clamp (by omega), f4 48 (by omega), cc]
    have eS : clS (ccl V i) i = cf_charge (ccl V i) (nI p) (nI q) (U.2.2.2 49 i) := by
      unfold clS
      rw [c0, c1, c2]
    rw [eV, eS, eU]
    have h1 : (clP U i).2.2.2 15 (10 * p + q) = 0 := f7 p q p1 p2 (fun j hj => p9 j hj)
    have h2 : (clP U i).2.2.2 15 (10 * q + p) = 0 := by
      refine f7 q p p2 p1 (fun j hj hh => ?_)
      obtain ⟨p', q', r1, r2, r3, r4, r5, r6, -⟩ := hd.2.2.2 j (by omega)
      have : p' = q := (nI_eq (by omega) (by omega)).mp (r3.symm.trans hh.1)
      rw [this] at r5
      omega
    refine ⟨⟨f1, f2, f3, fun r hr => ?_⟩, ?_, cl_step p1 p2 hpq p8 f6 h1 h2, fun x y hx hy hn => ?_⟩
    · show (sB (sB (ccl V i) (100 + (nI p).toNatClampNeg) _ _) (100 + (nI q).toNatClampNeg) _ _).2.2.2 r = _
      rw [nI_clamp (by omega), nI_clamp (by omega), sB_ne _ _ _ (by omega), sB_ne _ _ _ (by omega)]
      exact f4 r hr
    · show ((ccl V i).2.1 30 + 1).toInt = _
      rw [L_add (by rw [f5, show (1 : Int64).toInt = 1 from by decide]; omega) (by rw [f5, show (1 : Int64).toInt = 1 from by decide]; omega), f5, show (1 : Int64).toInt = 1 from by decide]
      omega
    · rw [sB_at]
      by_cases e : 10 * x + y = 10 * p + q
      · exfalso
        have e1 : x = p := by omega
        have e2 : y = q := by omega
        subst e1 e2
        exact hn i (by omega) ⟨p3, p4⟩
      · rw [updL_ne _ _ e]
        exact f7 x y hx hy (fun j hj => hn j (by omega))
theorem vr30 {i : Nat} {T S : MS} (hi : i < 600) (h : plR i T S) : -1 ≤ (T.2.1 30).toInt ∧ (T.2.1 30).toInt ≤ 60000 := by
  obtain ⟨p1, p2, p3, p4, p5, p6⟩ := h
  omega
theorem ref_db {T S U : MS} (hD : dbR T S) (hq : fx qI qL qA qB T (cf_ref T)) (hu : U.2.2.2 15 = S.2.2.2 15) : dbR (cf_ref T) U := db_k hD (fun x hx => hq.2.2.2 (100 + x) (by omega)) hu
theorem g_clear {i N : Nat} (hi : i < 600) {M : Int} (hM : M ≤ 1000000000000) {T S U : MS} (hR : dnv M (S.2.2.2 15)) (hD : dbR T S) (hp : plR i T S) (hF : fr S U) (hU : plRun S U) (hO : plOk U N) (hn : ∀ j, j < N → 0 ≤ (U.2.2.2 49 j).toInt) : (cf_clear T).1 = (mf_clear U N).1 ∧ dbR (cf_clear T).2 (mf_clear U N).2 ∧ plR (i + 1) (cf_clear T).2 (mf_clear U N).2 := by
  obtain ⟨a1, a2, a3⟩ := ca_ref hM hR hD hp
  have hm := a1.2.2.1 a2 S U (fun _ _ => rfl) hU
  obtain ⟨z, c, hz⟩ := pl_pd hM hR hU
  obtain ⟨n1, n2, n3, n4, n5⟩ := pl_N hm hO
  have hv := vr30 hi a1
  have k := cl_db ⟨hv.1, by omega⟩ hm hO hn hz N (Nat.le_refl N)
  unfold cf_clear mf_clear
  rw [n2, nI_clamp (by omega)]
  obtain ⟨⟨f1, f2, f3, f4⟩, f5, f6, f7⟩ := k
  generalize cf_ref T = V at *
  generalize ccl V N = C at *
  generalize clP U N = P at *
  refine ⟨tot_eq f6 100 (Nat.le_refl 100), f6, ?_⟩
  exact pl_n (n := N + 1) (by omega) (by omega) a1 (f4 43 (by omega)) (by rw [f3]) f2 (by rw [f5]; omega)
theorem g_plan {i : Nat} {M : Int} (hM : M ≤ 1000000000000) {T S U : MS} (hR : dnv M (S.2.2.2 15)) (hD : dbR T S) (hp : plR i T S) (hU : plRun S U) (g : Int32) : (cf_plan T g).1 = (mf_plan U g).1 := by
  have hm := pl_M hM hR hD hp rfl hU
  obtain ⟨K, k1, k2, k3, k4, k5⟩ := hm
  unfold cf_plan mf_plan
  split
  · show ((cf_ref T).1 41).toInt64 = (U.1 46).toInt64
    rw [k2, k3]
  · show ((cf_ref T).1 40).toInt64 = (U.1 44).toInt64
    rw [k4]
theorem pl_up {i : Nat} {M : Int} (hM : M ≤ 1000000000000) {T S V : MS} (hR : dnv M (S.2.2.2 15)) (hD : dbR T S) (hp : plR i T S) (h15 : V.2.2.2 15 = S.2.2.2 15) : plR (i + 1) (cf_ref T) V := pl_k (ca_ref hM hR hD hp).1 rfl rfl rfl rfl rfl rfl rfl rfl rfl h15
theorem g_payment {i N : Nat} {M : Int} (hM : M ≤ 1000000000000) {T S U : MS} (hR : dnv M (S.2.2.2 15)) (hD : dbR T S) (hp : plR i T S) (hq : fx qI qL qA qB T (cf_ref T)) (hF : fr S U) (hU : plRun S U) (hO : plOk U N) (hf : fnR T S) (j w : Int32) : afR (cf_payment T j w) (mf_payment S U j w) ∧ ((cf_payment T j w).2 = (cf_ref T) ∨ (cf_payment T j w).2 = (cf_fd (cf_ref T) 2).2 ∨ (cf_payment T j w).2 = (cf_fd T 1).2) := by
  have hm := pl_M hM hR hD hp rfl hU
  obtain ⟨n1, n2, n3, n4, n5⟩ := pl_N hm hO
  have f2 : fnR (cf_ref T) U := fn_k hf (hq.2.2.2 0 (by omega)) (hF.2.2.2 22 (by decide) (by decide) (by decide))
  unfold cf_payment mf_payment
  by_cases c1 : 0 ≤ w ∧ w ≤ 2
  · rw [if_pos c1, if_pos c1]
    have e41 : ((cf_ref T).1 41).toInt = N := by rw [n2, nI_toInt (by omega)]
    have e46 : (U.1 46 - 1).toInt = (N : Int) - 1 := by
      rw [n3, I_sub (by rw [nI_toInt (by omega), show (1 : Int32).toInt = 1 from by decide]; omega) (by rw [nI_toInt (by omega), show (1 : Int32).toInt = 1 from by decide]; omega), nI_toInt (by omega)]
      rfl
    have hc : (0 ≤ j ∧ j < (cf_ref T).1 41) ↔ (0 ≤ j ∧ j ≤ U.1 46 - 1) := by
      rw [Int32.le_iff_toInt_le, Int32.lt_iff_toInt_lt, Int32.le_iff_toInt_le, e41, e46]
      omega
    by_cases c2 : 0 ≤ j ∧ j < (cf_ref T).1 41
    · rw [if_pos c2, if_pos (hc.mp c2)]
      refine ⟨⟨?_, f2⟩, Or.inl rfl⟩
      have j0 := Int32.le_iff_toInt_le.mp c2.1
      have j1 := Int32.lt_iff_toInt_lt.mp c2.2
      rw [show (0 : Int32).toInt = 0 from by decide] at j0
      rw [e41] at j1
      obtain ⟨x, hx, ex⟩ := vp_in_of (vp_in_iff.mpr ⟨j0, j1⟩ : vp_in j N) (by omega)
      obtain ⟨y, hy, ey⟩ := vp_in_of (vin c1 (by decide) : vp_in w 3) (by decide)
      rw [ex, ey]
      exact cfg_eq hm hO hx
    · rw [if_neg c2, if_neg (fun q => c2 (hc.mpr q))]
      exact ⟨fd2 f2, Or.inr (Or.inl rfl)⟩
  · rw [if_neg c1, if_neg c1]
    exact ⟨fd1 hf, Or.inr (Or.inr rfl)⟩
def toR (T S : MS) : Prop := T.1 17 = S.1 20 ∧ T.2.2.1 5 = S.2.2.1 21
theorem ck_l {V U : MS} {N w : Nat} (hw : w ≤ 30) (hm : plM V U) (hO : plOk U N) (h5 : V.2.2.1 5 = U.2.2.1 21) : ∀ n i, i + n = N → cck (sI V 17 0) w N n i = ckR U (nI w) n i
  | 0, i, _ => by
    obtain ⟨n1, n2, n3, n4, n5⟩ := pl_N hm hO
    show (if 3 * N < w then (99 : Int64) else 0) = if nI w ≤ 3 * U.1 46 then 0 else 99
    rw [n3, show (3 : Int32) = nI 3 from rfl, nI_mul]
    by_cases e : 3 * N < w
    · rw [if_pos e, if_neg (by rw [nI_leI (by omega) (by omega)]; omega)]
    · rw [if_neg e, if_pos (by rw [nI_leI (by omega) (by omega)]; omega)]
  | n + 1, i, hi => by
    obtain ⟨n1, n2, n3, n4, n5⟩ := pl_N hm hO
    have ih := ck_l hw hm hO h5 n (i + 1) (by omega)
    have t3 : ∀ j, j < 3 → (ck3 U (nI w) i (nI j) ↔ (w ≤ 3 * i + j ∨ ¬ tp1 (sI V 17 0) i j)) := by
      intro j hj
      show (nI w ≤ 3 * nI i + nI j ∨ ¬ (U.2.2.1 21 (3 * nI i + nI j).toNatClampNeg).toInt64 = mpay U (nI i) (nI j)) ↔ (w ≤ 3 * i + j ∨ ¬ (V.2.2.1 5 (3 * i + j)).toInt64 = cfgr (sI V 17 0) (nI i) (nI j))
      have ec : cfgr (sI V 17 0) (nI i) (nI j) = cfgr V (nI i) (nI j) := rfl
      rw [ec, cfg_eq hm hO (by omega), show (3 : Int32) = nI 3 from rfl, nI_mul, nI_add, nI_leI (by omega) (by omega), nI_clamp (by omega), h5]
    have hb : ckBad U (nI w) i ↔ ¬ tpP (sI V 17 0) i w := by
      show (ck3 U (nI w) i (nI 0) ∨ ck3 U (nI w) i (nI 1) ∨ ck3 U (nI w) i (nI 2)) ↔ ¬ (3 * i + 3 ≤ w ∧ ∀ j, j < 3 → tp1 (sI V 17 0) i j)
      rw [t3 0 (by decide), t3 1 (by decide), t3 2 (by decide)]
      constructor
      · rintro (h | h | h) ⟨q1, q2⟩
        · rcases h with h | h
          · omega
          · exact h (q2 0 (by decide))
        · rcases h with h | h
          · omega
          · exact h (q2 1 (by decide))
        · rcases h with h | h
          · omega
          · exact h (q2 2 (by decide))
      · intro h
        by_cases q0 : w ≤ 3 * i + 0 ∨ ¬ tp1 (sI V 17 0) i 0
        · exact Or.inl q0
        · by_cases q1 : w ≤ 3 * i + 1 ∨ ¬ tp1 (sI V 17 0) i 1
          · exact Or.inr (Or.inl q1)
          · by_cases q2 : w ≤ 3 * i + 2 ∨ ¬ tp1 (sI V 17 0) i 2
            · exact Or.inr (Or.inr q2)
            · exfalso
              apply h
              refine ⟨by omega, fun j hj => ?_⟩
              obtain rfl | rfl | rfl := (show j = 0 ∨ j = 1 ∨ j = 2 by omega)
              · exact Classical.not_not.mp (fun k => q0 (Or.inr k))
              · exact Classical.not_not.mp (fun k => q1 (Or.inr k))
              · exact Classical.not_not.mp (fun k => q2 (Or.inr k))
    unfold cck ckR
    by_cases c : tpP (sI V 17 0) i w
    · rw [if_pos c, if_neg (fun q => (hb.mp q) c)]
      exact ih
    · rw [if_neg c, if_pos (hb.mpr c)]
theorem g_check {i N : Nat} {M : Int} (hM : M ≤ 1000000000000) {T S U : MS} (hR : dnv M (S.2.2.2 15)) (hD : dbR T S) (hp : plR i T S) (hq : fx qI qL qA qB T (cf_ref T)) (hT : ciT T) (ht : toR T S) (hF : fr (sI S 20 0) U) (hU : plRun (sI S 20 0) U) (hO : plOk U N) : (cf_check T).1 = (mf_check S U N).1 := by
  have hm := pl_M hM hR hD hp (S' := sI S 20 0) rfl hU
  obtain ⟨n1, n2, n3, n4, n5⟩ := pl_N hm hO
  obtain ⟨w, hw, ew⟩ := hT
  have e17 : (cf_ref T).1 17 = nI w := (hq.1 17 (by omega)).trans ew
  have e5 : (cf_ref T).2.2.1 5 = U.2.2.1 21 := (hq.2.2.1 5 (by omega)).trans (ht.2.trans (hF.2.2.1 21 (by decide) (by decide) (by decide) (by decide)).symm)
  have e20 : S.1 20 = nI w := ht.1.symm.trans ew
  unfold cf_check mf_check
  rw [e17, n2, e20, nI_clamp (by omega), nI_clamp (by omega)]
  exact ck_l hw hm hO e5 N 0 (by omega)
/-! the class's reader leaves all rows of longs; the rest of the methods -/
theorem fe_nx {S T : MS} (h : trI T 401) (k : fx jI9 sN jA9 sN S T) : fx jI9 sN jA9 sN S (cnx T) := by
  obtain ⟨-, g1, g2, -⟩ := cnx_sp h
  exact fx_tr k ⟨fun j a => g2 j (fun e => a (by omega)) (fun e => a (by omega)) (fun e => a (by omega)) (fun e => a (by omega)), fun j _ => by rw [g1], fun q _ => by rw [g1], fun q _ => by rw [g1]⟩
theorem fe_cat {S T : MS} {v g n : Int32} (k : fx jI9 sN jA9 sN S T) : fx jI9 sN jA9 sN S (catT T v g n) := by
  unfold catT cat3
  repeat' split
  · exact k
  · exact fx_sA (fx_sA (fx_sA (fx_sA k (by decide)) (by decide)) (by decide)) (by decide)
  · exact k
theorem fe_cac {S T : MS} {v : Int32} (k : fx jI9 sN jA9 sN S T) : fx jI9 sN jA9 sN S (cac T v) := by
  unfold cac
  split
  · exact fx_sI (fx_sA (fx_sA k (by decide)) (by decide)) (by decide)
  · exact k
theorem fe_crt {S T : MS} (h : crJ T) (k : fx jI9 sN jA9 sN S T) : fx jI9 sN jA9 sN S (crt T).2 := by
  unfold crt
  split
  · next h5 =>
    have hv := wd5 h h5
    have h1 := crJ_nx h
    have k1 := fe_nx h.1 k
    generalize cnx T = X1 at h1 k1
    unfold crt2
    split
    · have h2 := crJ_nx h1
      have k2 := fe_nx h1.1 k1
      generalize cnx X1 = X2 at h2 k2
      unfold crt3
      split
      · split
        · have k3 := fe_nx (crJ_cat (g := X1.1 24) (n := X2.1 26) h2 hv).1 (fe_cat k2)
          generalize cnx (catT X2 (T.1 24) (X1.1 24) (X2.1 26)) = Q at k3
          exact k3
        · exact k2
      · exact k2
    · exact k1
  · exact k
theorem fe_crcL {S : MS} : ∀ (n : Nat) (T : MS), crJ T → fx jI9 sN jA9 sN S T → fx jI9 sN jA9 sN S (crcL n T).2
  | 0, T, h, k => k
  | n + 1, T, h, k => by
    have hq := crt_J (crJ_nx h)
    have kq := fe_crt (S := S) (crJ_nx h) (fe_nx h.1 k)
    unfold crcL
    generalize crt (cnx T) = Y at hq kq
    repeat' split
    · exact kq
    · exact fe_crcL n Y.2 hq.1 kq
    · exact kq
theorem fe_crcA {S X : MS} (h : crJ X) (k : fx jI9 sN jA9 sN S X) : fx jI9 sN jA9 sN S (crcA X).2 := by
  unfold crcA
  split
  · exact fe_crcL 4 X h k
  · exact k
theorem fe_crc {S T : MS} (h : crJ T) (k : fx jI9 sN jA9 sN S T) : fx jI9 sN jA9 sN S (crc T).2 := by
  have h1 := crJ_cac (v := 1) h (Or.inr wn1)
  have h0 := crJ_cac (v := 0) h (Or.inl wn0)
  have k1 := fe_crcA (crJ_nx h1) (fe_nx h1.1 (fe_cac (v := 1) k))
  have k0 := fe_crcA (crJ_nx h0) (fe_nx h0.1 (fe_cac (v := 0) k))
  unfold crc
  generalize crcA (cnx (cac T 1)) = A1 at k1
  generalize crcA (cnx (cac T 0)) = A0 at k0
  repeat' split
  · exact k1
  · exact k0
  · exact k
theorem fe_crxL {S : MS} : ∀ (n : Nat) (T : MS), crJ T → fx jI9 sN jA9 sN S T → fx jI9 sN jA9 sN S (crxL n T).2
  | 0, T, h, k => k
  | n + 1, T, h, k => by
    have hq := crc_J h
    have kq := fe_crc (S := S) h k
    unfold crxL
    generalize crc T = Y at hq kq
    repeat' split
    · exact kq
    · exact kq
    · exact kq
    · exact fe_crxL n (cnx Y.2) (crJ_nx hq.1) (fe_nx hq.1.1 kq)
theorem fe_crx {T : MS} (hL : ciL T) (hC : ciC T 80) : fx jI9 sN jA9 sN T (crx T).2 := by
  have h := crS_J hL hC
  have k0 : fx jI9 sN jA9 sN T (crS T) := by unfold crS; exact fx_sI (fx_sI (fx_rfl T) (by decide)) (by decide)
  have k := fe_nx (crS_tr hL) k0
  unfold crx
  generalize cnx (crS T) = X at h k
  unfold crxA
  split
  · exact k
  · exact fe_crxL 8 X h k
theorem hoR_r (x q : Int32) : ∀ (n : Nat) (T : MS) (d : Int32) (l : Int64), (hoR x q n T d l).2.1 = T.1 ∧ (hoR x q n T d l).2.2.1 = T.2.1 ∧ (hoR x q n T d l).2.2.2.2 = T.2.2.2
  | 0, T, d, l => ⟨rfl, rfl, rfl⟩
  | n + 1, T, d, l => by
    rw [hoR_s]
    split
    · exact ⟨rfl, rfl, rfl⟩
    · split
      · exact ⟨rfl, rfl, rfl⟩
      · next k _ _ =>
        obtain ⟨a, b, c⟩ := hoR_r x q n (hoT T x q k (hoM T x q k l)) (d ||| bt1 k) (l - (hoM T x q k l).toInt64 * (T.2.2.1 55 k).toInt64)
        exact ⟨a.trans rfl, b.trans rfl, c.trans rfl⟩
theorem stK_r (x q : Int32) (v : Nat) (X : MS × Int64) : ∀ n, (stK x q v X n).1.2.2.2 = X.1.2.2.2
  | 0 => rfl
  | n + 1 => by
    have ih := stK_r x q v X n
    rw [stK_s]
    generalize stK x q v X n = Y at *
    split
    · exact ih
    · exact ih
theorem stV_r (x q : Int32) (X : MS × Int64) : ∀ n, (stV x q X n).1.2.2.2 = X.1.2.2.2
  | 0 => rfl
  | n + 1 => (stK_r x q (1000 - n) (stV x q X n) 4).trans (stV_r x q X n)
def puR (T S : MS) : Prop := cnR T S ∧ ∃ w, wtR T S w
theorem sub_sub64 (a b : Int64) : a - (a - b) = b := by
  rw [Int64.sub_eq_iff_eq_add, Int64.add_comm, Int64.sub_add_cancel]
theorem se_fin {T S T' : MS} {Y : MS × Int64} {D : Int64} {w : Nat → Nat} {x' q' : Nat} (hx : x' < 10) (hq : q' < 10) (hD : dbR T S) (hf : fnR T S) (eD : D = S.2.2.2 15 (10 * x' + q')) (t2 : T'.2.1 = T.2.1) (t3 : T'.2.2.2 = T.2.2.2) (s3 : Y.1.2.2.2 = S.2.2.2) (e2 : cnR T' Y.1) (e3 : wtR T' Y.1 w) : fnR (cf_lessen T' (nI x') (nI q') (D - Y.2)) (sB Y.1 15 (10 * x' + q') Y.2) ∧ dbR (cf_lessen T' (nI x') (nI q') (D - Y.2)) (sB Y.1 15 (10 * x' + q') Y.2) ∧ puR (cf_lessen T' (nI x') (nI q') (D - Y.2)) (sB Y.1 15 (10 * x' + q') Y.2) ∧ vrR T (cf_lessen T' (nI x') (nI q') (D - Y.2)) S (sB Y.1 15 (10 * x' + q') Y.2) := by
  have cx : (nI x').toNatClampNeg = x' := nI_clamp (by omega)
  have cq : (nI q').toNatClampNeg = q' := nI_clamp (by omega)
  refine ⟨?_, ?_, ⟨e2, w, e3⟩, ?_⟩
  · show (sB T' _ _ _).2.2.2 0 = (sB Y.1 15 _ _).2.2.2 22
    rw [sB_ne _ _ _ (by omega), sB_ne _ _ _ (by decide), t3, s3]
    exact hf
  · intro a b ha hb
    show (sB T' (100 + (nI x').toNatClampNeg) (nI q').toNatClampNeg (T'.2.2.2 (100 + (nI x').toNatClampNeg) (nI q').toNatClampNeg - (D - Y.2))).2.2.2 (100 + a) b = (sB Y.1 15 (10 * x' + q') Y.2).2.2.2 15 (10 * a + b)
    rw [cx, cq, sB_at Y.1, t3, hD x' q' hx hq, eD, sub_sub64, s3]
    by_cases ea : a = x'
    · subst ea
      rw [sB_at, t3]
      by_cases eb : b = q'
      · subst eb
        rw [updL_at, updL_at]
      · rw [updL_ne _ _ eb, updL_ne _ _ (by omega)]
        exact hD _ _ ha hb
    · rw [sB_ne _ _ _ (by omega), updL_ne _ _ (by omega), t3]
      exact hD _ _ ha hb
  · right
    show T'.2.1 30 + 1 = _
    rw [t2]
theorem st_c {T T' : MS} {x q : Int32} {D l : Int64} (h1 : ctwo x q) (h2 : T.2.2.2 (100 + x.toNatClampNeg) q.toNatClampNeg = D) (h3 : ¬ D = 0) (h4 : hoR x q 4 T 0 D = (l, T')) : cf_settle T x q = (l, cf_lessen T' x q (D - l)) := by
  unfold cf_settle
  rw [if_pos h1, h2, if_neg h3, h4]
theorem st_m {S : MS} {x q : Int32} {k : Nat} {D : Int64} {Y : MS × Int64} (h1 : ctwo x q) (hk : (10 * x + q).toNatClampNeg = k) (h2 : S.2.2.2 15 k = D) (h3 : ¬ D = 0) (h4 : stV x q (S, D) 1000 = Y) : mf_settle S x q = (Y.2, sB Y.1 15 k Y.2) := by
  have e : mst S x q = Y := by rw [mst.eq_1, hk, h2, h4]
  unfold mf_settle
  rw [if_pos h1, hk, h2, if_neg h3, e]
theorem g_settle {T S : MS} (hD : dbR T S) (hp : puR T S) (hf : fnR T S) (x q : Int32) : afR (cf_settle T x q) (mf_settle S x q) ∧ dbR (cf_settle T x q).2 (mf_settle S x q).2 ∧ puR (cf_settle T x q).2 (mf_settle S x q).2 ∧ vrR T (cf_settle T x q).2 S (mf_settle S x q).2 := by
  by_cases c1 : ctwo x q
  · obtain ⟨x', hx, ex⟩ := vp_in_of (vin c1.1 (by decide) : vp_in x 10) (by decide)
    obtain ⟨q', hq, eq⟩ := vp_in_of (vin c1.2.1 (by decide) : vp_in q 10) (by decide)
    subst ex eq
    have cx : (nI x').toNatClampNeg = x' := nI_clamp (by omega)
    have cq : (nI q').toNatClampNeg = q' := nI_clamp (by omega)
    have hT : T.2.2.2 (100 + (nI x').toNatClampNeg) (nI q').toNatClampNeg = S.2.2.2 15 (10 * x' + q') := by rw [cx, cq, hD x' q' hx hq]
    by_cases c2 : S.2.2.2 15 (10 * x' + q') = 0
    · have e1 : cf_settle T (nI x') (nI q') = cf_fd T 2 := by
        unfold cf_settle
        rw [if_pos c1, hT, if_pos c2]
      have e2 : mf_settle S (nI x') (nI q') = mf_finding S (-1000000000002) := by
        unfold mf_settle
        rw [if_pos c1, ix10 hx hq, if_pos c2]
      rw [e1, e2]
      exact ⟨fd2 hf, db_fd hD _ _, hp, Or.inl ⟨rfl, rfl⟩⟩
    · obtain ⟨hc, w, hw⟩ := hp
      obtain ⟨T', e1, e2, e3⟩ := se_eq hx hq hw hc (S.2.2.2 15 (10 * x' + q'))
      obtain ⟨h1, h2, h3⟩ := hoR_r (nI x') (nI q') 4 T 0 (S.2.2.2 15 (10 * x' + q'))
      have s1 := stV_r (nI x') (nI q') (S, S.2.2.2 15 (10 * x' + q')) 1000
      obtain ⟨Y, hY⟩ : ∃ Y, stV (nI x') (nI q') (S, S.2.2.2 15 (10 * x' + q')) 1000 = Y := ⟨_, rfl⟩
      rw [hY] at e1 e2 e3 s1
      rw [e1] at h1 h2 h3
      rw [st_c c1 hT c2 e1, st_m c1 (ix10 hx hq) rfl c2 hY]
      clear hY e1
      obtain ⟨r1, r2, r3, r4⟩ := se_fin (T' := T') hx hq hD hf rfl h2 h3 s1 e2 e3
      exact ⟨⟨rfl, r1⟩, r2, r3, r4⟩
  · have e1 : cf_settle T x q = cf_fd T 1 := by
      unfold cf_settle
      rw [if_neg c1]
    have e2 : mf_settle S x q = mf_finding S (-1000000000001) := by
      unfold mf_settle
      rw [if_neg c1]
    rw [e1, e2]
    exact ⟨fd1 hf, db_fd hD _ _, hp, Or.inl ⟨rfl, rfl⟩⟩
theorem wf_b {w f : Int32} (hw : 0 ≤ w ∧ w ≤ 1000) (hf : 0 ≤ f ∧ f ≤ 1000) : ∃ n, n ≤ 1000 ∧ w * f / 1000 = nI n := by
  obtain ⟨a, ha, ea⟩ := vp_in_of (vin hw (by decide) : vp_in w 1001) (by decide)
  obtain ⟨b, hb, eb⟩ := vp_in_of (vin hf (by decide) : vp_in f 1001) (by decide)
  have hab : a * b ≤ 1000 * 1000 := Nat.mul_le_mul (by omega) (by omega)
  refine ⟨a * b / 1000, by omega, ?_⟩
  rw [ea, eb, nI_mul, show (1000 : Int32) = nI 1000 from by decide, pk_div (by omega) (by decide) (by decide)]
theorem g_coin {T S : MS} (hp : puR T S) (hf : fnR T S) (k w f : Int32) : afR (cf_coin T k w f) (mf_coin S k w f) ∧ puR (cf_coin T k w f).2 (mf_coin S k w f).2 := by
  unfold cf_coin mf_coin
  by_cases c1 : (0 ≤ k ∧ k ≤ 3) ∧ (0 ≤ w ∧ w ≤ 1000) ∧ (0 ≤ f ∧ f ≤ 1000)
  · rw [if_pos c1, if_pos c1]
    obtain ⟨n, hn, en⟩ := wf_b c1.2.1 c1.2.2
    obtain ⟨k', hk, ek⟩ := vp_in_of (vin c1.1 (by decide) : vp_in k 4) (by decide)
    have ck : k.toNatClampNeg = k' := by rw [ek, nI_clamp (by omega)]
    rw [en, ck]
    obtain ⟨hc, g, hw⟩ := hp
    refine ⟨⟨?_, hf⟩, fun a b ha hb => ?_, fun j => if j = k' then n else g j, fun j hj => ?_⟩
    · show (upd (T.2.2.1 55) k' (nI n) k').toInt64 = (upd (S.2.2.1 16) k' (nI n) k').toInt64
      rw [updA_at, updA_at]
    · show (sA T 55 k' (nI n)).2.2.1 (110 + a) b = (sA S 16 k' (nI n)).2.2.1 17 (4 * a + b)
      rw [sA_ne _ _ _ (by omega), sA_ne _ _ _ (by decide)]
      exact hc a b ha hb
    · show upd (T.2.2.1 55) k' (nI n) j = nI (if j = k' then n else g j) ∧ upd (S.2.2.1 16) k' (nI n) j = nI (if j = k' then n else g j) ∧ (if j = k' then n else g j) ≤ 1000
      by_cases e : j = k'
      · rw [if_pos e, e, updA_at, updA_at]
        exact ⟨rfl, rfl, hn⟩
      · rw [if_neg e, updA_ne _ _ e, updA_ne _ _ e]
        exact hw j hj
  · rw [if_neg c1, if_neg c1]
    exact ⟨fd1 hf, hp⟩
theorem g_purse {T S : MS} (hp : puR T S) (hf : fnR T S) (x k v : Int32) : afR (cf_purse T x k v) (mf_purse S x k v) ∧ puR (cf_purse T x k v).2 (mf_purse S x k v).2 := by
  unfold cf_purse mf_purse
  by_cases c1 : (0 ≤ x ∧ x ≤ 9) ∧ (0 ≤ k ∧ k ≤ 3) ∧ (0 ≤ v ∧ v ≤ 1000)
  · rw [if_pos c1, if_pos c1]
    obtain ⟨k', hk, ek⟩ := vp_in_of (vin c1.2.1 (by decide) : vp_in k 4) (by decide)
    obtain ⟨x', hx, ex⟩ := vp_in_of (vin c1.1 (by decide) : vp_in x 10) (by decide)
    subst ek ex
    have ck : (nI k').toNatClampNeg = k' := nI_clamp (by omega)
    have cx : (nI x').toNatClampNeg = x' := nI_clamp (by omega)
    rw [ck, cx, ix4n hx hk]
    obtain ⟨hc, g, hw⟩ := hp
    refine ⟨⟨?_, hf⟩, fun a b ha hb => ?_, g, fun j hj => ?_⟩
    · exact congrArg Int32.toInt64 (hc x' k' hx hk)
    · show (sA T (110 + x') k' v).2.2.1 (110 + a) b = (sA S 17 (4 * x' + k') v).2.2.1 17 (4 * a + b)
      rw [sA_at S]
      by_cases e1 : a = x'
      · subst e1
        rw [sA_at]
        by_cases e2 : b = k'
        · subst e2
          rw [updA_at, updA_at]
        · rw [updA_ne _ _ e2, updA_ne _ _ (by omega)]
          exact hc _ b ha hb
      · rw [sA_ne _ _ _ (by omega), updA_ne _ _ (by omega)]
        exact hc a b ha hb
    · show (sA T (110 + x') k' v).2.2.1 55 j = _ ∧ (sA S 17 (4 * x' + k') v).2.2.1 16 j = _ ∧ _
      rw [sA_ne _ _ _ (by omega), sA_ne _ _ _ (by decide)]
      exact hw j hj
  · rw [if_neg c1, if_neg c1]
    exact ⟨fd1 hf, hp⟩
theorem me_has {T S : MS} (hp : puR T S) (hf : fnR T S) (x k : Int32) : afR (cf_has T x k) (mf_has S x k) := by
  have hm : (-1 : Int32).toInt = -1 := by decide
  have h0 : (0 : Int32).toInt = 0 := by decide
  have h3 : (3 : Int32).toInt = 3 := by decide
  have hk1 : (k = -1 ∨ (0 ≤ k ∧ k ≤ 3)) ↔ (-1 ≤ k ∧ k ≤ 3) := by
    rw [← Int32.toInt_inj, Int32.le_iff_toInt_le, Int32.le_iff_toInt_le, Int32.le_iff_toInt_le, hm, h0, h3]
    omega
  unfold cf_has mf_has
  by_cases c1 : (0 ≤ x ∧ x ≤ 9) ∧ (k = -1 ∨ (0 ≤ k ∧ k ≤ 3))
  · rw [if_pos c1, if_pos (show (0 ≤ x ∧ x ≤ 9) ∧ (-1 ≤ k ∧ k ≤ 3) from ⟨c1.1, hk1.mp c1.2⟩)]
    obtain ⟨x', hx, ex⟩ := vp_in_of (vin c1.1 (by decide) : vp_in x 10) (by decide)
    obtain ⟨hc, g, hw⟩ := hp
    subst ex
    have cx : (nI x').toNatClampNeg = x' := nI_clamp (by omega)
    by_cases c2 : k = -1
    · rw [if_pos c2, if_pos (show k < 0 by rw [c2]; decide)]
      refine ⟨?_, hf⟩
      have key : ∀ n, n ≤ 4 → chasT T (nI x') n = mhasT S (nI x') n := by
        intro n
        induction n with
        | zero => exact fun _ => rfl
        | succ n ih =>
          intro hn
          show chasT T (nI x') n + (T.2.2.1 (110 + (nI x').toNatClampNeg) n).toInt64 * (T.2.2.1 55 n).toInt64 = mhasT S (nI x') n + (S.2.2.1 17 (4 * nI x' + nI n).toNatClampNeg).toInt64 * (S.2.2.1 16 n).toInt64
          rw [ih (by omega), cx, ix4n hx (by omega), hc x' n hx (by omega), (hw n (by omega)).1, (hw n (by omega)).2.1]
      exact key 4 (Nat.le_refl 4)
    · have hk0 : 0 ≤ k ∧ k ≤ 3 := c1.2.elim (fun q => absurd q c2) id
      rw [if_neg c2, if_neg (Int32.not_lt.mpr hk0.1)]
      obtain ⟨k', hk, ek⟩ := vp_in_of (vin hk0 (by decide) : vp_in k 4) (by decide)
      refine ⟨?_, hf⟩
      show (T.2.2.1 (110 + (nI x').toNatClampNeg) k.toNatClampNeg).toInt64 = (S.2.2.1 17 (4 * nI x' + k).toNatClampNeg).toInt64
      rw [ek, cx, nI_clamp (by omega), ix4n hx hk, hc x' k' hx hk]
  · rw [if_neg c1, if_neg (fun q => c1 ⟨q.1, hk1.mpr q.2⟩)]
    exact fd1 hf
/-! the rest: gain, road, seat; votes, offers; told; counts; text -/
def gnR (T S : MS) : Prop := T.1 15 = S.1 1
theorem g_gain {T S : MS} (hg : gnR T S) (hf : fnR T S) (v : Int32) : afR (cf_gain T v) (mf_gain S v) ∧ gnR (cf_gain T v).2 (mf_gain S v).2 := by
  unfold cf_gain mf_gain
  split
  · exact ⟨⟨congrArg Int32.toInt64 hg, hf⟩, rfl⟩
  · exact ⟨fd1 hf, hg⟩
theorem g_road {T S : MS} (hr : rsR T S) (hf : fnR T S) (t v : Int32) : afR (cf_road T t v) (mf_road S t v) ∧ rsR (cf_road T t v).2 (mf_road S t v).2 := by
  unfold cf_road mf_road
  by_cases c : (1 ≤ t ∧ t ≤ 4) ∧ (0 ≤ v ∧ v ≤ 30)
  · rw [if_pos c, if_pos c]
    refine ⟨⟨by show (T.2.2.1 1 t.toNatClampNeg).toInt64 = (S.2.2.1 2 t.toNatClampNeg).toInt64; rw [hr.1], hf⟩, ?_, hr.2.1, fun u hu => ?_⟩
    · show upd (T.2.2.1 1) t.toNatClampNeg v = upd (S.2.2.1 2) t.toNatClampNeg v
      rw [hr.1]
    · show 0 ≤ (upd (T.2.2.1 1) t.toNatClampNeg v u).toInt ∧ (upd (T.2.2.1 1) t.toNatClampNeg v u).toInt ≤ 30
      by_cases e : u = t.toNatClampNeg
      · rw [e, updA_at]
        exact inR c.2
      · rw [updA_ne _ _ e]
        exact hr.2.2 u hu
  · rw [if_neg c, if_neg c]
    exact ⟨fd1 hf, hr⟩
theorem g_seat {T S : MS} (hr : rsR T S) (hf : fnR T S) (x t : Int32) : afR (cf_seat T x t) (mf_seat S x t) ∧ rsR (cf_seat T x t).2 (mf_seat S x t).2 := by
  unfold cf_seat mf_seat
  by_cases c : (0 ≤ x ∧ x ≤ 9) ∧ (0 ≤ t ∧ t ≤ 4)
  · rw [if_pos c, if_pos c]
    refine ⟨⟨by show (T.2.2.1 2 x.toNatClampNeg).toInt64 = (S.2.2.1 3 x.toNatClampNeg).toInt64; rw [hr.2.1], hf⟩, hr.1, ?_, hr.2.2⟩
    show upd (T.2.2.1 2) x.toNatClampNeg t = upd (S.2.2.1 3) x.toNatClampNeg t
    rw [hr.2.1]
  · rw [if_neg c, if_neg c]
    exact ⟨fd1 hf, hr⟩
def voR (T S : MS) : Prop := ∀ tt, tt < 5 → vR T S tt
theorem g_vote {T S : MS} (h : voR T S) (hf : fnR T S) (x t v : Int32) : afR (cf_vote T x t v) (mf_vote S x t v) ∧ voR (cf_vote T x t v).2 (mf_vote S x t v).2 := by
  unfold cf_vote mf_vote
  by_cases hc : (0 ≤ x ∧ x ≤ 9) ∧ (0 ≤ t ∧ t ≤ 4) ∧ (¬ v = 0 → (5000 ≤ v ∧ v ≤ 20000))
  · rw [if_pos hc, if_pos hc]
    have hx : vp_in x 10 := vin hc.1 (by decide)
    have ht : vp_in t 5 := vin hc.2.1 (by decide)
    have hx' := vcl hx
    have ht' := vcl ht
    have hv0 : 0 ≤ v.toInt := by
      by_cases e : v = 0
      · rw [e]; decide
      · have := inR (hc.2.2 e)
        rw [show (5000 : Int32).toInt = 5000 from by decide] at this
        omega
    refine ⟨⟨?_, hf⟩, fun t9 ht9 x9 hx9 => ?_⟩
    · show (T.2.2.1 (120 + t.toNatClampNeg) x.toNatClampNeg).toInt64 = (S.2.2.1 18 (5 * x + t).toNatClampNeg).toInt64
      rw [ix5 (by decide) hx ht, (h _ (vcl ht) _ (vcl hx)).1]
    · show (sA T (120 + t.toNatClampNeg) x.toNatClampNeg v).2.2.1 (120 + t9) x9 = (sA S 18 (5 * x + t).toNatClampNeg v).2.2.1 18 (5 * x9 + t9) ∧ 0 ≤ ((sA T (120 + t.toNatClampNeg) x.toNatClampNeg v).2.2.1 (120 + t9) x9).toInt
      rw [sA_at S, ix5 (by decide) hx ht]
      by_cases e1 : t9 = t.toNatClampNeg
      · rw [e1, sA_at]
        by_cases e2 : x9 = x.toNatClampNeg
        · rw [e2, updA_at, updA_at]
          exact ⟨rfl, hv0⟩
        · rw [updA_ne _ _ e2, updA_ne _ _ (by omega)]
          exact h _ (by omega) x9 hx9
      · rw [sA_ne _ _ _ (by omega), updA_ne _ _ (by omega)]
        exact h t9 ht9 x9 hx9
  · rw [if_neg hc, if_neg hc]
    exact ⟨fd1 hf, h⟩
theorem g_offer {T S : MS} (h : oR T S) (hf : fnR T S) (f t v : Int32) : afR (cf_offer T f t v) (mf_offer S f t v) ∧ oR (cf_offer T f t v).2 (mf_offer S f t v).2 := by
  unfold cf_offer mf_offer
  by_cases hc : (0 ≤ f ∧ f ≤ 4) ∧ (0 ≤ t ∧ t ≤ 4) ∧ ¬ f = t ∧ (0 ≤ v ∧ v ≤ 20000)
  · rw [if_pos hc, if_pos hc]
    have hx : vp_in f 5 := vin hc.1 (by decide)
    have ht : vp_in t 5 := vin hc.2.1 (by decide)
    have hx' := vcl hx
    have ht' := vcl ht
    refine ⟨⟨?_, hf⟩, fun x9 t9 hx9 ht9 => ?_⟩
    · show (T.2.2.1 (130 + f.toNatClampNeg) t.toNatClampNeg).toInt64 = (S.2.2.1 19 (5 * f + t).toNatClampNeg).toInt64
      rw [ix5 (by decide) hx ht, h _ _ (vcl hx) (vcl ht)]
    · show (sA T (130 + f.toNatClampNeg) t.toNatClampNeg v).2.2.1 (130 + x9) t9 = (sA S 19 (5 * f + t).toNatClampNeg v).2.2.1 19 (5 * x9 + t9)
      rw [sA_at S, ix5 (by decide) hx ht]
      by_cases e1 : x9 = f.toNatClampNeg
      · rw [e1, sA_at]
        by_cases e2 : t9 = t.toNatClampNeg
        · rw [e2, updA_at, updA_at]
        · rw [updA_ne _ _ e2, updA_ne _ _ (by omega)]
          exact h _ t9 (by omega) ht9
      · rw [sA_ne _ _ _ (by omega), updA_ne _ _ (by omega)]
        exact h x9 t9 hx9 ht9
  · rw [if_neg hc, if_neg hc]
    exact ⟨fd1 hf, h⟩
theorem mvR_r (T : MS) (t : Int32) : ∀ n, (mvR T t n).2.2.2.2 = T.2.2.2
  | 0 => rfl
  | n + 1 => by
    have ih := mvR_r T t n
    have hi : ∀ (m : Nat) (U : MS) (v : Int32), (insR m U v).2.2.2 = U.2.2.2 := by
      intro m
      induction m with
      | zero => exact fun _ _ => rfl
      | succ m im =>
        intro U v
        show (if U.2.2.1 62 m ≤ v then sA U 62 (m + 1) v else insR m (sA U 62 (m + 1) (U.2.2.1 62 m)) v).2.2.2 = _
        split
        · rfl
        · exact (im _ v).trans rfl
    show (if (mvR T t n).2.2.2.1 (120 + t.toNatClampNeg) n = 0 then mvR T t n else ((mvR T t n).1 + 1, insR (mvR T t n).1 (mvR T t n).2 ((mvR T t n).2.2.2.1 (120 + t.toNatClampNeg) n))).2.2.2.2 = _
    generalize mvR T t n = Y at *
    split
    · exact ih
    · exact (hi _ _ _).trans ih
theorem rtR_c (S : MS) (t : Int32) : ∀ n i, rtR S t n i = mf_finding S (-1000000000002) ∨ ∃ v : Int32, rtR S t n i = (v.toInt64, S)
  | 0, i => Or.inl rfl
  | n + 1, i => by
    show (if rtHit S t i then ((S.2.2.1 18 (5 * nI i + t).toNatClampNeg).toInt64, S) else rtR S t n (i + 1)) = _ ∨ ∃ v : Int32, (if rtHit S t i then ((S.2.2.1 18 (5 * nI i + t).toNatClampNeg).toInt64, S) else rtR S t n (i + 1)) = _
    split
    · exact Or.inr ⟨_, rfl⟩
    · exact rtR_c S t n (i + 1)
theorem i64f (v : Int32) : ¬ v.toInt64 = -1000000000002 := by
  intro q
  have := congrArg Int64.toInt q
  rw [Int32.toInt_toInt64, show (-1000000000002 : Int64).toInt = -1000000000002 from by decide] at this
  have := v.le_toInt
  omega
theorem g_rate {T S : MS} (h : voR T S) (hf : fnR T S) (t : Int32) : afR (cf_rate T t) (mf_rate S t) := by
  have ha := rate_eq h t
  refine ⟨ha, ?_⟩
  have hm := mvR_r T t 10
  revert ha
  unfold cf_rate mf_rate
  by_cases c : 0 ≤ t ∧ t ≤ 4
  · rw [if_pos c, if_pos c]
    intro ha
    generalize mvR T t 10 = Y at *
    have hf2 : fnR Y.2 S := fn_k hf (by rw [hm]) rfl
    rcases rtR_c S t 10 0 with e | ⟨v, e⟩
    · rw [e] at ha ⊢
      by_cases c2 : cf_mid T t = 0
      · rw [if_pos c2]
        exact (fd2 hf2).2
      · rw [if_neg c2] at ha
        exact absurd ha (i64f _)
    · rw [e] at ha ⊢
      by_cases c2 : cf_mid T t = 0
      · rw [if_pos c2] at ha
        have ha' : (-1000000000000 : Int64) - (2 : Int32).toInt64 = v.toInt64 := ha
        exact absurd ha'.symm (by rw [show (-1000000000000 : Int64) - (2 : Int32).toInt64 = -1000000000002 from by decide]; exact i64f v)
      · rw [if_neg c2]
        exact hf2
  · rw [if_neg c, if_neg c]
    intro _
    exact (fd1 hf).2
theorem tnF2_r (S : MS) : ∀ n, (tnF2 S n).2.2 = S.2.2
  | 0 => rfl
  | n + 1 => by
    have ih := tnF2_r S n
    show (tnS2 (tnF2 S n) n).2.2 = _
    generalize tnF2 S n = Y at *
    unfold tnS2 mlook2 mf_best
    repeat' split
    all_goals exact ih
theorem tnF3_r (S : MS) : ∀ n, (tnF3 S n).2.2 = S.2.2
  | 0 => rfl
  | n + 1 => by
    have ih := tnF3_r S n
    show (tnS3 (tnF3 S n) n).2.2 = _
    generalize tnF3 S n = Y at *
    unfold tnS3 mlook3 mf_best
    repeat' split
    all_goals exact ih
theorem tnF4_r (S : MS) : ∀ n, (tnF4 S n).2.2 = S.2.2
  | 0 => rfl
  | n + 1 => by
    have ih := tnF4_r S n
    show (tnS4 (tnF4 S n) n).2.2 = _
    generalize tnF4 S n = Y at *
    unfold tnS4 mlook4 mf_best
    repeat' split
    all_goals exact ih
theorem mtn_r (S : MS) : (mtn S).2.2 = S.2.2 := by
  unfold mtn
  have a := tnF4_r (tnF3 (tnF2 (mtn0 S) 625) 625) 625
  have b := tnF3_r (tnF2 (mtn0 S) 625) 625
  have c := tnF2_r (mtn0 S) 625
  rw [a, b, c]
  rfl
theorem g_turn {T S : MS} (h : oR T S) (hf : fnR T S) : afR (cf_turn T) (mf_turn S) := by
  have ha := turn_eq h
  refine ⟨ha, ?_⟩
  have hm := mtn_r S
  revert ha
  unfold cf_turn mf_turn
  generalize mtn S = Y at *
  intro ha
  have hf2 : fnR T Y := fn_k hf rfl (by rw [hm])
  by_cases c1 : cf_best T = 0
  · rw [if_pos c1] at ha ⊢
    by_cases c2 : Y.2.1 52 = -1000000000002
    · rw [if_pos c2]
      exact (fd2 hf2).2
    · rw [if_neg c2] at ha
      have ha' : (-1000000000000 : Int64) - (2 : Int32).toInt64 = Y.2.1 52 := ha
      exact absurd ha'.symm (by rw [show (-1000000000000 : Int64) - (2 : Int32).toInt64 = -1000000000002 from by decide]; exact c2)
  · rw [if_neg c1] at ha ⊢
    by_cases c2 : Y.2.1 52 = -1000000000002
    · rw [if_pos c2] at ha
      exact absurd ha (i64f _)
    · rw [if_neg c2]
      exact hf2
theorem tl30' {T S : MS} {B : List BL} (hC : cinv T B) (h : T.1 17 = S.1 20) : T.1 17 < 30 ↔ ¬ S.1 20 = 30 := by
  obtain ⟨n, hn, e⟩ := hC.2.2.1
  rw [← h, e, show (30 : Int32) = nI 30 from by decide, nI_ltI (by omega) (by decide), nI_eq (by omega) (by decide)]
  omega
theorem g_tell {T S : MS} {B : List BL} (hC : cinv T B) (h : toR T S) (hf : fnR T S) (v : Int32) : afR (cf_tell T v) (mf_tell S v) ∧ toR (cf_tell T v).2 (mf_tell S v).2 := by
  unfold cf_tell mf_tell
  by_cases hc : T.1 17 < 30
  · rw [if_pos hc, if_neg ((tl30' hC h.1).mp hc)]
    refine ⟨⟨?_, hf⟩, ?_, ?_⟩
    · show (T.1 17 + 1).toInt64 = (S.1 20 + 1).toInt64
      rw [h.1]
    · show T.1 17 + 1 = S.1 20 + 1
      rw [h.1]
    · show upd (T.2.2.1 5) (T.1 17).toNatClampNeg v = upd (S.2.2.1 21) (S.1 20).toNatClampNeg v
      rw [h.1, h.2]
  · rw [if_neg hc, if_pos (Classical.not_not.mp (fun q => hc ((tl30' hC h.1).mpr q)))]
    exact ⟨fd4 hf, h⟩
theorem g_found {T S : MS} (hf : fnR T S) (q : Int32) : afR (cf_found T q) (mf_found S q) := by
  unfold cf_found mf_found
  by_cases c : 1 ≤ q ∧ q ≤ 7
  · rw [if_pos c, if_pos c]
    exact ⟨congrFun hf _, hf⟩
  · rw [if_neg c, if_neg c]
    exact fd1 hf
theorem g_count {n : Nat} {T S : MS} {B : List BL} (hd : dyR n T S) (hb : blR n T B S) (hu : cuR T S) (hD : dbR T S) (ht : toR T S) (hx : txR T S) (hf : fnR T S) (x : Int32) : afR (cf_count T x) (mf_count S x) := by
  unfold cf_count mf_count
  by_cases q0 : x = 0
  · rw [if_pos q0, if_pos q0]
    obtain ⟨d, -, e1, e2⟩ := hd
    exact ⟨by show (T.1 14).toInt64 = S.2.1 0; rw [e1, e2], hf⟩
  rw [if_neg q0, if_neg q0]
  by_cases q1 : x = 1
  · rw [if_pos q1, if_pos q1]
    exact ⟨congrArg Int32.toInt64 hb.1, hf⟩
  rw [if_neg q1, if_neg q1]
  by_cases q2 : x = 2
  · rw [if_pos q2, if_pos q2]
    obtain ⟨m, e1, e2, -⟩ := hu
    exact ⟨congrArg Int32.toInt64 (e1.trans e2.symm), hf⟩
  rw [if_neg q2, if_neg q2]
  by_cases q3 : x = 3
  · rw [if_pos q3, if_pos q3]
    exact ⟨tot_eq hD 100 (Nat.le_refl 100), hf⟩
  rw [if_neg q3, if_neg q3]
  by_cases q4 : x = 4
  · rw [if_pos q4, if_pos q4]
    exact ⟨congrArg Int32.toInt64 ht.1, hf⟩
  rw [if_neg q4, if_neg q4]
  by_cases q5 : x = 5
  · rw [if_pos q5, if_pos q5]
    obtain ⟨L, -, e1, e2, -⟩ := hx
    exact ⟨congrArg Int32.toInt64 (e1.trans e2.symm), hf⟩
  rw [if_neg q5, if_neg q5]
  exact fd1 hf
theorem g_binds {T S : MS} (hu : cuR T S) (hf : fnR T S) (la am hp kd rd : Int32) : afR (cf_binds T la am hp kd rd) (mf_binds S la am hp kd rd) := by
  unfold cf_binds mf_binds
  by_cases c : ¬ la < 0 ∧ ¬ am < 0 ∧ ¬ hp < 0 ∧ ¬ kd < 0 ∧ 0 ≤ rd
  · rw [if_pos c, if_pos c, bn_eq (T := T) (la := la) (am := am) (hp := hp) (kd := kd) (rd := rd) rfl hu]
    split
    · exact ⟨rfl, hf⟩
    · exact ⟨rfl, hf⟩
  · rw [if_neg c, if_neg c]
    exact fd1 hf
theorem apF_r (T : MS) (e : Int64) : ∀ n, (apF T e n).2.2.2 = T.2.2.2
  | 0 => rfl
  | n + 1 => apF_r T e n
theorem fdF_r (S : MS) (e : Int64) : ∀ n, (fdF S e n).2.2.2 = S.2.2.2
  | 0 => rfl
  | n + 1 => fdF_r S e n
theorem apF_20 (T : MS) (e : Int64) {L : Nat} (h : T.1 20 = nI L) : ∀ n, (apF T e n).1 20 = nI (L + n)
  | 0 => h
  | n + 1 => by
    show (apF T e n).1 20 + 1 = nI (L + n + 1)
    rw [apF_20 T e h n, nI_1]
theorem fdF_36' (S : MS) (e : Int64) {L : Nat} (h : S.1 36 = nI L) : ∀ n, (fdF S e n).1 36 = nI (L + n)
  | 0 => h
  | n + 1 => by
    show (fdF S e n).1 36 + 1 = nI (L + n + 1)
    rw [fdF_36' S e h n, nI_1]
theorem g_feed {T S : MS} (hx : txR T S) (hf : fnR T S) (e : Int64) (n : Int32) : afR (cf_feed T e n) (mf_feed S e n) := by
  obtain ⟨L, -, e1, e2, -⟩ := hx
  have h : T.1 20 = S.1 36 := e1.trans e2.symm
  unfold cf_feed mf_feed
  rw [h]
  by_cases c : 1 ≤ n ∧ n ≤ 8
  · rw [if_pos c, if_pos c]
    by_cases c2 : S.1 36 + n ≤ 400
    · rw [if_pos c2, if_pos c2]
      refine ⟨?_, fn_k hf (by show (apF T e _).2.2.2 0 = _; rw [apF_r]) (by show (fdF S e _).2.2.2 22 = _; rw [fdF_r])⟩
      show ((apF T e n.toNatClampNeg).1 20).toInt64 = ((fdF S e n.toNatClampNeg).1 36).toInt64
      rw [apF_20 T e e1, fdF_36' S e e2]
    · rw [if_neg c2, if_neg c2]
      exact fd4 hf
  · rw [if_neg c, if_neg c]
    exact fd1 hf
/-! read -/
theorem rd36 (S : MS) : (mf_read S).2.1 36 = 0 := by
  unfold mf_read rdC rdE
  generalize rdT S = X
  split
  · rfl
  · obtain ⟨q1, -⟩ := cp32_sp (cp8 (sI (sI X.2 36 0) 23 ((sI X.2 36 0).1 29)) 8) 32
    obtain ⟨p1, -⟩ := cp8_sp (sI (sI X.2 36 0) 23 ((sI X.2 36 0).1 29)) 8
    generalize cp8 (sI (sI X.2 36 0) 23 ((sI X.2 36 0).1 29)) 8 = V at q1 p1
    generalize cp32 V 32 = Z at q1
    show Z.1 36 = 0
    rw [q1, p1]
    rfl
theorem ft_k {T S U V : MS} (h : (T.1 21).toInt64 = S.2.1 37) (h1 : U.1 21 = T.1 21) (h2 : V.2.1 37 = S.2.1 37) : (U.1 21).toInt64 = V.2.1 37 := by rw [h1, h2, h]
theorem cp8_L (U : MS) : ∀ n, (cp8 U n).2.1 = U.2.1
  | 0 => rfl
  | n + 1 => cp8_L U n
theorem cp32_L (U : MS) : ∀ n, (cp32 U n).2.1 = U.2.1
  | 0 => rfl
  | n + 1 => cp32_L U n
theorem cp37 {S : MS} : (mf_read S).2.2.1 37 = (rdT S).2.2.1 37 := by
  unfold mf_read rdC rdE
  generalize rdT S = X
  split
  · rfl
  · have q1 := cp32_L (cp8 (sI (sI X.2 36 0) 23 ((sI X.2 36 0).1 29)) 8) 32
    have p1 := cp8_L (sI (sI X.2 36 0) 23 ((sI X.2 36 0).1 29)) 8
    generalize cp8 (sI (sI X.2 36 0) 23 ((sI X.2 36 0).1 29)) 8 = V at q1 p1
    generalize cp32 V 32 = Z at q1
    show Z.2.1 37 = X.2.2.1 37
    rw [q1, p1]
    rfl
theorem ft_G {T S : MS} {X : Int32 × MS} (h : txR T S) (eX : X = crx T) (h1 : X.1 = 1) : (-1 : Int32).toInt64 = (mf_read S).2.2.1 37 := by
  obtain ⟨L, hL, hr⟩ := rd_lk h
  rw [← eX] at hr
  rcases hr with ⟨a, -⟩ | ⟨-, b, n, c⟩
  · rw [h1] at a; exact absurd a (by decide)
  · rw [cp37, c.1.2.2.2.2]
    decide
theorem ft_B {T S : MS} {X : Int32 × MS} (h : txR T S) (eX : X = crx T) (h1 : X.1 = 0) : (X.2.1 25).toInt64 = (mf_read S).2.2.1 37 := by
  obtain ⟨L, hL, hr⟩ := rd_lk h
  rw [← eX] at hr
  rcases hr with ⟨-, b, W, w1, w2, w3⟩ | ⟨a, -⟩
  · rw [cp37, w2, w3]
  · rw [h1] at a; exact absurd a (by decide)
/-! read, of the class: what it leaves -/
theorem fcr_j {T : MS} {B : List BL} (hC : cinv T B) {X : Int32 × MS} (eX : X = crx T) : fx jI9 sN jA9 s0 T X.2 ∧ crJ X.2 := by
  rw [eX]
  exact ⟨fc_crx hC.2.2.2.1 hC.2.2.2.2.2.1, (crx_J hC.2.2.2.1 hC.2.2.2.2.2.1).1⟩
theorem fcr_b {T : MS} {B : List BL} (hC : cinv T B) {X : Int32 × MS} (eX : X = crx T) : fx kI9 sN kA9 s0 T (cf_fd (cf_endT X.2 0) 6).2 := fx_fd (fc_endT 0 (fx_jk (fcr_j hC eX).1)) rfl
theorem fcr_ci {T : MS} {B : List BL} (hC : cinv T B) {X : Int32 × MS} (eX : X = crx T) (g : Int32) : cinv (cf_endT X.2 g) B ∧ cinv (swT (cf_endT X.2 g)) B := ci_readX g hC (fcr_j hC eX).2 (fcr_j hC eX).1
theorem fcr_gI {T : MS} {B : List BL} (hC : cinv T B) {X : Int32 × MS} (eX : X = crx T) {j : Nat} (hj : j < 200) (h : ¬ kI9 j) : (swT (cf_endT X.2 1)).1 j = T.1 j := (swT_I _ hj (fun q => h (by omega)) (fun q => h (by omega))).trans ((fc_endT 1 (fx_jk (fcr_j hC eX).1)).1 j h)
theorem fcr_gA {T : MS} {B : List BL} (hC : cinv T B) {X : Int32 × MS} (eX : X = crx T) {j : Nat} (hj : j < 200) (h : ¬ kA9 j) : (swT (cf_endT X.2 1)).2.2.1 j = T.2.2.1 j := (swT_A _ hj (fun q => h (by omega)) (fun q => h (by omega))).trans ((fc_endT 1 (fx_jk (fcr_j hC eX).1)).2.2.1 j h)
theorem cp23 {S : MS} (h : ¬ (rdT S).1 = 0) : (mf_read S).1 = ((rdT S).2.1 29).toInt64 := by
  unfold mf_read rdC rdE
  generalize rdT S = X at *
  rw [if_neg h]
  obtain ⟨q1, -⟩ := cp32_sp (cp8 (sI (sI X.2 36 0) 23 ((sI X.2 36 0).1 29)) 8) 32
  obtain ⟨p1, -⟩ := cp8_sp (sI (sI X.2 36 0) 23 ((sI X.2 36 0).1 29)) 8
  generalize cp8 (sI (sI X.2 36 0) 23 ((sI X.2 36 0).1 29)) 8 = V at q1 p1
  generalize cp32 V 32 = Z at q1
  show (Z.1 23).toInt64 = (X.2.1 29).toInt64
  rw [q1, p1]
  rfl
theorem rdT_r (S : MS) : (rdT S).2.2.2.2 = S.2.2.2 := by
  obtain ⟨-, -, -, h⟩ := ft_rdT S
  funext q
  exact h q (fun k => k)
theorem cp8_b (U : MS) : ∀ n, (cp8 U n).2.2.2 = U.2.2.2
  | 0 => rfl
  | n + 1 => cp8_b U n
theorem cp32_b (U : MS) : ∀ n, (cp32 U n).2.2.2 = U.2.2.2
  | 0 => rfl
  | n + 1 => cp32_b U n
theorem crx_r {T : MS} {B : List BL} (hC : cinv T B) : (crx T).2.2.2.2 = T.2.2.2 ∧ (∀ j, ¬ jI9 j → (crx T).2.1 j = T.1 j) ∧ (∀ q, ¬ jA9 q → (crx T).2.2.2.1 q = T.2.2.1 q) ∧ (crx T).2.2.1 = T.2.1 := by
  obtain ⟨h1, h2, h3, h4⟩ := fe_crx hC.2.2.2.1 hC.2.2.2.2.2.1
  exact ⟨funext (fun q => h4 q (fun k => k)), h1, h3, funext (fun q => h2 q (fun k => k))⟩
theorem mrd_G {S : MS} (h : (rdT S).1 = 1) : (mf_read S).2 = rdC S := by
  unfold mf_read
  rw [if_neg (by rw [h]; decide)]
theorem mrd_B {S : MS} (h : (rdT S).1 = 0) : mf_read S = mf_finding (rdE S) (-1000000000006) := by
  unfold mf_read
  rw [if_pos h]
theorem rdC_b (S : MS) : (rdC S).2.2.2 = S.2.2.2 := by
  have h := rdT_r S
  have e : rdE S = sI (rdT S).2 36 0 := rdE.eq_1 S
  have e2 : rdC S = cp32 (cp8 (sI (rdE S) 23 ((rdE S).1 29)) 8) 32 := rdC.eq_1 S
  rw [e2, cp32_b, cp8_b, e]
  generalize rdT S = R at *
  exact h
theorem rd_1 {T S : MS} {X : Int32 × MS} (h : txR T S) (eX : X = crx T) (h1 : X.1 = 1) : (rdT S).1 = 1 ∧ ∃ n, cs0 n (X.2.1 80) ((rdT S).2.1 29) X.2.2.2.1 (rdT S).2.2.2.1 := by
  obtain ⟨L, hL, hr⟩ := rd_lk h
  rw [← eX] at hr
  rcases hr with ⟨a, -⟩ | ⟨-, b, n, c⟩
  · rw [h1] at a; exact absurd a (by decide)
  · exact ⟨b, n, c.2⟩
theorem rd_0 {T S : MS} {X : Int32 × MS} (h : txR T S) (eX : X = crx T) (h1 : X.1 = 0) : (rdT S).1 = 0 := by
  obtain ⟨L, hL, hr⟩ := rd_lk h
  rw [← eX] at hr
  rcases hr with ⟨-, b, -⟩ | ⟨a, -⟩
  · exact b
  · rw [h1] at a; exact absurd a (by decide)
theorem cu_G {Z R V : MS} {n : Nat} (hz : ∀ c, c < 8 → Z.2.2.1 81 c = 0 ∨ Z.2.2.1 81 c = 1) (c : cs0 n (Z.1 80) (R.1 29) Z.2.2.1 R.2.2.1) (eV : V = cp32 (cp8 (sI (sI R 36 0) 23 ((sI R 36 0).1 29)) 8) 32) : cuR (swT Z) V := by
  rw [eV]
  exact cu_cp (X := sI R 36 0) hz c
theorem g_readG {T S : MS} {B : List BL} {X : Int32 × MS} (hC : cinv T B) (hx : txR T S) (hf : fnR T S) (eX : X = crx T) (h1 : X.1 = 1) : fnR (swT (cf_endT X.2 1)) (mf_read S).2 ∧ cuR (swT (cf_endT X.2 1)) (mf_read S).2 ∧ ((swT (cf_endT X.2 1)).1 70).toInt64 = (mf_read S).1 := by
  obtain ⟨b, n, c⟩ := rd_1 hx eX h1
  have eB := mrd_G b
  have r1 := (crx_r hC).1
  rw [← eX] at r1
  have hz : ∀ c, c < 8 → X.2.2.2.1 81 c = 0 ∨ X.2.2.2.1 81 c = 1 := (fcr_j hC eX).2.2.1.2.2.2
  have e23 : (mf_read S).1 = ((rdT S).2.1 29).toInt64 := cp23 (by rw [b]; decide)
  have eC : (mf_read S).2 = cp32 (cp8 (sI (sI (rdT S).2 36 0) 23 ((sI (rdT S).2 36 0).1 29)) 8) 32 := by
    rw [eB, rdC.eq_1, rdE.eq_1]
  have eD : (mf_read S).2.2.2.2 = S.2.2.2 := by rw [eB]; exact rdC_b S
  generalize rdT S = R at *
  generalize mf_read S = Q at *
  clear eX eB
  refine ⟨?_, ?_, ?_⟩
  · refine fn_k hf ?_ (by rw [eD])
    show X.2.2.2.2 0 = _
    rw [r1]
  · exact cu_G (Z := cf_endT X.2 1) hz c eC
  · rw [e23]
    show (X.2.1 80).toInt64 = _
    rw [c.1, c.2.1]
theorem g_readB {T S : MS} {B : List BL} {X : Int32 × MS} (hC : cinv T B) (hx : txR T S) (hf : fnR T S) (hu : cuR T S) (eX : X = crx T) (h1 : X.1 = 0) : afR (cf_fd (cf_endT X.2 0) 6) (mf_read S) ∧ cuR (cf_fd (cf_endT X.2 0) 6).2 (mf_read S).2 := by
  have b := rd_0 hx eX h1
  rw [mrd_B b, rdE.eq_1]
  obtain ⟨r1, r2, r3, r4⟩ := crx_r hC
  rw [← eX] at r1 r2 r3 r4
  obtain ⟨f1, f2, f3, f4⟩ := ft_rdT S
  have f5 := rdT_r S
  generalize rdT S = R at *
  clear eX
  refine ⟨fd6 (fn_k hf ?_ ?_), cu_k hu ?_ (fun q h1 h2 => ?_) ?_ (fun q h1 h2 => ?_)⟩
  · show X.2.2.2.2 0 = _
    rw [r1]
  · show R.2.2.2.2 22 = _
    rw [f5]
  · show X.2.1 70 = _
    rw [r2 70 (by decide)]
  · show X.2.2.2.1 q = _
    rw [r3 q (by omega)]
  · show R.2.1 23 = _
    exact f1 23 (by decide)
  · show R.2.2.2.1 q = _
    exact f3 q (by omega)
/-! the whole relation: what a call that leaves a part of it keeps -/
theorem rs_k {T S U V : MS} (h : rsR T S) (h1 : U.2.2.1 1 = T.2.2.1 1) (h2 : U.2.2.1 2 = T.2.2.1 2) (h3 : V.2.2.1 2 = S.2.2.1 2) (h4 : V.2.2.1 3 = S.2.2.1 3) : rsR U V := by
  rw [rsR, h1, h2, h3, h4]
  exact h
theorem gn_k {T S U V : MS} (h : gnR T S) (h1 : U.1 15 = T.1 15) (h2 : V.1 1 = S.1 1) : gnR U V := h1.trans (Eq.trans h h2.symm)
theorem pu_k {T S U V : MS} (h : puR T S) (h1 : ∀ x, x < 10 → U.2.2.1 (110 + x) = T.2.2.1 (110 + x)) (h2 : U.2.2.1 55 = T.2.2.1 55) (h3 : V.2.2.1 17 = S.2.2.1 17) (h4 : V.2.2.1 16 = S.2.2.1 16) : puR U V := by
  obtain ⟨hc, w, hw⟩ := h
  refine ⟨fun x k hx hk => by rw [h1 x hx, h3]; exact hc x k hx hk, w, fun k hk => by rw [h2, h4]; exact hw k hk⟩
theorem to_k {T S U V : MS} (h : toR T S) (h1 : U.1 17 = T.1 17) (h2 : U.2.2.1 5 = T.2.2.1 5) (h3 : V.1 20 = S.1 20) (h4 : V.2.2.1 21 = S.2.2.1 21) : toR U V := ⟨h1.trans (h.1.trans h3.symm), h2.trans (h.2.trans h4.symm)⟩
theorem vo_k {T S U V : MS} (h : voR T S) (h1 : ∀ t, t < 5 → U.2.2.1 (120 + t) = T.2.2.1 (120 + t)) (h2 : V.2.2.1 18 = S.2.2.1 18) : voR U V := fun t ht k hk => by rw [h1 t ht, h2]; exact h t ht k hk
theorem of_k {T S U V : MS} (h : oR T S) (h1 : ∀ t, t < 5 → U.2.2.1 (130 + t) = T.2.2.1 (130 + t)) (h2 : V.2.2.1 19 = S.2.2.1 19) : oR U V := fun x y hx hy => by rw [h1 x hx, h2]; exact h x y hx hy
theorem pl_v {i : Nat} (hi : i < 600) {T S U V : MS} (h : plR i T S) (h1 : U.2.2.2 43 = T.2.2.2 43) (h2 : U.2.2.1 45 = T.2.2.1 45) (h3 : U.2.1 50 = T.2.1 50) (h5 : U.1 41 = T.1 41) (h6 : U.1 40 = T.1 40) (h7 : U.2.2.1 46 = T.2.2.1 46) (h8 : U.2.2.1 47 = T.2.2.1 47) (h9 : U.2.2.2 48 = T.2.2.2 48) (hv : vrR T U S V) : plR (i + 1) U V := by
  have hb := vr30 hi h
  rcases hv with ⟨a, b⟩ | a
  · exact pl_k h h1 h2 h3 a h5 h6 h7 h8 h9 b
  · refine pl_n (n := 1) (by omega) (by omega) h h1 h2 h3 ?_
    rw [a, L_add (by rw [show (1 : Int64).toInt = 1 from by decide]; omega) (by rw [show (1 : Int64).toInt = 1 from by decide]; omega)]
    rfl
theorem dy_b {i : Nat} (hi : i < 600) : 60 * i ≤ 100000 := by omega
theorem g_days {i : Nat} (hi : i < 600) {T S : MS} (hd : dyR (60 * i) T S) (hD : dbR T S) (hg : gnR T S) (hf : fnR T S) (hp : plR i T S) (n : Int32) : afR (cf_days T n) (mf_days S n) ∧ dyR (60 * (i + 1)) (cf_days T n).2 (mf_days S n).2 ∧ dbR (cf_days T n).2 (mf_days S n).2 ∧ plR (i + 1) (cf_days T n).2 (mf_days S n).2 := by
  have fc := fc_days T n
  have hb := vr30 hi hp
  by_cases c : 1 ≤ n ∧ n ≤ 60
  · have e1 : cf_days T n = cdRun n.toNatClampNeg T := by unfold cf_days; rw [if_pos c]
    have e2 : mf_days S n = dyRun n.toNatClampNeg S := by unfold mf_days; rw [if_pos c]
    have hn := inR c
    rw [show (1 : Int32).toInt = 1 from by decide, show (60 : Int32).toInt = 60 from by decide] at hn
    obtain ⟨j, hj, ej⟩ := vp_in_of (vp_in_iff.mpr (by omega) : vp_in n 61) (by decide)
    have ec : n.toNatClampNeg = j := by rw [ej, nI_clamp (by omega)]
    obtain ⟨r1, r2, r3, k, r4, r5, r6⟩ := days_l (N := 60 * (i + 1)) (by omega) j (60 * i) T S (by omega) (by omega) hd hD hg hf (by omega)
    rw [← ec, ← e1, ← e2] at r1 r2 r3
    rw [← ec, ← e1] at r5
    rw [← ec, ← e2] at r6
    refine ⟨r1, r3, r2, ?_⟩
    by_cases k0 : k = 0
    · refine pl_k hp (fc.2.2.2 43 (by decide)) (fc.2.2.1 45 (by decide)) (fc.2.1 50 (by decide)) ?_ (fc.1 41 (by decide)) (fc.1 40 (by decide)) (fc.2.2.1 46 (by decide)) (fc.2.2.1 47 (by decide)) (fc.2.2.2 48 (by decide)) (r6 k0)
      apply Int64.toInt_inj.mp
      rw [r5, k0]
      simp
    · exact pl_n (n := k) (by omega) (by omega) hp (fc.2.2.2 43 (by decide)) (fc.2.2.1 45 (by decide)) (fc.2.1 50 (by decide)) r5
  · have e1 : cf_days T n = cf_fd T 1 := by unfold cf_days; rw [if_neg c]
    have e2 : mf_days S n = mf_finding S (-1000000000001) := by unfold mf_days; rw [if_neg c]
    rw [e1, e2]
    exact ⟨fd1 hf, dy_k (by omega) hd rfl rfl, db_fd hD _ _, pl_k hp rfl rfl rfl rfl rfl rfl rfl rfl rfl rfl⟩
/-! plan, payment, clear, check: their states -/
theorem mp_U (U : MS) (g : Int32) : (mf_plan U g).2 = U := by unfold mf_plan; split <;> rfl
theorem my_f {S U : MS} (hF : fr S U) (j w : Int32) : (mf_payment S U j w).2.2.2.2 15 = S.2.2.2 15 ∧ (mf_payment S U j w).2.1 20 = S.1 20 ∧ (mf_payment S U j w).2.2.2.1 21 = S.2.2.1 21 := by
  have e0 : U.1 20 = S.1 20 := hF.1 20 (by decide) (by decide)
  have e1 : U.2.2.1 21 = S.2.2.1 21 := hF.2.2.1 21 (by decide) (by decide) (by decide) (by decide)
  have e2 : U.2.2.2 15 = S.2.2.2 15 := hF.2.2.2 15 (by decide) (by decide) (by decide)
  unfold mf_payment
  repeat' split
  · exact ⟨e2, e0, e1⟩
  · exact ⟨e2, e0, e1⟩
  · exact ⟨rfl, rfl, rfl⟩
theorem g_payP {i N : Nat} {M : Int} (hM : M ≤ 1000000000000) {T S U : MS} (hR : dnv M (S.2.2.2 15)) (hD : dbR T S) (hp : plR i T S) (hF : fr S U) (hU : plRun S U) (hO : plOk U N) (hf : fnR T S) (j w : Int32) : afR (cf_payment T j w) (mf_payment S U j w) ∧ plR (i + 1) (cf_payment T j w).2 (mf_payment S U j w).2 := by
  obtain ⟨a, b⟩ := g_payment hM hR hD hp (fc_ref T) hF hU hO hf j w
  have h15 := (my_f hF j w).1
  have k := (ca_ref hM hR hD hp).1
  refine ⟨a, ?_⟩
  generalize mf_payment S U j w = V at *
  generalize cf_payment T j w = P at *
  rcases b with b | b | b
  · rw [b]
    exact pl_k k rfl rfl rfl rfl rfl rfl rfl rfl rfl h15
  · rw [b]
    generalize cf_ref T = W at *
    exact pl_k k rfl rfl rfl rfl rfl rfl rfl rfl rfl h15
  · rw [b]
    exact pl_k hp rfl rfl rfl rfl rfl rfl rfl rfl rfl h15
theorem cl_fn {i N : Nat} (hi : i < 600) {M : Int} (hM : M ≤ 1000000000000) {T S U : MS} (hR : dnv M (S.2.2.2 15)) (hD : dbR T S) (hp : plR i T S) (hF : fr S U) (hU : plRun S U) (hO : plOk U N) (hn : ∀ j, j < N → 0 ≤ (U.2.2.2 49 j).toInt) (hf : fnR T S) : fnR (cf_clear T).2 (mf_clear U N).2 := by
  obtain ⟨a1, a2, a3⟩ := ca_ref hM hR hD hp
  have hm := a1.2.2.1 a2 S U (fun _ _ => rfl) hU
  obtain ⟨z, c, hz⟩ := pl_pd hM hR hU
  obtain ⟨n1, n2, n3, n4, n5⟩ := pl_N hm hO
  have hv := vr30 hi a1
  have k := cl_db ⟨hv.1, by omega⟩ hm hO hn hz N (Nat.le_refl N)
  have hq := fc_ref T
  obtain ⟨g1, g2, g3, g4, g5⟩ := clP_sp hO hn N (Nat.le_refl N)
  unfold cf_clear mf_clear
  rw [n2, nI_clamp (by omega)]
  obtain ⟨⟨f1, f2, f3, f4⟩, -⟩ := k
  generalize cf_ref T = V at *
  generalize ccl V N = C at *
  generalize clP U N = P at *
  exact fn_k hf ((f4 0 (by omega)).trans (hq.2.2.2 0 (by decide))) ((g4 22 (by decide)).trans (hF.2.2.2 22 (by decide) (by decide) (by decide)))
theorem cl_to {N : Nat} {S U : MS} (hF : fr S U) (hO : plOk U N) (hn : ∀ j, j < N → 0 ≤ (U.2.2.2 49 j).toInt) : (mf_clear U N).2.1 20 = S.1 20 ∧ (mf_clear U N).2.2.2.1 21 = S.2.2.1 21 := by
  obtain ⟨g1, g2, g3, g4, g5⟩ := clP_sp hO hn N (Nat.le_refl N)
  show (clP U N).1 20 = _ ∧ (clP U N).2.2.1 21 = _
  rw [g1, g3]
  exact ⟨hF.1 20 (by decide) (by decide), hF.2.2.1 21 (by decide) (by decide) (by decide) (by decide)⟩
theorem ck_st {T S U : MS} {N : Nat} (hF : fr (sI S 20 0) U) : (cf_check T).2 = sI (cf_ref T) 17 0 ∧ (mf_check S U N).2 = U ∧ U.1 20 = 0 ∧ U.2.2.1 21 = S.2.2.1 21 ∧ U.2.2.2 15 = S.2.2.2 15 ∧ U.2.2.2 22 = S.2.2.2 22 := by
  refine ⟨by unfold cf_check; rfl, by unfold mf_check; rfl, hF.1 20 (by decide) (by decide), hF.2.2.1 21 (by decide) (by decide) (by decide) (by decide), hF.2.2.2 15 (by decide) (by decide) (by decide), hF.2.2.2 22 (by decide) (by decide) (by decide)⟩
/-! part: what it leaves of what was found -/
theorem prF_0 (T : MS) (B : List BL) (x : Int32) : ∀ n, (prF T B x n).2.2.2 0 = T.2.2.2 0
  | 0 => by
    funext p
    show (if 0 = 65 ∧ p < 10 then (0 : Int64) else T.2.2.2 0 p) = _
    rw [if_neg (by omega)]
  | n + 1 => by
    have ih := prF_0 T B x n
    show (if bplg ((B[n]?).getD bz) x then sB (prF T B x n) 65 _ _ else prF T B x n).2.2.2 0 = _
    split
    · rw [sB_ne _ _ _ (by decide)]
      exact ih
    · exact ih
theorem clF_0 (T : MS) (x : Int32) : ∀ n, (clF T x n).2.2.2 0 = T.2.2.2 0
  | 0 => rfl
  | n + 1 => by
    have ih := clF_0 T x n
    show (sB (sB (clF T x n) 65 n _) 66 n _).2.2.2 0 = _
    rw [sB_ne _ _ _ (by decide), sB_ne _ _ _ (by decide)]
    exact ih
theorem parT_0 (T : MS) (B : List BL) (x : Int32) : (cf_parT T B x).2.2.2 0 = T.2.2.2 0 := by
  unfold cf_parT
  rw [clF_0, prF_0]
theorem shG_22 (S : MS) : ∀ n, (shG S n).2.2.2 22 = S.2.2.2 22
  | 0 => rfl
  | n + 1 => (sB_ne _ _ _ (by decide)).trans (shG_22 S n)
theorem shP_22 (S : MS) (a b : Int64) : ∀ n, (shP S a b n).2.2.2 22 = S.2.2.2 22
  | 0 => rfl
  | n + 1 => (sB_ne _ _ _ (by decide)).trans (shP_22 S a b n)
theorem shR_22 : ∀ (j i : Nat) (l : Int64) (S : MS), (shR j i l S).2.2.2 22 = S.2.2.2 22
  | 0, _, _, _ => rfl
  | j + 1, i, l, S => by
    show (if l ≤ 0 then S else if S.2.2.2 53 i ≤ 0 then shR j (i + 1) l S else shR j (i + 1) (l - 1) (sB S 54 i (S.2.2.2 54 i + 1))).2.2.2 22 = _
    split
    · rfl
    · split
      · exact shR_22 j (i + 1) l S
      · exact (shR_22 j (i + 1) (l - 1) _).trans (sB_ne _ _ _ (by decide))
theorem share_22 (S : MS) (a : Int64) : (mf_share S a).2.2.2.2 22 = S.2.2.2 22 := by
  unfold mf_share
  split
  · exact (shR_22 _ _ _ _).trans (shP_22 _ _ _ _)
  · exact shG_22 _ _
theorem ptF_22 (S : MS) (x : Int32) : ∀ n, (ptF S x n).2.2.2 22 = S.2.2.2 22
  | 0 => rfl
  | n + 1 => (sB_ne _ _ _ (by decide)).trans ((sB_ne _ _ _ (by decide)).trans (ptF_22 S x n))
theorem ptG_22 (S : MS) (x : Int32) : ∀ n, (ptG S x n).2.2.2 22 = S.2.2.2 22
  | 0 => rfl
  | n + 1 => (sB_ne _ _ _ (by decide)).trans (ptG_22 S x n)
theorem part_22 (S : MS) (x sm : Int32) : (mprt2 S x sm).2.2.2.2 22 = S.2.2.2 22 := by
  unfold mprt2
  rw [share_22, ptG_22]
  unfold mprt1
  rw [share_22, ptF_22]
theorem fn_partY {T S : MS} {B : List BL} (hf : fnR T S) {x sm cr : Int32} (hc : ctwo x cr ∧ (0 ≤ sm ∧ sm ≤ 1000000000)) : fnR (cf_parT T B x) (mf_part S x sm cr).2 := by
  have e : (mf_part S x sm cr).2 = (mprt2 S x sm).2 := by
    unfold mf_part
    rw [if_pos (show (0 ≤ x ∧ x ≤ 9) ∧ (0 ≤ cr ∧ cr ≤ 9) ∧ ¬ x = cr ∧ (0 ≤ sm ∧ sm ≤ 1000000000) from ⟨hc.1.1, hc.1.2.1, hc.1.2.2, hc.2⟩)]
  rw [e]
  exact fn_k hf (parT_0 T B x) (part_22 S x sm)
theorem fn_partN {T S : MS} (hf : fnR T S) {x sm cr : Int32} (hc : ¬ (ctwo x cr ∧ (0 ≤ sm ∧ sm ≤ 1000000000))) : fnR (cf_fd T 1).2 (mf_part S x sm cr).2 := by
  have e : mf_part S x sm cr = mf_finding S (-1000000000001) := by
    unfold mf_part
    rw [if_neg (fun q => hc ⟨⟨q.1, q.2.1, q.2.2.1⟩, q.2.2.2⟩)]
  rw [e]
  exact (fd1 hf).2
theorem dr40' {T : MS} {B : List BL} {S : MS} (hC : cinv T B) (h : T.1 16 = S.1 4) : T.1 16 < 40 ↔ (¬ S.1 4 = 40 ∧ B.length < 40) := by
  obtain ⟨⟨b1, b2, -⟩, -⟩ := hC
  rw [← h, b1, show (40 : Int32) = nI 40 from by decide, nI_ltI (by omega) (by decide), nI_eq (by omega) (by decide)]
  omega
theorem dw_N {S : MS} {kd dr de py am : Int32} (hd : ¬ dcnd kd dr de py am) : mf_draw S kd dr de py am = mf_finding S (-1000000000001) := by
  unfold mf_draw
  rw [if_neg hd]
theorem dw_K {S : MS} {kd dr de py am : Int32} (hd : dcnd kd dr de py am) (hk : dr = py) : mf_draw S kd dr de py am = mf_finding S (-1000000000005) := by
  unfold mf_draw
  rw [if_pos hd, if_pos hk]
theorem dw_F {S : MS} {kd dr de py am : Int32} (hd : dcnd kd dr de py am) (hk : ¬ dr = py) (h40 : S.1 4 = 40) : mf_draw S kd dr de py am = mf_finding S (-1000000000004) := by
  unfold mf_draw
  rw [if_pos hd, if_neg hk, if_pos h40]
theorem dw_Y {S : MS} {kd dr de py am : Int32} (hd : dcnd kd dr de py am) (hk : ¬ dr = py) (h40 : ¬ S.1 4 = 40) : (mf_draw S kd dr de py am).2 = sI (mf_drawn S (S.1 4) kd dr de py am) 4 ((mf_drawn S (S.1 4) kd dr de py am).1 4 + 1) := by
  unfold mf_draw
  rw [if_pos hd, if_neg hk, if_neg h40]
theorem fn_Y {S : MS} (b kd dr de py am : Int32) (v : Int32) : (sI (mf_drawn S b kd dr de py am) 4 v).2.2.2 22 = S.2.2.2 22 := rfl
