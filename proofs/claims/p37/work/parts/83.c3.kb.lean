/-! what was found; the debts; the days -/
def fnR (T S : MS) : Prop := T.2.2.2 0 = S.2.2.2 22
def afR (X : Int64 × MS) (Y : Int64 × MS) : Prop := X.1 = Y.1 ∧ fnR X.2 Y.2
theorem fd_q {T S : MS} (q : Int32) (v : Int64) (h1 : (-1000000000000 : Int64) - q.toInt64 = v) (h2 : ((-1000000000000 : Int64) - v).toInt32.toNatClampNeg = q.toNatClampNeg) (h : fnR T S) : afR (cf_fd T q) (mf_finding S v) := by
  refine ⟨h1, ?_⟩
  show (sB T 0 q.toNatClampNeg (T.2.2.2 0 q.toNatClampNeg + 1)).2.2.2 0 = (sB S 22 ((-1000000000000 : Int64) - v).toInt32.toNatClampNeg (S.2.2.2 22 ((-1000000000000 : Int64) - v).toInt32.toNatClampNeg + 1)).2.2.2 22
  rw [sB_at, sB_at, h2, show T.2.2.2 0 = S.2.2.2 22 from h]
theorem fd1 {T S : MS} (h : fnR T S) : afR (cf_fd T 1) (mf_finding S (-1000000000001)) := fd_q 1 _ (by decide) (by decide) h
theorem fd2 {T S : MS} (h : fnR T S) : afR (cf_fd T 2) (mf_finding S (-1000000000002)) := fd_q 2 _ (by decide) (by decide) h
theorem fd3 {T S : MS} (h : fnR T S) : afR (cf_fd T 3) (mf_finding S (-1000000000003)) := fd_q 3 _ (by decide) (by decide) h
theorem fd4 {T S : MS} (h : fnR T S) : afR (cf_fd T 4) (mf_finding S (-1000000000004)) := fd_q 4 _ (by decide) (by decide) h
theorem fd5 {T S : MS} (h : fnR T S) : afR (cf_fd T 5) (mf_finding S (-1000000000005)) := fd_q 5 _ (by decide) (by decide) h
theorem fd6 {T S : MS} (h : fnR T S) : afR (cf_fd T 6) (mf_finding S (-1000000000006)) := fd_q 6 _ (by decide) (by decide) h
theorem fd7 {T S : MS} (h : fnR T S) : afR (cf_fd T 7) (mf_finding S (-1000000000007)) := fd_q 7 _ (by decide) (by decide) h
theorem fn_k {T S U V : MS} (h : fnR T S) (h1 : U.2.2.2 0 = T.2.2.2 0) (h2 : V.2.2.2 22 = S.2.2.2 22) : fnR U V := h1.trans (Eq.trans h h2.symm)
/-! debts -/
theorem db_k {T S U V : MS} (h : dbR T S) (h1 : ∀ x, x < 10 → U.2.2.2 (100 + x) = T.2.2.2 (100 + x)) (h2 : V.2.2.2 15 = S.2.2.2 15) : dbR U V := fun x q hx hq => by rw [h1 x hx, h2]; exact h x q hx hq
theorem db_fd {T S : MS} (h : dbR T S) (q : Int32) (v : Int64) : dbR (cf_fd T q).2 (mf_finding S v).2 := db_k h (fun x _ => sB_ne _ _ _ (by omega)) (sB_ne _ _ _ (by decide))
theorem car_0 (T : MS) (g : Int32) : (cf_carry T g).2.2.2 0 = T.2.2.2 0 := by
  funext p
  show (if 100 ≤ 0 ∧ 0 < 110 ∧ p < 10 ∧ 10 * (0 - 100) + p < 100 then cgn T g (0 - 100) p else T.2.2.2 0 p) = _
  rw [if_neg (by omega)]
theorem wo_eq {T S : MS} (h : dbR T S) {x q : Int32} (hx : vp_in x 10) (hq : vp_in q 10) (v : Int64) : cwould T x q v = mwould S x q v := by
  unfold mwould
  rw [ix_nI hx hq, ix_nI hq hx, ← h _ _ (vcl hx) (vcl hq), ← h _ _ (vcl hq) (vcl hx)]
theorem wo_b {M : Int} (hM : M ≤ 1000000000000) {S : MS} (h : dnv M (S.2.2.2 15)) {x q : Int32} (hx : vp_in x 10) (hq : vp_in q 10) {v : Int64} (hv : -1000000000000 ≤ v.toInt ∧ v.toInt ≤ 1000000000000) : -2000000000000 ≤ (mwould S x q v).toInt ∧ (mwould S x q v).toInt ≤ 2000000000000 := by
  have hx' := vcl hx
  have hq' := vcl hq
  rw [would_I hM h hx hq hv]
  have a := h.1 (10 * x.toNatClampNeg + q.toNatClampNeg) (by omega)
  have b := dnv_le h (k := 10 * x.toNatClampNeg + q.toNatClampNeg) (by omega)
  have c := h.1 (10 * q.toNatClampNeg + x.toNatClampNeg) (by omega)
  have d := dnv_le h (k := 10 * q.toNatClampNeg + x.toNatClampNeg) (by omega)
  omega
theorem ov_iff {w : Int64} (h : -2000000000000 ≤ w.toInt ∧ w.toInt ≤ 2000000000000) : (1000000000 < cabs w) ↔ (1000000000 < w ∨ w < -1000000000) := by
  have e1 : (1000000000 : Int64).toInt = 1000000000 := by decide
  have e2 : (-1000000000 : Int64).toInt = -1000000000 := by decide
  have e0 : (0 : Int64).toInt = 0 := by decide
  have en : (-w).toInt = -w.toInt := L_neg (by omega)
  show (1000000000 < if 0 < w then w else -w) ↔ _
  split
  · next hp =>
    rw [Int64.lt_iff_toInt_lt, e0] at hp
    rw [Int64.lt_iff_toInt_lt, Int64.lt_iff_toInt_lt, e1, e2]
    omega
  · next hp =>
    rw [Int64.lt_iff_toInt_lt, e0] at hp
    rw [Int64.lt_iff_toInt_lt, Int64.lt_iff_toInt_lt, Int64.lt_iff_toInt_lt, e1, e2, en]
    omega
theorem mx_a (w : Int64) : cmax0 w = if w ≤ 0 then 0 else w := by
  show (if 0 < w then w else 0) = _
  by_cases h : w ≤ 0
  · rw [if_pos h, if_neg (Int64.not_lt.mpr h)]
  · rw [if_neg h, if_pos (Int64.not_le.mp h)]
theorem mx_b {w : Int64} (h : -2000000000000 ≤ w.toInt ∧ w.toInt ≤ 2000000000000) : cmax0 (-w) = if 0 ≤ w then 0 else -w := by
  have e0 : (0 : Int64).toInt = 0 := by decide
  have en : (-w).toInt = -w.toInt := L_neg (by omega)
  show (if 0 < -w then -w else 0) = _
  by_cases q : 0 ≤ w
  · have : ¬ 0 < -w := by
      rw [Int64.le_iff_toInt_le, e0] at q
      rw [Int64.lt_iff_toInt_lt, e0, en]
      omega
    rw [if_pos q, if_neg this]
  · have : 0 < -w := by
      rw [Int64.le_iff_toInt_le, e0] at q
      rw [Int64.lt_iff_toInt_lt, e0, en]
      omega
    rw [if_neg q, if_pos this]
theorem ch_db {M : Int} (hM : M ≤ 1000000000000) {T S : MS} (hd : dnv M (S.2.2.2 15)) (h : dbR T S) {x q : Int32} (hx : vp_in x 10) (hq : vp_in q 10) (hn : ¬ x = q) {v : Int64} (hv : -1000000000000 ≤ v.toInt ∧ v.toInt ≤ 1000000000000) : dbR (cf_charge T x q v) (mf_ctow S x q v) := by
  have hx' := vcl hx
  have hq' := vcl hq
  have hne : x.toNatClampNeg ≠ q.toNatClampNeg := fun e => hn (cl_inj hx hq e)
  intro a b ha hb
  unfold cf_charge mf_ctow
  rw [if_neg hn, ix_nI hx hq, ix_nI hq hx, wo_eq h hx hq, mx_a, mx_b (wo_b hM hd hx hq hv)]
  generalize (if mwould S x q v ≤ 0 then 0 else mwould S x q v) = u1
  generalize (if 0 ≤ mwould S x q v then 0 else -mwould S x q v) = u2
  generalize x.toNatClampNeg = x' at *
  generalize q.toNatClampNeg = q' at *
  show (sB (sB T (100 + x') q' u1) (100 + q') x' u2).2.2.2 (100 + a) b = (sB (sB S 15 (10 * x' + q') u1) 15 (10 * q' + x') u2).2.2.2 15 (10 * a + b)
  rw [sB_at (sB S 15 _ _), sB_at S]
  by_cases e1 : a = q'
  · subst e1
    rw [sB_at]
    by_cases e2 : b = x'
    · subst e2
      rw [updL_at, updL_at]
    · rw [updL_ne _ _ e2, updL_ne _ _ (by omega), updL_ne _ _ (by omega), sB_ne _ _ _ (by omega)]
      exact h _ _ ha hb
  · rw [sB_ne _ _ _ (by omega), updL_ne _ _ (by omega)]
    by_cases e3 : a = x'
    · subst e3
      rw [sB_at]
      by_cases e4 : b = q'
      · subst e4
        rw [updL_at, updL_at]
      · rw [updL_ne _ _ e4, updL_ne _ _ (by omega)]
        exact h _ _ ha hb
    · rw [sB_ne _ _ _ (by omega), updL_ne _ _ (by omega)]
      exact h _ _ ha hb
theorem tot_eq {T S : MS} (h : dbR T S) : ∀ n, n ≤ 100 → ctot T n = mall S n
  | 0, _ => rfl
  | n + 1, hn => by
    show ctot T n + T.2.2.2 (100 + n / 10) (n % 10) = mall S n + S.2.2.2 15 n
    rw [tot_eq h n (by omega), h (n / 10) (n % 10) (by omega) (by omega), show 10 * (n / 10) + n % 10 = n by omega]
theorem g_owe {M : Int} (hM : M ≤ 1000000000000) {T S : MS} (hd : dnv M (S.2.2.2 15)) (h : dbR T S) (hf : fnR T S) (x q v : Int32) : afR (cf_owe T x q v) (mf_owe S x q v) ∧ dbR (cf_owe T x q v).2 (mf_owe S x q v).2 ∧ (((cf_owe T x q v).2.2.1 30 = T.2.1 30 ∧ (mf_owe S x q v).2.2.2.2 15 = S.2.2.2 15) ∨ (cf_owe T x q v).2.2.1 30 = T.2.1 30 + 1) := by
  unfold cf_owe mf_owe
  by_cases c1 : (0 ≤ x ∧ x ≤ 9) ∧ (0 ≤ q ∧ q ≤ 9) ∧ ¬ x = q ∧ (1 ≤ v ∧ v ≤ 1000000)
  · rw [if_pos (show ctwo x q ∧ (1 ≤ v ∧ v ≤ 1000000) from ⟨⟨c1.1, c1.2.1, c1.2.2.1⟩, c1.2.2.2⟩), if_pos c1]
    have hx : vp_in x 10 := vin c1.1 (by decide)
    have hq : vp_in q 10 := vin c1.2.1 (by decide)
    have hn := c1.2.2.1
    have hv := inR c1.2.2.2
    rw [show (1 : Int32).toInt = 1 from by decide, show (1000000 : Int32).toInt = 1000000 from by decide] at hv
    have hv' : -1000000000000 ≤ v.toInt64.toInt ∧ v.toInt64.toInt ≤ 1000000000000 := by rw [Int32.toInt_toInt64]; omega
    have hov := ov_iff (wo_b hM hd hx hq hv')
    rw [wo_eq h hx hq]
    by_cases c2 : 1000000000 < cabs (mwould S x q v.toInt64)
    · rw [if_pos c2, if_pos (show ¬ x = q ∧ _ from ⟨hn, hov.mp c2⟩)]
      exact ⟨fd4 hf, db_fd h _ _, Or.inl ⟨rfl, rfl⟩⟩
    · rw [if_neg c2, if_neg (fun k => c2 (hov.mpr k.2))]
      have hd' := ch_db hM hd h hx hq hn hv'
      refine ⟨⟨?_, ?_⟩, hd', Or.inr rfl⟩
      · show (cf_charge T x q v.toInt64).2.2.2 _ _ = (mf_ctow S x q v.toInt64).2.2.2 15 _
        rw [ix_nI hx hq]
        exact hd' _ _ (vcl hx) (vcl hq)
      · refine fn_k hf ?_ ((fx_ctow S x q v.toInt64).2.2.2 22 (by decide))
        show (sB (sB T _ _ _) _ _ _).2.2.2 0 = _
        rw [sB_ne _ _ _ (by omega), sB_ne _ _ _ (by omega)]
  · rw [if_neg (fun k : ctwo x q ∧ (1 ≤ v ∧ v ≤ 1000000) => c1 ⟨k.1.1, k.1.2.1, k.1.2.2, k.2⟩), if_neg c1]
    exact ⟨fd1 hf, db_fd h _ _, Or.inl ⟨rfl, rfl⟩⟩
theorem g_owes {T S : MS} (h : dbR T S) (hf : fnR T S) (x q : Int32) : afR (cf_owes T x q) (mf_owes S x q) := by
  unfold cf_owes mf_owes
  by_cases c1 : ctwo x q
  · rw [if_pos c1, if_pos c1]
    have hx : vp_in x 10 := vin c1.1 (by decide)
    have hq : vp_in q 10 := vin c1.2.1 (by decide)
    refine ⟨?_, hf⟩
    show T.2.2.2 _ _ = S.2.2.2 15 _
    rw [ix_nI hx hq]
    exact h _ _ (vcl hx) (vcl hq)
  · rw [if_neg c1, if_neg c1]
    exact fd1 hf
theorem g_net {T S : MS} (h : dbR T S) (hf : fnR T S) (x : Int32) : afR (cf_net T x) (mf_net S x) := by
  unfold cf_net mf_net
  by_cases c1 : 0 ≤ x ∧ x ≤ 9
  · rw [if_pos c1, if_pos c1]
    obtain ⟨k, hk, ek⟩ := vp_in_of (vin c1 (by decide) : vp_in x 10) (by decide)
    refine ⟨?_, hf⟩
    rw [ek]
    exact cnet_eq h hk 10 (Nat.le_refl 10)
  · rw [if_neg c1, if_neg c1]
    exact fd1 hf
/-! the days -/
def dyR (n : Nat) (T S : MS) : Prop := ∃ d, d ≤ n ∧ T.1 14 = nI d ∧ S.2.1 0 = (nI d).toInt64
theorem dI64 {d : Nat} (h : d < 2 ^ 31) : (nI d).toInt64.toInt = d := by rw [Int32.toInt_toInt64, nI_toInt h]
theorem day_eq {n : Nat} {T S : MS} (hn : n ≤ 100000) (h : dyR n T S) : mday S = (cday T).toInt64 ∧ ∃ m, m < 28 ∧ cday T = nI m := by
  obtain ⟨d, hd, e1, e2⟩ := h
  have c : cday T = nI (d % 28) := by
    show T.1 14 - T.1 14 / 28 * 28 = _
    rw [e1, show (28 : Int32) = nI 28 from by decide, pk_div (by omega) (by decide) (by decide), nI_mul, pk_sub (by omega), show d - d / 28 * 28 = d % 28 by omega]
  refine ⟨?_, d % 28, by omega, c⟩
  rw [c]
  apply Int64.toInt_inj.mp
  show (S.2.1 0 - S.2.1 0 / 28 * 28).toInt = _
  rw [e2]
  have k1 := dI64 (d := d) (by omega)
  have k2 : ((nI d).toInt64 / 28).toInt = (d / 28 : Nat) := by
    rw [Int64.toInt_div, k1, show (28 : Int64).toInt = 28 from by decide, Int.tdiv_eq_ediv_of_nonneg (by omega), Int.bmod_eq_of_le (by omega) (by omega)]
    omega
  have k3 : ((nI d).toInt64 / 28 * 28).toInt = (d / 28 * 28 : Nat) := by
    rw [L_mul (by rw [k2, show (28 : Int64).toInt = 28 from by decide]; omega) (by rw [k2, show (28 : Int64).toInt = 28 from by decide]; omega), k2, show (28 : Int64).toInt = 28 from by decide]
    omega
  rw [L_sub (by rw [k1, k3]; omega) (by rw [k1, k3]; omega), k1, k3, dI64 (by omega)]
  omega
theorem car_eq {T S : MS} (h : dbR T S) (hg : T.1 15 = S.1 1) {m : Nat} (hm : m < 100) : ccar (T.2.2.2 (100 + m / 10) (m % 10)) (T.1 15) = cyv S m := by
  show T.2.2.2 (100 + m / 10) (m % 10) + T.2.2.2 (100 + m / 10) (m % 10) * (T.1 15).toInt64 / 1000 = S.2.2.2 15 m + S.2.2.2 15 m * (S.1 1).toInt64 / 1000
  rw [h (m / 10) (m % 10) (by omega) (by omega), show 10 * (m / 10) + m % 10 = m by omega, hg]
theorem cok_eq {T S : MS} (h : dbR T S) (hg : T.1 15 = S.1 1) : ccok T (T.1 15) ↔ cyok S := by
  constructor
  · intro k j hj
    rw [← car_eq h hg hj]
    exact k j hj
  · intro k j hj
    rw [car_eq h hg hj]
    exact k j hj
theorem car_db {T S : MS} (h : dbR T S) (hg : T.1 15 = S.1 1) : dbR (cf_carry T (T.1 15)) (crF S 100) := by
  intro x q hx hq
  show (if 100 ≤ 100 + x ∧ 100 + x < 110 ∧ q < 10 ∧ 10 * (100 + x - 100) + q < 100 then cgn T (T.1 15) (100 + x - 100) q else T.2.2.2 (100 + x) q) = (if 10 * x + q < 100 then cyv S (10 * x + q) else S.2.2.2 15 (10 * x + q))
  rw [if_pos (by omega), if_pos (by omega), ← car_eq h hg (m := 10 * x + q) (by omega), show (10 * x + q) / 10 = x by omega, show (10 * x + q) % 10 = q by omega, show 100 + x - 100 = x by omega]
  rfl
/-- some days, one after the other -/
theorem days_l {N : Nat} (hN : N ≤ 100000) : ∀ (j n : Nat) (T S : MS), n + j ≤ N → j ≤ 60 → dyR n T S → dbR T S → T.1 15 = S.1 1 → fnR T S → (-1 ≤ (T.2.1 30).toInt ∧ (T.2.1 30).toInt + j ≤ 1000000) → afR (cdRun j T) (dyRun j S) ∧ dbR (cdRun j T).2 (dyRun j S).2 ∧ dyR N (cdRun j T).2 (dyRun j S).2 ∧ ∃ c : Nat, c ≤ j ∧ ((cdRun j T).2.2.1 30).toInt = (T.2.1 30).toInt + c ∧ (c = 0 → (dyRun j S).2.2.2.2 15 = S.2.2.2 15)
  | 0, n, T, S, h1, _, hD, hB, hg, hf, hL => by
    obtain ⟨d, hd, e1, e2⟩ := hD
    refine ⟨⟨?_, hf⟩, hB, ⟨d, by omega, e1, e2⟩, 0, Nat.le_refl 0, by show (T.2.1 30).toInt = _; omega, fun _ => rfl⟩
    show (T.1 14).toInt64 = S.2.1 0
    rw [e1, e2]
  | j + 1, n, T, S, h1, h60, hD, hB, hg, hf, hL => by
    obtain ⟨k1, m, hm, k2⟩ := day_eq (by omega) hD
    have h27 : cday T = 27 ↔ mday S = 27 := by
      rw [k1, show (27 : Int64) = (27 : Int32).toInt64 from by decide, i64eq]
    have hok : cdok T ↔ dyok S := by
      show (cday T = 27 → ccok T (T.1 15)) ↔ (mday S = 27 → cyok S)
      rw [h27, cok_eq hB hg]
    obtain ⟨d, hd, e1, e2⟩ := hD
    show afR (if cdok T then cdRun j (cdOne T) else cf_fd T 4) (if dyok S then dyRun j (dyOne S) else mf_finding S (-1000000000004)) ∧ dbR (if cdok T then cdRun j (cdOne T) else cf_fd T 4).2 (if dyok S then dyRun j (dyOne S) else mf_finding S (-1000000000004)).2 ∧ dyR N (if cdok T then cdRun j (cdOne T) else cf_fd T 4).2 (if dyok S then dyRun j (dyOne S) else mf_finding S (-1000000000004)).2 ∧ ∃ c : Nat, c ≤ j + 1 ∧ ((if cdok T then cdRun j (cdOne T) else cf_fd T 4).2.2.1 30).toInt = (T.2.1 30).toInt + c ∧ (c = 0 → (if dyok S then dyRun j (dyOne S) else mf_finding S (-1000000000004)).2.2.2.2 15 = S.2.2.2 15)
    by_cases c1 : cdok T
    · rw [if_pos c1, if_pos (hok.mp c1)]
      have e14 : T.1 14 + 1 = nI (d + 1) := by rw [e1, nI_1]
      have e0 : S.2.1 0 + 1 = (nI (d + 1)).toInt64 := by
        apply Int64.toInt_inj.mp
        rw [e2, L_add (by rw [dI64 (by omega), show (1 : Int64).toInt = 1 from by decide]; omega) (by rw [dI64 (by omega), show (1 : Int64).toInt = 1 from by decide]; omega), dI64 (by omega), dI64 (by omega), show (1 : Int64).toInt = 1 from by decide]
        omega
      by_cases c2 : cday T = 27
      · have x1 : cdOne T = sI (cf_carry T (T.1 15)) 14 ((cf_carry T (T.1 15)).1 14 + 1) := by unfold cdOne; rw [if_pos c2]
        have x2 : dyOne S = sL (crF S 100) 0 ((crF S 100).2.1 0 + 1) := by unfold dyOne; rw [if_pos (h27.mp c2)]
        have l30 : (cdOne T).2.1 30 = T.2.1 30 + 1 := by rw [x1]; rfl
        have l30' : ((cdOne T).2.1 30).toInt = (T.2.1 30).toInt + 1 := by
          rw [l30, L_add (by rw [show (1 : Int64).toInt = 1 from by decide]; omega) (by rw [show (1 : Int64).toInt = 1 from by decide]; omega)]
          rfl
        have key := fun hb => days_l hN j (n + 1) (cdOne T) (dyOne S) (by omega) (by omega) ⟨d + 1, by omega, by rw [x1]; exact e14, by rw [x2]; exact e0⟩ (by rw [x1, x2]; exact car_db hB hg) (by rw [x1, x2]; exact hg) (by rw [x1, x2]; exact fn_k hf (car_0 T _) rfl) hb
        obtain ⟨r1, r2, r3, c, r4, r5, r6⟩ := key (by omega)
        exact ⟨r1, r2, r3, c + 1, by omega, by rw [r5, l30']; omega, fun q => absurd q (by omega)⟩
      · have x1 : cdOne T = sI T 14 (T.1 14 + 1) := by unfold cdOne; rw [if_neg c2]
        have x2 : dyOne S = sL S 0 (S.2.1 0 + 1) := by unfold dyOne; rw [if_neg (fun q => c2 (h27.mpr q))]
        rw [x1, x2]
        obtain ⟨r1, r2, r3, c, r4, r5, r6⟩ := days_l hN j (n + 1) (sI T 14 (T.1 14 + 1)) (sL S 0 (S.2.1 0 + 1)) (by omega) (by omega) ⟨d + 1, by omega, e14, e0⟩ hB hg hf (by show -1 ≤ (T.2.1 30).toInt ∧ (T.2.1 30).toInt + j ≤ 1000000; omega)
        exact ⟨r1, r2, r3, c, by omega, r5, r6⟩
    · rw [if_neg c1, if_neg (fun q => c1 (hok.mpr q))]
      exact ⟨fd4 hf, db_fd hB _ _, ⟨d, by omega, e1, e2⟩, 0, by omega, by show (T.2.1 30).toInt = _; omega, fun _ => rfl⟩
/-! the bills -/
def biR (n : Nat) (b : BL) (S : MS) (k : Nat) : Prop := (b.2.1 0 = S.2.2.1 5 k ∧ b.2.1 1 = S.2.2.1 6 k ∧ b.2.1 2 = S.2.2.1 7 k ∧ b.2.1 3 = S.2.2.1 9 k ∧ b.2.1 4 = S.2.2.1 8 k ∧ b.2.1 5 = S.2.2.1 10 k ∧ b.2.1 6 = S.2.2.1 11 k) ∧ (∀ e, e < 4 → nI e < b.2.1 6 → b.2.2 8 e = S.2.2.1 12 (4 * k + e)) ∧ ∀ s, s < 5 → (b.2.2 9 s).toInt64 = S.2.2.2 13 (5 * k + s) ∧ -1 ≤ (b.2.2 9 s).toInt ∧ (b.2.2 9 s).toInt ≤ n
def blR (n : Nat) (T : MS) (B : List BL) (S : MS) : Prop := T.1 16 = S.1 4 ∧ ∀ k, k < B.length → biR n ((B[k]?).getD bz) S k
/-- beside bill k all stays -/
def bsm (S V : MS) (k : Nat) : Prop := ∀ j, j ≠ k → (V.2.2.1 5 j = S.2.2.1 5 j ∧ V.2.2.1 6 j = S.2.2.1 6 j ∧ V.2.2.1 7 j = S.2.2.1 7 j ∧ V.2.2.1 9 j = S.2.2.1 9 j ∧ V.2.2.1 8 j = S.2.2.1 8 j ∧ V.2.2.1 10 j = S.2.2.1 10 j ∧ V.2.2.1 11 j = S.2.2.1 11 j) ∧ (∀ e, e < 4 → V.2.2.1 12 (4 * j + e) = S.2.2.1 12 (4 * j + e)) ∧ ∀ s, s < 5 → V.2.2.2 13 (5 * j + s) = S.2.2.2 13 (5 * j + s)
theorem bi_j {n m : Nat} (hn : n ≤ m) {b : BL} {S V : MS} {k j : Nat} (hs : bsm S V k) (hj : j ≠ k) (h : biR n b S j) : biR m b V j := by
  obtain ⟨⟨a0, a1, a2, a3, a4, a5, a6⟩, a7, a8⟩ := h
  obtain ⟨⟨b0, b1, b2, b3, b4, b5, b6⟩, b7, b8⟩ := hs j hj
  refine ⟨⟨a0.trans b0.symm, a1.trans b1.symm, a2.trans b2.symm, a3.trans b3.symm, a4.trans b4.symm, a5.trans b5.symm, a6.trans b6.symm⟩, fun e h1 h2 => (a7 e h1 h2).trans (b7 e h1).symm, fun s h1 => ?_⟩
  obtain ⟨x, y, z⟩ := a8 s h1
  exact ⟨x.trans (b8 s h1).symm, y, by omega⟩
def bse (S V : MS) : Prop := V.2.2.1 5 = S.2.2.1 5 ∧ V.2.2.1 6 = S.2.2.1 6 ∧ V.2.2.1 7 = S.2.2.1 7 ∧ V.2.2.1 9 = S.2.2.1 9 ∧ V.2.2.1 8 = S.2.2.1 8 ∧ V.2.2.1 10 = S.2.2.1 10 ∧ V.2.2.1 11 = S.2.2.1 11 ∧ V.2.2.1 12 = S.2.2.1 12 ∧ V.2.2.2 13 = S.2.2.2 13
theorem bs_e {S V : MS} (h : bse S V) (k : Nat) : bsm S V k := by
  obtain ⟨a, b, c, d, e, f, g, i, j⟩ := h
  intro x _
  rw [a, b, c, d, e, f, g, i, j]
  exact ⟨⟨rfl, rfl, rfl, rfl, rfl, rfl, rfl⟩, fun _ _ => rfl, fun _ _ => rfl⟩
theorem bs_tr {S V W : MS} {k : Nat} (h : bsm S V k) (g : bsm V W k) : bsm S W k := by
  intro j hj
  obtain ⟨⟨b0, b1, b2, b3, b4, b5, b6⟩, b7, b8⟩ := h j hj
  obtain ⟨⟨a0, a1, a2, a3, a4, a5, a6⟩, a7, a8⟩ := g j hj
  exact ⟨⟨a0.trans b0, a1.trans b1, a2.trans b2, a3.trans b3, a4.trans b4, a5.trans b5, a6.trans b6⟩, fun e h => (a7 e h).trans (b7 e h), fun e h => (a8 e h).trans (b8 e h)⟩
theorem bi_e {n m : Nat} (hn : n ≤ m) {b : BL} {S V : MS} {k : Nat} (hs : bse S V) (h : biR n b S k) : biR m b V k := bi_j hn (bs_e hs (k + 1)) (by omega) h
theorem bl_k {n m : Nat} (hn : n ≤ m) {T U S V : MS} {B : List BL} (h : blR n T B S) (h1 : U.1 16 = T.1 16) (h2 : V.1 4 = S.1 4) (h3 : bse S V) : blR m U B V := ⟨h1.trans (h.1.trans h2.symm), fun k hk => bi_e hn h3 (h.2 k hk)⟩
theorem bl_set {n m : Nat} (hn : n ≤ m) {T U S V : MS} {B : List BL} (h : blR n T B S) {k : Nat} {b : BL} (h1 : U.1 16 = T.1 16) (h2 : V.1 4 = S.1 4) (hs : bsm S V k) (hb : biR m b V k) : blR m U (B.set k b) V := by
  refine ⟨h1.trans (h.1.trans h2.symm), fun j hj => ?_⟩
  rw [List.length_set] at hj
  rw [List.getElem?_set]
  by_cases e : k = j
  · subst e
    rw [if_pos rfl, if_pos hj]
    exact hb
  · rw [if_neg e]
    exact bi_j hn hs (fun q => e q.symm) (h.2 j hj)
theorem bc_eq {T : MS} {B : List BL} {S : MS} (hC : cinv T B) (h : T.1 16 = S.1 4) (x : Int32) : bcnd T x ↔ (0 ≤ x ∧ x ≤ S.1 4 - 1) := by
  obtain ⟨⟨b1, b2, -⟩, -⟩ := hC
  have e : (S.1 4).toInt = B.length := by rw [← h, b1, nI_toInt (by omega)]
  have e1 : (S.1 4 - 1).toInt = B.length - 1 := by
    rw [I_sub (by rw [e, show (1 : Int32).toInt = 1 from by decide]; omega) (by rw [e, show (1 : Int32).toInt = 1 from by decide]; omega), e]
    rfl
  have e2 : (T.1 16).toInt = B.length := by rw [h, e]
  show (0 ≤ x ∧ x < T.1 16) ↔ _
  rw [Int32.le_iff_toInt_le, Int32.lt_iff_toInt_lt, Int32.le_iff_toInt_le, e1, e2]
  omega
/-- a bill that is there: its number, its relation -/
theorem bx {n : Nat} {T : MS} {B : List BL} {S : MS} (hC : cinv T B) (h : blR n T B S) {x : Int32} (hx : bcnd T x) : ∃ k, k < 40 ∧ x = nI k ∧ x.toNatClampNeg = k ∧ k < B.length ∧ biR n (bat B x) S k ∧ bok (bat B x) := by
  have hl := bidx hC.1 hx
  have h40 := hC.1.2.1
  have hv : vp_in x 40 := by
    rw [vp_in_iff]
    have h0 := Int32.le_iff_toInt_le.mp hx.1
    have h1 := Int32.lt_iff_toInt_lt.mp hx.2
    rw [hC.1.1, nI_toInt (by omega)] at h1
    rw [show (0 : Int32).toInt = 0 from by decide] at h0
    omega
  obtain ⟨k, hk, ek⟩ := vp_in_of hv (by decide)
  have ec : x.toNatClampNeg = k := by rw [ek, nI_clamp (by omega)]
  rw [ec] at hl
  refine ⟨k, hk, ek, ec, hl, ?_, bokx hC.1 hx⟩
  have := h.2 k hl
  unfold bat
  rw [ec]
  exact this
theorem ix5n' {k t : Nat} (hk : k < 40) (ht : t < 5) : (5 * nI k + nI t).toNatClampNeg = 5 * k + t := by
  rw [show (5 : Int32) = nI 5 from rfl, nI_mul, nI_add, nI_clamp (by omega)]
theorem ix4k {k t : Nat} (hk : k < 40) (ht : t < 5) : (4 * nI k + nI t).toNatClampNeg = 4 * k + t := by
  rw [show (4 : Int32) = nI 4 from rfl, nI_mul, nI_add, nI_clamp (by omega)]
theorem be_bs (S : MS) {k t : Nat} (hk : k < 40) (ht : t < 5) : bsm S (mf_becomes S (nI k) (nI t)) k := by
  have e10 : (mf_becomes S (nI k) (nI t)).2.2.1 10 = upd (S.2.2.1 10) k (nI t) := by
    show upd (S.2.2.1 10) (nI k).toNatClampNeg (nI t) = _
    rw [nI_clamp (by omega)]
  have e13 : (mf_becomes S (nI k) (nI t)).2.2.2 13 = vp_updL (S.2.2.2 13) (5 * k + t) (S.2.1 0) := by
    show vp_updL (S.2.2.2 13) (5 * nI k + nI t).toNatClampNeg (S.2.1 0) = _
    rw [ix5n' hk ht]
  intro j hj
  refine ⟨⟨rfl, rfl, rfl, rfl, rfl, by rw [e10, updA_ne _ _ hj], rfl⟩, fun e he => rfl, fun s hs => by rw [e13, updL_ne _ _ (by omega)]⟩
theorem be_bi {n : Nat} {b : BL} {T S : MS} {k t : Nat} (hn : n ≤ 100000) (hk : k < 40) (ht : t < 5) (hd : dyR n T S) (h : biR n b S k) : biR n (bf_become b (nI t) (T.1 14)) (mf_becomes S (nI k) (nI t)) k := by
  have e10 : (mf_becomes S (nI k) (nI t)).2.2.1 10 = upd (S.2.2.1 10) k (nI t) := by
    show upd (S.2.2.1 10) (nI k).toNatClampNeg (nI t) = _
    rw [nI_clamp (by omega)]
  have e13 : (mf_becomes S (nI k) (nI t)).2.2.2 13 = vp_updL (S.2.2.2 13) (5 * k + t) (S.2.1 0) := by
    show vp_updL (S.2.2.2 13) (5 * nI k + nI t).toNatClampNeg (S.2.1 0) = _
    rw [ix5n' hk ht]
  have c9 : (bf_become b (nI t) (T.1 14)).2.2 9 = upd (b.2.2 9) t (T.1 14) := by
    show upd (b.2.2 9) (nI t).toNatClampNeg (T.1 14) = _
    rw [nI_clamp (by omega)]
  obtain ⟨⟨a0, a1, a2, a3, a4, a5, a6⟩, a7, a8⟩ := h
  obtain ⟨d, d1, d2, d3⟩ := hd
  refine ⟨⟨a0, a1, a2, a3, a4, by rw [e10, updA_at]; rfl, a6⟩, a7, fun s hs => ?_⟩
  rw [c9, e13]
  by_cases e : s = t
  · subst e
    rw [updA_at, updL_at, d2, d3, nI_toInt (by omega)]
    exact ⟨rfl, by omega, by omega⟩
  · rw [updA_ne _ _ e, updL_ne _ _ (by omega)]
    exact a8 s hs
theorem bi_7 {n : Nat} {b : BL} {S : MS} {k : Nat} (v : Int32) (h : biR n b S k) : biR n (bI b 7 v) S k := h
theorem set_id {n m : Nat} (hn : n ≤ m) {T U S V : MS} {B : List BL} (h : blR n T B S) (q : Int32) (v : Int64) (h1 : U = (cf_fd T q).2) (h2 : V = (mf_finding S v).2) : blR m U B V := by
  subst h1 h2
  exact bl_k hn h rfl rfl ⟨rfl, rfl, rfl, rfl, rfl, rfl, rfl, rfl, rfl⟩
def abR (X : Int64 × MS × List BL) (Y : Int64 × MS) : Prop := X.1 = Y.1 ∧ fnR X.2.1 Y.2
theorem ab_fd {T S : MS} {q : Int32} {v : Int64} {B : List BL} (h : afR (cf_fd T q) (mf_finding S v)) : abR ((cf_fd T q).1, (cf_fd T q).2, B) (mf_finding S v) := h
theorem g_protest {n : Nat} (hn : n ≤ 100000) {T : MS} {B : List BL} {S : MS} (hC : cinv T B) (hb : blR n T B S) (hd : dyR n T S) (hf : fnR T S) (x : Int32) : abR (cf_protest T B x) (mf_protest S x) ∧ blR n (cf_protest T B x).2.1 (cf_protest T B x).2.2 (mf_protest S x).2 := by
  unfold cf_protest mf_protest
  by_cases c1 : bcnd T x
  · rw [if_pos c1, if_pos ((bc_eq hC hb.1 x).mp c1)]
    obtain ⟨k, k1, k2, k3, k4, k5, k6⟩ := bx hC hb c1
    rw [k3, ← k5.1.2.2.2.2.2.1]
    by_cases c2 : (bat B x).2.1 5 = 2
    · rw [if_pos c2, if_pos c2]
      have hbi := be_bi hn k1 (show 3 < 5 by decide) hd k5
      rw [← k2] at hbi
      have hbs := be_bs S k1 (show 3 < 5 by decide)
      rw [← k2] at hbs
      refine ⟨⟨?_, hf⟩, ?_⟩
      · show ((bf_become (bat B x) (nI 3) (T.1 14)).2.2 9 3 - (bf_become (bat B x) (nI 3) (T.1 14)).2.2 9 2).toInt64 = (mf_becomes S x 3).2.1 0 - (mf_becomes S x 3).2.2.2 13 (5 * x + 2).toNatClampNeg
        obtain ⟨p1, p2, p3⟩ := hbi.2.2 2 (by decide)
        obtain ⟨d, d1, d2, d3⟩ := hd
        have q1 : (bf_become (bat B x) (nI 3) (T.1 14)).2.2 9 3 = nI d := by
          show upd ((bat B x).2.2 9) (nI 3).toNatClampNeg (T.1 14) 3 = _
          rw [nI_clamp (by decide), updA_at, d2]
        have q2 : (mf_becomes S x 3).2.1 0 = (nI d).toInt64 := d3
        rw [q1, q2, k2, show (2 : Int32) = nI 2 from rfl, ix5n' k1 (by decide)]
        rw [k2] at p1
        have p1' : (mf_becomes S (nI k) 3).2.2.2 13 (5 * k + 2) = ((bf_become (bat B (nI k)) (nI 3) (T.1 14)).2.2 9 2).toInt64 := p1.symm
        rw [p1']
        rw [k2] at p2 p3
        generalize (bf_become (bat B (nI k)) (nI 3) (T.1 14)).2.2 9 2 = z at *
        apply Int64.toInt_inj.mp
        have z1 := nI_toInt (n := d) (by omega)
        rw [Int32.toInt_toInt64, I_sub (by rw [z1]; omega) (by rw [z1]; omega), L_sub (by rw [Int32.toInt_toInt64, Int32.toInt_toInt64, z1]; omega) (by rw [Int32.toInt_toInt64, Int32.toInt_toInt64, z1]; omega), Int32.toInt_toInt64, Int32.toInt_toInt64]
      · exact bl_set (Nat.le_refl n) hb rfl rfl hbs hbi
    · rw [if_neg c2, if_neg c2]
      exact ⟨fd3 hf, set_id (Nat.le_refl n) hb 3 _ rfl rfl⟩
  · rw [if_neg c1, if_neg (fun q => c1 ((bc_eq hC hb.1 x).mpr q))]
    exact ⟨fd1 hf, set_id (Nat.le_refl n) hb 1 _ rfl rfl⟩
theorem g_take {n : Nat} (hn : n ≤ 100000) {T : MS} {B : List BL} {S : MS} (hC : cinv T B) (hb : blR n T B S) (hd : dyR n T S) (hf : fnR T S) (x r : Int32) : abR (cf_take T B x r) (mf_take S x r) ∧ blR n (cf_take T B x r).2.1 (cf_take T B x r).2.2 (mf_take S x r).2 := by
  unfold cf_take mf_take
  obtain ⟨dy, -⟩ := day_eq hn hd
  have h6 : cday T ≤ 6 ↔ mday S ≤ 6 := by
    rw [dy, show (6 : Int64) = (6 : Int32).toInt64 from by decide, ← Int64.not_lt, i64lt, Int32.not_lt]
  by_cases c1 : bcnd T x
  · rw [if_pos c1, if_pos ((bc_eq hC hb.1 x).mp c1)]
    obtain ⟨k, k1, k2, k3, k4, k5, k6⟩ := bx hC hb c1
    rw [k3, ← k5.1.2.2.2.2.2.1]
    by_cases c2 : (bat B x).2.1 5 = 0
    · rw [if_pos c2, if_pos c2]
      by_cases c3 : cday T ≤ 6
      · rw [if_pos c3, if_pos (h6.mp c3)]
        have key : ∀ t, t < 5 → ((nI t).toInt64 = ((mf_becomes S x (nI t)).2.2.1 10 k).toInt64 ∧ blR n T (B.set k (bf_become (bat B x) (nI t) (T.1 14))) (mf_becomes S x (nI t))) := by
          intro t ht
          have hbi := be_bi hn k1 ht hd k5
          rw [← k2] at hbi
          have hbs := be_bs S k1 ht
          rw [← k2] at hbs
          refine ⟨?_, bl_set (Nat.le_refl n) hb rfl rfl hbs hbi⟩
          rw [← hbi.1.2.2.2.2.2.1]
          rfl
        by_cases c4 : r = 0
        · rw [if_pos c4, if_pos c4]
          obtain ⟨u1, u2⟩ := key 1 (by decide)
          exact ⟨⟨u1, hf⟩, u2⟩
        · rw [if_neg c4, if_neg c4]
          obtain ⟨u1, u2⟩ := key 2 (by decide)
          exact ⟨⟨u1, hf⟩, u2⟩
      · rw [if_neg c3, if_neg (fun q => c3 (h6.mpr q))]
        exact ⟨fd7 hf, set_id (Nat.le_refl n) hb 7 _ rfl rfl⟩
    · rw [if_neg c2, if_neg c2]
      exact ⟨fd3 hf, set_id (Nat.le_refl n) hb 3 _ rfl rfl⟩
  · rw [if_neg c1, if_neg (fun q => c1 ((bc_eq hC hb.1 x).mpr q))]
    exact ⟨fd1 hf, set_id (Nat.le_refl n) hb 1 _ rfl rfl⟩
/-! pass, draw, what is asked about a bill -/
theorem cnt4 {b : BL} (h : bok b) : ∃ c, c ≤ 4 ∧ b.2.1 6 = nI c := by
  have h6 := h.2.2.2.2.1
  have : vp_in (b.2.1 6) 5 := vin h6 (by decide)
  obtain ⟨c, hc, e⟩ := vp_in_of this (by decide)
  exact ⟨c, by omega, e⟩
theorem pass_bi {n : Nat} {b : BL} {S : MS} {k c : Nat} (x : Int32) (hk : k < 40) (hc : c < 4) (e6 : b.2.1 6 = nI c) (h0 : ¬ b.2.1 0 = 1) (h : biR n b S k) : biR n (bf_move b x) (mf_pass1 (mf_pass2 S (nI k)) (nI k) x) k ∧ bsm S (mf_pass1 (mf_pass2 S (nI k)) (nI k) x) k := by
  obtain ⟨⟨a0, a1, a2, a3, a4, a5, a6⟩, a7, a8⟩ := h
  have s11 : S.2.2.1 11 k = nI c := a6.symm.trans e6
  have r8 : (mf_pass1 (mf_pass2 S (nI k)) (nI k) x).2.2.1 8 = upd (S.2.2.1 8) k x := by
    show upd (S.2.2.1 8) (nI k).toNatClampNeg x = _
    rw [nI_clamp (by omega)]
  have r11 : (mf_pass1 (mf_pass2 S (nI k)) (nI k) x).2.2.1 11 = upd (S.2.2.1 11) k (nI (c + 1)) := by
    show upd (S.2.2.1 11) (nI k).toNatClampNeg (S.2.2.1 11 (nI k).toNatClampNeg + 1) = _
    rw [nI_clamp (by omega), s11, nI_1]
  have r12 : (mf_pass1 (mf_pass2 S (nI k)) (nI k) x).2.2.1 12 = upd (S.2.2.1 12) (4 * k + c) (S.2.2.1 8 k) := by
    show upd (S.2.2.1 12) (4 * nI k + S.2.2.1 11 (nI k).toNatClampNeg).toNatClampNeg (S.2.2.1 8 (nI k).toNatClampNeg) = _
    rw [nI_clamp (by omega), s11, ix4k hk (by omega)]
  have hlt : b.2.1 6 < 4 := by rw [e6, show (4 : Int32) = nI 4 from rfl, nI_ltI (by omega) (by omega)]; exact hc
  have eb : bf_move b x = (b.1, (bI (bI (bA b 8 (b.2.1 6).toNatClampNeg (b.2.1 4)) 6 (b.2.1 6 + 1)) 4 x).2) := by
    unfold bf_move bf_move0
    rw [if_pos ⟨h0, hlt⟩]
  have e8 : (bf_move b x).2.2 8 = upd (b.2.2 8) c (b.2.1 4) := by
    rw [eb]
    show upd (b.2.2 8) (b.2.1 6).toNatClampNeg (b.2.1 4) = _
    rw [e6, nI_clamp (by omega)]
  have f6 : (bf_move b x).2.1 6 = nI (c + 1) := by
    rw [eb]
    show b.2.1 6 + 1 = _
    rw [e6, nI_1]
  refine ⟨⟨⟨by rw [eb]; exact a0, by rw [eb]; exact a1, by rw [eb]; exact a2, by rw [eb]; exact a3, by rw [r8, updA_at, eb]; rfl, by rw [eb]; exact a5, by rw [r11, updA_at, f6]⟩, fun e h1 h2 => ?_, fun s hs => ?_⟩, fun j hj => ⟨⟨rfl, rfl, rfl, rfl, by rw [r8, updA_ne _ _ hj], rfl, by rw [r11, updA_ne _ _ hj]⟩, fun e he => by rw [r12, updA_ne _ _ (by omega)], fun s hs => rfl⟩⟩
  · rw [f6, nI_ltI (by omega) (by omega)] at h2
    rw [e8, r12]
    by_cases q : e = c
    · subst q
      rw [updA_at, updA_at, a4]
    · rw [updA_ne _ _ q, updA_ne _ _ (by omega)]
      exact a7 e h1 (by rw [e6, nI_ltI (by omega) (by omega)]; omega)
  · have : (bf_move b x).2.2 9 = b.2.2 9 := by rw [eb]; rfl
    rw [this]
    exact a8 s hs
theorem pass_b1 {n : Nat} {b : BL} {S : MS} {k : Nat} (x : Int32) (hk : k < 40) (h0 : b.2.1 0 = 1) (h : biR n b S k) : biR n (bf_move b x) (mf_pass1 S (nI k) x) k ∧ bsm S (mf_pass1 S (nI k) x) k := by
  obtain ⟨⟨a0, a1, a2, a3, a4, a5, a6⟩, a7, a8⟩ := h
  have r8 : (mf_pass1 S (nI k) x).2.2.1 8 = upd (S.2.2.1 8) k x := by
    show upd (S.2.2.1 8) (nI k).toNatClampNeg x = _
    rw [nI_clamp (by omega)]
  have eb : bf_move b x = (b.1, (bI b 4 x).2) := by
    unfold bf_move bf_move0
    rw [if_neg (fun q => q.1 h0)]
  refine ⟨⟨⟨by rw [eb]; exact a0, by rw [eb]; exact a1, by rw [eb]; exact a2, by rw [eb]; exact a3, by rw [r8, updA_at, eb]; rfl, by rw [eb]; exact a5, by rw [eb]; exact a6⟩, by rw [eb]; exact a7, by rw [eb]; exact a8⟩, fun j hj => ⟨⟨rfl, rfl, rfl, rfl, by rw [r8, updA_ne _ _ hj], rfl, rfl⟩, fun e he => rfl, fun s hs => rfl⟩⟩
theorem g_pass {n : Nat} {T : MS} {B : List BL} {S : MS} (hC : cinv T B) (hb : blR n T B S) (hf : fnR T S) (x y : Int32) : abR (cf_pass T B x y) (mf_pass S x y) ∧ blR n (cf_pass T B x y).2.1 (cf_pass T B x y).2.2 (mf_pass S x y).2 := by
  unfold cf_pass mf_pass
  by_cases c1 : bcnd T x ∧ (0 ≤ y ∧ y ≤ 9)
  · rw [if_pos c1, if_pos (show (0 ≤ x ∧ x ≤ S.1 4 - 1) ∧ (0 ≤ y ∧ y ≤ 9) from ⟨(bc_eq hC hb.1 x).mp c1.1, c1.2⟩)]
    obtain ⟨k, k1, k2, k3, k4, k5, k6⟩ := bx hC hb c1.1
    obtain ⟨c, hc, e6⟩ := cnt4 k6
    have f0 := k5.1.1
    have f4 := k5.1.2.2.2.2.1
    have f5 := k5.1.2.2.2.2.2.1
    have f6 := k5.1.2.2.2.2.2.2
    rw [k3, ← f5, ← f4, ← f0, ← f6]
    by_cases c2 : ¬ (bat B x).2.1 5 = 0 ∧ ¬ (bat B x).2.1 5 = 1
    · rw [if_pos c2, if_pos c2]
      exact ⟨fd3 hf, set_id (Nat.le_refl n) hb 3 _ rfl rfl⟩
    · rw [if_neg c2, if_neg c2]
      by_cases c3 : (bat B x).2.1 4 = y
      · rw [if_pos c3, if_pos c3]
        exact ⟨fd5 hf, set_id (Nat.le_refl n) hb 5 _ rfl rfl⟩
      · rw [if_neg c3, if_neg c3]
        by_cases c4 : (bat B x).2.1 0 = 1
        · rw [if_pos (Or.inl c4), if_pos c4]
          obtain ⟨u1, u2⟩ := pass_b1 y k1 c4 k5
          rw [← k2] at u1 u2
          exact ⟨⟨congrArg Int32.toInt64 u1.1.2.2.2.2.2.2, hf⟩, bl_set (Nat.le_refl n) hb rfl rfl u2 u1⟩
        · rw [if_neg c4]
          have hlt : (bat B x).2.1 6 < 4 ↔ ¬ (bat B x).2.1 6 = 4 := by
            rw [e6, show (4 : Int32) = nI 4 from rfl, nI_ltI (by omega) (by omega), nI_eq (by omega) (by omega)]
            omega
          by_cases c5 : (bat B x).2.1 6 = 4
          · rw [if_neg (fun q => q.elim c4 (fun z => (hlt.mp z) c5)), if_pos c5]
            exact ⟨fd4 hf, set_id (Nat.le_refl n) hb 4 _ rfl rfl⟩
          · have c5' := hlt.mpr c5
            rw [if_pos (Or.inr c5'), if_neg c5]
            rw [e6, show (4 : Int32) = nI 4 from rfl, nI_ltI (by omega) (by omega)] at c5'
            obtain ⟨u1, u2⟩ := pass_bi y k1 c5' e6 c4 k5
            rw [← k2] at u1 u2
            exact ⟨⟨congrArg Int32.toInt64 u1.1.2.2.2.2.2.2, hf⟩, bl_set (Nat.le_refl n) hb rfl rfl u2 u1⟩
  · rw [if_neg c1, if_neg (fun q => c1 ⟨(bc_eq hC hb.1 x).mpr q.1, q.2⟩)]
    exact ⟨fd1 hf, set_id (Nat.le_refl n) hb 1 _ rfl rfl⟩
theorem g_as {n : Nat} {T : MS} {B : List BL} {S : MS} (hC : cinv T B) (hb : blR n T B S) (hf : fnR T S) (x y : Int32) : abR (cf_as T B x y) (mf_as S x y) := by
  unfold cf_as mf_as
  by_cases c1 : bcnd T x ∧ (0 ≤ y ∧ y ≤ 2)
  · rw [if_pos c1, if_pos (show (0 ≤ x ∧ x ≤ S.1 4 - 1) ∧ (0 ≤ y ∧ y ≤ 2) from ⟨(bc_eq hC hb.1 x).mp c1.1, c1.2⟩)]
    obtain ⟨k, k1, k2, k3, k4, k5, k6⟩ := bx hC hb c1.1
    rw [k3, ← k5.1.1, ← k5.1.2.2.2.1]
    by_cases c2 : y = 0
    · rw [if_pos c2, if_pos c2]
      exact ⟨rfl, hf⟩
    · rw [if_neg c2, if_neg c2]
      by_cases c3 : y = (bat B x).2.1 0
      · rw [if_pos c3, if_pos c3.symm]
        exact ⟨rfl, hf⟩
      · rw [if_neg c3, if_neg (fun q => c3 q.symm)]
        exact fd5 hf
  · rw [if_neg c1, if_neg (fun q => c1 ⟨(bc_eq hC hb.1 x).mpr q.1, q.2⟩)]
    exact fd1 hf
theorem g_about {n : Nat} {T : MS} {B : List BL} {S : MS} (hC : cinv T B) (hb : blR n T B S) (hf : fnR T S) (x q : Int32) : abR (cf_about T B x q) (mf_about S x q) := by
  unfold cf_about mf_about
  by_cases c1 : bcnd T x ∧ (0 ≤ q ∧ q ≤ 11)
  · rw [if_pos c1, if_pos (show (0 ≤ x ∧ x ≤ S.1 4 - 1) ∧ (0 ≤ q ∧ q ≤ 11) from ⟨(bc_eq hC hb.1 x).mp c1.1, c1.2⟩)]
    obtain ⟨k, k1, k2, k3, k4, k5, k6⟩ := bx hC hb c1.1
    obtain ⟨c, hc, e6⟩ := cnt4 k6
    obtain ⟨⟨a0, a1, a2, a3, a4, a5, a6⟩, a7, a8⟩ := k5
    obtain ⟨s5, hs5, es5⟩ := vp_in_of k6.2.2.2.1 (by decide)
    rw [k3, ← a0, ← a1, ← a2, ← a3, ← a4, ← a5, ← a6]
    obtain ⟨z, hz, ez⟩ := vp_in_of (vin c1.2 (by decide) : vp_in q 12) (by decide)
    subst ez
    by_cases q0 : nI z = 0
    · rw [if_pos q0, if_pos q0]; exact ⟨rfl, hf⟩
    rw [if_neg q0, if_neg q0]
    by_cases q1 : nI z = 1
    · rw [if_pos q1, if_pos q1]; exact ⟨rfl, hf⟩
    rw [if_neg q1, if_neg q1]
    by_cases q2 : nI z = 2
    · rw [if_pos q2, if_pos q2]; exact ⟨rfl, hf⟩
    rw [if_neg q2, if_neg q2]
    by_cases q3 : nI z = 3
    · rw [if_pos q3, if_pos q3]; exact ⟨rfl, hf⟩
    rw [if_neg q3, if_neg q3]
    by_cases q4 : nI z = 4
    · rw [if_pos q4, if_pos q4]; exact ⟨rfl, hf⟩
    rw [if_neg q4, if_neg q4]
    by_cases q5 : nI z = 5
    · rw [if_pos q5, if_pos q5]; exact ⟨rfl, hf⟩
    rw [if_neg q5, if_neg q5]
    by_cases q6 : nI z = 6
    · rw [if_pos q6, if_pos q6]; exact ⟨rfl, hf⟩
    rw [if_neg q6, if_neg q6]
    by_cases q11 : nI z = 11
    · rw [if_pos q11, if_pos q11]
      refine ⟨?_, hf⟩
      show ((bat B x).2.2 9 ((bat B x).2.1 5).toNatClampNeg).toInt64 = S.2.2.2 13 (5 * x + (bat B x).2.1 5).toNatClampNeg
      rw [es5, nI_clamp (by omega), show (5 * x + nI s5).toNatClampNeg = 5 * k + s5 by rw [k2]; exact ix5n' k1 hs5]
      exact (a8 s5 hs5).1
    · rw [if_neg q11, if_neg q11]
      have e0 : ∀ j : Nat, j < 12 → ¬ nI z = nI j → z ≠ j := fun j hj h e => h (by rw [e])
      have z0 := e0 0 (by decide) q0
      have z1 := e0 1 (by decide) q1
      have z2 := e0 2 (by decide) q2
      have z3 := e0 3 (by decide) q3
      have z4 := e0 4 (by decide) q4
      have z5 := e0 5 (by decide) q5
      have z6 := e0 6 (by decide) q6
      have z11 := e0 11 (by decide) q11
      have e7 : nI z - 7 = nI (z - 7) := by rw [show (7 : Int32) = nI 7 from rfl, pk_sub (by omega)]
      unfold cab
      rw [e7, e6]
      by_cases c3 : z - 7 < c
      · rw [if_pos (show 0 ≤ nI (z - 7) ∧ nI (z - 7) < nI c from ⟨by rw [show (0 : Int32) = nI 0 from rfl, nI_leI (by omega) (by omega)]; omega, by rw [nI_ltI (by omega) (by omega)]; exact c3⟩), if_neg (by rw [nI_leI (by omega) (by omega)]; omega)]
        refine ⟨?_, hf⟩
        have eix : (4 * x + nI z - 7).toNatClampNeg = 4 * k + (z - 7) := by
          rw [k2, show (4 : Int32) = nI 4 from rfl, nI_mul, nI_add, show (7 : Int32) = nI 7 from rfl, pk_sub (by omega), nI_clamp (by omega)]
          omega
        show (bf_end (bat B x) (nI (z - 7))).toInt64 = (S.2.2.1 12 (4 * x + nI z - 7).toNatClampNeg).toInt64
        rw [eix, ← a7 (z - 7) (by omega) (by rw [e6, nI_ltI (by omega) (by omega)]; exact c3)]
        unfold bf_end
        rw [if_pos (show 0 ≤ nI (z - 7) ∧ nI (z - 7) ≤ 3 from ⟨by rw [show (0 : Int32) = nI 0 from rfl, nI_leI (by omega) (by omega)]; omega, by rw [show (3 : Int32) = nI 3 from rfl, nI_leI (by omega) (by omega)]; omega⟩), nI_clamp (by omega)]
      · rw [if_neg (fun h => c3 ((nI_ltI (by omega) (by omega)).mp h.2)), if_pos (by rw [nI_leI (by omega) (by omega)]; omega)]
        exact fd2 hf
  · rw [if_neg c1, if_neg (fun q => c1 ⟨(bc_eq hC hb.1 x).mpr q.1, q.2⟩)]
    exact fd1 hf
theorem bfL_eq {n : Nat} {b : BL} {S : MS} {k : Nat} (hk : k < 40) (hn : n ≤ 100000) (h : biR n b S k) {y d : Int32} (hd : 0 ≤ d) (hr : 0 ≤ (mroad S y).toInt ∧ (mroad S y).toInt ≤ 30) : ∀ m, m ≤ 5 → (bfL b (d - mroad S y) m = -1 ∧ knT S y (nI k) d m = -1000000000002) ∨ ∃ j, j < 5 ∧ bfL b (d - mroad S y) m = nI j ∧ knT S y (nI k) d m = (nI j).toInt64
  | 0, _ => Or.inl ⟨rfl, rfl⟩
  | m + 1, hm => by
    obtain ⟨p1, p2, p3⟩ := h.2.2 m (by omega)
    have hd' := Int32.le_iff_toInt_le.mp hd
    rw [show (0 : Int32).toInt = 0 from by decide] at hd'
    have hdm := d.toInt_lt
    have e13 : S.2.2.2 13 (5 * nI k + nI m).toNatClampNeg = (b.2.2 9 m).toInt64 := by rw [ix5n' hk (by omega), p1]
    have ecl : (nI m).toNatClampNeg = m := nI_clamp (by omega)
    have hiff : (¬ b.2.2 9 (nI m).toNatClampNeg = -1 ∧ b.2.2 9 (nI m).toNatClampNeg ≤ d - mroad S y) ↔ (0 ≤ S.2.2.2 13 (5 * nI k + nI m).toNatClampNeg ∧ S.2.2.2 13 (5 * nI k + nI m).toNatClampNeg + (mroad S y).toInt64 ≤ d.toInt64) := by
      rw [e13, ecl]
      have s1 : (d - mroad S y).toInt = d.toInt - (mroad S y).toInt := I_sub (by omega) (by omega)
      have s2 : ((b.2.2 9 m).toInt64 + (mroad S y).toInt64).toInt = (b.2.2 9 m).toInt + (mroad S y).toInt := by
        rw [L_add (by rw [Int32.toInt_toInt64, Int32.toInt_toInt64]; omega) (by rw [Int32.toInt_toInt64, Int32.toInt_toInt64]; omega), Int32.toInt_toInt64, Int32.toInt_toInt64]
      rw [Int32.le_iff_toInt_le, Int64.le_iff_toInt_le, Int64.le_iff_toInt_le, s1, s2, Int32.toInt_toInt64, Int32.toInt_toInt64, ← Int32.toInt_inj, show (-1 : Int32).toInt = -1 from by decide, show (0 : Int64).toInt = 0 from by decide]
      omega
    show ((if ¬ b.2.2 9 (nI m).toNatClampNeg = -1 ∧ b.2.2 9 (nI m).toNatClampNeg ≤ d - mroad S y then nI m else bfL b (d - mroad S y) m) = -1 ∧ (if 0 ≤ S.2.2.2 13 (5 * nI k + nI m).toNatClampNeg ∧ S.2.2.2 13 (5 * nI k + nI m).toNatClampNeg + (mroad S y).toInt64 ≤ d.toInt64 then (nI m).toInt64 else knT S y (nI k) d m) = -1000000000002) ∨ ∃ j, j < 5 ∧ (if ¬ b.2.2 9 (nI m).toNatClampNeg = -1 ∧ b.2.2 9 (nI m).toNatClampNeg ≤ d - mroad S y then nI m else bfL b (d - mroad S y) m) = nI j ∧ (if 0 ≤ S.2.2.2 13 (5 * nI k + nI m).toNatClampNeg ∧ S.2.2.2 13 (5 * nI k + nI m).toNatClampNeg + (mroad S y).toInt64 ≤ d.toInt64 then (nI m).toInt64 else knT S y (nI k) d m) = (nI j).toInt64
    by_cases c : ¬ b.2.2 9 (nI m).toNatClampNeg = -1 ∧ b.2.2 9 (nI m).toNatClampNeg ≤ d - mroad S y
    · rw [if_pos c, if_pos (hiff.mp c)]
      exact Or.inr ⟨m, by omega, rfl, rfl⟩
    · rw [if_neg c, if_neg (fun q => c (hiff.mpr q))]
      exact bfL_eq hk hn h hd hr m (by omega)
def rsR (T S : MS) : Prop := T.2.2.1 1 = S.2.2.1 2 ∧ T.2.2.1 2 = S.2.2.1 3 ∧ ∀ t, t < 5 → 0 ≤ (T.2.2.1 1 t).toInt ∧ (T.2.2.1 1 t).toInt ≤ 30
theorem rd_b {T S : MS} {B : List BL} (hC : cinv T B) (h : rsR T S) {y : Int32} (hy : vp_in y 10) : croad T y = mroad S y ∧ 0 ≤ (mroad S y).toInt ∧ (mroad S y).toInt ≤ 30 := by
  have e : croad T y = mroad S y := by
    show T.2.2.1 1 (T.2.2.1 2 y.toNatClampNeg).toNatClampNeg = S.2.2.1 2 (S.2.2.1 3 y.toNatClampNeg).toNatClampNeg
    rw [h.1, h.2.1]
  have hs := hC.2.1 _ (vcl hy)
  have k := h.2.2 _ (vcl hs)
  refine ⟨e, ?_⟩
  rw [← e]
  exact k
theorem g_knows {n : Nat} (hn : n ≤ 100000) {T : MS} {B : List BL} {S : MS} (hC : cinv T B) (hb : blR n T B S) (hr : rsR T S) (hf : fnR T S) (y x d : Int32) : abR (cf_knows T B y x d) (mf_knows S y x d) := by
  unfold cf_knows mf_knows
  by_cases c1 : bcnd T x ∧ (0 ≤ y ∧ y ≤ 9) ∧ 0 ≤ d
  · rw [if_pos c1, if_pos (show (0 ≤ y ∧ y ≤ 9) ∧ (0 ≤ x ∧ x ≤ S.1 4 - 1) ∧ 0 ≤ d from ⟨c1.2.1, (bc_eq hC hb.1 x).mp c1.1, c1.2.2⟩)]
    obtain ⟨k, k1, k2, k3, k4, k5, k6⟩ := bx hC hb c1.1
    obtain ⟨r1, r2⟩ := rd_b hC hr (vin c1.2.1 (by decide) : vp_in y 10)
    rw [r1]
    rcases bfL_eq k1 hn k5 c1.2.2 r2 5 (Nat.le_refl 5) with ⟨u1, u2⟩ | ⟨j, hj, u1, u2⟩
    · rw [← k2] at u2
      rw [u1, u2, if_neg (by decide), if_pos rfl]
      exact fd2 hf
    · rw [← k2] at u2
      have hne : ¬ (nI j).toInt64 = -1000000000002 := by
        intro q
        have := congrArg Int64.toInt q
        rw [Int32.toInt_toInt64, nI_toInt (by omega), show (-1000000000002 : Int64).toInt = -1000000000002 from by decide] at this
        omega
      rw [u1, u2, if_pos (by rw [show (0 : Int32) = nI 0 from rfl, nI_leI (by omega) (by omega)]; omega), if_neg hne]
      exact ⟨rfl, hf⟩
  · rw [if_neg c1, if_neg (fun q => c1 ⟨(bc_eq hC hb.1 x).mpr q.2.1, q.1, q.2.2⟩)]
    exact fd1 hf
/-! draw, pay, recourse -/
theorem draw_bl {n : Nat} (hn : n ≤ 100000) {T : MS} {B : List BL} {S : MS} (hC : cinv T B) (hb : blR n T B S) (hd : dyR n T S) (hlt : B.length < 40) (q9 e9 g9 : Nat) (kd dr de py am : Int32) : blR n (sI T 16 (T.1 16 + 1)) (B ++ [bnew q9 e9 g9 kd dr de py am (T.1 14)]) (sI (mf_drawn S (S.1 4) kd dr de py am) 4 ((mf_drawn S (S.1 4) kd dr de py am).1 4 + 1)) := by
  obtain ⟨k, ek⟩ : ∃ k, k = B.length := ⟨_, rfl⟩
  have e4 : S.1 4 = nI k := by rw [← hb.1, hC.1.1, ek]
  have hk : k < 40 := by omega
  have ecl : (nI k).toNatClampNeg = k := nI_clamp (by omega)
  obtain ⟨V, eV⟩ : ∃ V, V = sI (mf_drawn S (S.1 4) kd dr de py am) 4 ((mf_drawn S (S.1 4) kd dr de py am).1 4 + 1) := ⟨_, rfl⟩
  rw [← eV]
  have v4 : V.1 4 = S.1 4 + 1 := by rw [eV]; rfl
  rw [e4] at eV
  have v5 : V.2.2.1 5 = upd (S.2.2.1 5) k kd := by rw [eV]; show upd (S.2.2.1 5) (nI k).toNatClampNeg kd = _; rw [ecl]
  have v6 : V.2.2.1 6 = upd (S.2.2.1 6) k dr := by rw [eV]; show upd (S.2.2.1 6) (nI k).toNatClampNeg dr = _; rw [ecl]
  have v7 : V.2.2.1 7 = upd (S.2.2.1 7) k de := by rw [eV]; show upd (S.2.2.1 7) (nI k).toNatClampNeg de = _; rw [ecl]
  have v8 : V.2.2.1 8 = upd (S.2.2.1 8) k py := by rw [eV]; show upd (S.2.2.1 8) (nI k).toNatClampNeg py = _; rw [ecl]
  have v9 : V.2.2.1 9 = upd (S.2.2.1 9) k am := by rw [eV]; show upd (S.2.2.1 9) (nI k).toNatClampNeg am = _; rw [ecl]
  have v10 : V.2.2.1 10 = upd (S.2.2.1 10) k 0 := by rw [eV]; show upd (S.2.2.1 10) (nI k).toNatClampNeg 0 = _; rw [ecl]
  have v11 : V.2.2.1 11 = upd (S.2.2.1 11) k 0 := by rw [eV]; show upd (S.2.2.1 11) (nI k).toNatClampNeg 0 = _; rw [ecl]
  have v12 : V.2.2.1 12 = S.2.2.1 12 := by rw [eV]; rfl
  have v13 : V.2.2.2 13 = vp_updL (vp_updL (vp_updL (vp_updL (vp_updL (vp_updL (S.2.2.2 13) (5 * k + 0) (-1)) (5 * k + 1) (-1)) (5 * k + 2) (-1)) (5 * k + 3) (-1)) (5 * k + 4) (-1)) (5 * k + 0) (S.2.1 0) := by
    rw [eV]
    show vp_updL (vp_updL (vp_updL (vp_updL (vp_updL (vp_updL (S.2.2.2 13) (5 * nI k + nI 0).toNatClampNeg (-1)) (5 * nI k + nI 1).toNatClampNeg (-1)) (5 * nI k + nI 2).toNatClampNeg (-1)) (5 * nI k + nI 3).toNatClampNeg (-1)) (5 * nI k + nI 4).toNatClampNeg (-1)) (5 * nI k + nI 0).toNatClampNeg (S.2.1 0) = _
    rw [ix5n' hk (by decide), ix5n' hk (by decide), ix5n' hk (by decide), ix5n' hk (by decide), ix5n' hk (by decide)]
  clear eV
  have hs : bsm S V k := by
    intro j hj
    refine ⟨⟨?_, ?_, ?_, ?_, ?_, ?_, ?_⟩, fun e he => by rw [v12], fun s hs => ?_⟩
    · rw [v5, updA_ne _ _ hj]
    · rw [v6, updA_ne _ _ hj]
    · rw [v7, updA_ne _ _ hj]
    · rw [v9, updA_ne _ _ hj]
    · rw [v8, updA_ne _ _ hj]
    · rw [v10, updA_ne _ _ hj]
    · rw [v11, updA_ne _ _ hj]
    · rw [v13, updL_ne _ _ (by omega), updL_ne _ _ (by omega), updL_ne _ _ (by omega), updL_ne _ _ (by omega), updL_ne _ _ (by omega), updL_ne _ _ (by omega)]
  refine ⟨?_, fun j hj => ?_⟩
  · rw [v4]
    show T.1 16 + 1 = _
    rw [hb.1]
  · rw [List.length_append] at hj
    have hj' : j < B.length + 1 := hj
    by_cases e : j = B.length
    · subst e
      rw [List.getElem?_append_right (Nat.le_refl _), Nat.sub_self, ← ek]
      show biR n (bnew q9 e9 g9 kd dr de py am (T.1 14)) V k
      obtain ⟨d, d1, d2, d3⟩ := hd
      refine ⟨⟨?_, ?_, ?_, ?_, ?_, ?_, ?_⟩, fun e h1 h2 => ?_, fun s hs' => ?_⟩
      · rw [v5, updA_at]; rfl
      · rw [v6, updA_at]; rfl
      · rw [v7, updA_at]; rfl
      · rw [v9, updA_at]; rfl
      · rw [v8, updA_at]; rfl
      · rw [v10, updA_at]; rfl
      · rw [v11, updA_at]; rfl
      · exfalso
        have h3 : nI e < nI 0 := h2
        rw [nI_ltI (by omega) (by omega)] at h3
        omega
      · have b9 : (bnew q9 e9 g9 kd dr de py am (T.1 14)).2.2 9 = upd (upd (upd (upd (upd (upd (fun _ => 0) 0 (-1)) 1 (-1)) 2 (-1)) 3 (-1)) 4 (-1)) 0 (T.1 14) := rfl
        rw [b9, v13]
        by_cases s0 : s = 0
        · subst s0
          rw [updA_at, updL_at, d2, d3, nI_toInt (by omega)]
          exact ⟨rfl, by omega, by omega⟩
        · have e1 : upd (upd (upd (upd (upd (upd (fun _ => (0 : Int32)) 0 (-1)) 1 (-1)) 2 (-1)) 3 (-1)) 4 (-1)) 0 (T.1 14) s = -1 := by
            rw [updA_ne _ _ s0]
            obtain rfl | rfl | rfl | rfl := (show s = 1 ∨ s = 2 ∨ s = 3 ∨ s = 4 by omega) <;> rfl
          have e2 : vp_updL (vp_updL (vp_updL (vp_updL (vp_updL (vp_updL (S.2.2.2 13) (5 * k + 0) (-1)) (5 * k + 1) (-1)) (5 * k + 2) (-1)) (5 * k + 3) (-1)) (5 * k + 4) (-1)) (5 * k + 0) (S.2.1 0) (5 * k + s) = -1 := by
            rw [updL_ne _ _ (by omega)]
            obtain rfl | rfl | rfl | rfl := (show s = 1 ∨ s = 2 ∨ s = 3 ∨ s = 4 by omega)
            · rw [updL_ne _ _ (by omega), updL_ne _ _ (by omega), updL_ne _ _ (by omega), updL_at]
            · rw [updL_ne _ _ (by omega), updL_ne _ _ (by omega), updL_at]
            · rw [updL_ne _ _ (by omega), updL_at]
            · rw [updL_at]
          rw [e1, e2]
          exact ⟨by decide, by decide, by rw [show (-1 : Int32).toInt = -1 from by decide]; omega⟩
    · rw [List.getElem?_append_left (by omega)]
      exact bi_j (Nat.le_refl n) hs (by omega) (hb.2 j (by omega))
theorem ct_e (S : MS) (x q : Int32) (v : Int64) : bse S (mf_ctow S x q v) := by
  obtain ⟨-, -, h3, h4⟩ := fx_ctow S x q v
  rw [bse, h3]
  exact ⟨rfl, rfl, rfl, rfl, rfl, rfl, rfl, rfl, h4 13 (by decide)⟩
theorem dy_k {n m : Nat} (hn : n ≤ m) {T U S V : MS} (h : dyR n T S) (h1 : U.1 14 = T.1 14) (h2 : V.2.1 0 = S.2.1 0) : dyR m U V := by
  obtain ⟨d, a, b, c⟩ := h
  exact ⟨d, by omega, h1.trans b, h2.trans c⟩
/-- a sum comes to be owed, or nothing does: class and reference -/
theorem chB {M : Int} (hM : M ≤ 1000000000000) {T S : MS} (hd : dnv M (S.2.2.2 15)) (h : dbR T S) (hf : fnR T S) {b : BL} {x q v : Int32} (hx : vp_in x 10) (hq : vp_in q 10) (e4 : b.2.1 4 = q) (e3 : b.2.1 3 = v) (hv : 0 ≤ v.toInt ∧ v.toInt ≤ 100000) : (covB T b x ↔ (¬ x = q ∧ (1000000000 < mwould S x q v.toInt64 ∨ mwould S x q v.toInt64 < -1000000000))) ∧ dbR (cf_chB T b x) (mf_ctow S x q v.toInt64) ∧ fnR (cf_chB T b x) (mf_ctow S x q v.toInt64) ∧ (cf_chB T b x).1 = T.1 ∧ (((cf_chB T b x).2.1 30 = T.2.1 30 ∧ (mf_ctow S x q v.toInt64).2.2.2 15 = S.2.2.2 15) ∨ (cf_chB T b x).2.1 30 = T.2.1 30 + 1) := by
  have hv' : -1000000000000 ≤ v.toInt64.toInt ∧ v.toInt64.toInt ≤ 1000000000000 := by rw [Int32.toInt_toInt64]; omega
  refine ⟨?_, ?_⟩
  · show (¬ x = b.2.1 4 ∧ 1000000000 < cabs (cwould T x (b.2.1 4) (b.2.1 3).toInt64)) ↔ _
    rw [e4, e3, wo_eq h hx hq, ov_iff (wo_b hM hd hx hq hv')]
  · unfold cf_chB
    rw [e4, e3]
    by_cases e : x = q
    · rw [if_pos e]
      have em : mf_ctow S x q v.toInt64 = S := by unfold mf_ctow; rw [if_pos e]
      rw [em]
      exact ⟨h, hf, rfl, Or.inl ⟨rfl, rfl⟩⟩
    · rw [if_neg e]
      refine ⟨fun a c ha hc => ch_db hM hd h hx hq e hv' a c ha hc, ?_, rfl, Or.inr rfl⟩
      refine fn_k hf ?_ ((fx_ctow S x q v.toInt64).2.2.2 22 (by decide))
      show (sB (sB T _ _ _) _ _ _).2.2.2 0 = _
      rw [sB_ne _ _ _ (by omega), sB_ne _ _ _ (by omega)]
def vrR (T U S V : MS) : Prop := (U.2.1 30 = T.2.1 30 ∧ V.2.2.2 15 = S.2.2.2 15) ∨ U.2.1 30 = T.2.1 30 + 1
theorem g_pay {n : Nat} (hn : n ≤ 100000) {M : Int} (hM : M ≤ 1000000000000) {T : MS} {B : List BL} {S : MS} (hC : cinv T B) (hR : rinv M S) (hb : blR n T B S) (hd : dyR n T S) (hD : dbR T S) (hf : fnR T S) (x : Int32) : abR (cf_pay T B x) (mf_pay S x) ∧ blR n (cf_pay T B x).2.1 (cf_pay T B x).2.2 (mf_pay S x).2 ∧ dbR (cf_pay T B x).2.1 (mf_pay S x).2 ∧ vrR T (cf_pay T B x).2.1 S (mf_pay S x).2 := by
  unfold cf_pay mf_pay
  obtain ⟨dy, -⟩ := day_eq hn hd
  have h6 : cday T ≤ 6 ↔ mday S ≤ 6 := by
    rw [dy, show (6 : Int64) = (6 : Int32).toInt64 from by decide, ← Int64.not_lt, i64lt, Int32.not_lt]
  by_cases c1 : bcnd T x
  · rw [if_pos c1, if_pos ((bc_eq hC hb.1 x).mp c1)]
    obtain ⟨k, k1, k2, k3, k4, k5, k6⟩ := bx hC hb c1
    obtain ⟨⟨a0, a1, a2, a3, a4, a5, a6⟩, a7, a8⟩ := id k5
    rw [k3, ← a5, ← a2, ← a4]
    have v9 := hR.2.2.2.2.2 k k1
    rw [← a3] at v9 ⊢
    by_cases c2 : (bat B x).2.1 5 = 1
    · rw [if_pos c2, if_pos c2]
      by_cases c3 : cday T ≤ 6
      · rw [if_pos c3, if_pos (h6.mp c3)]
        exact ⟨fd7 hf, set_id (Nat.le_refl n) hb 7 _ rfl rfl, db_fd hD _ _, Or.inl ⟨rfl, rfl⟩⟩
      · rw [if_neg c3, if_neg (fun q => c3 (h6.mpr q))]
        obtain ⟨o1, o2, o3, o4, o5⟩ := chB hM hR.2.2.2.1 hD hf k6.2.1 k6.2.2.1 (b := bat B x) rfl rfl v9
        by_cases c4 : covB T (bat B x) ((bat B x).2.1 2)
        · rw [if_pos c4, if_pos (o1.mp c4)]
          exact ⟨fd4 hf, set_id (Nat.le_refl n) hb 4 _ rfl rfl, db_fd hD _ _, Or.inl ⟨rfl, rfl⟩⟩
        · rw [if_neg c4, if_neg (fun q => c4 (o1.mpr q))]
          have ep : mf_paid S x = sA (mf_becomes (mf_ctow S ((bat B x).2.1 2) ((bat B x).2.1 4) ((bat B x).2.1 3).toInt64) x 4) 14 x.toNatClampNeg (vp_nar .boolean 1) := by
            unfold mf_paid
            rw [k3, ← a2, ← a4, ← a3]
          have hce := ct_e S ((bat B x).2.1 2) ((bat B x).2.1 4) ((bat B x).2.1 3).toInt64
          obtain ⟨w1, w2, w3, w4⟩ := fx_ctow S ((bat B x).2.1 2) ((bat B x).2.1 4) ((bat B x).2.1 3).toInt64
          generalize mf_ctow S ((bat B x).2.1 2) ((bat B x).2.1 4) ((bat B x).2.1 3).toInt64 = W at *
          generalize cf_chB T (bat B x) ((bat B x).2.1 2) = U at *
          have hdW : dyR n T W := dy_k (Nat.le_refl n) hd rfl (by rw [w2])
          have hbi := be_bi (T := T) hn k1 (show 4 < 5 by decide) hdW (bi_e (Nat.le_refl n) hce k5)
          have hbs := bs_tr (bs_e hce k) (be_bs W k1 (show 4 < 5 by decide))
          rw [← k2] at hbi hbs
          have e9 : (mf_paid S x).2.2.1 9 k = (bat B x).2.1 3 := by
            rw [ep]
            show W.2.2.1 9 k = _
            rw [w3, ← a3]
          refine ⟨⟨?_, ?_⟩, ?_, ?_, ?_⟩
          · show (if (bat B x).2.1 2 = (bat B x).2.1 4 then 0 else ((bat B x).2.1 3).toInt64) = (if (bat B x).2.1 2 = (bat B x).2.1 4 then 0 else ((mf_paid S x).2.2.1 9 k).toInt64)
            rw [e9]
          · show fnR U (mf_paid S x)
            rw [ep]
            exact fn_k o3 rfl rfl
          · show blR n U (B.set k (bI (bf_become (bat B x) 4 (T.1 14)) 7 1)) (mf_paid S x)
            rw [ep]
            refine bl_set (Nat.le_refl n) hb (by rw [o4]) ?_ hbs (bi_7 1 hbi)
            show W.1 4 = S.1 4
            rw [w1]
          · show dbR U (mf_paid S x)
            rw [ep]
            exact o2
          · show vrR T U S (mf_paid S x)
            rw [ep]
            exact o5
    · rw [if_neg c2, if_neg c2]
      exact ⟨fd3 hf, set_id (Nat.le_refl n) hb 3 _ rfl rfl, db_fd hD _ _, Or.inl ⟨rfl, rfl⟩⟩
  · rw [if_neg c1, if_neg (fun q => c1 ((bc_eq hC hb.1 x).mpr q))]
    exact ⟨fd1 hf, set_id (Nat.le_refl n) hb 1 _ rfl rfl, db_fd hD _ _, Or.inl ⟨rfl, rfl⟩⟩
/-! recourse -/
theorem ret_bi {n : Nat} {b : BL} {S W : MS} {k c j : Nat} (hk : k < 40) (hc : c ≤ 4) (hj : j < c) (e6 : b.2.1 6 = nI c) (hce : bse S W) (h : biR n b S k) : biR n (bf_ret b (nI j)) (sA (sA W 8 k (b.2.2 8 j)) 11 k (nI j)) k ∧ bsm S (sA (sA W 8 k (b.2.2 8 j)) 11 k (nI j)) k := by
  obtain ⟨⟨a0, a1, a2, a3, a4, a5, a6⟩, a7, a8⟩ := bi_e (Nat.le_refl n) hce h
  have eb : bf_ret b (nI j) = (b.1, (bI (bI b 4 (b.2.2 8 j)) 6 (nI j)).2) := by
    unfold bf_ret bf_ret0
    rw [if_pos (show 0 ≤ nI j ∧ nI j < b.2.1 6 from ⟨by rw [show (0 : Int32) = nI 0 from rfl, nI_leI (by omega) (by omega)]; omega, by rw [e6, nI_ltI (by omega) (by omega)]; exact hj⟩), nI_clamp (by omega)]
  have r8 : (sA (sA W 8 k (b.2.2 8 j)) 11 k (nI j)).2.2.1 8 = upd (W.2.2.1 8) k (b.2.2 8 j) := rfl
  have r11 : (sA (sA W 8 k (b.2.2 8 j)) 11 k (nI j)).2.2.1 11 = upd (W.2.2.1 11) k (nI j) := rfl
  refine ⟨⟨⟨by rw [eb]; exact a0, by rw [eb]; exact a1, by rw [eb]; exact a2, by rw [eb]; exact a3, by rw [r8, updA_at, eb]; rfl, by rw [eb]; exact a5, by rw [r11, updA_at, eb]; rfl⟩, fun e h1 h2 => ?_, by rw [eb]; exact a8⟩, bs_tr (bs_e hce k) (fun i hi => ⟨⟨rfl, rfl, rfl, rfl, by rw [r8, updA_ne _ _ hi], rfl, by rw [r11, updA_ne _ _ hi]⟩, fun e he => rfl, fun s hs => rfl⟩)⟩
  have f6 : (bf_ret b (nI j)).2.1 6 = nI j := by rw [eb]; rfl
  have f8 : (bf_ret b (nI j)).2.2 8 = b.2.2 8 := by rw [eb]; rfl
  rw [f6, nI_ltI (by omega) (by omega)] at h2
  rw [f8]
  exact a7 e h1 (by rw [e6, nI_ltI (by omega) (by omega)]; omega)
/-- the end of a recourse: house d (the reference's) is to pay the bearer -/
theorem rc_E {n : Nat} {M : Int} (hM : M ≤ 1000000000000) {T T1 : MS} {B : List BL} {S V : MS} {k : Nat} {x i d : Int32} (hR : rinv M S) (hb : blR n T B S) (hD : dbR T1 S) (hf : fnR T1 S) (t1 : T1.1 = T.1) (t2 : T1.2.1 = T.2.1) (k1 : k < 40) (k3 : x.toNatClampNeg = k) (k5 : biR n (bat B x) S k) (k6 : bok (bat B x)) (hd : vp_in d 10) (eV : ∀ W, W = mf_ctow S d (S.2.2.1 8 k) (S.2.2.1 9 k).toInt64 → biR n (if i = -1 then bf_become (bat B x) 4 (T.1 14) else bf_ret (bat B x) i) V k ∧ bsm S V k ∧ V.1 = W.1 ∧ V.2.2.2 15 = W.2.2.2 15 ∧ V.2.2.2 22 = W.2.2.2 22) : abR (cf_rcE T T1 B x i d) (if (¬ d = S.2.2.1 8 k ∧ (1000000000 < mwould S d (S.2.2.1 8 k) (S.2.2.1 9 k).toInt64 ∨ mwould S d (S.2.2.1 8 k) (S.2.2.1 9 k).toInt64 < -1000000000)) then mf_finding S (-1000000000004) else (d.toInt64, V)) ∧ blR n (cf_rcE T T1 B x i d).2.1 (cf_rcE T T1 B x i d).2.2 (if (¬ d = S.2.2.1 8 k ∧ (1000000000 < mwould S d (S.2.2.1 8 k) (S.2.2.1 9 k).toInt64 ∨ mwould S d (S.2.2.1 8 k) (S.2.2.1 9 k).toInt64 < -1000000000)) then mf_finding S (-1000000000004) else (d.toInt64, V)).2 ∧ dbR (cf_rcE T T1 B x i d).2.1 (if (¬ d = S.2.2.1 8 k ∧ (1000000000 < mwould S d (S.2.2.1 8 k) (S.2.2.1 9 k).toInt64 ∨ mwould S d (S.2.2.1 8 k) (S.2.2.1 9 k).toInt64 < -1000000000)) then mf_finding S (-1000000000004) else (d.toInt64, V)).2 ∧ vrR T (cf_rcE T T1 B x i d).2.1 S (if (¬ d = S.2.2.1 8 k ∧ (1000000000 < mwould S d (S.2.2.1 8 k) (S.2.2.1 9 k).toInt64 ∨ mwould S d (S.2.2.1 8 k) (S.2.2.1 9 k).toInt64 < -1000000000)) then mf_finding S (-1000000000004) else (d.toInt64, V)).2 := by
  have a4 := k5.1.2.2.2.2.1
  have a3 := k5.1.2.2.2.1
  have v9 := hR.2.2.2.2.2 k k1
  have hq : vp_in (S.2.2.1 8 k) 10 := by rw [← a4]; exact k6.2.2.1
  have hb1 : blR n T1 B S := ⟨by rw [t1]; exact hb.1, hb.2⟩
  obtain ⟨o1, o2, o3, o4, o5⟩ := chB hM hR.2.2.2.1 hD hf hd hq (b := bat B x) a4 a3 v9
  obtain ⟨e1, e2, e3, e4, e5⟩ := eV _ rfl
  obtain ⟨w1, w2, w3, w4⟩ := fx_ctow S d (S.2.2.1 8 k) (S.2.2.1 9 k).toInt64
  unfold cf_rcE
  by_cases c4 : covB T1 (bat B x) d
  · rw [if_pos c4, if_pos (o1.mp c4)]
    exact ⟨fd4 hf, set_id (Nat.le_refl n) hb1 4 _ rfl rfl, db_fd hD _ _, Or.inl ⟨by show T1.2.1 30 = _; rw [t2], rfl⟩⟩
  · rw [if_neg c4, if_neg (fun q => c4 (o1.mpr q))]
    generalize mf_ctow S d (S.2.2.1 8 k) (S.2.2.1 9 k).toInt64 = W at *
    generalize cf_chB T1 (bat B x) d = U at *
    refine ⟨⟨rfl, ?_⟩, ?_, ?_, ?_⟩
    · exact fn_k o3 rfl e5
    · rw [k3]
      exact bl_set (Nat.le_refl n) hb1 (by rw [o4]) (by rw [e3, w1]) e2 e1
    · exact db_k o2 (fun _ _ => rfl) e4
    · rcases o5 with ⟨p, q⟩ | p
      · exact Or.inl ⟨p.trans (by rw [t2]), e4.trans q⟩
      · exact Or.inr (p.trans (by rw [t2]))
theorem g_recourse {n : Nat} (hn : n ≤ 100000) {M : Int} (hM : M ≤ 1000000000000) {T : MS} {B : List BL} {S : MS} (hC : cinv T B) (hR : rinv M S) (hb : blR n T B S) (hd : dyR n T S) (hD : dbR T S) (hr : rsR T S) (hu : cuR T S) (hf : fnR T S) (x i : Int32) : abR (cf_recourse T B x i) (mf_recourse S x i) ∧ blR n (cf_recourse T B x i).2.1 (cf_recourse T B x i).2.2 (mf_recourse S x i).2 ∧ dbR (cf_recourse T B x i).2.1 (mf_recourse S x i).2 ∧ vrR T (cf_recourse T B x i).2.1 S (mf_recourse S x i).2 := by
  unfold cf_recourse mf_recourse
  by_cases c1 : bcnd T x
  · rw [if_pos c1, if_pos ((bc_eq hC hb.1 x).mp c1)]
    obtain ⟨k, k1, k2, k3, k4, k5, k6⟩ := bx hC hb c1
    obtain ⟨c, hc, e6⟩ := cnt4 k6
    obtain ⟨⟨a0, a1, a2, a3, a4, a5, a6⟩, a7, a8⟩ := id k5
    have s11 : S.2.2.1 11 k = nI c := a6.symm.trans e6
    have e11 : (S.2.2.1 11 k - 1).toInt = (c : Int) - 1 := by
      rw [s11, I_sub (by rw [nI_toInt (by omega), show (1 : Int32).toInt = 1 from by decide]; omega) (by rw [nI_toInt (by omega), show (1 : Int32).toInt = 1 from by decide]; omega), nI_toInt (by omega)]
      rfl
    rw [k3]
    by_cases c2 : (bat B x).2.1 5 = 3
    · rw [if_pos c2, if_pos (show S.2.2.1 10 k = 3 from a5.symm.trans c2)]
      have hm1 : (-1 : Int32).toInt = -1 := by decide
      by_cases c3 : i = -1
      · have hi : -1 ≤ i ∧ i ≤ S.2.2.1 11 k - 1 := by
          rw [Int32.le_iff_toInt_le, Int32.le_iff_toInt_le, e11, c3, hm1]
          omega
        have hneg : i < 0 := by rw [c3]; decide
        have hmh : mhs S x i = S.2.2.1 6 k := by
          unfold mhs
          rw [if_neg (Int32.not_le.mpr hneg), k3]
        rw [if_pos c3, if_pos hi, if_neg (fun q => q.1 hneg), hmh, a1]
        refine rc_E hM hR hb hD hf rfl rfl k1 k3 k5 k6 (by rw [← a1]; exact k6.1) (fun W eW => ?_)
        have er : mf_rec2 S x i = mf_becomes W x 4 := by
          unfold mf_rec2
          rw [if_neg (Int32.not_le.mpr hneg), hmh, k3, eW]
        have hce := ct_e S (S.2.2.1 6 k) (S.2.2.1 8 k) (S.2.2.1 9 k).toInt64
        obtain ⟨w1, w2, w3, w4⟩ := fx_ctow S (S.2.2.1 6 k) (S.2.2.1 8 k) (S.2.2.1 9 k).toInt64
        rw [← eW] at hce w1 w2 w3 w4
        have hbi := be_bi (T := T) hn k1 (show 4 < 5 by decide) (dy_k (Nat.le_refl n) hd rfl (by rw [w2])) (bi_e (Nat.le_refl n) hce k5)
        have hbs := bs_tr (bs_e hce k) (be_bs W k1 (show 4 < 5 by decide))
        rw [← k2] at hbi hbs
        rw [er, if_pos c3]
        exact ⟨hbi, hbs, rfl, rfl, rfl⟩
      · rw [if_neg c3]
        by_cases c4 : 0 ≤ i ∧ i < (bat B x).2.1 6
        · have hi0 := Int32.le_iff_toInt_le.mp c4.1
          rw [show (0 : Int32).toInt = 0 from by decide] at hi0
          have hi1 := Int32.lt_iff_toInt_lt.mp c4.2
          rw [e6, nI_toInt (by omega)] at hi1
          obtain ⟨j, hj, ej⟩ := vp_in_of (vp_in_iff.mpr ⟨hi0, hi1⟩ : vp_in i c) (by omega)
          have hi : -1 ≤ i ∧ i ≤ S.2.2.1 11 k - 1 := by
            rw [Int32.le_iff_toInt_le, Int32.le_iff_toInt_le, e11, hm1]
            omega
          have hnneg : ¬ i < 0 := Int32.not_lt.mpr c4.1
          have he : bf_end (bat B x) i = (bat B x).2.2 8 j := by
            unfold bf_end
            rw [ej, if_pos (show 0 ≤ nI j ∧ nI j ≤ 3 from ⟨by rw [show (0 : Int32) = nI 0 from rfl, nI_leI (by omega) (by omega)]; omega, by rw [show (3 : Int32) = nI 3 from rfl, nI_leI (by omega) (by omega)]; omega⟩), nI_clamp (by omega)]
          have h12 : (bat B x).2.2 8 j = S.2.2.1 12 (4 * k + j) := a7 j (by omega) (by rw [e6, nI_ltI (by omega) (by omega)]; exact hj)
          have hmh : mhs S x i = (bat B x).2.2 8 j := by
            unfold mhs
            rw [if_pos c4.1, k2, ej, ix4k k1 (by omega), ← h12, k2]
          have hv8 : vp_in ((bat B x).2.2 8 j) 10 := k6.2.2.2.2.2 j (by omega)
          obtain ⟨r1, r2⟩ := rd_b hC hr hv8
          have hla : S.2.2.2 13 (5 * x + 3).toNatClampNeg - S.2.2.2 13 (5 * x + 2).toNatClampNeg = ((bat B x).2.2 9 3 - (bat B x).2.2 9 2).toInt64 := by
            obtain ⟨p1, p2, p3⟩ := a8 3 (by decide)
            obtain ⟨q1, q2, q3⟩ := a8 2 (by decide)
            rw [k2, show (3 : Int32) = nI 3 from rfl, show (2 : Int32) = nI 2 from rfl, ix5n' k1 (by decide), ix5n' k1 (by decide), ← p1, ← q1, ← k2]
            apply Int64.toInt_inj.mp
            rw [Int32.toInt_toInt64, I_sub (by omega) (by omega), L_sub (by rw [Int32.toInt_toInt64, Int32.toInt_toInt64]; omega) (by rw [Int32.toInt_toInt64, Int32.toInt_toInt64]; omega), Int32.toInt_toInt64, Int32.toInt_toInt64]
          have hbd : cbe T (bat B x) i = mbound S (S.2.2.2 13 (5 * x + 3).toNatClampNeg - S.2.2.2 13 (5 * x + 2).toNatClampNeg) (S.2.2.1 9 k) i (S.2.2.1 5 k) (mroad S (mhs S x i)) := by
            show cfb T ((bat B x).2.2 9 3 - (bat B x).2.2 9 2) ((bat B x).2.1 3) i ((bat B x).2.1 0) (croad T (bf_end (bat B x) i)) = _
            rw [he, r1, hmh, a3, a0]
            exact bn_eq hla hu
          rw [if_pos c4, if_pos hi, ← hbd, hmh, he]
          by_cases c5 : cbe T (bat B x) i = 0
          · rw [if_pos c5, if_pos (show ¬ i < 0 ∧ cbe T (bat B x) i = 0 from ⟨hnneg, c5⟩)]
            refine ⟨fd5 (T := cbeT T (bat B x) i) hf, ?_, db_fd (T := cbeT T (bat B x) i) hD _ _, Or.inl ⟨rfl, rfl⟩⟩
            exact set_id (Nat.le_refl n) (T := cbeT T (bat B x) i) hb 5 _ rfl rfl
          · rw [if_neg c5, if_neg (fun q => c5 q.2)]
            refine rc_E hM hR hb (T1 := cbeT T (bat B x) i) hD hf rfl rfl k1 k3 k5 k6 hv8 (fun W eW => ?_)
            have er : mf_rec2 S x i = sA (sA W 8 k ((bat B x).2.2 8 j)) 11 k (nI j) := by
              unfold mf_rec2
              rw [if_pos c4.1, hmh, k3, ← eW, ej]
            have hce := ct_e S ((bat B x).2.2 8 j) (S.2.2.1 8 k) (S.2.2.1 9 k).toInt64
            rw [← eW] at hce
            obtain ⟨u1, u2⟩ := ret_bi k1 hc hj e6 hce k5
            rw [er, if_neg c3, ej]
            exact ⟨u1, u2, rfl, rfl, rfl⟩
        · have hni : ¬ (-1 ≤ i ∧ i ≤ S.2.2.1 11 k - 1) := by
            rw [Int32.le_iff_toInt_le, Int32.le_iff_toInt_le, e11, hm1]
            rw [Int32.le_iff_toInt_le, Int32.lt_iff_toInt_lt, e6, nI_toInt (by omega), show (0 : Int32).toInt = 0 from by decide] at c4
            have : i.toInt ≠ -1 := fun q => c3 (Int32.toInt_inj.mp (by rw [q, hm1]))
            omega
          rw [if_neg c4, if_neg hni]
          exact ⟨fd2 hf, set_id (Nat.le_refl n) hb 2 _ rfl rfl, db_fd hD _ _, Or.inl ⟨rfl, rfl⟩⟩
    · rw [if_neg c2, if_neg (show ¬ S.2.2.1 10 k = 3 from fun q => c2 (a5.trans q))]
      exact ⟨fd3 hf, set_id (Nat.le_refl n) hb 3 _ rfl rfl, db_fd hD _ _, Or.inl ⟨rfl, rfl⟩⟩
  · rw [if_neg c1, if_neg (fun q => c1 ((bc_eq hC hb.1 x).mpr q))]
    exact ⟨fd1 hf, set_id (Nat.le_refl n) hb 1 _ rfl rfl, db_fd hD _ _, Or.inl ⟨rfl, rfl⟩⟩
/-! the payments of a plan: no pair twice, no house on both sides -/
def pdI (z : Nat → Int) (T : MS) (c : Nat) : Prop := T.1 46 = nI c ∧ c ≤ 10 ∧ (∀ h, h < 10 → (z h ≤ nF T h ∧ nF T h ≤ 0) ∨ (0 ≤ nF T h ∧ nF T h ≤ z h)) ∧ ∀ j, j < c → ∃ p q, p < 10 ∧ q < 10 ∧ T.2.2.1 47 j = nI p ∧ T.2.2.1 48 j = nI q ∧ z p < 0 ∧ 0 < z q ∧ (nF T p = 0 ∨ nF T q = 0) ∧ 0 ≤ (T.2.2.2 49 j).toInt ∧ ∀ i, i < j → ¬ (T.2.2.1 47 i = nI p ∧ T.2.2.1 48 i = nI q)
theorem hit_n {T : MS} {st : Int32} {p : Nat} (hb : -1000000000000 ≤ nF T p ∧ nF T p ≤ 1000000000000) (h : lsHit T st (-1) p) : nF T p < 0 := by
  have h2 := h.2
  unfold nF at *
  rw [Int64.le_iff_toInt_le, L_mul (by rw [show ((-1 : Int32).toInt64).toInt = -1 from by decide]; omega) (by rw [show ((-1 : Int32).toInt64).toInt = -1 from by decide]; omega), show ((-1 : Int32).toInt64).toInt = -1 from by decide, show (0 : Int64).toInt = 0 from by decide] at h2
  omega
theorem hit_p {T : MS} {st : Int32} {p : Nat} (hb : -1000000000000 ≤ nF T p ∧ nF T p ≤ 1000000000000) (h : lsHit T st 1 p) : 0 < nF T p := by
  have h2 := h.2
  unfold nF at *
  rw [Int64.le_iff_toInt_le, L_mul (by rw [show ((1 : Int32).toInt64).toInt = 1 from by decide]; omega) (by rw [show ((1 : Int32).toInt64).toInt = 1 from by decide]; omega), show ((1 : Int32).toInt64).toInt = 1 from by decide, show (0 : Int64).toInt = 0 from by decide] at h2
  omega
theorem pd_step {z : Nat → Int} (hz : ∀ h, h < 10 → -1000000000000 ≤ z h ∧ z h ≤ 1000000000000) {T : MS} {c p q : Nat} {st : Int32} (h : pdI z T c) (hp : p < 10) (hq : q < 10) (h1 : poF st T = nI p) (h2 : poT st T = nI q) (l1 : lsHit T st (-1) p) (l2 : lsHit T st 1 q) (h46 : vp_in (T.1 46) 10) : pdI z (poS st T) (c + 1) := by
  obtain ⟨i1, i2, i3, i4⟩ := h
  have hb : ∀ h, h < 10 → -1000000000000 ≤ nF T h ∧ nF T h ≤ 1000000000000 := fun h hh => by have := i3 h hh; have := hz h hh; omega
  have np := hit_n (hb p hp) l1
  have nq := hit_p (hb q hq) l2
  have hpq : p ≠ q := by intro e; rw [e] at np; omega
  have hc : c < 10 := by
    have := vp_in_iff.mp h46
    rw [i1, nI_toInt (by omega)] at this
    omega
  have bp := hb p hp
  have bq := hb q hq
  have en : (-T.2.2.2 50 p).toInt = -nF T p := L_neg (by unfold nF at bp; omega)
  have ev : (poV st T).toInt = if nF T q < -nF T p then nF T q else -nF T p := by
    unfold poV
    rw [h1, h2, nI_clamp (by omega), nI_clamp (by omega)]
    by_cases e : T.2.2.2 50 q < -T.2.2.2 50 p
    · have e' := Int64.lt_iff_toInt_lt.mp e
      rw [en] at e'
      rw [if_pos e, if_pos (show nF T q < -nF T p from e')]
      rfl
    · have e' : ¬ nF T q < -nF T p := fun k => e (Int64.lt_iff_toInt_lt.mpr (by rw [en]; exact k))
      rw [if_neg e, if_neg e', en]
  generalize hv : (poV st T).toInt = v at ev
  have v0 : 0 < v ∧ v ≤ nF T q ∧ v ≤ -nF T p ∧ (v = nF T q ∨ v = -nF T p) := by
    split at ev <;> omega
  have k50 : (poS st T).2.2.2 50 = vp_updL (vp_updL (T.2.2.2 50) p (T.2.2.2 50 p + poV st T)) q (T.2.2.2 50 q - poV st T) := by
    have e3 : (po3 st T).2.2.2 50 = vp_updL (T.2.2.2 50) p (T.2.2.2 50 p + poV st T) := by
      show vp_updL (T.2.2.2 50) (poF st T).toNatClampNeg (T.2.2.2 50 (poF st T).toNatClampNeg + poV st T) = _
      rw [h1, nI_clamp (by omega)]
    show vp_updL ((po3 st T).2.2.2 50) (poT st T).toNatClampNeg ((po3 st T).2.2.2 50 (poT st T).toNatClampNeg - poV st T) = _
    rw [e3, h2, nI_clamp (by omega), updL_ne _ _ (Ne.symm hpq)]
  have fp : nF (poS st T) p = nF T p + v := by
    unfold nF
    rw [k50, updL_ne _ _ hpq, updL_at, L_add (by unfold nF at *; omega) (by unfold nF at *; omega), hv]
  have fq : nF (poS st T) q = nF T q - v := by
    unfold nF
    rw [k50, updL_at, L_sub (by unfold nF at *; omega) (by unfold nF at *; omega), hv]
  have fo : ∀ h, h ≠ p → h ≠ q → nF (poS st T) h = nF T h := fun h a b => by
    unfold nF
    rw [k50, updL_ne _ _ b, updL_ne _ _ a]
  have c1 : (T.1 46).toNatClampNeg = c := by rw [i1, nI_clamp (by omega)]
  have r47 : (poS st T).2.2.1 47 = upd (T.2.2.1 47) c (nI p) := by
    show upd (T.2.2.1 47) (T.1 46).toNatClampNeg (poF st T) = _
    rw [c1, h1]
  have r48 : (poS st T).2.2.1 48 = upd (T.2.2.1 48) c (nI q) := by
    show upd (T.2.2.1 48) (T.1 46).toNatClampNeg (poT st T) = _
    rw [c1, h2]
  have r49 : (poS st T).2.2.2 49 = vp_updL (T.2.2.2 49) c (poV st T) := by
    show vp_updL (T.2.2.2 49) (T.1 46).toNatClampNeg (poV st T) = _
    rw [c1]
  refine ⟨?_, by omega, fun h hh => ?_, fun j hj => ?_⟩
  · show T.1 46 + 1 = _
    rw [i1, nI_1]
  · by_cases e1 : h = p
    · subst e1
      have := i3 h hh
      rw [fp]
      omega
    · by_cases e2 : h = q
      · subst e2
        have := i3 h hh
        rw [fq]
        omega
      · rw [fo h e1 e2]
        exact i3 h hh
  · rw [r47, r48, r49]
    by_cases ej : j = c
    · subst ej
      refine ⟨p, q, hp, hq, updA_at _ _ _, updA_at _ _ _, ?_, ?_, ?_, ?_, fun i hi hh => ?_⟩
      · have := i3 p hp; omega
      · have := i3 q hq; omega
      · rw [fp, fq]; omega
      · rw [updL_at, hv]; omega
      · rw [updA_ne _ _ (by omega), updA_ne _ _ (by omega)] at hh
        obtain ⟨p', q', a1, a2, a3, a4, a5, a6, a7, a8, a9⟩ := i4 i hi
        have e1 : p' = p := (nI_eq (by omega) (by omega)).mp (a3.symm.trans hh.1)
        have e2 : q' = q := (nI_eq (by omega) (by omega)).mp (a4.symm.trans hh.2)
        subst e1 e2
        omega
    · obtain ⟨p', q', a1, a2, a3, a4, a5, a6, a7, a8, a9⟩ := i4 j (by omega)
      refine ⟨p', q', a1, a2, (updA_ne _ _ ej).trans a3, (updA_ne _ _ ej).trans a4, a5, a6, ?_, by rw [updL_ne _ _ ej]; exact a8, fun i hi hh => ?_⟩
      · rcases a7 with w | w
        · left
          rw [fo p' (by intro e; rw [e] at w; omega) (by intro e; rw [e] at w; omega)]
          exact w
        · right
          rw [fo q' (by intro e; rw [e] at w; omega) (by intro e; rw [e] at w; omega)]
          exact w
      · rw [updA_ne _ _ (by omega), updA_ne _ _ (by omega)] at hh
        exact a9 i hi hh
theorem pd_poR {z : Nat → Int} (hz : ∀ h, h < 10 → -1000000000000 ≤ z h ∧ z h ≤ 1000000000000) (st : Int32) : ∀ (f c : Nat) (T : MS), pdI z T c → poOk st f T → ∃ c', pdI z (poR st f T) c'
  | 0, c, T, h, _ => ⟨c, h⟩
  | f + 1, c, T, h, hO => by
    show ∃ c', pdI z (if poF st T < 0 then T else poR st f (poS st T)) c'
    by_cases hF : poF st T < 0
    · rw [if_pos hF]
      exact ⟨c, h⟩
    · rw [if_neg hF]
      rcases hO with hO | ⟨o1, o2, o3⟩
      · exact absurd hO hF
      · rcases lsR_sp T st (-1) 10 0 with ⟨k1, -⟩ | ⟨p, k1, k2, k3, k4, -⟩
        · exfalso
          apply hF
          show lsR T st (-1) 10 0 < 0
          rw [k1]
          decide
        · rcases lsR_sp T st 1 10 0 with ⟨m1, -⟩ | ⟨q, m1, m2, m3, m4, -⟩
          · exfalso
            have o1' : vp_in (lsR T st 1 10 0) 10 := o1
            rw [m1] at o1'
            have := (vp_in_iff.mp o1').1
            revert this
            decide
          · exact pd_poR hz st f (c + 1) _ (pd_step hz h (by omega) (by omega) k4 m4 k3 m3 o2) o3
theorem pd_pp {z : Nat → Int} (hz : ∀ h, h < 10 → -1000000000000 ≤ z h ∧ z h ≤ 1000000000000) {X : MS} {N : Nat} (h0 : pdI z X 0) (hp : ∀ j, j < N → poOk ((ppF X j).2.2.1 45 j) 10 (ppF X j)) : ∃ c, pdI z (ppF X N) c := by
  have k : ∀ n, n ≤ N → ∃ c, pdI z (ppF X n) c := by
    intro n
    induction n with
    | zero => exact fun _ => ⟨0, h0⟩
    | succ n ih =>
      intro hn
      obtain ⟨c, hc⟩ := ih (by omega)
      exact pd_poR hz _ 10 c _ hc (hp n (by omega))
  exact k N (Nat.le_refl N)
theorem pl_pd0 {M : Int} (hM : M ≤ 1000000000000) {S W V U Y : MS} (h : dnv M (S.2.2.2 15)) (n6 : ∀ j, W.2.2.2 50 j = if j < 10 then mnetT S (nI j) 10 else S.2.2.2 50 j) (s4 : V.2.2.2 50 = W.2.2.2 50) (m3 : U.2.2.2 = V.2.2.2) (e0 : mpl0 S = sI (sI U 44 0) 46 0) (hY : plRun S Y) : ∃ z c, pdI z Y c := by
  obtain ⟨X, N, hN, y1, y2, y3, y4⟩ := hY
  rw [e0] at y1
  obtain ⟨x1, x2⟩ := fgRun_fr 10 _ _ X y1
  have hb : ∀ j, j < 10 → -1000000000000 ≤ nF X j ∧ nF X j ≤ 1000000000000 := by
    intro j hj
    have e : nF X j = ntI (S.2.2.2 15) j 10 := by
      unfold nF
      rw [x1]
      show (U.2.2.2 50 j).toInt = _
      rw [m3, s4, n6, if_pos hj, mnet_I hM h hj (Nat.le_refl 10)]
    have := ntI_b h hj
    omega
  obtain ⟨c, hc⟩ := pd_pp (z := nF X) hb (X := X) (N := N) ⟨x2, by omega, fun h hh => by omega, fun j hj => absurd hj (Nat.not_lt_zero j)⟩ y3
  rw [y4]
  exact ⟨_, c, hc⟩
theorem pl_pd {M : Int} (hM : M ≤ 1000000000000) {S Y : MS} (h : dnv M (S.2.2.2 15)) (hY : plRun S Y) : ∃ z c, pdI z Y c := by
  have n := npF_sp S 10
  have s := smO_sp (npF S 10) 1024
  have m := moO_sp (smO (npF S 10) 1024) 1023 (by decide)
  exact pl_pd0 hM h n.2.2.2.2.2 s.2.2.2.1 m.2.2.1 (mpl0.eq_1 S) hY
