/-! read, of the class: what it leaves -/
theorem fcr_j {T : MS} {B : List BL} (hC : cinv T B) {X : Int32 × MS} (eX : X = crx T) : fx jI9 sN jA9 s0 T X.2 ∧ crJ X.2 := by
  rw [eX]
  exact ⟨fc_crx hC.2.2.2.1 hC.2.2.2.2.2.1, (crx_J hC.2.2.2.1 hC.2.2.2.2.2.1).1⟩
theorem fcr_b {T : MS} {B : List BL} (hC : cinv T B) {X : Int32 × MS} (eX : X = crx T) : fx kI9 sN kA9 s0 T (cf_fd (cf_endT X.2 0) 6).2 := fx_fd (fc_endT 0 (fx_jk (fcr_j hC eX).1)) rfl
theorem fcr_ci {T : MS} {B : List BL} (hC : cinv T B) {X : Int32 × MS} (eX : X = crx T) (g : Int32) : cinv (cf_endT X.2 g) B ∧ cinv (swT (cf_endT X.2 g)) B := ci_readX g hC (fcr_j hC eX).2 (fcr_j hC eX).1
theorem fcr_gI {T : MS} {B : List BL} (hC : cinv T B) {X : Int32 × MS} (eX : X = crx T) {j : Nat} (hj : j < 200) (h : ¬ kI9 j) : (swT (cf_endT X.2 1)).1 j = T.1 j := (swT_I _ hj (fun q => h (by omega)) (fun q => h (by omega))).trans ((fc_endT 1 (fx_jk (fcr_j hC eX).1)).1 j h)
theorem fcr_gA {T : MS} {B : List BL} (hC : cinv T B) {X : Int32 × MS} (eX : X = crx T) {j : Nat} (hj : j < 200) (h : ¬ kA9 j) : (swT (cf_endT X.2 1)).2.2.1 j = T.2.2.1 j := (swT_A _ hj (fun q => h (by omega)) (fun q => h (by omega))).trans ((fc_endT 1 (fx_jk (fcr_j hC eX).1)).2.2.1 j h)
abbrev Rel (T : MS) (B : List BL) (S : MS) : Prop := ∀ x t : Nat, x < 5 → t < 5 → T.2.2.1 (130 + x) t = S.2.2.1 19 (5 * x + t)
theorem ix5 {x t : Int32} {N : Nat} (hN : N ≤ 10) (hx : vp_in x N) (ht : vp_in t 5) : (5 * x + t).toNatClampNeg = 5 * x.toNatClampNeg + t.toNatClampNeg := by
  obtain ⟨i, hi, rfl⟩ := vp_in_of hx (by omega)
  obtain ⟨j, hj, rfl⟩ := vp_in_of ht (by decide)
  rw [show (5 : Int32) = nI 5 from by decide, nI_mul, nI_add, nI_clamp (by omega), nI_clamp (by omega), nI_clamp (by omega)]
theorem ix5n {k tt : Nat} (hk : k < 10) (ht : tt < 5) : (5 * nI k + nI tt).toNatClampNeg = 5 * k + tt := by
  rw [show (5 : Int32) = nI 5 from by decide, nI_mul, nI_add, nI_clamp (by omega)]
/-- votes of both sides for a town -/
def vR (T S : MS) (tt : Nat) : Prop := ∀ k, k < 10 → T.2.2.1 (120 + tt) k = S.2.2.1 18 (5 * k + tt) ∧ 0 ≤ (T.2.2.1 (120 + tt) k).toInt
/-! the best turn -/
theorem ar2 (x y : Int64) : 100000000 * (1 * x * y) = x * y * 10000 * 10000 := by
  rw [Int64.one_mul, Int64.mul_assoc (x * y), show (10000 : Int64) * 10000 = 100000000 from by decide, Int64.mul_comm]
theorem ar3 (u v z : Int64) : 10000 * (1 * u * v * z) = v * z * u * 10000 := by
  rw [Int64.one_mul, Int64.mul_comm 10000, Int64.mul_assoc u v z, Int64.mul_comm u]
theorem ar4 (u v w z : Int64) : 1 * (1 * u * v * w * z) = w * z * v * u := by
  rw [Int64.one_mul, Int64.one_mul, Int64.mul_assoc (u * v), Int64.mul_comm u v, Int64.mul_comm (v * u), ← Int64.mul_assoc (w * z)]
theorem tb2 : ∀ a, a < 5 → ∀ b, b < 5 → ((bt1 b &&& bt1 a = 0) ↔ a ≠ b) ∧ (((bt1 b ||| bt1 a) &&& (bt1 a - 1) = 0) ↔ a ≤ b) := by decide +kernel
theorem all5 {p : Nat → Bool} (h : (List.range 5).all p = true) {a : Nat} (ha : a < 5) : p a = true := List.all_eq_true.mp h a (List.mem_range.mpr ha)
theorem tb3' : ((List.range 5).all fun a => (List.range 5).all fun b => (List.range 5).all fun c => (decide ((bt1 c ||| bt1 b) &&& bt1 a = 0) == (decide (a ≠ b) && decide (a ≠ c))) && (decide ((bt1 c ||| bt1 b ||| bt1 a) &&& (bt1 a - 1) = 0) == (decide (a ≤ b) && decide (a ≤ c)))) = true := by decide +kernel
theorem tb3 (a : Nat) (ha : a < 5) (b : Nat) (hb : b < 5) (c : Nat) (hc : c < 5) : (((bt1 c ||| bt1 b) &&& bt1 a = 0) ↔ (a ≠ b ∧ a ≠ c)) ∧ (((bt1 c ||| bt1 b ||| bt1 a) &&& (bt1 a - 1) = 0) ↔ (a ≤ b ∧ a ≤ c)) := by
  have h := all5 (all5 (all5 tb3' ha) hb) hc
  rw [Bool.and_eq_true, beq_iff_eq, beq_iff_eq, ← Bool.decide_and, ← Bool.decide_and, decide_eq_decide, decide_eq_decide] at h
  exact h
theorem tb4' : ((List.range 5).all fun a => (List.range 5).all fun b => (List.range 5).all fun c => (List.range 5).all fun d => (decide ((bt1 d ||| bt1 c ||| bt1 b) &&& bt1 a = 0) == (decide (a ≠ b) && (decide (a ≠ c) && decide (a ≠ d)))) && (decide ((bt1 d ||| bt1 c ||| bt1 b ||| bt1 a) &&& (bt1 a - 1) = 0) == (decide (a ≤ b) && (decide (a ≤ c) && decide (a ≤ d))))) = true := by decide +kernel
theorem tb4 (a : Nat) (ha : a < 5) (b : Nat) (hb : b < 5) (c : Nat) (hc : c < 5) (d : Nat) (hd : d < 5) : (((bt1 d ||| bt1 c ||| bt1 b) &&& bt1 a = 0) ↔ (a ≠ b ∧ a ≠ c ∧ a ≠ d)) ∧ (((bt1 d ||| bt1 c ||| bt1 b ||| bt1 a) &&& (bt1 a - 1) = 0) ↔ (a ≤ b ∧ a ≤ c ∧ a ≤ d)) := by
  have h := all5 (all5 (all5 (all5 tb4' ha) hb) hc) hd
  rw [Bool.and_eq_true, beq_iff_eq, beq_iff_eq, ← Bool.decide_and, ← Bool.decide_and, ← Bool.decide_and, ← Bool.decide_and, decide_eq_decide, decide_eq_decide] at h
  exact h
abbrev oT (T : MS) (x y : Nat) : Int64 := (T.2.2.1 (130 + x) y).toInt64
theorem dg_l5 (r i : Nat) : dg r i < 5 := Nat.mod_lt _ (by decide)
theorem cpo1 (T : MS) (r : Nat) : cpoN T r 1 = if dg r 1 ≠ dg r 0 then some (bt1 (dg r 0) ||| bt1 (dg r 1), 1 * oT T (dg r 1) (dg r 0)) else none := by
  show (if bt1 (dg r 0) &&& bt1 (dg r 1) = 0 then some (bt1 (dg r 0) ||| bt1 (dg r 1), 1 * oT T (dg r 1) (dg r 0)) else none) = _
  have h := (tb2 (dg r 1) (dg_l5 r 1) (dg r 0) (dg_l5 r 0)).1
  by_cases hc : dg r 1 ≠ dg r 0
  · rw [if_pos hc, if_pos (h.mpr hc)]
  · rw [if_neg hc, if_neg (fun q => hc (h.mp q))]
theorem cpr2 (T : MS) (r : Nat) : cprod T r 2 = if dg r 1 < dg r 0 then 1 * oT T (dg r 1) (dg r 0) * oT T (dg r 0) (dg r 1) else 0 := by
  have h := (tb2 (dg r 1) (dg_l5 r 1) (dg r 0) (dg_l5 r 0)).2
  unfold cprod
  rw [show 2 - 1 = 1 from rfl, cpo1]
  by_cases hc : dg r 1 ≠ dg r 0
  · rw [if_pos hc]
    show cpoV T r (bt1 (dg r 0) ||| bt1 (dg r 1)) (1 * oT T (dg r 1) (dg r 0)) 1 = _
    unfold cpoV
    by_cases hl : dg r 1 < dg r 0
    · rw [if_pos (h.mpr (by omega)), if_pos hl]
    · rw [if_neg (fun q => hl (by have := h.mp q; omega)), if_neg hl]
  · rw [if_neg hc, if_neg (by omega)]
theorem cpo2 (T : MS) (r : Nat) : cpoN T r 2 = if dg r 1 ≠ dg r 0 ∧ dg r 2 ≠ dg r 1 ∧ dg r 2 ≠ dg r 0 then some (bt1 (dg r 0) ||| bt1 (dg r 1) ||| bt1 (dg r 2), 1 * oT T (dg r 1) (dg r 0) * oT T (dg r 2) (dg r 1)) else none := by
  have h := (tb3 (dg r 2) (dg_l5 r 2) (dg r 1) (dg_l5 r 1) (dg r 0) (dg_l5 r 0)).1
  show (match cpoN T r 1 with | none => none | some (u, p) => if u &&& bt1 (dg r 2) = 0 then some (u ||| bt1 (dg r 2), p * oT T (dg r 2) (dg r 1)) else none) = _
  rw [cpo1]
  by_cases hc : dg r 1 ≠ dg r 0
  · rw [if_pos hc]
    show (if (bt1 (dg r 0) ||| bt1 (dg r 1)) &&& bt1 (dg r 2) = 0 then _ else none) = _
    by_cases hd : dg r 2 ≠ dg r 1 ∧ dg r 2 ≠ dg r 0
    · rw [if_pos (h.mpr hd), if_pos ⟨hc, hd⟩]
    · rw [if_neg (fun q => hd (h.mp q)), if_neg (fun q => hd q.2)]
  · rw [if_neg hc, if_neg (fun q => hc q.1)]
theorem cpr3 (T : MS) (r : Nat) : cprod T r 3 = if dg r 2 < dg r 1 ∧ dg r 2 < dg r 0 ∧ dg r 1 ≠ dg r 0 then 1 * oT T (dg r 1) (dg r 0) * oT T (dg r 2) (dg r 1) * oT T (dg r 0) (dg r 2) else 0 := by
  have h := (tb3 (dg r 2) (dg_l5 r 2) (dg r 1) (dg_l5 r 1) (dg r 0) (dg_l5 r 0)).2
  unfold cprod
  rw [show 3 - 1 = 2 from rfl, cpo2]
  by_cases hc : dg r 1 ≠ dg r 0 ∧ dg r 2 ≠ dg r 1 ∧ dg r 2 ≠ dg r 0
  · rw [if_pos hc]
    show cpoV T r (bt1 (dg r 0) ||| bt1 (dg r 1) ||| bt1 (dg r 2)) (1 * oT T (dg r 1) (dg r 0) * oT T (dg r 2) (dg r 1)) 2 = _
    unfold cpoV
    by_cases hl : dg r 2 ≤ dg r 1 ∧ dg r 2 ≤ dg r 0
    · rw [if_pos (h.mpr hl), if_pos (by omega)]
    · rw [if_neg (fun q => hl (h.mp q)), if_neg (by omega)]
  · rw [if_neg hc, if_neg (by omega)]
theorem cpo3 (T : MS) (r : Nat) : cpoN T r 3 = if (dg r 1 ≠ dg r 0 ∧ dg r 2 ≠ dg r 1 ∧ dg r 2 ≠ dg r 0) ∧ (dg r 3 ≠ dg r 2 ∧ dg r 3 ≠ dg r 1 ∧ dg r 3 ≠ dg r 0) then some (bt1 (dg r 0) ||| bt1 (dg r 1) ||| bt1 (dg r 2) ||| bt1 (dg r 3), 1 * oT T (dg r 1) (dg r 0) * oT T (dg r 2) (dg r 1) * oT T (dg r 3) (dg r 2)) else none := by
  have h := (tb4 (dg r 3) (dg_l5 r 3) (dg r 2) (dg_l5 r 2) (dg r 1) (dg_l5 r 1) (dg r 0) (dg_l5 r 0)).1
  show (match cpoN T r 2 with | none => none | some (u, p) => if u &&& bt1 (dg r 3) = 0 then some (u ||| bt1 (dg r 3), p * oT T (dg r 3) (dg r 2)) else none) = _
  rw [cpo2]
  by_cases hc : dg r 1 ≠ dg r 0 ∧ dg r 2 ≠ dg r 1 ∧ dg r 2 ≠ dg r 0
  · rw [if_pos hc]
    show (if (bt1 (dg r 0) ||| bt1 (dg r 1) ||| bt1 (dg r 2)) &&& bt1 (dg r 3) = 0 then _ else none) = _
    by_cases hd : dg r 3 ≠ dg r 2 ∧ dg r 3 ≠ dg r 1 ∧ dg r 3 ≠ dg r 0
    · rw [if_pos (h.mpr hd), if_pos ⟨hc, hd⟩]
    · rw [if_neg (fun q => hd (h.mp q)), if_neg (fun q => hd q.2)]
  · rw [if_neg hc, if_neg (fun q => hc q.1)]
theorem cpr4 (T : MS) (r : Nat) : cprod T r 4 = if (dg r 3 < dg r 2 ∧ dg r 3 < dg r 1 ∧ dg r 3 < dg r 0) ∧ (dg r 1 ≠ dg r 0 ∧ dg r 2 ≠ dg r 1 ∧ dg r 2 ≠ dg r 0) then 1 * oT T (dg r 1) (dg r 0) * oT T (dg r 2) (dg r 1) * oT T (dg r 3) (dg r 2) * oT T (dg r 0) (dg r 3) else 0 := by
  have h := (tb4 (dg r 3) (dg_l5 r 3) (dg r 2) (dg_l5 r 2) (dg r 1) (dg_l5 r 1) (dg r 0) (dg_l5 r 0)).2
  unfold cprod
  rw [show 4 - 1 = 3 from rfl, cpo3]
  by_cases hc : (dg r 1 ≠ dg r 0 ∧ dg r 2 ≠ dg r 1 ∧ dg r 2 ≠ dg r 0) ∧ (dg r 3 ≠ dg r 2 ∧ dg r 3 ≠ dg r 1 ∧ dg r 3 ≠ dg r 0)
  · rw [if_pos hc]
    show cpoV T r (bt1 (dg r 0) ||| bt1 (dg r 1) ||| bt1 (dg r 2) ||| bt1 (dg r 3)) (1 * oT T (dg r 1) (dg r 0) * oT T (dg r 2) (dg r 1) * oT T (dg r 3) (dg r 2)) 3 = _
    unfold cpoV
    by_cases hl : dg r 3 ≤ dg r 2 ∧ dg r 3 ≤ dg r 1 ∧ dg r 3 ≤ dg r 0
    · rw [if_pos (h.mpr hl), if_pos (by omega)]
    · rw [if_neg (fun q => hl (h.mp q)), if_neg (by omega)]
  · rw [if_neg hc, if_neg (by omega)]
theorem cf2 : ∀ r, r < 25 → (cfig r 2).toInt64 = 100 + 10 * (nI (dg r 1)).toInt64 + (nI (dg r 0)).toInt64 ∧ cfig r 2 ≠ 0 := by decide +kernel
theorem cf3 : ∀ r, r < 125 → (cfig r 3).toInt64 = 10 * (100 + 10 * (nI (dg r 2)).toInt64 + (nI (dg r 1)).toInt64) + (nI (dg r 0)).toInt64 ∧ cfig r 3 ≠ 0 := by decide +kernel
theorem cf4 : ∀ r, r < 625 → (cfig r 4).toInt64 = 10 * (10 * (100 + 10 * (nI (dg r 3)).toInt64 + (nI (dg r 2)).toInt64) + (nI (dg r 1)).toInt64) + (nI (dg r 0)).toInt64 ∧ cfig r 4 ≠ 0 := by decide +kernel
/-- both searches stand alike -/
def tnI (X : Int64 × Int32) (S : MS) : Prop := 10000000000000000 ≤ X.1 ∧ S.2.1 51 = X.1 ∧ ((X.2 = 0 ∧ S.2.1 52 = -1000000000002) ∨ (X.2 ≠ 0 ∧ S.2.1 52 = X.2.toInt64))
theorem tn_best {X : Int64 × Int32} {S : MS} {p c : Int64} {f : Int32} (h : tnI X S) (hf : f ≠ 0) (hc : c = f.toInt64) : tnI (if p ≤ X.1 then X else (p, f)) (mf_best S p c) := by
  obtain ⟨h1, h2, h3⟩ := h
  unfold mf_best
  rw [h2]
  split
  · exact ⟨h1, h2, h3⟩
  · next hp => exact ⟨Int64.le_trans h1 (Int64.le_of_lt (Int64.not_le.mp hp)), rfl, Or.inr ⟨hf, hc⟩⟩
theorem tn_skip {X : Int64 × Int32} {S : MS} {f : Int32} {sc : Int64} (h : tnI X S) : tnI (if sc * 0 ≤ X.1 then X else (sc * 0, f)) S := by
  rw [if_pos (by rw [Int64.mul_zero]; exact Int64.le_trans (by decide) h.1)]
  exact h
def oR (T S : MS) : Prop := ∀ x y : Nat, x < 5 → y < 5 → T.2.2.1 (130 + x) y = S.2.2.1 19 (5 * x + y)
theorem dv5 {i : Nat} (h : i < 2 ^ 31) : nI i / 5 = nI (i / 5) := by rw [show (5 : Int32) = nI 5 from by decide, pk_div h (by decide) (by decide)]
theorem dv25 {i : Nat} (h : i < 2 ^ 31) : nI i / 25 = nI (i / 25) := by rw [show (25 : Int32) = nI 25 from by decide, pk_div h (by decide) (by decide)]
theorem dv125 {i : Nat} (h : i < 2 ^ 31) : nI i / 125 = nI (i / 125) := by rw [show (125 : Int32) = nI 125 from by decide, pk_div h (by decide) (by decide)]
theorem rm5 {i : Nat} (h : i < 2 ^ 31) : nI i - nI i / 5 * 5 = nI (i % 5) := by
  rw [dv5 h, show (5 : Int32) = nI 5 from by decide, nI_mul, pk_sub (by omega)]
  congr 1
  omega
theorem z5 {k : Nat} (h : k < 5) : (nI k = 0) ↔ k = 0 := by
  rw [show (0 : Int32) = nI 0 from by decide, nI_eq (by omega) (by decide)]
theorem best_rows (S : MS) (p c : Int64) : (mf_best S p c).2.2.1 = S.2.2.1 := by
  unfold mf_best
  split <;> rfl
theorem bt_s (T : MS) (n : Nat) (sc : Int64) (s0 : Int64 × Int32) (i : Nat) : btR T n sc s0 (i + 1) = if sc * cprod T i n ≤ (btR T n sc s0 i).1 then btR T n sc s0 i else (sc * cprod T i n, cfig i n) := rfl
theorem oeq {T U V : MS} (ho : oR T U) (hv : V.2.2.1 = U.2.2.1) {x y : Nat} (hx : x < 5) (hy : y < 5) : (V.2.2.1 19 (5 * nI x + nI y).toNatClampNeg).toInt64 = oT T x y := by
  rw [ix5n (by omega) hy, hv, ← ho x y hx hy]
theorem t2 {T U : MS} {s0 : Int64 × Int32} (ho : oR T U) (h0 : tnI s0 U) : ∀ n, n ≤ 625 → tnI (btR T 2 100000000 s0 ((n + 24) / 25)) (tnF2 U n) ∧ (tnF2 U n).2.2.1 = U.2.2.1
  | 0, _ => ⟨h0, rfl⟩
  | n + 1, hn => by
    obtain ⟨ih, hv⟩ := t2 ho h0 n (by omega)
    show tnI (btR T 2 100000000 s0 ((n + 1 + 24) / 25)) (tnS2 (tnF2 U n) n) ∧ (tnS2 (tnF2 U n) n).2.2.1 = U.2.2.1
    generalize tnF2 U n = V at ih hv
    have b5 : n < 2 ^ 31 := by omega
    unfold tnS2
    rw [dv125 b5, dv25 b5, rm5 b5, dv5 b5, rm5 (i := n / 5) (by omega), rm5 (i := n / 25) (by omega)]
    by_cases hr : n % 25 = 0
    · obtain ⟨m, rfl⟩ : ∃ m, n = 25 * m := ⟨n / 25, by omega⟩
      have e1 : (25 * m + 24) / 25 = m := by omega
      have e2 : (25 * m + 1 + 24) / 25 = m + 1 := by omega
      rw [e1] at ih
      rw [e2, if_pos ((z5 (Nat.mod_lt _ (by decide))).mpr (by omega)), if_pos ((z5 (Nat.mod_lt _ (by decide))).mpr (by omega)), show 25 * m / 125 = dg m 1 by unfold dg; omega, show 25 * m / 25 % 5 = dg m 0 by unfold dg; omega, bt_s, cpr2]
      have hm : m < 25 := by omega
      generalize btR T 2 100000000 s0 m = X at ih
      by_cases hc : dg m 1 < dg m 0
      · rw [if_pos hc, if_neg (fun q => absurd ((nI_leI (by have := dg_l5 m 0; omega) (by have := dg_l5 m 1; omega)).mp q) (by omega)), ar2]
        unfold mlook2
        rw [oeq ho hv (dg_l5 m 1) (dg_l5 m 0), oeq ho hv (dg_l5 m 0) (dg_l5 m 1)]
        exact ⟨tn_best ih (cf2 m hm).2 (cf2 m hm).1.symm, (best_rows _ _ _).trans hv⟩
      · rw [if_neg hc, if_pos ((nI_leI (by have := dg_l5 m 0; omega) (by have := dg_l5 m 1; omega)).mpr (by omega))]
        exact ⟨tn_skip ih, hv⟩
    · rw [show (n + 1 + 24) / 25 = (n + 24) / 25 by omega]
      by_cases hq : n / 5 % 5 = 0
      · rw [if_pos ((z5 (Nat.mod_lt _ (by decide))).mpr hq), if_neg (fun q => absurd ((z5 (Nat.mod_lt _ (by decide))).mp q) (by omega))]
        exact ⟨ih, hv⟩
      · rw [if_neg (fun q => hq ((z5 (Nat.mod_lt _ (by decide))).mp q))]
        exact ⟨ih, hv⟩
theorem t3 {T U : MS} {s0 : Int64 × Int32} (ho : oR T U) (h0 : tnI s0 U) : ∀ n, n ≤ 625 → tnI (btR T 3 10000 s0 ((n + 4) / 5)) (tnF3 U n) ∧ (tnF3 U n).2.2.1 = U.2.2.1
  | 0, _ => ⟨h0, rfl⟩
  | n + 1, hn => by
    obtain ⟨ih, hv⟩ := t3 ho h0 n (by omega)
    show tnI (btR T 3 10000 s0 ((n + 1 + 4) / 5)) (tnS3 (tnF3 U n) n) ∧ (tnS3 (tnF3 U n) n).2.2.1 = U.2.2.1
    generalize tnF3 U n = V at ih hv
    have b5 : n < 2 ^ 31 := by omega
    unfold tnS3
    rw [dv125 b5, dv25 b5, rm5 b5, dv5 b5, rm5 (i := n / 5) (by omega), rm5 (i := n / 25) (by omega)]
    by_cases hr : n % 5 = 0
    · obtain ⟨m, rfl⟩ : ∃ m, n = 5 * m := ⟨n / 5, by omega⟩
      have e1 : (5 * m + 4) / 5 = m := by omega
      have e2 : (5 * m + 1 + 4) / 5 = m + 1 := by omega
      rw [e1] at ih
      rw [e2, if_pos ((z5 (Nat.mod_lt _ (by decide))).mpr (by omega)), show 5 * m / 125 = dg m 2 by unfold dg; omega, show 5 * m / 25 % 5 = dg m 1 by unfold dg; omega, show 5 * m / 5 % 5 = dg m 0 by unfold dg; omega, bt_s, cpr3]
      have hm : m < 125 := by omega
      have l0 := dg_l5 m 0
      have l1 := dg_l5 m 1
      have l2 := dg_l5 m 2
      generalize btR T 3 10000 s0 m = X at ih
      have k1 : nI (dg m 1) ≤ nI (dg m 2) ↔ dg m 1 ≤ dg m 2 := nI_leI (by omega) (by omega)
      have k2 : nI (dg m 0) ≤ nI (dg m 2) ↔ dg m 0 ≤ dg m 2 := nI_leI (by omega) (by omega)
      have k3 : nI (dg m 1) = nI (dg m 0) ↔ dg m 1 = dg m 0 := nI_eq (by omega) (by omega)
      by_cases hc : dg m 2 < dg m 1 ∧ dg m 2 < dg m 0 ∧ dg m 1 ≠ dg m 0
      · rw [if_pos hc, if_neg (fun q => absurd (k1.mp q) (by omega)), if_neg (fun q => absurd (k2.mp q) (by omega)), if_neg (fun q => hc.2.2 (k3.mp q)), ar3]
        unfold mlook3
        rw [oeq ho hv l2 l1, oeq ho hv l0 l2, oeq ho hv l1 l0]
        exact ⟨tn_best ih (cf3 m hm).2 (cf3 m hm).1.symm, (best_rows _ _ _).trans hv⟩
      · rw [if_neg hc]
        by_cases c1 : dg m 1 ≤ dg m 2
        · rw [if_pos (k1.mpr c1)]; exact ⟨tn_skip ih, hv⟩
        · rw [if_neg (fun q => c1 (k1.mp q))]
          by_cases c2 : dg m 0 ≤ dg m 2
          · rw [if_pos (k2.mpr c2)]; exact ⟨tn_skip ih, hv⟩
          · rw [if_neg (fun q => c2 (k2.mp q)), if_pos (k3.mpr (by omega))]; exact ⟨tn_skip ih, hv⟩
    · rw [show (n + 1 + 4) / 5 = (n + 4) / 5 by omega, if_neg (fun q => hr ((z5 (Nat.mod_lt _ (by decide))).mp q))]
      exact ⟨ih, hv⟩
theorem t4 {T U : MS} {s0 : Int64 × Int32} (ho : oR T U) (h0 : tnI s0 U) : ∀ n, n ≤ 625 → tnI (btR T 4 1 s0 n) (tnF4 U n) ∧ (tnF4 U n).2.2.1 = U.2.2.1
  | 0, _ => ⟨h0, rfl⟩
  | n + 1, hn => by
    obtain ⟨ih, hv⟩ := t4 ho h0 n (by omega)
    show tnI (btR T 4 1 s0 (n + 1)) (tnS4 (tnF4 U n) n) ∧ (tnS4 (tnF4 U n) n).2.2.1 = U.2.2.1
    generalize tnF4 U n = V at ih hv
    have b5 : n < 2 ^ 31 := by omega
    have hm : n < 625 := by omega
    unfold tnS4
    rw [dv125 b5, dv25 b5, rm5 b5, dv5 b5, rm5 (i := n / 5) (by omega), rm5 (i := n / 25) (by omega)]
    rw [show n / 125 = dg n 3 by unfold dg; omega, show n / 25 % 5 = dg n 2 by unfold dg; omega, show n / 5 % 5 = dg n 1 by unfold dg; omega, show n % 5 = dg n 0 by unfold dg; omega, bt_s, cpr4]
    have l0 := dg_l5 n 0
    have l1 := dg_l5 n 1
    have l2 := dg_l5 n 2
    have l3 := dg_l5 n 3
    generalize btR T 4 1 s0 n = X at ih
    have k1 : nI (dg n 2) ≤ nI (dg n 3) ↔ dg n 2 ≤ dg n 3 := nI_leI (by omega) (by omega)
    have k2 : nI (dg n 1) ≤ nI (dg n 3) ↔ dg n 1 ≤ dg n 3 := nI_leI (by omega) (by omega)
    have k3 : nI (dg n 2) = nI (dg n 1) ↔ dg n 2 = dg n 1 := nI_eq (by omega) (by omega)
    have k4 : nI (dg n 0) ≤ nI (dg n 3) ↔ dg n 0 ≤ dg n 3 := nI_leI (by omega) (by omega)
    have k5 : nI (dg n 2) = nI (dg n 0) ↔ dg n 2 = dg n 0 := nI_eq (by omega) (by omega)
    have k6 : nI (dg n 1) = nI (dg n 0) ↔ dg n 1 = dg n 0 := nI_eq (by omega) (by omega)
    by_cases hc : (dg n 3 < dg n 2 ∧ dg n 3 < dg n 1 ∧ dg n 3 < dg n 0) ∧ (dg n 1 ≠ dg n 0 ∧ dg n 2 ≠ dg n 1 ∧ dg n 2 ≠ dg n 0)
    · rw [if_pos hc, if_neg (fun q => absurd (k1.mp q) (by omega)), if_neg (fun q => absurd (k2.mp q) (by omega)), if_neg (fun q => hc.2.2.1 (k3.mp q)), if_neg (fun q => absurd (k4.mp q) (by omega)), if_neg (fun q => hc.2.2.2 (k5.mp q)), if_neg (fun q => hc.2.1 (k6.mp q)), ar4]
      unfold mlook4
      rw [oeq ho hv l3 l2, oeq ho hv l0 l3, oeq ho hv l2 l1, oeq ho hv l1 l0]
      exact ⟨tn_best ih (cf4 n hm).2 (cf4 n hm).1.symm, (best_rows _ _ _).trans hv⟩
    · rw [if_neg hc]
      by_cases c1 : dg n 2 ≤ dg n 3
      · rw [if_pos (k1.mpr c1)]; exact ⟨tn_skip ih, hv⟩
      · rw [if_neg (fun q => c1 (k1.mp q))]
        by_cases c2 : dg n 1 ≤ dg n 3
        · rw [if_pos (k2.mpr c2)]; exact ⟨tn_skip ih, hv⟩
        · rw [if_neg (fun q => c2 (k2.mp q))]
          by_cases c3 : dg n 2 = dg n 1
          · rw [if_pos (k3.mpr c3)]; exact ⟨tn_skip ih, hv⟩
          · rw [if_neg (fun q => c3 (k3.mp q))]
            by_cases c4 : dg n 0 ≤ dg n 3
            · rw [if_pos (k4.mpr c4)]; exact ⟨tn_skip ih, hv⟩
            · rw [if_neg (fun q => c4 (k4.mp q))]
              by_cases c5 : dg n 2 = dg n 0
              · rw [if_pos (k5.mpr c5)]; exact ⟨tn_skip ih, hv⟩
              · rw [if_neg (fun q => c5 (k5.mp q)), if_pos (k6.mpr (by omega))]; exact ⟨tn_skip ih, hv⟩
theorem turn_c {T S : MS} {X : Int64 × Int32} {U : MS} (hX : cf_best T = X.2) (hU : mtn S = U) (h : tnI X U) : (cf_turn T).1 = (mf_turn S).1 := by
  unfold cf_turn mf_turn
  rw [hX, hU]
  obtain ⟨-, -, h3⟩ := h
  rcases h3 with ⟨a, b⟩ | ⟨a, b⟩
  · rw [if_pos a, if_pos b]
    show (-1000000000000 : Int64) - (2 : Int32).toInt64 = -1000000000002
    decide
  · have hb : ¬ U.2.1 52 = -1000000000002 := by
      intro e
      rw [b] at e
      have e2 : X.2.toInt = -1000000000002 := by
        have := congrArg Int64.toInt e
        rw [Int32.toInt_toInt64] at this
        exact this.trans (by decide)
      have := Int32.le_toInt X.2
      omega
    rw [if_neg a, if_neg hb]
    exact b.symm
theorem turn_y {T S : MS} (ho : oR T S) {n2 n3 n4 m2 m3 : Nat} (h2 : n2 ≤ 625) (h3 : n3 ≤ 625) (h4 : n4 ≤ 625) (e2 : (n2 + 24) / 25 = m2) (e3 : (n3 + 4) / 5 = m3) : tnI (btR T 4 1 (btR T 3 10000 (btR T 2 100000000 (10000000000000000, 0) m2) m3) n4) (tnF4 (tnF3 (tnF2 (mtn0 S) n2) n3) n4) := by
  have h0 : tnI (10000000000000000, 0) (mtn0 S) := ⟨by decide, rfl, Or.inl ⟨rfl, rfl⟩⟩
  have a2 := t2 (T := T) (U := mtn0 S) (s0 := (10000000000000000, 0)) ho h0 n2 h2
  rw [e2] at a2
  generalize btR T 2 100000000 (10000000000000000, 0) m2 = s2 at a2
  generalize tnF2 (mtn0 S) n2 = U2 at a2
  have a3 := t3 (T := T) (U := U2) (s0 := s2) (fun x y hx hy => by rw [a2.2]; exact ho x y hx hy) a2.1 n3 h3
  rw [e3] at a3
  generalize btR T 3 10000 s2 m3 = s3 at a3
  generalize tnF3 U2 n3 = U3 at a3
  exact (t4 (T := T) (U := U3) (s0 := s3) (fun x y hx hy => by rw [a3.2, a2.2]; exact ho x y hx hy) a3.1 n4 h4).1
theorem turn_x {T S : MS} (ho : oR T S) : ∃ (X : Int64 × Int32) (U : MS), cf_best T = X.2 ∧ mtn S = U ∧ tnI X U := by
  have h := turn_y ho (n2 := 625) (n3 := 625) (n4 := 625) (m2 := 25) (m3 := 125) (by decide) (by decide) (by decide) (by decide) (by decide)
  rw [← bt2.eq_1, ← bt3.eq_1, ← bt4.eq_1, ← mtn.eq_1] at h
  exact ⟨bt4 T, mtn S, cf_best.eq_1 T, rfl, h⟩
theorem turn_eq {T S : MS} (ho : oR T S) : (cf_turn T).1 = (mf_turn S).1 := by
  obtain ⟨X, U, h1, h2, h3⟩ := turn_x ho
  exact turn_c h1 h2 h3

theorem rl_days {T : MS} {B : List BL} {S : MS} (hC : cinv T B) (n : Int32)  (h : Rel T B S) : Rel (cf_days T n).2 B (mf_days S n).2 := by
  intro x9 t9 hx9 ht9
  rw [((fc_days T n).2.2.1 (130 + x9) (by intro h9; first | exact h9 | omega)), ((fm_days S n).2.2.1 19 (by decide))]
  exact h x9 t9 hx9 ht9
theorem rl_gain {T : MS} {B : List BL} {S : MS} (hC : cinv T B) (v : Int32)  (h : Rel T B S) : Rel (cf_gain T v).2 B (mf_gain S v).2 := by
  intro x9 t9 hx9 ht9
  rw [((fc_gain T v).2.2.1 (130 + x9) (by intro h9; first | exact h9 | omega)), ((fm_gain S v).2.2.1 19 (by decide))]
  exact h x9 t9 hx9 ht9
theorem rl_road {T : MS} {B : List BL} {S : MS} (hC : cinv T B) (t v : Int32)  (h : Rel T B S) : Rel (cf_road T t v).2 B (mf_road S t v).2 := by
  intro x9 t9 hx9 ht9
  rw [((fc_road T t v).2.2.1 (130 + x9) (by intro h9; first | exact h9 | omega)), ((fm_road S t v).2.2.1 19 (by decide))]
  exact h x9 t9 hx9 ht9
theorem rl_seat {T : MS} {B : List BL} {S : MS} (hC : cinv T B) (x t : Int32)  (h : Rel T B S) : Rel (cf_seat T x t).2 B (mf_seat S x t).2 := by
  intro x9 t9 hx9 ht9
  rw [((fc_seat T x t).2.2.1 (130 + x9) (by intro h9; first | exact h9 | omega)), ((fm_seat S x t).2.2.1 19 (by decide))]
  exact h x9 t9 hx9 ht9
theorem rl_binds {T : MS} {B : List BL} {S : MS} (hC : cinv T B) (la am hp kd rd : Int32)  (h : Rel T B S) : Rel (cf_binds T la am hp kd rd).2 B (mf_binds S la am hp kd rd).2 := by
  intro x9 t9 hx9 ht9
  rw [((fc_binds T la am hp kd rd).2.2.1 (130 + x9) (by intro h9; first | exact h9 | omega)), ((fm_binds S la am hp kd rd).2.2.1 19 (by decide))]
  exact h x9 t9 hx9 ht9
theorem rl_owe {T : MS} {B : List BL} {S : MS} (hC : cinv T B) (x q v : Int32)  (h : Rel T B S) : Rel (cf_owe T x q v).2 B (mf_owe S x q v).2 := by
  intro x9 t9 hx9 ht9
  rw [((fc_owe T x q v).2.2.1 (130 + x9) (by intro h9; first | exact h9 | omega)), ((fm_owe S x q v).2.2.1 19 (by decide))]
  exact h x9 t9 hx9 ht9
theorem rl_owes {T : MS} {B : List BL} {S : MS} (hC : cinv T B) (x q : Int32)  (h : Rel T B S) : Rel (cf_owes T x q).2 B (mf_owes S x q).2 := by
  intro x9 t9 hx9 ht9
  rw [((fc_owes T x q).2.2.1 (130 + x9) (by intro h9; first | exact h9 | omega)), ((fm_owes S x q).2.2.1 19 (by decide))]
  exact h x9 t9 hx9 ht9
theorem rl_net {T : MS} {B : List BL} {S : MS} (hC : cinv T B) (x : Int32)  (h : Rel T B S) : Rel (cf_net T x).2 B (mf_net S x).2 := by
  intro x9 t9 hx9 ht9
  rw [((fc_net T x).2.2.1 (130 + x9) (by intro h9; first | exact h9 | omega)), ((fm_net S x).2.2.1 19 (by decide))]
  exact h x9 t9 hx9 ht9
theorem rl_coin {T : MS} {B : List BL} {S : MS} (hC : cinv T B) (k w f : Int32)  (h : Rel T B S) : Rel (cf_coin T k w f).2 B (mf_coin S k w f).2 := by
  intro x9 t9 hx9 ht9
  rw [((fc_coin T k w f).2.2.1 (130 + x9) (by intro h9; first | exact h9 | omega)), ((fm_coin S k w f).2.2.1 19 (by decide))]
  exact h x9 t9 hx9 ht9
theorem rl_purse {T : MS} {B : List BL} {S : MS} (hC : cinv T B) (x k v : Int32)  (h : Rel T B S) : Rel (cf_purse T x k v).2 B (mf_purse S x k v).2 := by
  intro x9 t9 hx9 ht9
  rw [((fc_purse T x k v).2.2.1 (130 + x9) (by intro h9; first | exact h9 | omega)), ((fm_purse S x k v).2.2.1 19 (by decide))]
  exact h x9 t9 hx9 ht9
theorem rl_has {T : MS} {B : List BL} {S : MS} (hC : cinv T B) (x k : Int32)  (h : Rel T B S) : Rel (cf_has T x k).2 B (mf_has S x k).2 := by
  intro x9 t9 hx9 ht9
  rw [((fc_has T x k).2.2.1 (130 + x9) (by intro h9; first | exact h9 | omega)), ((fm_has S x k).2.2.1 19 (by decide))]
  exact h x9 t9 hx9 ht9
theorem rl_settle {T : MS} {B : List BL} {S : MS} (hC : cinv T B) (x q : Int32)  (h : Rel T B S) : Rel (cf_settle T x q).2 B (mf_settle S x q).2 := by
  intro x9 t9 hx9 ht9
  rw [((fc_settle T x q).2.2.1 (130 + x9) (by intro h9; first | exact h9 | omega)), ((fm_settle S x q).2.2.1 19 (by decide))]
  exact h x9 t9 hx9 ht9
theorem rl_vote {T : MS} {B : List BL} {S : MS} (hC : cinv T B) (x t v : Int32)  (h : Rel T B S) : Rel (cf_vote T x t v).2 B (mf_vote S x t v).2 := by
  intro x9 t9 hx9 ht9
  rw [((fc_vote T x t v).2.2.1 (130 + x9) (by intro h9; first | exact h9 | omega)), ((fm_vote S x t v).2.2.1 19 (by decide))]
  exact h x9 t9 hx9 ht9
theorem rl_rate {T : MS} {B : List BL} {S : MS} (hC : cinv T B) (t : Int32)  (h : Rel T B S) : Rel (cf_rate T t).2 B (mf_rate S t).2 := by
  intro x9 t9 hx9 ht9
  rw [((fc_rate T t).2.2.1 (130 + x9) (by intro h9; first | exact h9 | omega)), ((fm_rate S t).2.2.1 19 (by decide))]
  exact h x9 t9 hx9 ht9
theorem rl_offer {T : MS} {B : List BL} {S : MS} (hC : cinv T B) (f t v : Int32)  (h : Rel T B S) : Rel (cf_offer T f t v).2 B (mf_offer S f t v).2 := by
  unfold cf_offer mf_offer
  split
  · next hc =>
    have hx : vp_in f 5 := vin hc.1 (by decide)
    have ht : vp_in t 5 := vin hc.2.1 (by decide)
    have hx' := vcl hx
    have ht' := vcl ht
    intro x9 t9 hx9 ht9
    show (sA T (130 + f.toNatClampNeg) t.toNatClampNeg v).2.2.1 (130 + x9) t9 = (sA S 19 (5 * f + t).toNatClampNeg v).2.2.1 19 (5 * x9 + t9)
    rw [sA_at, ix5 (by decide) hx ht]
    by_cases e1 : x9 = f.toNatClampNeg
    · rw [e1, sA_at]
      by_cases e2 : t9 = t.toNatClampNeg
      · rw [e2, updA_at, updA_at]
      · rw [updA_ne _ _ e2, updA_ne _ _ (by omega)]
        exact h _ t9 (by omega) ht9
    · rw [sA_ne _ _ _ (by omega), updA_ne _ _ (by omega)]
      exact h x9 t9 hx9 ht9
  · exact h
theorem rl_tell {T : MS} {B : List BL} {S : MS} (hC : cinv T B) (v : Int32)  (h : Rel T B S) : Rel (cf_tell T v).2 B (mf_tell S v).2 := by
  intro x9 t9 hx9 ht9
  rw [((fc_tell T v).2.2.1 (130 + x9) (by intro h9; first | exact h9 | omega)), ((fm_tell S v).2.2.1 19 (by decide))]
  exact h x9 t9 hx9 ht9
theorem rl_count {T : MS} {B : List BL} {S : MS} (hC : cinv T B) (x : Int32)  (h : Rel T B S) : Rel (cf_count T x).2 B (mf_count S x).2 := by
  intro x9 t9 hx9 ht9
  rw [((fc_count T x).2.2.1 (130 + x9) (by intro h9; first | exact h9 | omega)), ((fm_count S x).2.2.1 19 (by decide))]
  exact h x9 t9 hx9 ht9
theorem rl_found {T : MS} {B : List BL} {S : MS} (hC : cinv T B) (x : Int32)  (h : Rel T B S) : Rel (cf_found T x).2 B (mf_found S x).2 := by
  intro x9 t9 hx9 ht9
  rw [((fc_found T x).2.2.1 (130 + x9) (by intro h9; first | exact h9 | omega)), ((fm_found S x).2.2.1 19 (by decide))]
  exact h x9 t9 hx9 ht9
theorem rl_turn {T : MS} {B : List BL} {S : MS} (hC : cinv T B)   (h : Rel T B S) : Rel (cf_turn T).2 B (mf_turn S).2 := by
  intro x9 t9 hx9 ht9
  rw [((fc_turn T).2.2.1 (130 + x9) (by intro h9; first | exact h9 | omega)), ((fm_turn S).2.2.1 19 (by decide))]
  exact h x9 t9 hx9 ht9
theorem rl_feed {T : MS} {B : List BL} {S : MS} (hC : cinv T B) (e : Int64) (n : Int32)  (h : Rel T B S) : Rel (cf_feed T e n).2 B (mf_feed S e n).2 := by
  intro x9 t9 hx9 ht9
  rw [((fc_feed T e n).2.2.1 (130 + x9) (by intro h9; first | exact h9 | omega)), ((fm_feed S e n).2.2.1 19 (by decide))]
  exact h x9 t9 hx9 ht9
theorem rl_pass {T : MS} {B : List BL} {S : MS} (hC : cinv T B) (x y : Int32)  (h : Rel T B S) : Rel (cf_pass T B x y).2.1 (cf_pass T B x y).2.2 (mf_pass S x y).2 := by
  intro x9 t9 hx9 ht9
  rw [((fc_pass T B x y).2.2.1 (130 + x9) (by intro h9; first | exact h9 | omega)), ((fm_pass S x y).2.2.1 19 (by decide))]
  exact h x9 t9 hx9 ht9
theorem rl_take {T : MS} {B : List BL} {S : MS} (hC : cinv T B) (x r : Int32)  (h : Rel T B S) : Rel (cf_take T B x r).2.1 (cf_take T B x r).2.2 (mf_take S x r).2 := by
  intro x9 t9 hx9 ht9
  rw [((fc_take T B x r).2.2.1 (130 + x9) (by intro h9; first | exact h9 | omega)), ((fm_take S x r).2.2.1 19 (by decide))]
  exact h x9 t9 hx9 ht9
theorem rl_protest {T : MS} {B : List BL} {S : MS} (hC : cinv T B) (x : Int32)  (h : Rel T B S) : Rel (cf_protest T B x).2.1 (cf_protest T B x).2.2 (mf_protest S x).2 := by
  intro x9 t9 hx9 ht9
  rw [((fc_protest T B x).2.2.1 (130 + x9) (by intro h9; first | exact h9 | omega)), ((fm_protest S x).2.2.1 19 (by decide))]
  exact h x9 t9 hx9 ht9
theorem rl_pay {T : MS} {B : List BL} {S : MS} (hC : cinv T B) (x : Int32)  (h : Rel T B S) : Rel (cf_pay T B x).2.1 (cf_pay T B x).2.2 (mf_pay S x).2 := by
  intro x9 t9 hx9 ht9
  rw [((fc_pay T B x hC.1 (bokx hC.1)).2.2.1 (130 + x9) (by intro h9; first | exact h9 | omega)), ((fm_pay S x).2.2.1 19 (by decide))]
  exact h x9 t9 hx9 ht9
theorem rl_recourse {T : MS} {B : List BL} {S : MS} (hC : cinv T B) (x j : Int32)  (h : Rel T B S) : Rel (cf_recourse T B x j).2.1 (cf_recourse T B x j).2.2 (mf_recourse S x j).2 := by
  intro x9 t9 hx9 ht9
  rw [((fc_recourse T B x j (bokx hC.1)).2.2.1 (130 + x9) (by intro h9; first | exact h9 | omega)), ((fm_recourse S x j).2.2.1 19 (by decide))]
  exact h x9 t9 hx9 ht9
theorem rl_about {T : MS} {B : List BL} {S : MS} (hC : cinv T B) (x q : Int32)  (h : Rel T B S) : Rel (cf_about T B x q).2.1 (cf_about T B x q).2.2 (mf_about S x q).2 := by
  intro x9 t9 hx9 ht9
  rw [((fc_about T B x q).1.2.2.1 (130 + x9) (by intro h9; first | exact h9 | omega)), ((fm_about S x q).2.2.1 19 (by decide))]
  exact h x9 t9 hx9 ht9
theorem rl_as {T : MS} {B : List BL} {S : MS} (hC : cinv T B) (x k : Int32)  (h : Rel T B S) : Rel (cf_as T B x k).2.1 (cf_as T B x k).2.2 (mf_as S x k).2 := by
  intro x9 t9 hx9 ht9
  rw [((fc_as T B x k).1.2.2.1 (130 + x9) (by intro h9; first | exact h9 | omega)), ((fm_as S x k).2.2.1 19 (by decide))]
  exact h x9 t9 hx9 ht9
theorem rl_knows {T : MS} {B : List BL} {S : MS} (hC : cinv T B) (x y d : Int32)  (h : Rel T B S) : Rel (cf_knows T B x y d).2.1 (cf_knows T B x y d).2.2 (mf_knows S x y d).2 := by
  intro x9 t9 hx9 ht9
  rw [((fc_knows T B x y d).1.2.2.1 (130 + x9) (by intro h9; first | exact h9 | omega)), ((fm_knows S x y d).2.2.1 19 (by decide))]
  exact h x9 t9 hx9 ht9
theorem rl_plan {T : MS} {B : List BL} {S : MS} (hC : cinv T B) (g : Int32) {U : MS} (hF : fr S U) (h : Rel T B S) : Rel (cf_plan T g).2 B (mf_plan U g).2 := by
  intro x9 t9 hx9 ht9
  rw [((fc_plan T g).1.2.2.1 (130 + x9) (by intro h9; first | exact h9 | omega)), ((fm_plan g hF).2.2.1 19 (by decide))]
  exact h x9 t9 hx9 ht9
theorem rl_payment {T : MS} {B : List BL} {S : MS} (hC : cinv T B) (j w : Int32) {U : MS} (hF : fr S U) (h : Rel T B S) : Rel (cf_payment T j w).2 B (mf_payment S U j w).2 := by
  intro x9 t9 hx9 ht9
  rw [((fc_payment T j w).2.2.1 (130 + x9) (by intro h9; first | exact h9 | omega)), ((fm_payment j w hF).2.2.1 19 (by decide))]
  exact h x9 t9 hx9 ht9
theorem rl_clear {T : MS} {B : List BL} {S : MS} (hC : cinv T B)  {U : MS} {N : Nat} (hF : fr S U) (hO : plOk U N) (hp : ∀ j, j < N → 0 ≤ (U.2.2.2 49 j).toInt) (h : Rel T B S) : Rel (cf_clear T).2 B (mf_clear U N).2 := by
  intro x9 t9 hx9 ht9
  rw [((fc_clear hC.2.2.2.2.2.2).2.2.1 (130 + x9) (by intro h9; first | exact h9 | omega)), ((fm_clear hF hO hp).2.2.1 19 (by decide))]
  exact h x9 t9 hx9 ht9
theorem rl_check {T : MS} {B : List BL} {S : MS} (hC : cinv T B)  {U : MS} {N : Nat} (hF : fr (sI S 20 0) U) (h : Rel T B S) : Rel (cf_check T).2 B (mf_check S U N).2 := by
  intro x9 t9 hx9 ht9
  rw [((fc_check T).2.2.1 (130 + x9) (by intro h9; first | exact h9 | omega)), ((fm_check hF).2.2.1 19 (by decide))]
  exact h x9 t9 hx9 ht9
theorem rl_fault {T : MS} {B : List BL} {S : MS} (hC : cinv T B)   (h : Rel T B S) : Rel T B S := by
  intro x9 t9 hx9 ht9
  rw [((fx_rfl (I := sN) (L := sN) (A := sN) (B := s0) T).2.2.1 (130 + x9) (by intro h9; first | exact h9 | omega)), ((fx_rfl (I := sN) (L := sN) (A := sN) (B := s0) S).2.2.1 19 (by decide))]
  exact h x9 t9 hx9 ht9
theorem rl_drawN {T : MS} {B : List BL} {S : MS} (hC : cinv T B) (kd dr de py am : Int32) (hd : ¬ dcnd kd dr de py am) (h : Rel T B S) : Rel (cf_fd T 1).2 B (mf_draw S kd dr de py am).2 := by
  intro x9 t9 hx9 ht9
  rw [((fx_fd (I := sN) (L := sN) (A := sN) (B := s0) (q := 1) (fx_rfl T) rfl).2.2.1 (130 + x9) (by intro h9; first | exact h9 | omega)), ((fm_draw S kd dr de py am).2.2.1 19 (by decide))]
  exact h x9 t9 hx9 ht9
theorem rl_drawK {T : MS} {B : List BL} {S : MS} (hC : cinv T B) (kd dr de py am : Int32) (hd : dcnd kd dr de py am) (hk : dr = py) (h : Rel T B S) : Rel (cf_fd T 5).2 B (mf_draw S kd dr de py am).2 := by
  intro x9 t9 hx9 ht9
  rw [((fx_fd (I := sN) (L := sN) (A := sN) (B := s0) (q := 5) (fx_rfl T) rfl).2.2.1 (130 + x9) (by intro h9; first | exact h9 | omega)), ((fm_draw S kd dr de py am).2.2.1 19 (by decide))]
  exact h x9 t9 hx9 ht9
theorem rl_drawF {T : MS} {B : List BL} {S : MS} (hC : cinv T B) (kd dr de py am : Int32) (hd : dcnd kd dr de py am) (hk : ¬ dr = py) (hf : ¬ T.1 16 < 40) (h : Rel T B S) : Rel (cf_fd T 4).2 B (mf_draw S kd dr de py am).2 := by
  intro x9 t9 hx9 ht9
  rw [((fx_fd (I := sN) (L := sN) (A := sN) (B := s0) (q := 4) (fx_rfl T) rfl).2.2.1 (130 + x9) (by intro h9; first | exact h9 | omega)), ((fm_draw S kd dr de py am).2.2.1 19 (by decide))]
  exact h x9 t9 hx9 ht9
theorem rl_drawY {T : MS} {B : List BL} {S : MS} (hC : cinv T B) (kd dr de py am : Int32) (q9 e9 g9 : Nat) (hd : dcnd kd dr de py am) (hk : ¬ dr = py) (hf : T.1 16 < 40) (h : Rel T B S) : Rel (sI T 16 (T.1 16 + 1)) (B ++ [bnew q9 e9 g9 kd dr de py am (T.1 14)]) (mf_draw S kd dr de py am).2 := by
  intro x9 t9 hx9 ht9
  rw [((fx_sI (I := fun j => j = 16) (L := sN) (A := sN) (B := s0) (v := T.1 16 + 1) (fx_rfl T) rfl).2.2.1 (130 + x9) (by intro h9; first | exact h9 | omega)), ((fm_draw S kd dr de py am).2.2.1 19 (by decide))]
  exact h x9 t9 hx9 ht9
theorem rl_partN {T : MS} {B : List BL} {S : MS} (hC : cinv T B) (x sm cr : Int32)  (h : Rel T B S) : Rel (cf_fd T 1).2 B (mf_part S x sm cr).2 := by
  intro x9 t9 hx9 ht9
  rw [((fx_fd (I := sN) (L := sN) (A := sN) (B := s0) (q := 1) (fx_rfl T) rfl).2.2.1 (130 + x9) (by intro h9; first | exact h9 | omega)), ((fm_part S x sm cr).2.2.1 19 (by decide))]
  exact h x9 t9 hx9 ht9
theorem rl_partY {T : MS} {B : List BL} {S : MS} (hC : cinv T B) (x sm cr : Int32)  (h : Rel T B S) : Rel (cf_parT T B x) B (mf_part S x sm cr).2 := by
  intro x9 t9 hx9 ht9
  rw [((fc_parT T B x).2.2.1 (130 + x9) (by intro h9; first | exact h9 | omega)), ((fm_part S x sm cr).2.2.1 19 (by decide))]
  exact h x9 t9 hx9 ht9
theorem rl_readG {T : MS} {B : List BL} {S : MS} (hC : cinv T B)  {X : Int32 × MS} (eX : X = crx T) (h1 : X.1 = 1) (h : Rel T B S) : Rel (swT (cf_endT X.2 1)) B (mf_read S).2 := by
  intro x9 t9 hx9 ht9
  rw [(fcr_gA hC eX (j := 130 + x9) (by omega) (by intro h9; first | exact h9 | omega)), ((fm_read S).2.2.1 19 (by decide))]
  exact h x9 t9 hx9 ht9
theorem rl_readB {T : MS} {B : List BL} {S : MS} (hC : cinv T B)  {X : Int32 × MS} (eX : X = crx T) (h1 : X.1 = 0) (h : Rel T B S) : Rel (cf_fd (cf_endT X.2 0) 6).2 B (mf_read S).2 := by
  intro x9 t9 hx9 ht9
  rw [((fcr_b hC eX).2.2.1 (130 + x9) (by intro h9; first | exact h9 | omega)), ((fm_read S).2.2.1 19 (by decide))]
  exact h x9 t9 hx9 ht9
theorem pi_days {i : Nat} {T : MS} {B : List BL} {S : MS} (hi : i < 600) (n : Int32)  (hP : PI Rel i T B S) : PI Rel (i + 1) (cf_days T n).2 B (mf_days S n).2 := ⟨(cs_days n hP.1), (ri_up hi (ri_days (Mi_le hi).1 (Mi_le hi).2.1 n hP.2.1)), rl_days hP.1 n  hP.2.2⟩
theorem pi_gain {i : Nat} {T : MS} {B : List BL} {S : MS} (hi : i < 600) (v : Int32)  (hP : PI Rel i T B S) : PI Rel (i + 1) (cf_gain T v).2 B (mf_gain S v).2 := ⟨(cs_gain v hP.1), (ri_up hi (ri_gain v hP.2.1)), rl_gain hP.1 v  hP.2.2⟩
theorem pi_road {i : Nat} {T : MS} {B : List BL} {S : MS} (hi : i < 600) (t v : Int32)  (hP : PI Rel i T B S) : PI Rel (i + 1) (cf_road T t v).2 B (mf_road S t v).2 := ⟨(cs_road t v hP.1), (ri_up hi (ri_road t v hP.2.1)), rl_road hP.1 t v  hP.2.2⟩
theorem pi_seat {i : Nat} {T : MS} {B : List BL} {S : MS} (hi : i < 600) (x t : Int32)  (hP : PI Rel i T B S) : PI Rel (i + 1) (cf_seat T x t).2 B (mf_seat S x t).2 := ⟨(ci_seat x t hP.1), (ri_up hi (ri_seat x t hP.2.1)), rl_seat hP.1 x t  hP.2.2⟩
theorem pi_binds {i : Nat} {T : MS} {B : List BL} {S : MS} (hi : i < 600) (la am hp kd rd : Int32)  (hP : PI Rel i T B S) : PI Rel (i + 1) (cf_binds T la am hp kd rd).2 B (mf_binds S la am hp kd rd).2 := ⟨(cs_binds la am hp kd rd hP.1), (ri_up hi (ri_binds la am hp kd rd hP.2.1)), rl_binds hP.1 la am hp kd rd  hP.2.2⟩
theorem pi_owe {i : Nat} {T : MS} {B : List BL} {S : MS} (hi : i < 600) (x q v : Int32)  (hP : PI Rel i T B S) : PI Rel (i + 1) (cf_owe T x q v).2 B (mf_owe S x q v).2 := ⟨(cs_owe x q v hP.1), (Mi_s i ▸ ri_owe (Mi_le hi).1 x q v hP.2.1), rl_owe hP.1 x q v  hP.2.2⟩
theorem pi_owes {i : Nat} {T : MS} {B : List BL} {S : MS} (hi : i < 600) (x q : Int32)  (hP : PI Rel i T B S) : PI Rel (i + 1) (cf_owes T x q).2 B (mf_owes S x q).2 := ⟨(cs_owes x q hP.1), (ri_up hi (ri_owes x q hP.2.1)), rl_owes hP.1 x q  hP.2.2⟩
theorem pi_net {i : Nat} {T : MS} {B : List BL} {S : MS} (hi : i < 600) (x : Int32)  (hP : PI Rel i T B S) : PI Rel (i + 1) (cf_net T x).2 B (mf_net S x).2 := ⟨(cs_net x hP.1), (ri_up hi (ri_net x hP.2.1)), rl_net hP.1 x  hP.2.2⟩
theorem pi_coin {i : Nat} {T : MS} {B : List BL} {S : MS} (hi : i < 600) (k w f : Int32)  (hP : PI Rel i T B S) : PI Rel (i + 1) (cf_coin T k w f).2 B (mf_coin S k w f).2 := ⟨(cs_coin k w f hP.1), (ri_up hi (ri_coin k w f hP.2.1)), rl_coin hP.1 k w f  hP.2.2⟩
theorem pi_purse {i : Nat} {T : MS} {B : List BL} {S : MS} (hi : i < 600) (x k v : Int32)  (hP : PI Rel i T B S) : PI Rel (i + 1) (cf_purse T x k v).2 B (mf_purse S x k v).2 := ⟨(cs_purse x k v hP.1), (ri_up hi (ri_purse x k v hP.2.1)), rl_purse hP.1 x k v  hP.2.2⟩
theorem pi_has {i : Nat} {T : MS} {B : List BL} {S : MS} (hi : i < 600) (x k : Int32)  (hP : PI Rel i T B S) : PI Rel (i + 1) (cf_has T x k).2 B (mf_has S x k).2 := ⟨(cs_has x k hP.1), (ri_up hi (ri_has x k hP.2.1)), rl_has hP.1 x k  hP.2.2⟩
theorem pi_settle {i : Nat} {T : MS} {B : List BL} {S : MS} (hi : i < 600) (x q : Int32)  (hP : PI Rel i T B S) : PI Rel (i + 1) (cf_settle T x q).2 B (mf_settle S x q).2 := ⟨(cs_settle x q hP.1), (ri_up hi (ri_settle (Mi_le hi).1 x q hP.2.1)), rl_settle hP.1 x q  hP.2.2⟩
theorem pi_vote {i : Nat} {T : MS} {B : List BL} {S : MS} (hi : i < 600) (x t v : Int32)  (hP : PI Rel i T B S) : PI Rel (i + 1) (cf_vote T x t v).2 B (mf_vote S x t v).2 := ⟨(cs_vote x t v hP.1), (ri_up hi (ri_vote x t v hP.2.1)), rl_vote hP.1 x t v  hP.2.2⟩
theorem pi_rate {i : Nat} {T : MS} {B : List BL} {S : MS} (hi : i < 600) (t : Int32)  (hP : PI Rel i T B S) : PI Rel (i + 1) (cf_rate T t).2 B (mf_rate S t).2 := ⟨(cs_rate t hP.1), (ri_up hi (ri_rate t hP.2.1)), rl_rate hP.1 t  hP.2.2⟩
theorem pi_offer {i : Nat} {T : MS} {B : List BL} {S : MS} (hi : i < 600) (f t v : Int32)  (hP : PI Rel i T B S) : PI Rel (i + 1) (cf_offer T f t v).2 B (mf_offer S f t v).2 := ⟨(cs_offer f t v hP.1), (ri_up hi (ri_offer f t v hP.2.1)), rl_offer hP.1 f t v  hP.2.2⟩
theorem pi_tell {i : Nat} {T : MS} {B : List BL} {S : MS} (hi : i < 600) (v : Int32)  (hP : PI Rel i T B S) : PI Rel (i + 1) (cf_tell T v).2 B (mf_tell S v).2 := ⟨(ci_tell v hP.1), (ri_up hi (ri_tell v hP.2.1)), rl_tell hP.1 v  hP.2.2⟩
theorem pi_count {i : Nat} {T : MS} {B : List BL} {S : MS} (hi : i < 600) (x : Int32)  (hP : PI Rel i T B S) : PI Rel (i + 1) (cf_count T x).2 B (mf_count S x).2 := ⟨(cs_count x hP.1), (ri_up hi (ri_count x hP.2.1)), rl_count hP.1 x  hP.2.2⟩
theorem pi_found {i : Nat} {T : MS} {B : List BL} {S : MS} (hi : i < 600) (x : Int32)  (hP : PI Rel i T B S) : PI Rel (i + 1) (cf_found T x).2 B (mf_found S x).2 := ⟨(cs_found x hP.1), (ri_up hi (ri_found x hP.2.1)), rl_found hP.1 x  hP.2.2⟩
theorem pi_turn {i : Nat} {T : MS} {B : List BL} {S : MS} (hi : i < 600)   (hP : PI Rel i T B S) : PI Rel (i + 1) (cf_turn T).2 B (mf_turn S).2 := ⟨(cs_turn hP.1), (ri_up hi (ri_turn hP.2.1)), rl_turn hP.1   hP.2.2⟩
theorem pi_feed {i : Nat} {T : MS} {B : List BL} {S : MS} (hi : i < 600) (e : Int64) (n : Int32)  (hP : PI Rel i T B S) : PI Rel (i + 1) (cf_feed T e n).2 B (mf_feed S e n).2 := ⟨(ci_feed e n hP.1), (ri_up hi (ri_feed e n hP.2.1)), rl_feed hP.1 e n  hP.2.2⟩
theorem pi_pass {i : Nat} {T : MS} {B : List BL} {S : MS} (hi : i < 600) (x y : Int32)  (hP : PI Rel i T B S) : PI Rel (i + 1) (cf_pass T B x y).2.1 (cf_pass T B x y).2.2 (mf_pass S x y).2 := ⟨(ci_pass x y hP.1), (ri_up hi (ri_pass x y hP.2.1)), rl_pass hP.1 x y  hP.2.2⟩
theorem pi_take {i : Nat} {T : MS} {B : List BL} {S : MS} (hi : i < 600) (x r : Int32)  (hP : PI Rel i T B S) : PI Rel (i + 1) (cf_take T B x r).2.1 (cf_take T B x r).2.2 (mf_take S x r).2 := ⟨(ci_take x r hP.1), (ri_up hi (ri_take x r hP.2.1)), rl_take hP.1 x r  hP.2.2⟩
theorem pi_protest {i : Nat} {T : MS} {B : List BL} {S : MS} (hi : i < 600) (x : Int32)  (hP : PI Rel i T B S) : PI Rel (i + 1) (cf_protest T B x).2.1 (cf_protest T B x).2.2 (mf_protest S x).2 := ⟨(ci_protest x hP.1), (ri_up hi (ri_protest x hP.2.1)), rl_protest hP.1 x  hP.2.2⟩
theorem pi_pay {i : Nat} {T : MS} {B : List BL} {S : MS} (hi : i < 600) (x : Int32)  (hP : PI Rel i T B S) : PI Rel (i + 1) (cf_pay T B x).2.1 (cf_pay T B x).2.2 (mf_pay S x).2 := ⟨(ci_pay x hP.1), (Mi_s i ▸ ri_pay (Mi_le hi).1 x hP.2.1), rl_pay hP.1 x  hP.2.2⟩
theorem pi_recourse {i : Nat} {T : MS} {B : List BL} {S : MS} (hi : i < 600) (x j : Int32)  (hP : PI Rel i T B S) : PI Rel (i + 1) (cf_recourse T B x j).2.1 (cf_recourse T B x j).2.2 (mf_recourse S x j).2 := ⟨(ci_recourse x j hP.1), (Mi_s i ▸ ri_recourse (Mi_le hi).1 x j hP.2.1), rl_recourse hP.1 x j  hP.2.2⟩
theorem pi_about {i : Nat} {T : MS} {B : List BL} {S : MS} (hi : i < 600) (x q : Int32)  (hP : PI Rel i T B S) : PI Rel (i + 1) (cf_about T B x q).2.1 (cf_about T B x q).2.2 (mf_about S x q).2 := ⟨(cs_about x q hP.1), (ri_up hi (ri_about x q hP.2.1)), rl_about hP.1 x q  hP.2.2⟩
theorem pi_as {i : Nat} {T : MS} {B : List BL} {S : MS} (hi : i < 600) (x k : Int32)  (hP : PI Rel i T B S) : PI Rel (i + 1) (cf_as T B x k).2.1 (cf_as T B x k).2.2 (mf_as S x k).2 := ⟨(cs_as x k hP.1), (ri_up hi (ri_as x k hP.2.1)), rl_as hP.1 x k  hP.2.2⟩
theorem pi_knows {i : Nat} {T : MS} {B : List BL} {S : MS} (hi : i < 600) (x y d : Int32)  (hP : PI Rel i T B S) : PI Rel (i + 1) (cf_knows T B x y d).2.1 (cf_knows T B x y d).2.2 (mf_knows S x y d).2 := ⟨(cs_knows x y d hP.1), (ri_up hi (ri_knows x y d hP.2.1)), rl_knows hP.1 x y d  hP.2.2⟩
theorem pi_plan {i : Nat} {T : MS} {B : List BL} {S : MS} (hi : i < 600) (g : Int32) {U : MS} (hF : fr S U) (hP : PI Rel i T B S) : PI Rel (i + 1) (cf_plan T g).2 B (mf_plan U g).2 := ⟨(ci_plan g hP.1), (ri_up hi (ri_plan g (ri_fr hF hP.2.1))), rl_plan hP.1 g hF hP.2.2⟩
theorem pi_payment {i : Nat} {T : MS} {B : List BL} {S : MS} (hi : i < 600) (j w : Int32) {U : MS} (hF : fr S U) (hP : PI Rel i T B S) : PI Rel (i + 1) (cf_payment T j w).2 B (mf_payment S U j w).2 := ⟨(ci_payment j w hP.1), (ri_up hi (ri_payment j w hP.2.1 (ri_fr hF hP.2.1))), rl_payment hP.1 j w hF hP.2.2⟩
theorem pi_clear {i : Nat} {T : MS} {B : List BL} {S : MS} (hi : i < 600)  {U : MS} {N : Nat} (hF : fr S U) (hO : plOk U N) (hp : ∀ j, j < N → 0 ≤ (U.2.2.2 49 j).toInt) (hs : isum (fun j => (U.2.2.2 49 j).toInt) N ≤ Mi i) (hP : PI Rel i T B S) : PI Rel (i + 1) (cf_clear T).2 B (mf_clear U N).2 := ⟨(ci_clear hP.1), (ri_up hi (ri_clear (ri_fr hF hP.2.1) hO hp hs)), rl_clear hP.1  hF hO hp hP.2.2⟩
theorem pi_check {i : Nat} {T : MS} {B : List BL} {S : MS} (hi : i < 600)  {U : MS} {N : Nat} (hF : fr (sI S 20 0) U) (hP : PI Rel i T B S) : PI Rel (i + 1) (cf_check T).2 B (mf_check S U N).2 := ⟨(ci_check hP.1), (ri_up hi (ri_fr hF (ri_20 hP.2.1))), rl_check hP.1  hF hP.2.2⟩
theorem pi_fault {i : Nat} {T : MS} {B : List BL} {S : MS} (hi : i < 600)   (hP : PI Rel i T B S) : PI Rel (i + 1) T B S := ⟨hP.1, (ri_up hi hP.2.1), rl_fault hP.1   hP.2.2⟩
theorem pi_drawN {i : Nat} {T : MS} {B : List BL} {S : MS} (hi : i < 600) (kd dr de py am : Int32) (hd : ¬ dcnd kd dr de py am) (hP : PI Rel i T B S) : PI Rel (i + 1) (cf_fd T 1).2 B (mf_draw S kd dr de py am).2 := ⟨hP.1, (ri_up hi (ri_draw kd dr de py am hP.2.1)), rl_drawN hP.1 kd dr de py am hd hP.2.2⟩
theorem pi_drawK {i : Nat} {T : MS} {B : List BL} {S : MS} (hi : i < 600) (kd dr de py am : Int32) (hd : dcnd kd dr de py am) (hk : dr = py) (hP : PI Rel i T B S) : PI Rel (i + 1) (cf_fd T 5).2 B (mf_draw S kd dr de py am).2 := ⟨hP.1, (ri_up hi (ri_draw kd dr de py am hP.2.1)), rl_drawK hP.1 kd dr de py am hd hk hP.2.2⟩
theorem pi_drawF {i : Nat} {T : MS} {B : List BL} {S : MS} (hi : i < 600) (kd dr de py am : Int32) (hd : dcnd kd dr de py am) (hk : ¬ dr = py) (hf : ¬ T.1 16 < 40) (hP : PI Rel i T B S) : PI Rel (i + 1) (cf_fd T 4).2 B (mf_draw S kd dr de py am).2 := ⟨hP.1, (ri_up hi (ri_draw kd dr de py am hP.2.1)), rl_drawF hP.1 kd dr de py am hd hk hf hP.2.2⟩
theorem pi_drawY {i : Nat} {T : MS} {B : List BL} {S : MS} (hi : i < 600) (kd dr de py am : Int32) (q9 e9 g9 : Nat) (hd : dcnd kd dr de py am) (hk : ¬ dr = py) (hf : T.1 16 < 40) (hP : PI Rel i T B S) : PI Rel (i + 1) (sI T 16 (T.1 16 + 1)) (B ++ [bnew q9 e9 g9 kd dr de py am (T.1 14)]) (mf_draw S kd dr de py am).2 := ⟨(ci_draw hP.1 hd hf), (ri_up hi (ri_draw kd dr de py am hP.2.1)), rl_drawY hP.1 kd dr de py am q9 e9 g9 hd hk hf hP.2.2⟩
theorem pi_partN {i : Nat} {T : MS} {B : List BL} {S : MS} (hi : i < 600) (x sm cr : Int32)  (hP : PI Rel i T B S) : PI Rel (i + 1) (cf_fd T 1).2 B (mf_part S x sm cr).2 := ⟨hP.1, (ri_up hi (ri_part x sm cr hP.2.1)), rl_partN hP.1 x sm cr  hP.2.2⟩
theorem pi_partY {i : Nat} {T : MS} {B : List BL} {S : MS} (hi : i < 600) (x sm cr : Int32)  (hP : PI Rel i T B S) : PI Rel (i + 1) (cf_parT T B x) B (mf_part S x sm cr).2 := ⟨(cs_part x hP.1), (ri_up hi (ri_part x sm cr hP.2.1)), rl_partY hP.1 x sm cr  hP.2.2⟩
theorem pi_readG {i : Nat} {T : MS} {B : List BL} {S : MS} (hi : i < 600)  {X : Int32 × MS} (eX : X = crx T) (h1 : X.1 = 1) (hP : PI Rel i T B S) : PI Rel (i + 1) (swT (cf_endT X.2 1)) B (mf_read S).2 := ⟨(fcr_ci hP.1 eX 1).2, (ri_up hi (ri_read hP.2.1)), rl_readG hP.1  eX h1 hP.2.2⟩
theorem pi_readB {i : Nat} {T : MS} {B : List BL} {S : MS} (hi : i < 600)  {X : Int32 × MS} (eX : X = crx T) (h1 : X.1 = 0) (hP : PI Rel i T B S) : PI Rel (i + 1) (cf_fd (cf_endT X.2 0) 6).2 B (mf_read S).2 := ⟨(fcr_ci hP.1 eX 0).1, (ri_up hi (ri_read hP.2.1)), rl_readB hP.1  eX h1 hP.2.2⟩
theorem eq_m {T : MS} {B : List BL} {S : MS} (hC : cinv T B) (hR : Rel T B S) : (cf_turn T).1 = (mf_turn S).1 := turn_eq hR
theorem rel0 : Rel T0 [] S0 := fun _ _ _ _ => rfl
