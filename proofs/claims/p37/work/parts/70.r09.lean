theorem ri_about {M : Int} {S : MS} (b x : Int32) (h : rinv M S) : rinv M (mf_about S b x).2 := by
  unfold mf_about
  repeat' split
  all_goals exact h
theorem ri_as {M : Int} {S : MS} (b x : Int32) (h : rinv M S) : rinv M (mf_as S b x).2 := by
  unfold mf_as
  repeat' split
  all_goals exact h
theorem ri_knows {M : Int} {S : MS} (x b w : Int32) (h : rinv M S) : rinv M (mf_knows S x b w).2 := by
  unfold mf_knows
  repeat' split
  all_goals exact h
theorem ri_binds {M : Int} {S : MS} (la am hp kd rd : Int32) (h : rinv M S) : rinv M (mf_binds S la am hp kd rd).2 := by
  unfold mf_binds
  repeat' split
  all_goals exact h
theorem ri_owes {M : Int} {S : MS} (x q : Int32) (h : rinv M S) : rinv M (mf_owes S x q).2 := by
  unfold mf_owes
  repeat' split
  all_goals exact h
theorem ri_net {M : Int} {S : MS} (x : Int32) (h : rinv M S) : rinv M (mf_net S x).2 := by
  unfold mf_net
  repeat' split
  all_goals exact h
theorem ri_has {M : Int} {S : MS} (x k : Int32) (h : rinv M S) : rinv M (mf_has S x k).2 := by
  unfold mf_has
  repeat' split
  all_goals exact h
theorem ri_found {M : Int} {S : MS} (q : Int32) (h : rinv M S) : rinv M (mf_found S q).2 := by
  unfold mf_found
  repeat' split
  all_goals exact h
theorem ri_count {M : Int} {S : MS} (q : Int32) (h : rinv M S) : rinv M (mf_count S q).2 := by
  unfold mf_count
  repeat' split
  all_goals exact h
theorem ri_coin {M : Int} {S : MS} (k w f : Int32) (h : rinv M S) : rinv M (mf_coin S k w f).2 := by
  unfold mf_coin
  repeat' split
  all_goals exact h
theorem ri_vote {M : Int} {S : MS} (x t v : Int32) (h : rinv M S) : rinv M (mf_vote S x t v).2 := by
  unfold mf_vote
  repeat' split
  all_goals exact h
theorem ri_offer {M : Int} {S : MS} (x t v : Int32) (h : rinv M S) : rinv M (mf_offer S x t v).2 := by
  unfold mf_offer
  repeat' split
  all_goals exact h
theorem rtR_S (S : MS) (t : Int32) : ∀ n i, (rtR S t n i).2 = S ∨ (rtR S t n i).2 = (mf_finding S (-1000000000002)).2
  | 0, _ => Or.inr rfl
  | n + 1, i => by
    show (if rtHit S t i then ((S.2.2.1 18 (5 * nI i + t).toNatClampNeg).toInt64, S) else rtR S t n (i + 1)).2 = S ∨ (if rtHit S t i then ((S.2.2.1 18 (5 * nI i + t).toNatClampNeg).toInt64, S) else rtR S t n (i + 1)).2 = _
    split
    · exact Or.inl rfl
    · exact rtR_S S t n (i + 1)
theorem ri_rate {M : Int} {S : MS} (t : Int32) (h : rinv M S) : rinv M (mf_rate S t).2 := by
  unfold mf_rate
  split
  · rcases rtR_S S t 10 0 with e | e <;> rw [e] <;> exact h
  · exact h
theorem ri_17 {M : Int} {S : MS} {i : Nat} {v : Int32} (hv : 0 ≤ v.toInt ∧ v.toInt ≤ 1000) (h : rinv M S) : rinv M (sA S 17 i v) := by
  obtain ⟨a, b1, b2, b3, b4, b5⟩ := h
  exact ⟨a, b1, b2, b3, upd_all (P := fun z => 0 ≤ z.toInt ∧ z.toInt ≤ 1000) b4 hv, b5⟩
theorem ri_purse {M : Int} {S : MS} (x k v : Int32) (h : rinv M S) : rinv M (mf_purse S x k v).2 := by
  unfold mf_purse
  split
  · next hv => exact ri_17 (by have := inR hv.2.2; simpa using this) h
  · exact h
theorem ri_tell {M : Int} {S : MS} (v : Int32) (h : rinv M S) : rinv M (mf_tell S v).2 := by
  unfold mf_tell
  split
  · exact h
  · next hne =>
    obtain ⟨⟨a1, a2, a3⟩, b⟩ := h
    refine ⟨⟨a1, ?_, a3⟩, b⟩
    show 0 ≤ (S.1 20 + 1).toInt ∧ (S.1 20 + 1).toInt ≤ 30
    have e1 : (1 : Int32).toInt = 1 := by decide
    have hn : (S.1 20).toInt ≠ 30 := fun h => hne (Int32.toInt_inj.mp (h.trans (by decide)))
    rw [I_add (by rw [e1]; omega) (by rw [e1]; omega), e1]
    omega
theorem ri_36 {M : Int} {S : MS} {v : Int32} (hv : 0 ≤ v.toInt ∧ v.toInt ≤ 400) (h : rinv M S) : rinv M (sI S 36 v) := by
  obtain ⟨⟨a1, a2, a3, a4⟩, b⟩ := h
  exact ⟨⟨a1, a2, hv, a4⟩, b⟩
theorem ri_fdF {M : Int} {S : MS} (e : Int64) (h : rinv M S) : ∀ n : Nat, (S.1 36).toInt + n ≤ 400 → rinv M (fdF S e n) ∧ ((fdF S e n).1 36).toInt = (S.1 36).toInt + n
  | 0, _ => ⟨h, by show (S.1 36).toInt = (S.1 36).toInt + 0; omega⟩
  | n + 1, hn => by
    obtain ⟨k1, k2⟩ := ri_fdF e h n (by omega)
    have e1 : (1 : Int32).toInt = 1 := by decide
    have h36 := h.1.2.2.1
    have e2 : ((fdF S e n).1 36 + 1).toInt = (S.1 36).toInt + (n + 1 : Nat) := by
      rw [I_add (by rw [e1]; omega) (by rw [e1]; omega), e1]
      omega
    refine ⟨ri_36 ?_ k1, e2⟩
    show 0 ≤ ((fdF S e n).1 36 + 1).toInt ∧ ((fdF S e n).1 36 + 1).toInt ≤ 400
    rw [e2]
    omega
theorem clamp_I {x : Int32} (h : 0 ≤ x.toInt) : ((x.toNatClampNeg : Nat) : Int) = x.toInt := by
  have : x.toNatClampNeg = x.toInt.toNat := rfl
  rw [this]
  omega
theorem ri_feed {M : Int} {S : MS} (e : Int64) (n : Int32) (h : rinv M S) : rinv M (mf_feed S e n).2 := by
  unfold mf_feed
  split
  · next hn =>
    split
    · next hle =>
      have hn' := inR hn
      rw [show (1 : Int32).toInt = 1 from by decide, show (8 : Int32).toInt = 8 from by decide] at hn'
      have h36 := h.1.2.2.1
      rw [Int32.le_iff_toInt_le, I_add (by omega) (by omega), show (400 : Int32).toInt = 400 from by decide] at hle
      exact (ri_fdF e h _ (by rw [clamp_I (by omega)]; exact hle)).1
    · exact h
  · exact h
theorem ri_L {M : Int} {S : MS} {j : Nat} {v : Int64} (h : rinv M S) : rinv M (sL S j v) := h
theorem ri_best {M : Int} {S : MS} {p c : Int64} (h : rinv M S) : rinv M (mf_best S p c) := by
  unfold mf_best
  split
  · exact h
  · exact h
theorem ri_tn2 {M : Int} {S : MS} (h : rinv M S) : ∀ n, rinv M (tnF2 S n)
  | 0 => h
  | n + 1 => by
    have k := ri_tn2 h n
    show rinv M (tnS2 (tnF2 S n) n)
    unfold tnS2 mlook2
    repeat' split
    all_goals first | exact k | exact ri_best k
theorem ri_tn3 {M : Int} {S : MS} (h : rinv M S) : ∀ n, rinv M (tnF3 S n)
  | 0 => h
  | n + 1 => by
    have k := ri_tn3 h n
    show rinv M (tnS3 (tnF3 S n) n)
    unfold tnS3 mlook3
    repeat' split
    all_goals first | exact k | exact ri_best k
theorem ri_tn4 {M : Int} {S : MS} (h : rinv M S) : ∀ n, rinv M (tnF4 S n)
  | 0 => h
  | n + 1 => by
    have k := ri_tn4 h n
    show rinv M (tnS4 (tnF4 S n) n)
    unfold tnS4 mlook4
    repeat' split
    all_goals first | exact k | exact ri_best k
theorem ri_turn {M : Int} {S : MS} (h : rinv M S) : rinv M (mf_turn S).2 := by
  have k : rinv M (mtn S) := by
    unfold mtn
    exact ri_tn4 (ri_tn3 (ri_tn2 (S := mtn0 S) h 625) 625) 625
  generalize e : mtn S = U at k
  unfold mf_turn
  rw [e]
  split
  · exact k
  · exact k
/-! parting -/
theorem ri_54 {M : Int} {S : MS} {i : Nat} {v : Int64} (h : rinv M S) : rinv M (sB S 54 i v) := h
theorem ri_53 {M : Int} {S : MS} {i : Nat} {v : Int64} (h : rinv M S) : rinv M (sB S 53 i v) := h
theorem ri_shG {M : Int} {S : MS} (h : rinv M S) : ∀ n, rinv M (shG S n)
  | 0 => h
  | n + 1 => ri_54 (ri_shG h n)
theorem ri_shP {M : Int} {S : MS} (sm al : Int64) (h : rinv M S) : ∀ n, rinv M (shP S sm al n)
  | 0 => h
  | n + 1 => ri_54 (ri_shP sm al h n)
theorem ri_shR {M : Int} : ∀ (j i : Nat) (lf : Int64) (S : MS), rinv M S → rinv M (shR j i lf S)
  | 0, _, _, _, h => h
  | j + 1, i, lf, S, h => by
    show rinv M (if lf ≤ 0 then S else if S.2.2.2 53 i ≤ 0 then shR j (i + 1) lf S else shR j (i + 1) (lf - 1) (sB S 54 i (S.2.2.2 54 i + 1)))
    repeat' split
    · exact h
    · exact ri_shR j _ _ _ h
    · exact ri_shR j _ _ _ (ri_54 h)
theorem ri_share {M : Int} {S : MS} (sm : Int64) (h : rinv M S) : rinv M (mf_share S sm).2 := by
  unfold mf_share
  split
  · exact ri_shR _ _ _ _ (ri_shP _ _ h _)
  · exact ri_shG h _
theorem ri_ptF {M : Int} {S : MS} (x : Int32) (h : rinv M S) : ∀ n, rinv M (ptF S x n)
  | 0 => h
  | n + 1 => ri_53 (ri_54 (ri_ptF x h n))
theorem ri_ptG {M : Int} {S : MS} (x : Int32) (h : rinv M S) : ∀ n, rinv M (ptG S x n)
  | 0 => h
  | n + 1 => ri_53 (ri_ptG x h n)
theorem ri_prt1 {M : Int} {S : MS} (x sm : Int32) (h : rinv M S) : rinv M (mprt1 S x sm).2 := by
  unfold mprt1
  have k := ri_ptF x h 10
  generalize ptF S x 10 = U at k
  exact ri_share _ k
theorem ri_prt2 {M : Int} {S : MS} (x sm : Int32) (h : rinv M S) : rinv M (mprt2 S x sm).2 := by
  unfold mprt2
  have k := ri_ptG x (ri_prt1 x sm h) 10
  generalize ptG (mprt1 S x sm).2 x 10 = U at k
  exact ri_share _ k
theorem ri_part {M : Int} {S : MS} (x sm cr : Int32) (h : rinv M S) : rinv M (mf_part S x sm cr).2 := by
  unfold mf_part
  split
  · have k := ri_prt2 x sm h
    generalize mprt2 S x sm = Y at k
    exact k
  · exact h
def plC (S : MS) (x q : Int32) (n : Nat) : Int64 := if (S.2.2.1 5 n = 2 ∧ S.2.2.1 10 n = 4 ∧ ¬ S.2.2.1 14 n = 0 ∧ S.2.2.1 7 n = x ∧ S.2.2.1 8 n = q) then (S.2.2.1 9 n).toInt64 else 0
theorem plT_s (S : MS) (x q : Int32) (n : Nat) : plT S x q (n + 1) = plT S x q n + plC S x q n := rfl
theorem plT_b {M : Int} {S : MS} (h : rinv M S) (x q : Int32) : ∀ n : Nat, n ≤ 40 → 0 ≤ (plT S x q n).toInt ∧ (plT S x q n).toInt ≤ 100000 * n
  | 0, _ => by show 0 ≤ (0 : Int64).toInt ∧ (0 : Int64).toInt ≤ 0; decide
  | n + 1, hn => by
    have ih := plT_b h x q n (by omega)
    have ha' := h.2.2.2.2.2 n (by omega)
    have e0 : (0 : Int64).toInt = 0 := by decide
    have hc : 0 ≤ (plC S x q n).toInt ∧ (plC S x q n).toInt ≤ 100000 := by
      unfold plC
      split
      · rw [Int32.toInt_toInt64]; exact ha'
      · rw [e0]; omega
    rw [plT_s, L_add (by omega) (by omega)]
    omega
theorem mpled_b {M : Int} {S : MS} (h : rinv M S) {x q : Int32} (hx : vp_in x 10) (hq : vp_in q 10) : 0 ≤ (mpled S x q).toInt ∧ (mpled S x q).toInt ≤ 4000000 := by
  have h4 := ri_4 h
  have k := plT_b h x q (S.1 4).toNatClampNeg (by have := clamp_I h4.1; omega)
  have hx' := vcl hx
  have hq' := vcl hq
  have b1 := h.2.2.2.1.1 (10 * x.toNatClampNeg + q.toNatClampNeg) (by omega)
  unfold dI at b1
  have hc := clamp_I h4.1
  unfold mpled
  rw [ix_nI hx hq]
  split
  · next hlt =>
    rw [Int64.lt_iff_toInt_lt] at hlt
    omega
  · omega
theorem prt_ok {M : Int} {S : MS} (h : rinv M S) {x sm : Int32} (hx : 0 ≤ x ∧ x ≤ 9) (hs : 0 ≤ sm ∧ sm ≤ 1000000000) : 0 ≤ (mprt1 S x sm).1 := by
  have hxv : vp_in x 10 := vin hx (by decide)
  have hs' := inR hs
  rw [show (0 : Int32).toInt = 0 from by decide, show (1000000000 : Int32).toInt = 1000000000 from by decide] at hs'
  have e0 : (0 : Int64).toInt = 0 := by decide
  have hcl : ∀ n, n ≤ 10 → ∀ i, i < n → 0 ≤ ((ptF S x n).2.2.2 53 i).toInt ∧ ((ptF S x n).2.2.2 53 i).toInt ≤ 4000000 := by
    intro n
    induction n with
    | zero => intro _ i hi; exact absurd hi (by omega)
    | succ n ih =>
      intro hn i hi
      show 0 ≤ (vp_updL ((ptF S x n).2.2.2 53) n (mpled (sB (ptF S x n) 54 n 0) x (nI n)) i).toInt ∧ (vp_updL ((ptF S x n).2.2.2 53) n (mpled (sB (ptF S x n) 54 n 0) x (nI n)) i).toInt ≤ 4000000
      by_cases e : i = n
      · rw [e, updL_at]
        exact mpled_b (ri_54 (ri_ptF x h n)) hxv (vp_in_nI (by omega) (by decide))
      · rw [updL_ne _ _ e]
        exact ih (by omega) i (by omega)
  have hA : ∀ n, n ≤ 10 → 0 ≤ (shA (ptF S x 10) n).toInt ∧ (shA (ptF S x 10) n).toInt ≤ 4000000 * n := by
    intro n
    induction n with
    | zero => intro _; show 0 ≤ (0 : Int64).toInt ∧ (0 : Int64).toInt ≤ 0; decide
    | succ n ih =>
      intro hn
      have k := ih (by omega)
      have c := hcl 10 (Nat.le_refl 10) n (by omega)
      show 0 ≤ (shA (ptF S x 10) n + (ptF S x 10).2.2.2 53 n).toInt ∧ (shA (ptF S x 10) n + (ptF S x 10).2.2.2 53 n).toInt ≤ 4000000 * ((n : Int) + 1)
      rw [L_add (by omega) (by omega)]
      omega
  have hA10 := hA 10 (Nat.le_refl 10)
  unfold mprt1 mf_share
  split
  · show (0 : Int64) ≤ 0
    exact Int64.le_refl 0
  · next hlt =>
    show 0 ≤ sm.toInt64 - shA (ptF S x 10) 10
    rw [Int64.not_lt, Int64.le_iff_toInt_le, Int32.toInt_toInt64] at hlt
    rw [Int64.le_iff_toInt_le, L_sub (by rw [Int32.toInt_toInt64]; omega) (by rw [Int32.toInt_toInt64]; omega), Int32.toInt_toInt64, e0]
    omega
