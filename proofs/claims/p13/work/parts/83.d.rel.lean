/-! read, of the class: what it leaves -/
theorem fcr_j {T : MS} {B : List BL} (hC : cinv T B) {X : Int32 × MS} (eX : X = crx T) : fx jI9 sN jA9 s0 T X.2 ∧ crJ X.2 := by
  rw [eX]
  exact ⟨fc_crx hC.2.2.2.1 hC.2.2.2.2.2.1, (crx_J hC.2.2.2.1 hC.2.2.2.2.2.1).1⟩
theorem fcr_b {T : MS} {B : List BL} (hC : cinv T B) {X : Int32 × MS} (eX : X = crx T) : fx kI9 sN kA9 s0 T (cf_fd (cf_endT X.2 0) 6).2 := fx_fd (fc_endT 0 (fx_jk (fcr_j hC eX).1)) rfl
theorem fcr_ci {T : MS} {B : List BL} (hC : cinv T B) {X : Int32 × MS} (eX : X = crx T) (g : Int32) : cinv (cf_endT X.2 g) B ∧ cinv (swT (cf_endT X.2 g)) B := ci_readX g hC (fcr_j hC eX).2 (fcr_j hC eX).1
theorem fcr_gI {T : MS} {B : List BL} (hC : cinv T B) {X : Int32 × MS} (eX : X = crx T) {j : Nat} (hj : j < 200) (h : ¬ kI9 j) : (swT (cf_endT X.2 1)).1 j = T.1 j := (swT_I _ hj (fun q => h (by omega)) (fun q => h (by omega))).trans ((fc_endT 1 (fx_jk (fcr_j hC eX).1)).1 j h)
theorem fcr_gA {T : MS} {B : List BL} (hC : cinv T B) {X : Int32 × MS} (eX : X = crx T) {j : Nat} (hj : j < 200) (h : ¬ kA9 j) : (swT (cf_endT X.2 1)).2.2.1 j = T.2.2.1 j := (swT_A _ hj (fun q => h (by omega)) (fun q => h (by omega))).trans ((fc_endT 1 (fx_jk (fcr_j hC eX).1)).2.2.1 j h)
abbrev Rel (T : MS) (B : List BL) (S : MS) : Prop := T.1 16 = S.1 4 ∧ ∀ i, i < B.length → ((B[i]?).getD bz).2.1 0 = S.2.2.1 5 i ∧ ((B[i]?).getD bz).2.1 3 = S.2.2.1 9 i
theorem dr40 {T : MS} {B : List BL} {S : MS} (hC : cinv T B) (h : T.1 16 = S.1 4) (hf : ¬ T.1 16 < 40) : S.1 4 = 40 := by
  obtain ⟨⟨b1, b2, -⟩, -⟩ := hC
  rw [b1, show (40 : Int32) = nI 40 from by decide, nI_ltI (by omega) (by decide)] at hf
  rw [← h, b1, show B.length = 40 by omega]
  decide
theorem dr40n {T : MS} {S : MS} (h : T.1 16 = S.1 4) (hf : T.1 16 < 40) : ¬ S.1 4 = 40 := by
  intro e
  rw [h, e] at hf
  exact absurd hf (by decide)
def bk (B C : List BL) : Prop := C.length = B.length ∧ ∀ i j : Nat, (j = 0 ∨ j = 3) → ((C[i]?).getD bz).2.1 j = ((B[i]?).getD bz).2.1 j
theorem bk_rfl (B : List BL) : bk B B := ⟨rfl, fun _ _ _ => rfl⟩
theorem bk_set {B : List BL} {x : Int32} {b : BL} (h : ∀ j, (j = 0 ∨ j = 3) → b.2.1 j = (bat B x).2.1 j) : bk B (B.set x.toNatClampNeg b) := by
  refine ⟨List.length_set, fun i j hj => ?_⟩
  rw [List.getElem?_set]
  split
  · next e =>
    subst e
    split
    · exact h j hj
    · next hl => rw [List.getElem?_eq_none (by omega)]
  · rfl
theorem bk_bec {b c : BL} {t d : Int32} (h : ∀ j, (j = 0 ∨ j = 3) → b.2.1 j = c.2.1 j) : ∀ j, (j = 0 ∨ j = 3) → (bf_become b t d).2.1 j = c.2.1 j := by
  intro j hj
  show (if j = 5 then t else b.2.1 j) = c.2.1 j
  rw [if_neg (by omega), h j hj]
theorem bk_I {b c : BL} {k : Nat} {v : Int32} (hk : ¬ (k = 0 ∨ k = 3)) (h : ∀ j, (j = 0 ∨ j = 3) → b.2.1 j = c.2.1 j) : ∀ j, (j = 0 ∨ j = 3) → (bI b k v).2.1 j = c.2.1 j := by
  intro j hj
  show (if j = k then v else b.2.1 j) = c.2.1 j
  rw [if_neg (by omega), h j hj]
theorem bk_mov (b : BL) (h : Int32) : ∀ j, (j = 0 ∨ j = 3) → (bf_move b h).2.1 j = b.2.1 j := by
  unfold bf_move bf_move0
  split
  · exact bk_I (by decide) (bk_I (by decide) (fun j hj => rfl))
  · exact bk_I (by decide) (fun j hj => rfl)
theorem bk_ret (b : BL) (i : Int32) : ∀ j, (j = 0 ∨ j = 3) → (bf_ret b i).2.1 j = b.2.1 j := by
  unfold bf_ret bf_ret0
  split
  · exact bk_I (by decide) (bk_I (by decide) (fun j hj => rfl))
  · exact fun j hj => rfl
theorem bk_pass (T : MS) (B : List BL) (x h : Int32) : bk B (cf_pass T B x h).2.2 := by
  unfold cf_pass
  repeat' split
  all_goals first | exact bk_rfl B | exact bk_set (bk_mov _ _)
theorem bk_take (T : MS) (B : List BL) (x r : Int32) : bk B (cf_take T B x r).2.2 := by
  unfold cf_take
  repeat' split
  all_goals first | exact bk_rfl B | exact bk_set (bk_bec (fun j hj => rfl))
theorem bk_protest (T : MS) (B : List BL) (x : Int32) : bk B (cf_protest T B x).2.2 := by
  unfold cf_protest
  repeat' split
  all_goals first | exact bk_rfl B | exact bk_set (bk_bec (fun j hj => rfl))
theorem bk_pay (T : MS) (B : List BL) (x : Int32) : bk B (cf_pay T B x).2.2 := by
  unfold cf_pay
  by_cases h1 : bcnd T x
  · rw [if_pos h1]
    by_cases h2 : (bat B x).2.1 5 = 1
    · rw [if_pos h2]
      by_cases h3 : cday T ≤ 6
      · rw [if_pos h3]; exact bk_rfl B
      · rw [if_neg h3]
        by_cases h4 : covB T (bat B x) ((bat B x).2.1 2)
        · rw [if_pos h4]; exact bk_rfl B
        · rw [if_neg h4]; exact bk_set (bk_I (by decide) (bk_bec (fun j hj => rfl)))
    · rw [if_neg h2]; exact bk_rfl B
  · rw [if_neg h1]; exact bk_rfl B
theorem bk_rcE (T T1 : MS) (B : List BL) (x i d : Int32) : bk B (cf_rcE T T1 B x i d).2.2 := by
  unfold cf_rcE
  by_cases h4 : covB T1 (bat B x) d
  · rw [if_pos h4]; exact bk_rfl B
  · rw [if_neg h4]
    by_cases h5 : i = -1
    · rw [if_pos h5]; exact bk_set (bk_bec (fun j hj => rfl))
    · rw [if_neg h5]; exact bk_set (bk_ret _ _)
theorem bk_recourse (T : MS) (B : List BL) (x i : Int32) : bk B (cf_recourse T B x i).2.2 := by
  unfold cf_recourse
  repeat' split
  all_goals first | exact bk_rfl B | exact bk_rcE _ _ _ _ _ _
theorem bk_about (T : MS) (B : List BL) (x q : Int32) : bk B (cf_about T B x q).2.2 := by
  unfold cf_about cab
  repeat' split
  all_goals exact bk_rfl B
theorem bk_as (T : MS) (B : List BL) (x k : Int32) : bk B (cf_as T B x k).2.2 := by
  unfold cf_as
  repeat' split
  all_goals exact bk_rfl B
theorem bk_knows (T : MS) (B : List BL) (h x d : Int32) : bk B (cf_knows T B h x d).2.2 := by
  unfold cf_knows
  repeat' split
  all_goals exact bk_rfl B
theorem as_k {T U : MS} {B C : List BL} {S V : MS} (h : Rel T B S) (h1 : U.1 16 = T.1 16) (h2 : bk B C) (h3 : V.1 4 = S.1 4) (h4 : V.2.2.1 5 = S.2.2.1 5) (h5 : V.2.2.1 9 = S.2.2.1 9) : Rel U C V := by
  refine ⟨h1.trans (h.1.trans h3.symm), fun i hi => ?_⟩
  rw [h2.1] at hi
  rw [h2.2 i 0 (Or.inl rfl), h2.2 i 3 (Or.inr rfl), h4, h5]
  exact h.2 i hi

theorem rl_days {T : MS} {B : List BL} {S : MS} (hC : cinv T B) (n : Int32)  (h : Rel T B S) : Rel (cf_days T n).2 B (mf_days S n).2 := as_k h ((fc_days T n).1 16 (by decide)) (bk_rfl B) ((fm_days S n).1 4 (by decide)) ((fm_days S n).2.2.1 5 (by decide)) ((fm_days S n).2.2.1 9 (by decide))
theorem rl_gain {T : MS} {B : List BL} {S : MS} (hC : cinv T B) (v : Int32)  (h : Rel T B S) : Rel (cf_gain T v).2 B (mf_gain S v).2 := as_k h ((fc_gain T v).1 16 (by decide)) (bk_rfl B) ((fm_gain S v).1 4 (by decide)) ((fm_gain S v).2.2.1 5 (by decide)) ((fm_gain S v).2.2.1 9 (by decide))
theorem rl_road {T : MS} {B : List BL} {S : MS} (hC : cinv T B) (t v : Int32)  (h : Rel T B S) : Rel (cf_road T t v).2 B (mf_road S t v).2 := as_k h ((fc_road T t v).1 16 (by decide)) (bk_rfl B) ((fm_road S t v).1 4 (by decide)) ((fm_road S t v).2.2.1 5 (by decide)) ((fm_road S t v).2.2.1 9 (by decide))
theorem rl_seat {T : MS} {B : List BL} {S : MS} (hC : cinv T B) (x t : Int32)  (h : Rel T B S) : Rel (cf_seat T x t).2 B (mf_seat S x t).2 := as_k h ((fc_seat T x t).1 16 (by decide)) (bk_rfl B) ((fm_seat S x t).1 4 (by decide)) ((fm_seat S x t).2.2.1 5 (by decide)) ((fm_seat S x t).2.2.1 9 (by decide))
theorem rl_binds {T : MS} {B : List BL} {S : MS} (hC : cinv T B) (la am hp kd rd : Int32)  (h : Rel T B S) : Rel (cf_binds T la am hp kd rd).2 B (mf_binds S la am hp kd rd).2 := as_k h ((fc_binds T la am hp kd rd).1 16 (by decide)) (bk_rfl B) ((fm_binds S la am hp kd rd).1 4 (by decide)) ((fm_binds S la am hp kd rd).2.2.1 5 (by decide)) ((fm_binds S la am hp kd rd).2.2.1 9 (by decide))
theorem rl_owe {T : MS} {B : List BL} {S : MS} (hC : cinv T B) (x q v : Int32)  (h : Rel T B S) : Rel (cf_owe T x q v).2 B (mf_owe S x q v).2 := as_k h ((fc_owe T x q v).1 16 (by decide)) (bk_rfl B) ((fm_owe S x q v).1 4 (by decide)) ((fm_owe S x q v).2.2.1 5 (by decide)) ((fm_owe S x q v).2.2.1 9 (by decide))
theorem rl_owes {T : MS} {B : List BL} {S : MS} (hC : cinv T B) (x q : Int32)  (h : Rel T B S) : Rel (cf_owes T x q).2 B (mf_owes S x q).2 := as_k h ((fc_owes T x q).1 16 (by decide)) (bk_rfl B) ((fm_owes S x q).1 4 (by decide)) ((fm_owes S x q).2.2.1 5 (by decide)) ((fm_owes S x q).2.2.1 9 (by decide))
theorem rl_net {T : MS} {B : List BL} {S : MS} (hC : cinv T B) (x : Int32)  (h : Rel T B S) : Rel (cf_net T x).2 B (mf_net S x).2 := as_k h ((fc_net T x).1 16 (by decide)) (bk_rfl B) ((fm_net S x).1 4 (by decide)) ((fm_net S x).2.2.1 5 (by decide)) ((fm_net S x).2.2.1 9 (by decide))
theorem rl_coin {T : MS} {B : List BL} {S : MS} (hC : cinv T B) (k w f : Int32)  (h : Rel T B S) : Rel (cf_coin T k w f).2 B (mf_coin S k w f).2 := as_k h ((fc_coin T k w f).1 16 (by decide)) (bk_rfl B) ((fm_coin S k w f).1 4 (by decide)) ((fm_coin S k w f).2.2.1 5 (by decide)) ((fm_coin S k w f).2.2.1 9 (by decide))
theorem rl_purse {T : MS} {B : List BL} {S : MS} (hC : cinv T B) (x k v : Int32)  (h : Rel T B S) : Rel (cf_purse T x k v).2 B (mf_purse S x k v).2 := as_k h ((fc_purse T x k v).1 16 (by decide)) (bk_rfl B) ((fm_purse S x k v).1 4 (by decide)) ((fm_purse S x k v).2.2.1 5 (by decide)) ((fm_purse S x k v).2.2.1 9 (by decide))
theorem rl_has {T : MS} {B : List BL} {S : MS} (hC : cinv T B) (x k : Int32)  (h : Rel T B S) : Rel (cf_has T x k).2 B (mf_has S x k).2 := as_k h ((fc_has T x k).1 16 (by decide)) (bk_rfl B) ((fm_has S x k).1 4 (by decide)) ((fm_has S x k).2.2.1 5 (by decide)) ((fm_has S x k).2.2.1 9 (by decide))
theorem rl_settle {T : MS} {B : List BL} {S : MS} (hC : cinv T B) (x q : Int32)  (h : Rel T B S) : Rel (cf_settle T x q).2 B (mf_settle S x q).2 := as_k h ((fc_settle T x q).1 16 (by decide)) (bk_rfl B) ((fm_settle S x q).1 4 (by decide)) ((fm_settle S x q).2.2.1 5 (by decide)) ((fm_settle S x q).2.2.1 9 (by decide))
theorem rl_vote {T : MS} {B : List BL} {S : MS} (hC : cinv T B) (x t v : Int32)  (h : Rel T B S) : Rel (cf_vote T x t v).2 B (mf_vote S x t v).2 := as_k h ((fc_vote T x t v).1 16 (by decide)) (bk_rfl B) ((fm_vote S x t v).1 4 (by decide)) ((fm_vote S x t v).2.2.1 5 (by decide)) ((fm_vote S x t v).2.2.1 9 (by decide))
theorem rl_rate {T : MS} {B : List BL} {S : MS} (hC : cinv T B) (t : Int32)  (h : Rel T B S) : Rel (cf_rate T t).2 B (mf_rate S t).2 := as_k h ((fc_rate T t).1 16 (by decide)) (bk_rfl B) ((fm_rate S t).1 4 (by decide)) ((fm_rate S t).2.2.1 5 (by decide)) ((fm_rate S t).2.2.1 9 (by decide))
theorem rl_offer {T : MS} {B : List BL} {S : MS} (hC : cinv T B) (f t v : Int32)  (h : Rel T B S) : Rel (cf_offer T f t v).2 B (mf_offer S f t v).2 := as_k h ((fc_offer T f t v).1 16 (by decide)) (bk_rfl B) ((fm_offer S f t v).1 4 (by decide)) ((fm_offer S f t v).2.2.1 5 (by decide)) ((fm_offer S f t v).2.2.1 9 (by decide))
theorem rl_tell {T : MS} {B : List BL} {S : MS} (hC : cinv T B) (v : Int32)  (h : Rel T B S) : Rel (cf_tell T v).2 B (mf_tell S v).2 := as_k h ((fc_tell T v).1 16 (by decide)) (bk_rfl B) ((fm_tell S v).1 4 (by decide)) ((fm_tell S v).2.2.1 5 (by decide)) ((fm_tell S v).2.2.1 9 (by decide))
theorem rl_count {T : MS} {B : List BL} {S : MS} (hC : cinv T B) (x : Int32)  (h : Rel T B S) : Rel (cf_count T x).2 B (mf_count S x).2 := as_k h ((fc_count T x).1 16 (by decide)) (bk_rfl B) ((fm_count S x).1 4 (by decide)) ((fm_count S x).2.2.1 5 (by decide)) ((fm_count S x).2.2.1 9 (by decide))
theorem rl_found {T : MS} {B : List BL} {S : MS} (hC : cinv T B) (x : Int32)  (h : Rel T B S) : Rel (cf_found T x).2 B (mf_found S x).2 := as_k h ((fc_found T x).1 16 (by decide)) (bk_rfl B) ((fm_found S x).1 4 (by decide)) ((fm_found S x).2.2.1 5 (by decide)) ((fm_found S x).2.2.1 9 (by decide))
theorem rl_turn {T : MS} {B : List BL} {S : MS} (hC : cinv T B)   (h : Rel T B S) : Rel (cf_turn T).2 B (mf_turn S).2 := as_k h ((fc_turn T).1 16 (by decide)) (bk_rfl B) ((fm_turn S).1 4 (by decide)) ((fm_turn S).2.2.1 5 (by decide)) ((fm_turn S).2.2.1 9 (by decide))
theorem rl_feed {T : MS} {B : List BL} {S : MS} (hC : cinv T B) (e : Int64) (n : Int32)  (h : Rel T B S) : Rel (cf_feed T e n).2 B (mf_feed S e n).2 := as_k h ((fc_feed T e n).1 16 (by decide)) (bk_rfl B) ((fm_feed S e n).1 4 (by decide)) ((fm_feed S e n).2.2.1 5 (by decide)) ((fm_feed S e n).2.2.1 9 (by decide))
theorem rl_pass {T : MS} {B : List BL} {S : MS} (hC : cinv T B) (x y : Int32)  (h : Rel T B S) : Rel (cf_pass T B x y).2.1 (cf_pass T B x y).2.2 (mf_pass S x y).2 := as_k h ((fc_pass T B x y).1 16 (by decide)) (bk_pass T B x y) ((fm_pass S x y).1 4 (by decide)) ((fm_pass S x y).2.2.1 5 (by decide)) ((fm_pass S x y).2.2.1 9 (by decide))
theorem rl_take {T : MS} {B : List BL} {S : MS} (hC : cinv T B) (x r : Int32)  (h : Rel T B S) : Rel (cf_take T B x r).2.1 (cf_take T B x r).2.2 (mf_take S x r).2 := as_k h ((fc_take T B x r).1 16 (by decide)) (bk_take T B x r) ((fm_take S x r).1 4 (by decide)) ((fm_take S x r).2.2.1 5 (by decide)) ((fm_take S x r).2.2.1 9 (by decide))
theorem rl_protest {T : MS} {B : List BL} {S : MS} (hC : cinv T B) (x : Int32)  (h : Rel T B S) : Rel (cf_protest T B x).2.1 (cf_protest T B x).2.2 (mf_protest S x).2 := as_k h ((fc_protest T B x).1 16 (by decide)) (bk_protest T B x) ((fm_protest S x).1 4 (by decide)) ((fm_protest S x).2.2.1 5 (by decide)) ((fm_protest S x).2.2.1 9 (by decide))
theorem rl_pay {T : MS} {B : List BL} {S : MS} (hC : cinv T B) (x : Int32)  (h : Rel T B S) : Rel (cf_pay T B x).2.1 (cf_pay T B x).2.2 (mf_pay S x).2 := as_k h ((fc_pay T B x hC.1 (bokx hC.1)).1 16 (by decide)) (bk_pay T B x) ((fm_pay S x).1 4 (by decide)) ((fm_pay S x).2.2.1 5 (by decide)) ((fm_pay S x).2.2.1 9 (by decide))
theorem rl_recourse {T : MS} {B : List BL} {S : MS} (hC : cinv T B) (x j : Int32)  (h : Rel T B S) : Rel (cf_recourse T B x j).2.1 (cf_recourse T B x j).2.2 (mf_recourse S x j).2 := as_k h ((fc_recourse T B x j (bokx hC.1)).1 16 (by decide)) (bk_recourse T B x j) ((fm_recourse S x j).1 4 (by decide)) ((fm_recourse S x j).2.2.1 5 (by decide)) ((fm_recourse S x j).2.2.1 9 (by decide))
theorem rl_about {T : MS} {B : List BL} {S : MS} (hC : cinv T B) (x q : Int32)  (h : Rel T B S) : Rel (cf_about T B x q).2.1 (cf_about T B x q).2.2 (mf_about S x q).2 := as_k h ((fc_about T B x q).1.1 16 (by decide)) (bk_about T B x q) ((fm_about S x q).1 4 (by decide)) ((fm_about S x q).2.2.1 5 (by decide)) ((fm_about S x q).2.2.1 9 (by decide))
theorem rl_as {T : MS} {B : List BL} {S : MS} (hC : cinv T B) (x k : Int32)  (h : Rel T B S) : Rel (cf_as T B x k).2.1 (cf_as T B x k).2.2 (mf_as S x k).2 := as_k h ((fc_as T B x k).1.1 16 (by decide)) (bk_as T B x k) ((fm_as S x k).1 4 (by decide)) ((fm_as S x k).2.2.1 5 (by decide)) ((fm_as S x k).2.2.1 9 (by decide))
theorem rl_knows {T : MS} {B : List BL} {S : MS} (hC : cinv T B) (x y d : Int32)  (h : Rel T B S) : Rel (cf_knows T B x y d).2.1 (cf_knows T B x y d).2.2 (mf_knows S x y d).2 := as_k h ((fc_knows T B x y d).1.1 16 (by decide)) (bk_knows T B x y d) ((fm_knows S x y d).1 4 (by decide)) ((fm_knows S x y d).2.2.1 5 (by decide)) ((fm_knows S x y d).2.2.1 9 (by decide))
theorem rl_plan {T : MS} {B : List BL} {S : MS} (hC : cinv T B) (g : Int32) {U : MS} (hF : fr S U) (h : Rel T B S) : Rel (cf_plan T g).2 B (mf_plan U g).2 := as_k h ((fc_plan T g).1.1 16 (by decide)) (bk_rfl B) ((fm_plan g hF).1 4 (by decide)) ((fm_plan g hF).2.2.1 5 (by decide)) ((fm_plan g hF).2.2.1 9 (by decide))
theorem rl_payment {T : MS} {B : List BL} {S : MS} (hC : cinv T B) (j w : Int32) {U : MS} (hF : fr S U) (h : Rel T B S) : Rel (cf_payment T j w).2 B (mf_payment S U j w).2 := as_k h ((fc_payment T j w).1 16 (by decide)) (bk_rfl B) ((fm_payment j w hF).1 4 (by decide)) ((fm_payment j w hF).2.2.1 5 (by decide)) ((fm_payment j w hF).2.2.1 9 (by decide))
theorem rl_clear {T : MS} {B : List BL} {S : MS} (hC : cinv T B)  {U : MS} {N : Nat} (hF : fr S U) (hO : plOk U N) (hp : ∀ j, j < N → 0 ≤ (U.2.2.2 49 j).toInt) (h : Rel T B S) : Rel (cf_clear T).2 B (mf_clear U N).2 := as_k h ((fc_clear hC.2.2.2.2.2.2).1 16 (by decide)) (bk_rfl B) ((fm_clear hF hO hp).1 4 (by decide)) ((fm_clear hF hO hp).2.2.1 5 (by decide)) ((fm_clear hF hO hp).2.2.1 9 (by decide))
theorem rl_check {T : MS} {B : List BL} {S : MS} (hC : cinv T B)  {U : MS} {N : Nat} (hF : fr (sI S 20 0) U) (h : Rel T B S) : Rel (cf_check T).2 B (mf_check S U N).2 := as_k h ((fc_check T).1 16 (by decide)) (bk_rfl B) ((fm_check hF).1 4 (by decide)) ((fm_check hF).2.2.1 5 (by decide)) ((fm_check hF).2.2.1 9 (by decide))
theorem rl_fault {T : MS} {B : List BL} {S : MS} (hC : cinv T B)   (h : Rel T B S) : Rel T B S := as_k h ((fx_rfl (I := sN) (L := sN) (A := sN) (B := s0) T).1 16 (by decide)) (bk_rfl B) ((fx_rfl (I := sN) (L := sN) (A := sN) (B := s0) S).1 4 (by decide)) ((fx_rfl (I := sN) (L := sN) (A := sN) (B := s0) S).2.2.1 5 (by decide)) ((fx_rfl (I := sN) (L := sN) (A := sN) (B := s0) S).2.2.1 9 (by decide))
theorem rl_drawN {T : MS} {B : List BL} {S : MS} (hC : cinv T B) (kd dr de py am : Int32) (hd : ¬ dcnd kd dr de py am) (h : Rel T B S) : Rel (cf_fd T 1).2 B (mf_draw S kd dr de py am).2 := by
  have h' : T.1 16 = S.1 4 := h.1
  unfold mf_draw
  rw [if_neg hd]
  exact h
theorem rl_drawK {T : MS} {B : List BL} {S : MS} (hC : cinv T B) (kd dr de py am : Int32) (hd : dcnd kd dr de py am) (hk : dr = py) (h : Rel T B S) : Rel (cf_fd T 5).2 B (mf_draw S kd dr de py am).2 := by
  have h' : T.1 16 = S.1 4 := h.1
  unfold mf_draw
  rw [if_pos hd, if_pos hk]
  exact h
theorem rl_drawF {T : MS} {B : List BL} {S : MS} (hC : cinv T B) (kd dr de py am : Int32) (hd : dcnd kd dr de py am) (hk : ¬ dr = py) (hf : ¬ T.1 16 < 40) (h : Rel T B S) : Rel (cf_fd T 4).2 B (mf_draw S kd dr de py am).2 := by
  have h' : T.1 16 = S.1 4 := h.1
  unfold mf_draw
  rw [if_pos hd, if_neg hk, if_pos (dr40 hC h' hf)]
  exact h
theorem rl_drawY {T : MS} {B : List BL} {S : MS} (hC : cinv T B) (kd dr de py am : Int32) (q9 e9 g9 : Nat) (hd : dcnd kd dr de py am) (hk : ¬ dr = py) (hf : T.1 16 < 40) (h : Rel T B S) : Rel (sI T 16 (T.1 16 + 1)) (B ++ [bnew q9 e9 g9 kd dr de py am (T.1 14)]) (mf_draw S kd dr de py am).2 := by
  have h' : T.1 16 = S.1 4 := h.1
  unfold mf_draw
  rw [if_pos hd, if_neg hk, if_neg (dr40n h' hf)]
  obtain ⟨⟨b1, b2, -⟩, -⟩ := hC
  have e4 : S.1 4 = nI B.length := h'.symm.trans b1
  refine ⟨?_, fun i hi => ?_⟩
  · show T.1 16 + 1 = S.1 4 + 1
    rw [h']
  · rw [List.length_append] at hi
    have hi' : i < B.length + 1 := hi
    show (((B ++ [bnew q9 e9 g9 kd dr de py am (T.1 14)])[i]?).getD bz).2.1 0 = upd (S.2.2.1 5) (S.1 4).toNatClampNeg kd i ∧ (((B ++ [bnew q9 e9 g9 kd dr de py am (T.1 14)])[i]?).getD bz).2.1 3 = upd (S.2.2.1 9) (S.1 4).toNatClampNeg am i
    rw [e4, nI_clamp (by omega)]
    by_cases e : i = B.length
    · subst e
      rw [List.getElem?_append_right (Nat.le_refl _), Nat.sub_self, updA_at, updA_at]
      exact ⟨rfl, rfl⟩
    · rw [List.getElem?_append_left (by omega), updA_ne _ _ e, updA_ne _ _ e]
      exact h.2 i (by omega)
theorem rl_partN {T : MS} {B : List BL} {S : MS} (hC : cinv T B) (x sm cr : Int32)  (h : Rel T B S) : Rel (cf_fd T 1).2 B (mf_part S x sm cr).2 := as_k h ((fx_fd (I := sN) (L := sN) (A := sN) (B := s0) (q := 1) (fx_rfl T) rfl).1 16 (by decide)) (bk_rfl B) ((fm_part S x sm cr).1 4 (by decide)) ((fm_part S x sm cr).2.2.1 5 (by decide)) ((fm_part S x sm cr).2.2.1 9 (by decide))
theorem rl_partY {T : MS} {B : List BL} {S : MS} (hC : cinv T B) (x sm cr : Int32)  (h : Rel T B S) : Rel (cf_parT T B x) B (mf_part S x sm cr).2 := as_k h ((fc_parT T B x).1 16 (by decide)) (bk_rfl B) ((fm_part S x sm cr).1 4 (by decide)) ((fm_part S x sm cr).2.2.1 5 (by decide)) ((fm_part S x sm cr).2.2.1 9 (by decide))
theorem rl_readG {T : MS} {B : List BL} {S : MS} (hC : cinv T B)  {X : Int32 × MS} (eX : X = crx T) (h1 : X.1 = 1) (h : Rel T B S) : Rel (swT (cf_endT X.2 1)) B (mf_read S).2 := as_k h (fcr_gI hC eX (by decide) (by decide)) (bk_rfl B) ((fm_read S).1 4 (by decide)) ((fm_read S).2.2.1 5 (by decide)) ((fm_read S).2.2.1 9 (by decide))
theorem rl_readB {T : MS} {B : List BL} {S : MS} (hC : cinv T B)  {X : Int32 × MS} (eX : X = crx T) (h1 : X.1 = 0) (h : Rel T B S) : Rel (cf_fd (cf_endT X.2 0) 6).2 B (mf_read S).2 := as_k h ((fcr_b hC eX).1 16 (by decide)) (bk_rfl B) ((fm_read S).1 4 (by decide)) ((fm_read S).2.2.1 5 (by decide)) ((fm_read S).2.2.1 9 (by decide))
theorem pi_days {i : Nat} {T : MS} {B : List BL} {S : MS} (hi : i < 600) (n : Int32)  (hP : PI Rel i T B S) : PI Rel (i + 1) (cf_days T n).2 B (mf_days S n).2 := ⟨(cs_days n hP.1), (ri_up hi (ri_days (Mi_le hi).1 (Mi_le hi).2.1 n hP.2.1)), rl_days hP.1 n  hP.2.2⟩
theorem pi_gain {i : Nat} {T : MS} {B : List BL} {S : MS} (hi : i < 600) (v : Int32)  (hP : PI Rel i T B S) : PI Rel (i + 1) (cf_gain T v).2 B (mf_gain S v).2 := ⟨(cs_gain v hP.1), (ri_up hi (ri_gain v hP.2.1)), rl_gain hP.1 v  hP.2.2⟩
theorem pi_road {i : Nat} {T : MS} {B : List BL} {S : MS} (hi : i < 600) (t v : Int32)  (hP : PI Rel i T B S) : PI Rel (i + 1) (cf_road T t v).2 B (mf_road S t v).2 := ⟨(cs_road t v hP.1), (ri_up hi (ri_road t v hP.2.1)), rl_road hP.1 t v  hP.2.2⟩
theorem pi_seat {i : Nat} {T : MS} {B : List BL} {S : MS} (hi : i < 600) (x t : Int32)  (hP : PI Rel i T B S) : PI Rel (i + 1) (cf_seat T x t).2 B (mf_seat S x t).2 := ⟨(ci_seat x t hP.1), (ri_up hi (ri_seat x t hP.2.1)), rl_seat hP.1 x t  hP.2.2⟩
theorem pi_binds {i : Nat} {T : MS} {B : List BL} {S : MS} (hi : i < 600) (la am hp kd rd : Int32)  (hP : PI Rel i T B S) : PI Rel (i + 1) (cf_binds T la am hp kd rd).2 B (mf_binds S la am hp kd rd).2 := ⟨(cs_binds la am hp kd rd hP.1), (ri_up hi (ri_binds la am hp kd rd hP.2.1)), rl_binds hP.1 la am hp kd rd  hP.2.2⟩
theorem pi_owe {i : Nat} {T : MS} {B : List BL} {S : MS} (hi : i < 600) (x q v : Int32)  (hP : PI Rel i T B S) : PI Rel (i + 1) (cf_owe T x q v).2 B (mf_owe S x q v).2 := ⟨(cs_owe x q v hP.1), (Mi_s i ▸ ri_owe (Mi_le hi).1 x q v hP.2.1), rl_owe hP.1 x q v  hP.2.2⟩
theorem pi_owes {i : Nat} {T : MS} {B : List BL} {S : MS} (hi : i < 600) (x q : Int32)  (hP : PI Rel i T B S) : PI Rel (i + 1) (cf_owes T x q).2 B (mf_owes S x q).2 := ⟨(cs_owes x q hP.1), (ri_up hi (ri_owes x q hP.2.1)), rl_owes hP.1 x q  hP.2.2⟩
theorem pi_net {i : Nat} {T : MS} {B : List BL} {S : MS} (hi : i < 600) (x : Int32)  (hP : PI Rel i T B S) : PI Rel (i + 1) (cf_net T x).2 B (mf_net S x).2 := ⟨(cs_net x hP.1), (ri_up hi (ri_net x hP.2.1)), rl_net hP.1 x  hP.2.2⟩
theorem pi_coin {i : Nat} {T : MS} {B : List BL} {S : MS} (hi : i < 600) (k w f : Int32)  (hP : PI Rel i T B S) : PI Rel (i + 1) (cf_coin T k w f).2 B (mf_coin S k w f).2 := ⟨(cs_coin k w f hP.1), (ri_up hi (ri_coin k w f hP.2.1)), rl_coin hP.1 k w f  hP.2.2⟩
theorem pi_purse {i : Nat} {T : MS} {B : List BL} {S : MS} (hi : i < 600) (x k v : Int32)  (hP : PI Rel i T B S) : PI Rel (i + 1) (cf_purse T x k v).2 B (mf_purse S x k v).2 := ⟨(cs_purse x k v hP.1), (ri_up hi (ri_purse x k v hP.2.1)), rl_purse hP.1 x k v  hP.2.2⟩
theorem pi_has {i : Nat} {T : MS} {B : List BL} {S : MS} (hi : i < 600) (x k : Int32)  (hP : PI Rel i T B S) : PI Rel (i + 1) (cf_has T x k).2 B (mf_has S x k).2 := ⟨(cs_has x k hP.1), (ri_up hi (ri_has x k hP.2.1)), rl_has hP.1 x k  hP.2.2⟩
theorem pi_settle {i : Nat} {T : MS} {B : List BL} {S : MS} (hi : i < 600) (x q : Int32)  (hP : PI Rel i T B S) : PI Rel (i + 1) (cf_settle T x q).2 B (mf_settle S x q).2 := ⟨(cs_settle x q hP.1), (ri_up hi (ri_settle (Mi_le hi).1 x q hP.2.1)), rl_settle hP.1 x q  hP.2.2⟩
theorem pi_vote {i : Nat} {T : MS} {B : List BL} {S : MS} (hi : i < 600) (x t v : Int32)  (hP : PI Rel i T B S) : PI Rel (i + 1) (cf_vote T x t v).2 B (mf_vote S x t v).2 := ⟨(cs_vote x t v hP.1), (ri_up hi (ri_vote x t v hP.2.1)), rl_vote hP.1 x t v  hP.2.2⟩
theorem pi_rate {i : Nat} {T : MS} {B : List BL} {S : MS} (hi : i < 600) (t : Int32)  (hP : PI Rel i T B S) : PI Rel (i + 1) (cf_rate T t).2 B (mf_rate S t).2 := ⟨(cs_rate t hP.1), (ri_up hi (ri_rate t hP.2.1)), rl_rate hP.1 t  hP.2.2⟩
theorem pi_offer {i : Nat} {T : MS} {B : List BL} {S : MS} (hi : i < 600) (f t v : Int32)  (hP : PI Rel i T B S) : PI Rel (i + 1) (cf_offer T f t v).2 B (mf_offer S f t v).2 := ⟨(cs_offer f t v hP.1), (ri_up hi (ri_offer f t v hP.2.1)), rl_offer hP.1 f t v  hP.2.2⟩
theorem pi_tell {i : Nat} {T : MS} {B : List BL} {S : MS} (hi : i < 600) (v : Int32)  (hP : PI Rel i T B S) : PI Rel (i + 1) (cf_tell T v).2 B (mf_tell S v).2 := ⟨(ci_tell v hP.1), (ri_up hi (ri_tell v hP.2.1)), rl_tell hP.1 v  hP.2.2⟩
theorem pi_count {i : Nat} {T : MS} {B : List BL} {S : MS} (hi : i < 600) (x : Int32)  (hP : PI Rel i T B S) : PI Rel (i + 1) (cf_count T x).2 B (mf_count S x).2 := ⟨(cs_count x hP.1), (ri_up hi (ri_count x hP.2.1)), rl_count hP.1 x  hP.2.2⟩
theorem pi_found {i : Nat} {T : MS} {B : List BL} {S : MS} (hi : i < 600) (x : Int32)  (hP : PI Rel i T B S) : PI Rel (i + 1) (cf_found T x).2 B (mf_found S x).2 := ⟨(cs_found x hP.1), (ri_up hi (ri_found x hP.2.1)), rl_found hP.1 x  hP.2.2⟩
theorem pi_turn {i : Nat} {T : MS} {B : List BL} {S : MS} (hi : i < 600)   (hP : PI Rel i T B S) : PI Rel (i + 1) (cf_turn T).2 B (mf_turn S).2 := ⟨(cs_turn hP.1), (ri_up hi (ri_turn hP.2.1)), rl_turn hP.1   hP.2.2⟩
theorem pi_feed {i : Nat} {T : MS} {B : List BL} {S : MS} (hi : i < 600) (e : Int64) (n : Int32)  (hP : PI Rel i T B S) : PI Rel (i + 1) (cf_feed T e n).2 B (mf_feed S e n).2 := ⟨(ci_feed e n hP.1), (ri_up hi (ri_feed e n hP.2.1)), rl_feed hP.1 e n  hP.2.2⟩
theorem pi_pass {i : Nat} {T : MS} {B : List BL} {S : MS} (hi : i < 600) (x y : Int32)  (hP : PI Rel i T B S) : PI Rel (i + 1) (cf_pass T B x y).2.1 (cf_pass T B x y).2.2 (mf_pass S x y).2 := ⟨(ci_pass x y hP.1), (ri_up hi (ri_pass x y hP.2.1)), rl_pass hP.1 x y  hP.2.2⟩
theorem pi_take {i : Nat} {T : MS} {B : List BL} {S : MS} (hi : i < 600) (x r : Int32)  (hP : PI Rel i T B S) : PI Rel (i + 1) (cf_take T B x r).2.1 (cf_take T B x r).2.2 (mf_take S x r).2 := ⟨(ci_take x r hP.1), (ri_up hi (ri_take x r hP.2.1)), rl_take hP.1 x r  hP.2.2⟩
theorem pi_protest {i : Nat} {T : MS} {B : List BL} {S : MS} (hi : i < 600) (x : Int32)  (hP : PI Rel i T B S) : PI Rel (i + 1) (cf_protest T B x).2.1 (cf_protest T B x).2.2 (mf_protest S x).2 := ⟨(ci_protest x hP.1), (ri_up hi (ri_protest x hP.2.1)), rl_protest hP.1 x  hP.2.2⟩
theorem pi_pay {i : Nat} {T : MS} {B : List BL} {S : MS} (hi : i < 600) (x : Int32)  (hP : PI Rel i T B S) : PI Rel (i + 1) (cf_pay T B x).2.1 (cf_pay T B x).2.2 (mf_pay S x).2 := ⟨(ci_pay x hP.1), (Mi_s i ▸ ri_pay (Mi_le hi).1 x hP.2.1), rl_pay hP.1 x  hP.2.2⟩
theorem pi_recourse {i : Nat} {T : MS} {B : List BL} {S : MS} (hi : i < 600) (x j : Int32)  (hP : PI Rel i T B S) : PI Rel (i + 1) (cf_recourse T B x j).2.1 (cf_recourse T B x j).2.2 (mf_recourse S x j).2 := ⟨(ci_recourse x j hP.1), (Mi_s i ▸ ri_recourse (Mi_le hi).1 x j hP.2.1), rl_recourse hP.1 x j  hP.2.2⟩
theorem pi_about {i : Nat} {T : MS} {B : List BL} {S : MS} (hi : i < 600) (x q : Int32)  (hP : PI Rel i T B S) : PI Rel (i + 1) (cf_about T B x q).2.1 (cf_about T B x q).2.2 (mf_about S x q).2 := ⟨(cs_about x q hP.1), (ri_up hi (ri_about x q hP.2.1)), rl_about hP.1 x q  hP.2.2⟩
theorem pi_as {i : Nat} {T : MS} {B : List BL} {S : MS} (hi : i < 600) (x k : Int32)  (hP : PI Rel i T B S) : PI Rel (i + 1) (cf_as T B x k).2.1 (cf_as T B x k).2.2 (mf_as S x k).2 := ⟨(cs_as x k hP.1), (ri_up hi (ri_as x k hP.2.1)), rl_as hP.1 x k  hP.2.2⟩
theorem pi_knows {i : Nat} {T : MS} {B : List BL} {S : MS} (hi : i < 600) (x y d : Int32)  (hP : PI Rel i T B S) : PI Rel (i + 1) (cf_knows T B x y d).2.1 (cf_knows T B x y d).2.2 (mf_knows S x y d).2 := ⟨(cs_knows x y d hP.1), (ri_up hi (ri_knows x y d hP.2.1)), rl_knows hP.1 x y d  hP.2.2⟩
theorem pi_plan {i : Nat} {T : MS} {B : List BL} {S : MS} (hi : i < 600) (g : Int32) {U : MS} (hF : fr S U) (hP : PI Rel i T B S) : PI Rel (i + 1) (cf_plan T g).2 B (mf_plan U g).2 := ⟨(ci_plan g hP.1), (ri_up hi (ri_plan g (ri_fr hF hP.2.1))), rl_plan hP.1 g hF hP.2.2⟩
theorem pi_payment {i : Nat} {T : MS} {B : List BL} {S : MS} (hi : i < 600) (j w : Int32) {U : MS} (hF : fr S U) (hP : PI Rel i T B S) : PI Rel (i + 1) (cf_payment T j w).2 B (mf_payment S U j w).2 := ⟨(ci_payment j w hP.1), (ri_up hi (ri_payment j w hP.2.1 (ri_fr hF hP.2.1))), rl_payment hP.1 j w hF hP.2.2⟩
theorem pi_clear {i : Nat} {T : MS} {B : List BL} {S : MS} (hi : i < 600)  {U : MS} {N : Nat} (hF : fr S U) (hO : plOk U N) (hp : ∀ j, j < N → 0 ≤ (U.2.2.2 49 j).toInt) (hs : isum (fun j => (U.2.2.2 49 j).toInt) N ≤ Mi i) (hP : PI Rel i T B S) : PI Rel (i + 1) (cf_clear T).2 B (mf_clear U N).2 := ⟨(ci_clear hP.1), (ri_up hi (ri_clear (ri_fr hF hP.2.1) hO hp hs)), rl_clear hP.1  hF hO hp hP.2.2⟩
theorem pi_check {i : Nat} {T : MS} {B : List BL} {S : MS} (hi : i < 600)  {U : MS} {N : Nat} (hF : fr (sI S 20 0) U) (hP : PI Rel i T B S) : PI Rel (i + 1) (cf_check T).2 B (mf_check S U N).2 := ⟨(ci_check hP.1), (ri_up hi (ri_fr hF (ri_20 hP.2.1))), rl_check hP.1  hF hP.2.2⟩
theorem pi_fault {i : Nat} {T : MS} {B : List BL} {S : MS} (hi : i < 600)   (hP : PI Rel i T B S) : PI Rel (i + 1) T B S := ⟨hP.1, (ri_up hi hP.2.1), rl_fault hP.1   hP.2.2⟩
theorem pi_drawN {i : Nat} {T : MS} {B : List BL} {S : MS} (hi : i < 600) (kd dr de py am : Int32) (hd : ¬ dcnd kd dr de py am) (hP : PI Rel i T B S) : PI Rel (i + 1) (cf_fd T 1).2 B (mf_draw S kd dr de py am).2 := ⟨hP.1, (ri_up hi (ri_draw kd dr de py am hP.2.1)), rl_drawN hP.1 kd dr de py am hd hP.2.2⟩
theorem pi_drawK {i : Nat} {T : MS} {B : List BL} {S : MS} (hi : i < 600) (kd dr de py am : Int32) (hd : dcnd kd dr de py am) (hk : dr = py) (hP : PI Rel i T B S) : PI Rel (i + 1) (cf_fd T 5).2 B (mf_draw S kd dr de py am).2 := ⟨hP.1, (ri_up hi (ri_draw kd dr de py am hP.2.1)), rl_drawK hP.1 kd dr de py am hd hk hP.2.2⟩
theorem pi_drawF {i : Nat} {T : MS} {B : List BL} {S : MS} (hi : i < 600) (kd dr de py am : Int32) (hd : dcnd kd dr de py am) (hk : ¬ dr = py) (hf : ¬ T.1 16 < 40) (hP : PI Rel i T B S) : PI Rel (i + 1) (cf_fd T 4).2 B (mf_draw S kd dr de py am).2 := ⟨hP.1, (ri_up hi (ri_draw kd dr de py am hP.2.1)), rl_drawF hP.1 kd dr de py am hd hk hf hP.2.2⟩
theorem pi_drawY {i : Nat} {T : MS} {B : List BL} {S : MS} (hi : i < 600) (kd dr de py am : Int32) (q9 e9 g9 : Nat) (hd : dcnd kd dr de py am) (hk : ¬ dr = py) (hf : T.1 16 < 40) (hP : PI Rel i T B S) : PI Rel (i + 1) (sI T 16 (T.1 16 + 1)) (B ++ [bnew q9 e9 g9 kd dr de py am (T.1 14)]) (mf_draw S kd dr de py am).2 := ⟨(ci_draw hP.1 hd hf), (ri_up hi (ri_draw kd dr de py am hP.2.1)), rl_drawY hP.1 kd dr de py am q9 e9 g9 hd hk hf hP.2.2⟩
theorem pi_partN {i : Nat} {T : MS} {B : List BL} {S : MS} (hi : i < 600) (x sm cr : Int32)  (hP : PI Rel i T B S) : PI Rel (i + 1) (cf_fd T 1).2 B (mf_part S x sm cr).2 := ⟨hP.1, (ri_up hi (ri_part x sm cr hP.2.1)), rl_partN hP.1 x sm cr  hP.2.2⟩
theorem pi_partY {i : Nat} {T : MS} {B : List BL} {S : MS} (hi : i < 600) (x sm cr : Int32)  (hP : PI Rel i T B S) : PI Rel (i + 1) (cf_parT T B x) B (mf_part S x sm cr).2 := ⟨(cs_part x hP.1), (ri_up hi (ri_part x sm cr hP.2.1)), rl_partY hP.1 x sm cr  hP.2.2⟩
theorem pi_readG {i : Nat} {T : MS} {B : List BL} {S : MS} (hi : i < 600)  {X : Int32 × MS} (eX : X = crx T) (h1 : X.1 = 1) (hP : PI Rel i T B S) : PI Rel (i + 1) (swT (cf_endT X.2 1)) B (mf_read S).2 := ⟨(fcr_ci hP.1 eX 1).2, (ri_up hi (ri_read hP.2.1)), rl_readG hP.1  eX h1 hP.2.2⟩
theorem pi_readB {i : Nat} {T : MS} {B : List BL} {S : MS} (hi : i < 600)  {X : Int32 × MS} (eX : X = crx T) (h1 : X.1 = 0) (hP : PI Rel i T B S) : PI Rel (i + 1) (cf_fd (cf_endT X.2 0) 6).2 B (mf_read S).2 := ⟨(fcr_ci hP.1 eX 0).1, (ri_up hi (ri_read hP.2.1)), rl_readB hP.1  eX h1 hP.2.2⟩
theorem bc_eq {T : MS} {B : List BL} {S : MS} (hC : cinv T B) (h : T.1 16 = S.1 4) (x : Int32) : bcnd T x ↔ (0 ≤ x ∧ x ≤ S.1 4 - 1) := by
  obtain ⟨⟨b1, b2, -⟩, -⟩ := hC
  have e : (S.1 4).toInt = B.length := by rw [← h, b1, nI_toInt (by omega)]
  have e1 : (S.1 4 - 1).toInt = B.length - 1 := by
    rw [I_sub (by rw [e, show (1 : Int32).toInt = 1 from by decide]; omega) (by rw [e, show (1 : Int32).toInt = 1 from by decide]; omega), e]
    rfl
  have e2 : (T.1 16).toInt = B.length := by rw [h, e]
  show (0 ≤ x ∧ x < T.1 16) ↔ _
  rw [Int32.le_iff_toInt_le, Int32.lt_iff_toInt_lt, Int32.le_iff_toInt_le, e1, e2]
  omega
theorem eq_m {T : MS} {B : List BL} {S : MS} (hC : cinv T B) (hR : Rel T B S) (x k : Int32) : (cf_as T B x k).1 = (mf_as S x k).1 := by
  obtain ⟨h, hb⟩ := hR
  have hc := bc_eq hC h x
  unfold cf_as mf_as
  by_cases c1 : bcnd T x ∧ (0 ≤ k ∧ k ≤ 2)
  · rw [if_pos c1, if_pos (show (0 ≤ x ∧ x ≤ S.1 4 - 1) ∧ (0 ≤ k ∧ k ≤ 2) from ⟨hc.mp c1.1, c1.2⟩)]
    have hx : x.toNatClampNeg < B.length := bidx hC.1 c1.1
    obtain ⟨f0, f3⟩ := hb _ hx
    by_cases c2 : k = 0
    · rw [if_pos c2, if_pos c2]
      exact congrArg Int32.toInt64 f3
    · rw [if_neg c2, if_neg c2]
      by_cases c3 : k = (bat B x).2.1 0
      · rw [if_pos c3, if_pos (f0.symm.trans c3.symm)]
        exact congrArg Int32.toInt64 f3
      · rw [if_neg c3, if_neg (fun q => c3 (q.symm.trans f0.symm))]
        exact (show (-1000000000000 : Int64) - (5 : Int32).toInt64 = -1000000000005 by decide)
  · rw [if_neg c1, if_neg (fun q => c1 ⟨hc.mpr q.1, q.2⟩)]
    exact (show (-1000000000000 : Int64) - (1 : Int32).toInt64 = -1000000000001 by decide)
theorem rel0 : Rel T0 [] S0 := ⟨rfl, fun i hi => absurd hi (Nat.not_lt_zero i)⟩
