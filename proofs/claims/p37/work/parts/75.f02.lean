/-! what a call of the reference leaves as it was -/
abbrev m22 : Nat → Prop := fun q => q = 22
abbrev mD : Nat → Prop := fun q => q = 22 ∨ q = 15
theorem fm_gain (S : MS) (v : Int32) : fx (fun j => j = 1) sN sN m22 S (mf_gain S v).2 := by
  unfold mf_gain
  split
  · exact fx_sI (fx_rfl S) rfl
  · exact fx_mfd (fx_rfl S) rfl
theorem fm_road (S : MS) (t v : Int32) : fx sN sN (fun q => q = 2) m22 S (mf_road S t v).2 := by
  unfold mf_road
  split
  · exact fx_sA (fx_rfl S) rfl
  · exact fx_mfd (fx_rfl S) rfl
theorem fm_seat (S : MS) (t v : Int32) : fx sN sN (fun q => q = 3) m22 S (mf_seat S t v).2 := by
  unfold mf_seat
  split
  · exact fx_sA (fx_rfl S) rfl
  · exact fx_mfd (fx_rfl S) rfl
theorem fx_bec {I L A B : Nat → Prop} {S T : MS} {b t : Int32} (k : fx I L A B S T) (h10 : A 10) (h13 : B 13) : fx I L A B S (mf_becomes T b t) := fx_sB (fx_sA k h10) h13
abbrev mbA : Nat → Prop := fun q => q = 5 ∨ q = 6 ∨ q = 7 ∨ q = 8 ∨ q = 9 ∨ q = 10 ∨ q = 11 ∨ q = 14
abbrev mB13 : Nat → Prop := fun q => q = 22 ∨ q = 13
theorem fm_draw (S : MS) (kd dr de py am : Int32) : fx (fun j => j = 4) sN mbA mB13 S (mf_draw S kd dr de py am).2 := by
  unfold mf_draw
  repeat' split
  · exact fx_mfd (fx_rfl S) (Or.inl rfl)
  · exact fx_mfd (fx_rfl S) (Or.inl rfl)
  · refine fx_sI ?_ rfl
    unfold mf_drawn
    refine fx_bec ?_ (by decide) (by decide)
    iterate 5 refine fx_sB ?_ (by decide)
    iterate 7 refine fx_sA ?_ (by decide)
    exact fx_rfl S
  · exact fx_mfd (fx_rfl S) (Or.inl rfl)
abbrev mpA : Nat → Prop := fun q => q = 8 ∨ q = 11 ∨ q = 12
theorem fm_pass (S : MS) (b h : Int32) : fx sN sN mpA m22 S (mf_pass S b h).2 := by
  unfold mf_pass mf_pass1 mf_pass2
  repeat' split
  all_goals first
    | exact fx_mfd (fx_rfl S) rfl
    | exact fx_sA (fx_rfl S) (Or.inl rfl)
    | exact fx_sA (fx_sA (fx_sA (fx_rfl S) (Or.inr (Or.inr rfl))) (Or.inr (Or.inl rfl))) (Or.inl rfl)
abbrev m10 : Nat → Prop := fun q => q = 10
theorem fm_take (S : MS) (b r : Int32) : fx sN sN m10 mB13 S (mf_take S b r).2 := by
  unfold mf_take
  repeat' split
  all_goals first
    | exact fx_mfd (fx_rfl S) (Or.inl rfl)
    | exact fx_bec (fx_rfl S) rfl (Or.inr rfl)
theorem fm_protest (S : MS) (b : Int32) : fx sN sN m10 mB13 S (mf_protest S b).2 := by
  unfold mf_protest
  repeat' split
  all_goals first
    | exact fx_mfd (fx_rfl S) (Or.inl rfl)
    | exact fx_bec (fx_rfl S) rfl (Or.inr rfl)
theorem fx_ctw {I L A B : Nat → Prop} {S T : MS} {x q : Int32} {v : Int64} (k : fx I L A B S T) (h15 : B 15) : fx I L A B S (mf_ctow T x q v) := by
  unfold mf_ctow
  split
  · exact k
  · exact fx_sB (fx_sB k h15) h15
abbrev mDB : Nat → Prop := fun q => q = 22 ∨ q = 13 ∨ q = 15
theorem fm_pay (S : MS) (b : Int32) : fx sN sN (fun q => q = 10 ∨ q = 14) mDB S (mf_pay S b).2 := by
  unfold mf_pay mf_paid
  repeat' split
  all_goals first
    | exact fx_mfd (fx_rfl S) (Or.inl rfl)
    | exact fx_sA (fx_bec (fx_ctw (fx_rfl S) (Or.inr (Or.inr rfl))) (Or.inl rfl) (Or.inr (Or.inl rfl))) (Or.inr rfl)
theorem fm_recourse (S : MS) (b i : Int32) : fx sN sN (fun q => q = 8 ∨ q = 10 ∨ q = 11) mDB S (mf_recourse S b i).2 := by
  unfold mf_recourse mf_rec2
  repeat' split
  all_goals first
    | exact fx_mfd (fx_rfl S) (Or.inl rfl)
    | exact fx_bec (fx_ctw (fx_rfl S) (Or.inr (Or.inr rfl))) (Or.inr (Or.inl rfl)) (Or.inr (Or.inl rfl))
    | exact fx_sA (fx_sA (fx_ctw (fx_rfl S) (Or.inr (Or.inr rfl))) (Or.inl rfl)) (Or.inr (Or.inr rfl))
theorem fm_about (S : MS) (b x : Int32) : fx sN sN sN m22 S (mf_about S b x).2 := by
  unfold mf_about
  repeat' split
  all_goals first | exact fx_rfl S | exact fx_mfd (fx_rfl S) rfl
theorem fm_as (S : MS) (b x : Int32) : fx sN sN sN m22 S (mf_as S b x).2 := by
  unfold mf_as
  repeat' split
  all_goals first | exact fx_rfl S | exact fx_mfd (fx_rfl S) rfl
theorem fm_knows (S : MS) (h b x : Int32) : fx sN sN sN m22 S (mf_knows S h b x).2 := by
  unfold mf_knows
  repeat' split
  all_goals first | exact fx_rfl S | exact fx_mfd (fx_rfl S) rfl
theorem fm_binds (S : MS) (la am hp kd rd : Int32) : fx sN sN sN m22 S (mf_binds S la am hp kd rd).2 := by
  unfold mf_binds
  repeat' split
  all_goals first | exact fx_rfl S | exact fx_mfd (fx_rfl S) rfl
theorem fm_owe (S : MS) (x q v : Int32) : fx sN sN sN mD S (mf_owe S x q v).2 := by
  unfold mf_owe
  repeat' split
  all_goals first | exact fx_mfd (fx_rfl S) (Or.inl rfl) | exact fx_ctw (fx_rfl S) (Or.inr rfl)
theorem fm_owes (S : MS) (x q : Int32) : fx sN sN sN m22 S (mf_owes S x q).2 := by
  unfold mf_owes
  repeat' split
  all_goals first | exact fx_rfl S | exact fx_mfd (fx_rfl S) rfl
theorem fm_net (S : MS) (x : Int32) : fx sN sN sN m22 S (mf_net S x).2 := by
  unfold mf_net
  repeat' split
  all_goals first | exact fx_rfl S | exact fx_mfd (fx_rfl S) rfl
theorem fm_has (S : MS) (x k : Int32) : fx sN sN sN m22 S (mf_has S x k).2 := by
  unfold mf_has
  repeat' split
  all_goals first | exact fx_rfl S | exact fx_mfd (fx_rfl S) rfl
theorem fm_found (S : MS) (q : Int32) : fx sN sN sN m22 S (mf_found S q).2 := by
  unfold mf_found
  repeat' split
  all_goals first | exact fx_rfl S | exact fx_mfd (fx_rfl S) rfl
theorem fm_count (S : MS) (q : Int32) : fx sN sN sN m22 S (mf_count S q).2 := by
  unfold mf_count
  repeat' split
  all_goals first | exact fx_rfl S | exact fx_mfd (fx_rfl S) rfl
theorem fm_coin (S : MS) (k w f : Int32) : fx sN sN (fun q => q = 16) m22 S (mf_coin S k w f).2 := by
  unfold mf_coin
  split
  · exact fx_sA (fx_rfl S) rfl
  · exact fx_mfd (fx_rfl S) rfl
theorem fm_purse (S : MS) (x k v : Int32) : fx sN sN (fun q => q = 17) m22 S (mf_purse S x k v).2 := by
  unfold mf_purse
  split
  · exact fx_sA (fx_rfl S) rfl
  · exact fx_mfd (fx_rfl S) rfl
theorem fm_vote (S : MS) (x t v : Int32) : fx sN sN (fun q => q = 18) m22 S (mf_vote S x t v).2 := by
  unfold mf_vote
  split
  · exact fx_sA (fx_rfl S) rfl
  · exact fx_mfd (fx_rfl S) rfl
theorem fm_offer (S : MS) (x t v : Int32) : fx sN sN (fun q => q = 19) m22 S (mf_offer S x t v).2 := by
  unfold mf_offer
  split
  · exact fx_sA (fx_rfl S) rfl
  · exact fx_mfd (fx_rfl S) rfl
theorem fm_rate (S : MS) (t : Int32) : fx sN sN sN m22 S (mf_rate S t).2 := by
  unfold mf_rate
  split
  · rcases rtR_S S t 10 0 with e | e <;> rw [e]
    · exact fx_rfl S
    · exact fx_mfd (fx_rfl S) rfl
  · exact fx_mfd (fx_rfl S) rfl
abbrev mTL : Nat → Prop := fun j => j = 51 ∨ j = 52
theorem fx_best {S T : MS} {p c : Int64} (k : fx sN mTL sN m22 S T) : fx sN mTL sN m22 S (mf_best T p c) := by
  unfold mf_best
  split
  · exact k
  · exact fx_sL (fx_sL k (Or.inl rfl)) (Or.inr rfl)
theorem fm_tn2 {S T : MS} (h : fx sN mTL sN m22 S T) : ∀ n, fx sN mTL sN m22 S (tnF2 T n)
  | 0 => h
  | n + 1 => by
    have k := fm_tn2 h n
    show fx _ _ _ _ S (tnS2 (tnF2 T n) n)
    unfold tnS2 mlook2
    repeat' split
    all_goals first | exact k | exact fx_best k
theorem fm_tn3 {S T : MS} (h : fx sN mTL sN m22 S T) : ∀ n, fx sN mTL sN m22 S (tnF3 T n)
  | 0 => h
  | n + 1 => by
    have k := fm_tn3 h n
    show fx _ _ _ _ S (tnS3 (tnF3 T n) n)
    unfold tnS3 mlook3
    repeat' split
    all_goals first | exact k | exact fx_best k
theorem fm_tn4 {S T : MS} (h : fx sN mTL sN m22 S T) : ∀ n, fx sN mTL sN m22 S (tnF4 T n)
  | 0 => h
  | n + 1 => by
    have k := fm_tn4 h n
    show fx _ _ _ _ S (tnS4 (tnF4 T n) n)
    unfold tnS4 mlook4
    repeat' split
    all_goals first | exact k | exact fx_best k
theorem fm_mtn0 (S : MS) : fx sN mTL sN m22 S (mtn0 S) := fx_sL (fx_sL (fx_rfl S) (Or.inl rfl)) (Or.inr rfl)
theorem fm_mtn (S : MS) : fx sN mTL sN m22 S (mtn S) := by
  unfold mtn
  exact fm_tn4 (fm_tn3 (fm_tn2 (fm_mtn0 S) 625) 625) 625
theorem fm_turn (S : MS) : fx sN mTL sN m22 S (mf_turn S).2 := by
  have k := fm_mtn S
  generalize e : mtn S = U at k
  unfold mf_turn
  rw [e]
  split
  · exact fx_mfd k rfl
  · exact k
abbrev mG : Nat → Prop := fun q => q = 22 ∨ q = 53 ∨ q = 54
theorem fm_shG {S T : MS} (h : fx sN sN sN mG S T) : ∀ n, fx sN sN sN mG S (shG T n)
  | 0 => h
  | n + 1 => fx_sB (fm_shG h n) (Or.inr (Or.inr rfl))
theorem fm_shP {S T : MS} (sm al : Int64) (h : fx sN sN sN mG S T) : ∀ n, fx sN sN sN mG S (shP T sm al n)
  | 0 => h
  | n + 1 => fx_sB (fm_shP sm al h n) (Or.inr (Or.inr rfl))
theorem fm_shR {S : MS} : ∀ (j i : Nat) (lf : Int64) (T : MS), fx sN sN sN mG S T → fx sN sN sN mG S (shR j i lf T)
  | 0, _, _, _, h => h
  | j + 1, i, lf, T, h => by
    unfold shR
    repeat' split
    · exact h
    · exact fm_shR j _ _ _ h
    · exact fm_shR j _ _ _ (fx_sB h (Or.inr (Or.inr rfl)))
theorem fm_share {S T : MS} (sm : Int64) (h : fx sN sN sN mG S T) : fx sN sN sN mG S (mf_share T sm).2 := by
  unfold mf_share
  split
  · exact fm_shR _ _ _ _ (fm_shP _ _ h _)
  · exact fm_shG h _
theorem fm_ptF {S : MS} (x : Int32) : ∀ n, fx sN sN sN mG S (ptF S x n)
  | 0 => fx_rfl S
  | n + 1 => fx_sB (fx_sB (fm_ptF x n) (Or.inr (Or.inr rfl))) (Or.inr (Or.inl rfl))
theorem fm_ptG {S T : MS} (x : Int32) (h : fx sN sN sN mG S T) : ∀ n, fx sN sN sN mG S (ptG T x n)
  | 0 => h
  | n + 1 => fx_sB (fm_ptG x h n) (Or.inr (Or.inl rfl))
theorem fm_prt1 (S : MS) (x sm : Int32) : fx sN sN sN mG S (mprt1 S x sm).2 := by
  unfold mprt1
  have k := fm_ptF (S := S) x 10
  generalize ptF S x 10 = U at k
  exact fm_share _ k
theorem fm_prt2 (S : MS) (x sm : Int32) : fx sN sN sN mG S (mprt2 S x sm).2 := by
  unfold mprt2
  have k := fm_ptG x (fm_prt1 S x sm) 10
  generalize ptG (mprt1 S x sm).2 x 10 = U at k
  exact fm_share _ k
theorem fm_part (S : MS) (x sm cr : Int32) : fx sN sN sN mG S (mf_part S x sm cr).2 := by
  unfold mf_part
  split
  · have k := fm_prt2 S x sm
    generalize mprt2 S x sm = Y at k
    exact k
  · exact fx_mfd (fx_rfl S) (Or.inl rfl)
theorem fm_tell (S : MS) (v : Int32) : fx (fun j => j = 20) sN (fun q => q = 21) m22 S (mf_tell S v).2 := by
  unfold mf_tell
  split
  · exact fx_mfd (fx_rfl S) rfl
  · exact fx_sI (fx_sA (fx_rfl S) rfl) rfl
theorem fm_fdF (S : MS) (e : Int64) : ∀ n, fx (fun j => j = 36) sN (fun q => q = 35) m22 S (fdF S e n)
  | 0 => fx_rfl S
  | n + 1 => fx_sI (fx_sA (fm_fdF S e n) rfl) rfl
theorem fm_feed (S : MS) (e : Int64) (n : Int32) : fx (fun j => j = 36) sN (fun q => q = 35) m22 S (mf_feed S e n).2 := by
  unfold mf_feed
  repeat' split
  · exact fm_fdF S e _
  · exact fx_mfd (fx_rfl S) rfl
  · exact fx_mfd (fx_rfl S) rfl
theorem fx_crF {I L A B : Nat → Prop} {S T : MS} {n : Nat} (k : fx I L A B S T) (h15 : B 15) : fx I L A B S (crF T n) := ⟨k.1, k.2.1, k.2.2.1, fun q a => (if_neg (fun e : q = 15 => a (by rw [e]; exact h15))).trans (k.2.2.2 q a)⟩
theorem fm_dyOne {S T : MS} (k : fx sN (fun j => j = 0) sN mD S T) : fx sN (fun j => j = 0) sN mD S (dyOne T) := by
  unfold dyOne
  split
  · exact fx_sL (fx_crF k (Or.inr rfl)) rfl
  · exact fx_sL k rfl
theorem fm_dyRun : ∀ (n : Nat) (S T : MS), fx sN (fun j => j = 0) sN mD S T → fx sN (fun j => j = 0) sN mD S (dyRun n T).2
  | 0, _, _, k => k
  | n + 1, S, T, k => by
    show fx _ _ _ _ S (if dyok T then dyRun n (dyOne T) else mf_finding T (-1000000000004)).2
    split
    · exact fm_dyRun n S _ (fm_dyOne k)
    · exact fx_mfd k (Or.inl rfl)
theorem fm_days (S : MS) (n : Int32) : fx sN (fun j => j = 0) sN mD S (mf_days S n).2 := by
  unfold mf_days
  split
  · exact fm_dyRun _ S S (fx_rfl S)
  · exact fx_mfd (fx_rfl S) (Or.inl rfl)
/-- the plan's calls: settle too -/
abbrev mPI : Nat → Prop := fun j => j = 44 ∨ j = 46 ∨ j = 20
abbrev mPA : Nat → Prop := fun q => q = 43 ∨ q = 45 ∨ q = 47 ∨ q = 48
abbrev mPB : Nat → Prop := fun q => q = 22 ∨ q = 42 ∨ q = 49 ∨ q = 50 ∨ q = 15
theorem fm_fr {S T : MS} (h : fr S T) : fx mPI sN mPA mPB S T := ⟨fun j a => h.1 j (fun e => a (Or.inl e)) (fun e => a (Or.inr (Or.inl e))), fun j _ => by rw [h.2.1], fun q a => h.2.2.1 q (fun e => a (Or.inl e)) (fun e => a (Or.inr (Or.inl e))) (fun e => a (Or.inr (Or.inr (Or.inl e)))) (fun e => a (Or.inr (Or.inr (Or.inr e)))), fun q a => h.2.2.2 q (fun e => a (Or.inr (Or.inl e))) (fun e => a (Or.inr (Or.inr (Or.inl e)))) (fun e => a (Or.inr (Or.inr (Or.inr (Or.inl e)))))⟩
theorem fm_plan {S T : MS} (g : Int32) (h : fr S T) : fx mPI sN mPA mPB S (mf_plan T g).2 := by
  unfold mf_plan
  split <;> exact fm_fr h
theorem fm_payment {S T : MS} (i x : Int32) (h : fr S T) : fx mPI sN mPA mPB S (mf_payment S T i x).2 := by
  unfold mf_payment
  repeat' split
  · exact fm_fr h
  · exact fx_mfd (fm_fr h) (Or.inl rfl)
  · exact fx_mfd (fx_rfl S) (Or.inl rfl)
theorem fm_clear {S T : MS} {N : Nat} (h : fr S T) (hO : plOk T N) (hp : ∀ j, j < N → 0 ≤ (T.2.2.2 49 j).toInt) : fx mPI sN mPA mPB S (mf_clear T N).2 := by
  obtain ⟨k1, k2, k3, k4, k5⟩ := clP_sp hO hp N (Nat.le_refl N)
  refine fx_tr (fm_fr h) ⟨fun j _ => ?_, fun j _ => ?_, fun q _ => ?_, fun q a => k4 q (fun e => a (Or.inr (Or.inr (Or.inr (Or.inr e)))))⟩
  · show (clP T N).1 j = T.1 j
    rw [k1]
  · show (clP T N).2.1 j = T.2.1 j
    rw [k2]
  · show (clP T N).2.2.1 q = T.2.2.1 q
    rw [k3]
theorem fm_check {S T : MS} {N : Nat} (h : fr (sI S 20 0) T) : fx mPI sN mPA mPB S (mf_check S T N).2 := fx_tr (fx_sI (fx_rfl S) (Or.inr (Or.inr rfl))) (fm_fr h)
abbrev mSA : Nat → Prop := fun q => q = 17
theorem fm_stK (x q : Int32) (v : Nat) {S : MS} {X : MS × Int64} (h : fx sN sN mSA mD S X.1) : ∀ n, fx sN sN mSA mD S (stK x q v X n).1
  | 0 => h
  | n + 1 => by
    have k := fm_stK x q v h n
    unfold stK
    generalize stK x q v X n = Y at k
    split
    · exact fx_sA (fx_sA k rfl) rfl
    · exact k
theorem fm_stV (x q : Int32) {S : MS} {X : MS × Int64} (h : fx sN sN mSA mD S X.1) : ∀ n, fx sN sN mSA mD S (stV x q X n).1
  | 0 => h
  | n + 1 => by
    have k := fm_stV x q h n
    unfold stV
    generalize stV x q X n = Y at k
    exact fm_stK x q _ k 4
theorem fm_mst {S : MS} {x q : Int32} {Y : MS × Int64} (e : Y = mst S x q) : fx sN sN mSA mD S Y.1 := by
  have k := fm_stV x q (S := S) (X := (S, S.2.2.2 15 (10 * x + q).toNatClampNeg)) (fx_rfl S)
  have k2 := k 1000
  unfold mst at e
  rw [← e] at k2
  exact k2
theorem fm_settle (S : MS) (x q : Int32) : fx sN sN mSA mD S (mf_settle S x q).2 := by
  refine stl_c (P := fun U => fx sN sN mSA mD S U) (fx_rfl S) (fun _ => fx_mfd (fx_rfl S) (Or.inl rfl)) (fun hv Y eY => ?_)
  exact fx_sB (fm_mst eY) (Or.inr rfl)
