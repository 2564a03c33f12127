/-! what a call leaves as it was -/
abbrev sN : Nat → Prop := fun _ => False
def fx (I L A B : Nat → Prop) (S T : MS) : Prop := (∀ j, ¬ I j → T.1 j = S.1 j) ∧ (∀ j, ¬ L j → T.2.1 j = S.2.1 j) ∧ (∀ q, ¬ A q → T.2.2.1 q = S.2.2.1 q) ∧ (∀ q, ¬ B q → T.2.2.2 q = S.2.2.2 q)
theorem fx_rfl {I L A B : Nat → Prop} (S : MS) : fx I L A B S S := ⟨fun _ _ => rfl, fun _ _ => rfl, fun _ _ => rfl, fun _ _ => rfl⟩
theorem fx_tr {I L A B : Nat → Prop} {S T U : MS} (h : fx I L A B S T) (g : fx I L A B T U) : fx I L A B S U := ⟨fun j a => (g.1 j a).trans (h.1 j a), fun j a => (g.2.1 j a).trans (h.2.1 j a), fun j a => (g.2.2.1 j a).trans (h.2.2.1 j a), fun j a => (g.2.2.2 j a).trans (h.2.2.2 j a)⟩
theorem fx_mono {I L A B I' L' A' B' : Nat → Prop} {S T : MS} (h : fx I L A B S T) (hI : ∀ j, I j → I' j) (hL : ∀ j, L j → L' j) (hA : ∀ j, A j → A' j) (hB : ∀ j, B j → B' j) : fx I' L' A' B' S T := ⟨fun j a => h.1 j (fun q => a (hI j q)), fun j a => h.2.1 j (fun q => a (hL j q)), fun j a => h.2.2.1 j (fun q => a (hA j q)), fun j a => h.2.2.2 j (fun q => a (hB j q))⟩
theorem fx_sI {I L A B : Nat → Prop} {S T : MS} {j : Nat} {v : Int32} (h : fx I L A B S T) (hj : I j) : fx I L A B S (sI T j v) := ⟨fun i a => (if_neg (fun e : i = j => a (by rw [e]; exact hj))).trans (h.1 i a), h.2.1, h.2.2.1, h.2.2.2⟩
theorem fx_sL {I L A B : Nat → Prop} {S T : MS} {j : Nat} {v : Int64} (h : fx I L A B S T) (hj : L j) : fx I L A B S (sL T j v) := ⟨h.1, fun i a => (if_neg (fun e : i = j => a (by rw [e]; exact hj))).trans (h.2.1 i a), h.2.2.1, h.2.2.2⟩
theorem fx_sA {I L A B : Nat → Prop} {S T : MS} {j i : Nat} {v : Int32} (h : fx I L A B S T) (hj : A j) : fx I L A B S (sA T j i v) := ⟨h.1, h.2.1, fun q a => (if_neg (fun e : q = j => a (by rw [e]; exact hj))).trans (h.2.2.1 q a), h.2.2.2⟩
theorem fx_sB {I L A B : Nat → Prop} {S T : MS} {j i : Nat} {v : Int64} (h : fx I L A B S T) (hj : B j) : fx I L A B S (sB T j i v) := ⟨h.1, h.2.1, h.2.2.1, fun q a => (if_neg (fun e : q = j => a (by rw [e]; exact hj))).trans (h.2.2.2 q a)⟩
theorem fx_fd {I L A B : Nat → Prop} {S T : MS} {q : Int32} (h : fx I L A B S T) (h0 : B 0) : fx I L A B S (cf_fd T q).2 := fx_sB h h0
theorem fx_mfd {I L A B : Nat → Prop} {S T : MS} {q : Int64} (h : fx I L A B S T) (h0 : B 22) : fx I L A B S (mf_finding T q).2 := fx_sB h h0
/-- debts of the class, coins, votes, offers, findings -/
abbrev sD : Nat → Prop := fun q => q = 0 ∨ (100 ≤ q ∧ q < 110)
abbrev s0 : Nat → Prop := fun q => q = 0
theorem sD_r {h : Int32} (hh : vp_in h 10) : sD (100 + h.toNatClampNeg) := by
  have := vcl hh
  exact Or.inr ⟨by omega, by omega⟩
theorem fx_charge {I A : Nat → Prop} {S T : MS} {h q : Int32} {v : Int64} (k : fx I (fun j => j = 30) A sD S T) (hh : vp_in h 10) (hq : vp_in q 10) : fx I (fun j => j = 30) A sD S (cf_charge T h q v) := by
  unfold cf_charge
  exact fx_sL (fx_sB (fx_sB k (sD_r hh)) (sD_r hq)) rfl
theorem fx_gF {I L A : Nat → Prop} {S T : MS} {g : Nat → Nat → Int64} {m : Nat} (k : fx I L A sD S T) : fx I L A sD S (gF g T m) := ⟨k.1, k.2.1, k.2.2.1, fun q a => by
  refine Eq.trans ?_ (k.2.2.2 q a)
  funext p
  show (if 100 ≤ q ∧ q < 110 ∧ p < 10 ∧ 10 * (q - 100) + p < m then g (q - 100) p else T.2.2.2 q p) = T.2.2.2 q p
  rw [if_neg (fun h => a (Or.inr ⟨h.1, h.2.1⟩))]⟩
theorem fc_gain (T : MS) (v : Int32) : fx (fun j => j = 15) sN sN s0 T (cf_gain T v).2 := by
  unfold cf_gain
  split
  · exact fx_sI (fx_rfl T) rfl
  · exact fx_fd (fx_rfl T) rfl
theorem fc_road (T : MS) (t v : Int32) : fx sN sN (fun j => j = 1) s0 T (cf_road T t v).2 := by
  unfold cf_road
  split
  · exact fx_sA (fx_rfl T) rfl
  · exact fx_fd (fx_rfl T) rfl
theorem fc_seat (T : MS) (x t : Int32) : fx sN sN (fun j => j = 2) s0 T (cf_seat T x t).2 := by
  unfold cf_seat
  split
  · exact fx_sA (fx_rfl T) rfl
  · exact fx_fd (fx_rfl T) rfl
abbrev sI14 : Nat → Prop := fun j => j = 14
theorem fc_cdOne {S T : MS} (k : fx sI14 (fun j => j = 30) sN sD S T) : fx sI14 (fun j => j = 30) sN sD S (cdOne T) := by
  unfold cdOne
  split
  · unfold cf_carry
    exact fx_sI (fx_sL (fx_gF k) rfl) rfl
  · exact fx_sI k rfl
theorem fc_cdRun : ∀ (n : Nat) (S T : MS), fx sI14 (fun j => j = 30) sN sD S T → fx sI14 (fun j => j = 30) sN sD S (cdRun n T).2
  | 0, _, _, k => k
  | n + 1, S, T, k => by
    show fx _ _ _ _ S (if cdok T then cdRun n (cdOne T) else cf_fd T 4).2
    split
    · exact fc_cdRun n S _ (fc_cdOne k)
    · exact fx_fd k (Or.inl rfl)
theorem fc_days (T : MS) (n : Int32) : fx sI14 (fun j => j = 30) sN sD T (cf_days T n).2 := by
  unfold cf_days
  split
  · exact fc_cdRun _ T T (fx_rfl T)
  · exact fx_fd (fx_rfl T) (Or.inl rfl)
theorem fc_pass (T : MS) (B : List BL) (x h : Int32) : fx sN sN sN s0 T (cf_pass T B x h).2.1 := by
  unfold cf_pass
  repeat' split
  all_goals first | exact fx_rfl T | exact fx_fd (fx_rfl T) rfl
theorem fc_take (T : MS) (B : List BL) (x r : Int32) : fx sN sN sN s0 T (cf_take T B x r).2.1 := by
  unfold cf_take
  repeat' split
  all_goals first | exact fx_rfl T | exact fx_fd (fx_rfl T) rfl
theorem fc_protest (T : MS) (B : List BL) (x : Int32) : fx sN sN sN s0 T (cf_protest T B x).2.1 := by
  unfold cf_protest
  repeat' split
  all_goals first | exact fx_rfl T | exact fx_fd (fx_rfl T) rfl
theorem fc_as (T : MS) (B : List BL) (x r : Int32) : fx sN sN sN s0 T (cf_as T B x r).2.1 ∧ (cf_as T B x r).2.2 = B := by
  unfold cf_as
  repeat' split
  all_goals first | exact ⟨fx_rfl T, rfl⟩ | exact ⟨fx_fd (fx_rfl T) rfl, rfl⟩
theorem fc_about (T : MS) (B : List BL) (x r : Int32) : fx sN sN sN s0 T (cf_about T B x r).2.1 ∧ (cf_about T B x r).2.2 = B := by
  unfold cf_about cab
  repeat' split
  all_goals first | exact ⟨fx_rfl T, rfl⟩ | exact ⟨fx_fd (fx_rfl T) rfl, rfl⟩
theorem fc_knows (T : MS) (B : List BL) (h x r : Int32) : fx sN sN sN s0 T (cf_knows T B h x r).2.1 ∧ (cf_knows T B h x r).2.2 = B := by
  unfold cf_knows
  repeat' split
  all_goals first | exact ⟨fx_rfl T, rfl⟩ | exact ⟨fx_fd (fx_rfl T) rfl, rfl⟩
theorem fx_chB {I A : Nat → Prop} {S T : MS} {b : BL} {d : Int32} (k : fx I (fun j => j = 30) A sD S T) (hd : vp_in d 10) (hb : vp_in (b.2.1 4) 10) : fx I (fun j => j = 30) A sD S (cf_chB T b d) := by
  unfold cf_chB
  split
  · exact k
  · have := fx_charge (v := (b.2.1 3).toInt64) k hd hb
    exact ⟨fun j a => k.1 j a, this.2⟩
theorem fc_pay (T : MS) (B : List BL) (x : Int32) (hI : ciB T B) (hb : bcnd T x → bok (bat B x)) : fx sN (fun j => j = 30) sN sD T (cf_pay T B x).2.1 := by
  unfold cf_pay
  repeat' split
  all_goals first
    | exact fx_fd (fx_rfl T) (Or.inl rfl)
    | exact fx_chB (fx_rfl T) (hb (by assumption)).2.1 (hb (by assumption)).2.2.1
abbrev sA4 : Nat → Prop := fun q => q = 4
theorem fx_facts {I L B : Nat → Prop} {S T : MS} {la am hp kd rd : Int32} (k : fx I L sA4 B S T) : fx I L sA4 B S (cf_facts T la am hp kd rd) := by
  unfold cf_facts
  exact fx_sA (fx_sA (fx_sA (fx_sA (fx_sA k rfl) rfl) rfl) rfl) rfl
theorem fc_rcE {S T T1 : MS} (B : List BL) (x i d : Int32) (k : fx sN (fun j => j = 30) sA4 sD S T1) (hd : vp_in d 10) (hb : vp_in ((bat B x).2.1 4) 10) : fx sN (fun j => j = 30) sA4 sD S (cf_rcE T T1 B x i d).2.1 := by
  unfold cf_rcE
  split
  · exact fx_fd k (Or.inl rfl)
  · exact fx_chB k hd hb
theorem bend_in {b : BL} {i : Int32} (hb : bok b) (hi : 0 ≤ i ∧ i < b.2.1 6) : vp_in (bf_end b i) 10 := by
  have h6 := hb.2.2.2.2.1
  have h1 := hi.1
  have h2 := hi.2
  rw [Int32.le_iff_toInt_le] at h1
  rw [Int32.lt_iff_toInt_lt] at h2
  rw [Int32.le_iff_toInt_le, Int32.le_iff_toInt_le] at h6
  have e4 : (4 : Int32).toInt = 4 := by decide
  have e0 : (0 : Int32).toInt = 0 := by decide
  have hv : vp_in i 4 := vp_in_iff.mpr ⟨by omega, by omega⟩
  unfold bf_end
  rw [if_pos ⟨hi.1, by rw [Int32.le_iff_toInt_le, show (3 : Int32).toInt = 3 from by decide]; omega⟩]
  exact hb.2.2.2.2.2 _ (vcl hv)
theorem fc_recourse (T : MS) (B : List BL) (x i : Int32) (hb : bcnd T x → bok (bat B x)) : fx sN (fun j => j = 30) sA4 sD T (cf_recourse T B x i).2.1 := by
  unfold cf_recourse
  split
  · next hx =>
    have hk := hb hx
    split
    · split
      · exact fc_rcE B x i _ (fx_rfl T) hk.1 hk.2.2.1
      · split
        · next hi =>
          split
          · exact fx_fd (fx_facts (fx_rfl T)) (Or.inl rfl)
          · exact fc_rcE B x i _ (fx_facts (fx_rfl T)) (bend_in hk hi) hk.2.2.1
        · exact fx_fd (fx_rfl T) (Or.inl rfl)
    · exact fx_fd (fx_rfl T) (Or.inl rfl)
  · exact fx_fd (fx_rfl T) (Or.inl rfl)
abbrev sI20 : Nat → Prop := fun j => j = 20
abbrev sA22 : Nat → Prop := fun q => q = 22
theorem fc_apF (T : MS) (e : Int64) : ∀ n, fx sI20 sN sA22 s0 T (apF T e n)
  | 0 => fx_rfl T
  | n + 1 => by
    show fx _ _ _ _ T (apS (apF T e n) e n)
    unfold apS
    exact fx_sI (fx_sA (fc_apF T e n) rfl) rfl
theorem fc_feed (T : MS) (e : Int64) (n : Int32) : fx sI20 sN sA22 s0 T (cf_feed T e n).2 := by
  unfold cf_feed
  repeat' split
  · exact fc_apF T e _
  · exact fx_fd (fx_rfl T) rfl
  · exact fx_fd (fx_rfl T) rfl
theorem fc_binds (T : MS) (la am hp kd rd : Int32) : fx sN sN sA4 s0 T (cf_binds T la am hp kd rd).2 := by
  unfold cf_binds
  repeat' split
  · exact fx_facts (fx_rfl T)
  · exact fx_facts (fx_rfl T)
  · exact fx_fd (fx_rfl T) rfl
theorem fc_owe (T : MS) (h q v : Int32) : fx sN (fun j => j = 30) sN sD T (cf_owe T h q v).2 := by
  unfold cf_owe
  split
  · next hc =>
    split
    · exact fx_fd (fx_rfl T) (Or.inl rfl)
    · exact fx_charge (fx_rfl T) (vin hc.1.1 (by decide)) (vin hc.1.2.1 (by decide))
  · exact fx_fd (fx_rfl T) (Or.inl rfl)
theorem fc_owes (T : MS) (h q : Int32) : fx sN sN sN s0 T (cf_owes T h q).2 := by
  unfold cf_owes
  split
  · exact fx_rfl T
  · exact fx_fd (fx_rfl T) rfl
theorem fc_net (T : MS) (h : Int32) : fx sN sN sN s0 T (cf_net T h).2 := by
  unfold cf_net
  split
  · exact fx_rfl T
  · exact fx_fd (fx_rfl T) rfl
theorem fc_coin (T : MS) (k w f : Int32) : fx sN sN (fun q => q = 55) s0 T (cf_coin T k w f).2 := by
  unfold cf_coin
  split
  · exact fx_sA (fx_rfl T) rfl
  · exact fx_fd (fx_rfl T) rfl
abbrev sP : Nat → Prop := fun q => 110 ≤ q ∧ q < 120
theorem fc_purse (T : MS) (h k v : Int32) : fx sN sN sP s0 T (cf_purse T h k v).2 := by
  unfold cf_purse
  split
  · next hc =>
    have := vcl (vin (n := 10) hc.1 (by decide))
    exact fx_sA (fx_rfl T) ⟨by omega, by omega⟩
  · exact fx_fd (fx_rfl T) rfl
theorem fc_has (T : MS) (h k : Int32) : fx sN sN sN s0 T (cf_has T h k).2 := by
  unfold cf_has
  repeat' split
  · exact fx_rfl T
  · exact fx_rfl T
  · exact fx_fd (fx_rfl T) rfl
theorem fc_hoR {h q : Int32} (hh : vp_in h 10) (hq : vp_in q 10) : ∀ (n : Nat) (S T : MS) (d : Int32) (l : Int64), fx sN (fun j => j = 30) sP sD S T → fx sN (fun j => j = 30) sP sD S (hoR h q n T d l).2
  | 0, _, _, _, _, k => k
  | n + 1, S, T, d, l, k => by
    have h1 := vcl hh
    have h2 := vcl hq
    unfold hoR
    split
    · exact k
    · split
      · exact k
      · refine fc_hoR hh hq n S _ _ _ ?_
        unfold hoT
        exact fx_sA (fx_sA k ⟨by omega, by omega⟩) ⟨by omega, by omega⟩
theorem fc_settle (T : MS) (h q : Int32) : fx sN (fun j => j = 30) sP sD T (cf_settle T h q).2 := by
  unfold cf_settle
  split
  · next hc =>
    split
    · exact fx_fd (fx_rfl T) (Or.inl rfl)
    · have hh : vp_in h 10 := vin hc.1 (by decide)
      have hq : vp_in q 10 := vin hc.2.1 (by decide)
      have k := fc_hoR hh hq 4 T T 0 (T.2.2.2 (100 + h.toNatClampNeg) q.toNatClampNeg) (fx_rfl T)
      generalize hoR h q 4 T 0 (T.2.2.2 (100 + h.toNatClampNeg) q.toNatClampNeg) = Y at k
      unfold cf_lessen
      exact fx_sL (fx_sB k (sD_r hh)) rfl
  · exact fx_fd (fx_rfl T) (Or.inl rfl)
abbrev sV : Nat → Prop := fun q => 120 ≤ q ∧ q < 125
theorem fc_vote (T : MS) (h t v : Int32) : fx sN sN sV s0 T (cf_vote T h t v).2 := by
  unfold cf_vote
  split
  · next hc =>
    have := vcl (vin (n := 5) hc.2.1 (by decide))
    exact fx_sA (fx_rfl T) ⟨by omega, by omega⟩
  · exact fx_fd (fx_rfl T) rfl
abbrev sO : Nat → Prop := fun q => 130 ≤ q ∧ q < 135
theorem fc_offer (T : MS) (f t v : Int32) : fx sN sN sO s0 T (cf_offer T f t v).2 := by
  unfold cf_offer
  split
  · next hc =>
    have := vcl (vin (n := 5) hc.1 (by decide))
    exact fx_sA (fx_rfl T) ⟨by omega, by omega⟩
  · exact fx_fd (fx_rfl T) rfl
abbrev sA62 : Nat → Prop := fun q => q = 62
theorem fc_insR : ∀ (n : Nat) (S T : MS) (v : Int32), fx sN sN sA62 s0 S T → fx sN sN sA62 s0 S (insR n T v)
  | 0, S, T, v, k => fx_sA k rfl
  | n + 1, S, T, v, k => by
    unfold insR
    split
    · exact fx_sA k rfl
    · exact fc_insR n S _ v (fx_sA k rfl)
theorem fc_mvR (T : MS) (t : Int32) : ∀ n, fx sN sN sA62 s0 T (mvR T t n).2
  | 0 => fx_rfl T
  | n + 1 => by
    have k := fc_mvR T t n
    unfold mvR
    split
    · exact k
    · exact fc_insR _ T _ _ k
theorem fc_rate (T : MS) (t : Int32) : fx sN sN sA62 s0 T (cf_rate T t).2 := by
  have k := fc_mvR T t 10
  unfold cf_rate
  generalize mvR T t 10 = Y at k
  generalize cf_mid T t = m
  repeat' split
  · exact fx_fd k rfl
  · exact k
  · exact fx_fd (fx_rfl T) rfl
theorem fc_turn (T : MS) : fx sN sN sN s0 T (cf_turn T).2 := by
  unfold cf_turn
  generalize cf_best T = b
  split
  · exact fx_fd (fx_rfl T) rfl
  · exact fx_rfl T
theorem fc_tell (T : MS) (v : Int32) : fx (fun j => j = 17) sN (fun q => q = 5) s0 T (cf_tell T v).2 := by
  unfold cf_tell
  split
  · exact fx_sI (fx_sA (fx_rfl T) rfl) rfl
  · exact fx_fd (fx_rfl T) rfl
theorem fc_count (T : MS) (x : Int32) : fx sN sN sN s0 T (cf_count T x).2 := by
  unfold cf_count
  repeat' split
  all_goals first | exact fx_rfl T | exact fx_fd (fx_rfl T) rfl
theorem fc_found (T : MS) (x : Int32) : fx sN sN sN s0 T (cf_found T x).2 := by
  unfold cf_found
  split
  · exact fx_rfl T
  · exact fx_fd (fx_rfl T) rfl
/-! parting -/
abbrev sG : Nat → Prop := fun q => q = 0 ∨ q = 65 ∨ q = 66
theorem fx_bgF {I L A : Nat → Prop} {S T : MS} {m : Nat} (k : fx I L A sG S T) : fx I L A sG S (bgF T m) := ⟨k.1, k.2.1, k.2.2.1, fun q a => by
  refine Eq.trans ?_ (k.2.2.2 q a)
  funext p
  show (if q = 65 ∧ p < m then 0 else T.2.2.2 q p) = T.2.2.2 q p
  rw [if_neg (fun h => a (Or.inr (Or.inl h.1)))]⟩
theorem fc_prF (T : MS) (B : List BL) (h : Int32) : ∀ n, fx sN sN sN sG T (prF T B h n)
  | 0 => fx_bgF (fx_rfl T)
  | n + 1 => by
    unfold prF
    split
    · exact fx_sB (fc_prF T B h n) (Or.inr (Or.inl rfl))
    · exact fc_prF T B h n
theorem fc_clF {S T : MS} (h : Int32) (k : fx sN sN sN sG S T) : ∀ n, fx sN sN sN sG S (clF T h n)
  | 0 => k
  | n + 1 => by
    show fx _ _ _ _ S (cf_claim (clF T h n) n _)
    unfold cf_claim
    exact fx_sB (fx_sB (fc_clF h k n) (Or.inr (Or.inl rfl))) (Or.inr (Or.inr rfl))
theorem fc_parT (T : MS) (B : List BL) (h : Int32) : fx sN sN sN sG T (cf_parT T B h) := by
  unfold cf_parT
  exact fc_clF h (fc_prF T B h _) 10
/-! the plan -/
abbrev qI : Nat → Prop := fun j => j = 40 ∨ j = 41 ∨ j = 49
abbrev qL : Nat → Prop := fun j => j = 50
abbrev qA : Nat → Prop := fun q => q = 44 ∨ q = 45 ∨ q = 46 ∨ q = 47
abbrev qB : Nat → Prop := fun q => q = 42 ∨ q = 43 ∨ q = 48
theorem fc_rnF {S T : MS} (k : fx qI qL qA qB S T) : ∀ n, fx qI qL qA qB S (rnF T n)
  | 0 => k
  | n + 1 => fx_sB (fc_rnF k n) (Or.inl rfl)
theorem fc_auI {S T : MS} (k : fx qI qL qA qB S T) (h : Nat) : ∀ n, fx qI qL qA qB S (auI T h n)
  | 0 => k
  | n + 1 => fx_sB (fc_auI k h n) (Or.inr (Or.inl rfl))
theorem fc_auO {S T : MS} (k : fx qI qL qA qB S T) : ∀ n, fx qI qL qA qB S (auO T n)
  | 0 => k
  | n + 1 => fc_auI (fc_auO k n) n (2 ^ n)
theorem fc_lzR {S T : MS} (k : fx qI qL qA qB S T) (A : Nat) : ∀ n, fx qI qL qA qB S (lzR T A n)
  | 0 => fx_sI k (Or.inr (Or.inr rfl))
  | n + 1 => by
    unfold lzR
    split
    · exact fx_sI (fx_sA (fc_lzR k A n) (Or.inl rfl)) (Or.inr (Or.inr rfl))
    · exact fc_lzR k A n
theorem fc_cgO {S T : MS} (k : fx qI qL qA qB S T) : ∀ n, fx qI qL qA qB S (cgO T n)
  | 0 => k
  | n + 1 => fx_sA (fc_cgO k n) (Or.inr (Or.inl rfl))
theorem fc_pwS {S T : MS} (k : fx qI qL qA qB S T) (p q : Nat) : fx qI qL qA qB S (pwS T p q) := by
  unfold pwS pw3 pw2 pw1
  exact fx_sI (fx_sB (fx_sA (fx_sA (fx_sB (fx_sB k (Or.inl rfl)) (Or.inl rfl)) (Or.inr (Or.inr (Or.inl rfl)))) (Or.inr (Or.inr (Or.inr rfl)))) (Or.inr (Or.inr rfl))) (Or.inr (Or.inl rfl))
theorem fc_pwR (g : Int32) : ∀ (n : Nat) (S T : MS), fx qI qL qA qB S T → fx qI qL qA qB S (pwR g n T)
  | 0, _, _, k => k
  | n + 1, S, T, k => by
    unfold pwR
    split
    · split
      · exact fc_pwR g n S _ (fc_pwS k _ _)
      · exact k
    · exact k
theorem fc_rfR (C : Nat) : ∀ (n : Nat) (r : Int32) (S T : MS), fx qI qL qA qB S T → fx qI qL qA qB S (rfR C n r T)
  | 0, _, _, _, k => k
  | n + 1, r, S, T, k => by
    unfold rfR
    split
    · exact k
    · refine fc_rfR C n _ S _ ?_
      unfold rfS
      exact fx_sI (fc_pwR _ _ S T k) (Or.inl rfl)
theorem fc_ref (T : MS) : fx qI qL qA qB T (cf_ref T) := by
  unfold cf_ref
  split
  · exact fx_rfl T
  · refine fc_rfR _ 10 _ T _ ?_
    unfold rf5 rf4 rf1
    exact fc_cgO (fc_lzR (fc_auO (fc_rnF (fx_sI (fx_sI (fx_sL (fx_rfl T) rfl) (Or.inl rfl)) (Or.inr (Or.inl rfl))) 10) 10) _ _) _
