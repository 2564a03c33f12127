/-! read, of the class: what it leaves -/
theorem fcr_j {T : MS} {B : List BL} (hC : cinv T B) {X : Int32 × MS} (eX : X = crx T) : fx jI9 sN jA9 s0 T X.2 ∧ crJ X.2 := by
  rw [eX]
  exact ⟨fc_crx hC.2.2.2.1 hC.2.2.2.2.2.1, (crx_J hC.2.2.2.1 hC.2.2.2.2.2.1).1⟩
theorem fcr_b {T : MS} {B : List BL} (hC : cinv T B) {X : Int32 × MS} (eX : X = crx T) : fx kI9 sN kA9 s0 T (cf_fd (cf_endT X.2 0) 6).2 := fx_fd (fc_endT 0 (fx_jk (fcr_j hC eX).1)) rfl
theorem fcr_ci {T : MS} {B : List BL} (hC : cinv T B) {X : Int32 × MS} (eX : X = crx T) (g : Int32) : cinv (cf_endT X.2 g) B ∧ cinv (swT (cf_endT X.2 g)) B := ci_readX g hC (fcr_j hC eX).2 (fcr_j hC eX).1
theorem fcr_gI {T : MS} {B : List BL} (hC : cinv T B) {X : Int32 × MS} (eX : X = crx T) {j : Nat} (hj : j < 200) (h : ¬ kI9 j) : (swT (cf_endT X.2 1)).1 j = T.1 j := (swT_I _ hj (fun q => h (by omega)) (fun q => h (by omega))).trans ((fc_endT 1 (fx_jk (fcr_j hC eX).1)).1 j h)
theorem fcr_gA {T : MS} {B : List BL} (hC : cinv T B) {X : Int32 × MS} (eX : X = crx T) {j : Nat} (hj : j < 200) (h : ¬ kA9 j) : (swT (cf_endT X.2 1)).2.2.1 j = T.2.2.1 j := (swT_A _ hj (fun q => h (by omega)) (fun q => h (by omega))).trans ((fc_endT 1 (fx_jk (fcr_j hC eX).1)).2.2.1 j h)
abbrev Rel (T : MS) (B : List BL) (S : MS) : Prop := T.1 17 = S.1 20
theorem tl30 {T : MS} {B : List BL} {S : MS} (hC : cinv T B) (h : T.1 17 = S.1 20) : T.1 17 < 30 ↔ ¬ S.1 20 = 30 := by
  obtain ⟨n, hn, e⟩ := hC.2.2.1
  rw [← h, e, show (30 : Int32) = nI 30 from by decide, nI_ltI (by omega) (by decide), nI_eq (by omega) (by decide)]
  omega

theorem rl_days {T : MS} {B : List BL} {S : MS} (hC : cinv T B) (n : Int32)  (h : Rel T B S) : Rel (cf_days T n).2 B (mf_days S n).2 := ((fc_days T n).1 17 (by decide)).trans (h.trans ((fm_days S n).1 20 (by decide)).symm)
theorem rl_gain {T : MS} {B : List BL} {S : MS} (hC : cinv T B) (v : Int32)  (h : Rel T B S) : Rel (cf_gain T v).2 B (mf_gain S v).2 := ((fc_gain T v).1 17 (by decide)).trans (h.trans ((fm_gain S v).1 20 (by decide)).symm)
theorem rl_road {T : MS} {B : List BL} {S : MS} (hC : cinv T B) (t v : Int32)  (h : Rel T B S) : Rel (cf_road T t v).2 B (mf_road S t v).2 := ((fc_road T t v).1 17 (by decide)).trans (h.trans ((fm_road S t v).1 20 (by decide)).symm)
theorem rl_seat {T : MS} {B : List BL} {S : MS} (hC : cinv T B) (x t : Int32)  (h : Rel T B S) : Rel (cf_seat T x t).2 B (mf_seat S x t).2 := ((fc_seat T x t).1 17 (by decide)).trans (h.trans ((fm_seat S x t).1 20 (by decide)).symm)
theorem rl_binds {T : MS} {B : List BL} {S : MS} (hC : cinv T B) (la am hp kd rd : Int32)  (h : Rel T B S) : Rel (cf_binds T la am hp kd rd).2 B (mf_binds S la am hp kd rd).2 := ((fc_binds T la am hp kd rd).1 17 (by decide)).trans (h.trans ((fm_binds S la am hp kd rd).1 20 (by decide)).symm)
theorem rl_owe {T : MS} {B : List BL} {S : MS} (hC : cinv T B) (x q v : Int32)  (h : Rel T B S) : Rel (cf_owe T x q v).2 B (mf_owe S x q v).2 := ((fc_owe T x q v).1 17 (by decide)).trans (h.trans ((fm_owe S x q v).1 20 (by decide)).symm)
theorem rl_owes {T : MS} {B : List BL} {S : MS} (hC : cinv T B) (x q : Int32)  (h : Rel T B S) : Rel (cf_owes T x q).2 B (mf_owes S x q).2 := ((fc_owes T x q).1 17 (by decide)).trans (h.trans ((fm_owes S x q).1 20 (by decide)).symm)
theorem rl_net {T : MS} {B : List BL} {S : MS} (hC : cinv T B) (x : Int32)  (h : Rel T B S) : Rel (cf_net T x).2 B (mf_net S x).2 := ((fc_net T x).1 17 (by decide)).trans (h.trans ((fm_net S x).1 20 (by decide)).symm)
theorem rl_coin {T : MS} {B : List BL} {S : MS} (hC : cinv T B) (k w f : Int32)  (h : Rel T B S) : Rel (cf_coin T k w f).2 B (mf_coin S k w f).2 := ((fc_coin T k w f).1 17 (by decide)).trans (h.trans ((fm_coin S k w f).1 20 (by decide)).symm)
theorem rl_purse {T : MS} {B : List BL} {S : MS} (hC : cinv T B) (x k v : Int32)  (h : Rel T B S) : Rel (cf_purse T x k v).2 B (mf_purse S x k v).2 := ((fc_purse T x k v).1 17 (by decide)).trans (h.trans ((fm_purse S x k v).1 20 (by decide)).symm)
theorem rl_has {T : MS} {B : List BL} {S : MS} (hC : cinv T B) (x k : Int32)  (h : Rel T B S) : Rel (cf_has T x k).2 B (mf_has S x k).2 := ((fc_has T x k).1 17 (by decide)).trans (h.trans ((fm_has S x k).1 20 (by decide)).symm)
theorem rl_settle {T : MS} {B : List BL} {S : MS} (hC : cinv T B) (x q : Int32)  (h : Rel T B S) : Rel (cf_settle T x q).2 B (mf_settle S x q).2 := ((fc_settle T x q).1 17 (by decide)).trans (h.trans ((fm_settle S x q).1 20 (by decide)).symm)
theorem rl_vote {T : MS} {B : List BL} {S : MS} (hC : cinv T B) (x t v : Int32)  (h : Rel T B S) : Rel (cf_vote T x t v).2 B (mf_vote S x t v).2 := ((fc_vote T x t v).1 17 (by decide)).trans (h.trans ((fm_vote S x t v).1 20 (by decide)).symm)
theorem rl_rate {T : MS} {B : List BL} {S : MS} (hC : cinv T B) (t : Int32)  (h : Rel T B S) : Rel (cf_rate T t).2 B (mf_rate S t).2 := ((fc_rate T t).1 17 (by decide)).trans (h.trans ((fm_rate S t).1 20 (by decide)).symm)
theorem rl_offer {T : MS} {B : List BL} {S : MS} (hC : cinv T B) (f t v : Int32)  (h : Rel T B S) : Rel (cf_offer T f t v).2 B (mf_offer S f t v).2 := ((fc_offer T f t v).1 17 (by decide)).trans (h.trans ((fm_offer S f t v).1 20 (by decide)).symm)
theorem rl_tell {T : MS} {B : List BL} {S : MS} (hC : cinv T B) (v : Int32)  (h : Rel T B S) : Rel (cf_tell T v).2 B (mf_tell S v).2 := by
  have h' : T.1 17 = S.1 20 := h
  unfold cf_tell mf_tell
  by_cases hc : T.1 17 < 30
  · rw [if_pos hc, if_neg ((tl30 hC h').mp hc)]
    show T.1 17 + 1 = S.1 20 + 1
    rw [h']
  · rw [if_neg hc, if_pos (Classical.not_not.mp (fun q => hc ((tl30 hC h').mpr q)))]
    exact h'
theorem rl_count {T : MS} {B : List BL} {S : MS} (hC : cinv T B) (x : Int32)  (h : Rel T B S) : Rel (cf_count T x).2 B (mf_count S x).2 := ((fc_count T x).1 17 (by decide)).trans (h.trans ((fm_count S x).1 20 (by decide)).symm)
theorem rl_found {T : MS} {B : List BL} {S : MS} (hC : cinv T B) (x : Int32)  (h : Rel T B S) : Rel (cf_found T x).2 B (mf_found S x).2 := ((fc_found T x).1 17 (by decide)).trans (h.trans ((fm_found S x).1 20 (by decide)).symm)
theorem rl_turn {T : MS} {B : List BL} {S : MS} (hC : cinv T B)   (h : Rel T B S) : Rel (cf_turn T).2 B (mf_turn S).2 := ((fc_turn T).1 17 (by decide)).trans (h.trans ((fm_turn S).1 20 (by decide)).symm)
theorem rl_feed {T : MS} {B : List BL} {S : MS} (hC : cinv T B) (e : Int64) (n : Int32)  (h : Rel T B S) : Rel (cf_feed T e n).2 B (mf_feed S e n).2 := ((fc_feed T e n).1 17 (by decide)).trans (h.trans ((fm_feed S e n).1 20 (by decide)).symm)
theorem rl_pass {T : MS} {B : List BL} {S : MS} (hC : cinv T B) (x y : Int32)  (h : Rel T B S) : Rel (cf_pass T B x y).2.1 (cf_pass T B x y).2.2 (mf_pass S x y).2 := ((fc_pass T B x y).1 17 (by decide)).trans (h.trans ((fm_pass S x y).1 20 (by decide)).symm)
theorem rl_take {T : MS} {B : List BL} {S : MS} (hC : cinv T B) (x r : Int32)  (h : Rel T B S) : Rel (cf_take T B x r).2.1 (cf_take T B x r).2.2 (mf_take S x r).2 := ((fc_take T B x r).1 17 (by decide)).trans (h.trans ((fm_take S x r).1 20 (by decide)).symm)
theorem rl_protest {T : MS} {B : List BL} {S : MS} (hC : cinv T B) (x : Int32)  (h : Rel T B S) : Rel (cf_protest T B x).2.1 (cf_protest T B x).2.2 (mf_protest S x).2 := ((fc_protest T B x).1 17 (by decide)).trans (h.trans ((fm_protest S x).1 20 (by decide)).symm)
theorem rl_pay {T : MS} {B : List BL} {S : MS} (hC : cinv T B) (x : Int32)  (h : Rel T B S) : Rel (cf_pay T B x).2.1 (cf_pay T B x).2.2 (mf_pay S x).2 := ((fc_pay T B x hC.1 (bokx hC.1)).1 17 (by decide)).trans (h.trans ((fm_pay S x).1 20 (by decide)).symm)
theorem rl_recourse {T : MS} {B : List BL} {S : MS} (hC : cinv T B) (x j : Int32)  (h : Rel T B S) : Rel (cf_recourse T B x j).2.1 (cf_recourse T B x j).2.2 (mf_recourse S x j).2 := ((fc_recourse T B x j (bokx hC.1)).1 17 (by decide)).trans (h.trans ((fm_recourse S x j).1 20 (by decide)).symm)
theorem rl_about {T : MS} {B : List BL} {S : MS} (hC : cinv T B) (x q : Int32)  (h : Rel T B S) : Rel (cf_about T B x q).2.1 (cf_about T B x q).2.2 (mf_about S x q).2 := ((fc_about T B x q).1.1 17 (by decide)).trans (h.trans ((fm_about S x q).1 20 (by decide)).symm)
theorem rl_as {T : MS} {B : List BL} {S : MS} (hC : cinv T B) (x k : Int32)  (h : Rel T B S) : Rel (cf_as T B x k).2.1 (cf_as T B x k).2.2 (mf_as S x k).2 := ((fc_as T B x k).1.1 17 (by decide)).trans (h.trans ((fm_as S x k).1 20 (by decide)).symm)
theorem rl_knows {T : MS} {B : List BL} {S : MS} (hC : cinv T B) (x y d : Int32)  (h : Rel T B S) : Rel (cf_knows T B x y d).2.1 (cf_knows T B x y d).2.2 (mf_knows S x y d).2 := ((fc_knows T B x y d).1.1 17 (by decide)).trans (h.trans ((fm_knows S x y d).1 20 (by decide)).symm)
theorem rl_plan {T : MS} {B : List BL} {S : MS} (hC : cinv T B) (g : Int32) {U : MS} (hF : fr S U) (h : Rel T B S) : Rel (cf_plan T g).2 B (mf_plan U g).2 := by
  have h' : T.1 17 = S.1 20 := h
  have e : (mf_plan U g).2 = U := by unfold mf_plan; split <;> rfl
  show (cf_plan T g).2.1 17 = (mf_plan U g).2.1 20
  rw [e, hF.1 20 (by decide) (by decide), ← h']
  exact (fc_plan T g).1.1 17 (by decide)
theorem rl_payment {T : MS} {B : List BL} {S : MS} (hC : cinv T B) (j w : Int32) {U : MS} (hF : fr S U) (h : Rel T B S) : Rel (cf_payment T j w).2 B (mf_payment S U j w).2 := by
  have h' : T.1 17 = S.1 20 := h
  have e : (mf_payment S U j w).2.1 20 = S.1 20 := by
    have e0 : U.1 20 = S.1 20 := hF.1 20 (by decide) (by decide)
    unfold mf_payment
    repeat' split
    · exact e0
    · exact e0
    · rfl
  show (cf_payment T j w).2.1 17 = (mf_payment S U j w).2.1 20
  rw [e, ← h']
  exact (fc_payment T j w).1 17 (by decide)
theorem rl_clear {T : MS} {B : List BL} {S : MS} (hC : cinv T B)  {U : MS} {N : Nat} (hF : fr S U) (hO : plOk U N) (hp : ∀ j, j < N → 0 ≤ (U.2.2.2 49 j).toInt) (h : Rel T B S) : Rel (cf_clear T).2 B (mf_clear U N).2 := by
  have h' : T.1 17 = S.1 20 := h
  have e : (mf_clear U N).2.1 20 = S.1 20 := by
    obtain ⟨k1, -⟩ := clP_sp hO hp N (Nat.le_refl N)
    show (clP U N).1 20 = S.1 20
    rw [k1]
    exact hF.1 20 (by decide) (by decide)
  show (cf_clear T).2.1 17 = (mf_clear U N).2.1 20
  rw [e, ← h']
  exact (fc_clear hC.2.2.2.2.2.2).1 17 (by decide)
theorem rl_check {T : MS} {B : List BL} {S : MS} (hC : cinv T B)  {U : MS} {N : Nat} (hF : fr (sI S 20 0) U) (h : Rel T B S) : Rel (cf_check T).2 B (mf_check S U N).2 := by
  have e : (cf_check T).2.1 17 = 0 := by
    unfold cf_check
    rfl
  have e2 : U.1 20 = 0 := hF.1 20 (by decide) (by decide)
  show (cf_check T).2.1 17 = U.1 20
  rw [e, e2]
theorem rl_fault {T : MS} {B : List BL} {S : MS} (hC : cinv T B)   (h : Rel T B S) : Rel T B S := ((fx_rfl (I := sN) (L := sN) (A := sN) (B := s0) T).1 17 (by decide)).trans (h.trans ((fx_rfl (I := sN) (L := sN) (A := sN) (B := s0) S).1 20 (by decide)).symm)
theorem rl_drawN {T : MS} {B : List BL} {S : MS} (hC : cinv T B) (kd dr de py am : Int32) (hd : ¬ dcnd kd dr de py am) (h : Rel T B S) : Rel (cf_fd T 1).2 B (mf_draw S kd dr de py am).2 := ((fx_fd (I := sN) (L := sN) (A := sN) (B := s0) (q := 1) (fx_rfl T) rfl).1 17 (by decide)).trans (h.trans ((fm_draw S kd dr de py am).1 20 (by decide)).symm)
theorem rl_drawK {T : MS} {B : List BL} {S : MS} (hC : cinv T B) (kd dr de py am : Int32) (hd : dcnd kd dr de py am) (hk : dr = py) (h : Rel T B S) : Rel (cf_fd T 5).2 B (mf_draw S kd dr de py am).2 := ((fx_fd (I := sN) (L := sN) (A := sN) (B := s0) (q := 5) (fx_rfl T) rfl).1 17 (by decide)).trans (h.trans ((fm_draw S kd dr de py am).1 20 (by decide)).symm)
theorem rl_drawF {T : MS} {B : List BL} {S : MS} (hC : cinv T B) (kd dr de py am : Int32) (hd : dcnd kd dr de py am) (hk : ¬ dr = py) (hf : ¬ T.1 16 < 40) (h : Rel T B S) : Rel (cf_fd T 4).2 B (mf_draw S kd dr de py am).2 := ((fx_fd (I := sN) (L := sN) (A := sN) (B := s0) (q := 4) (fx_rfl T) rfl).1 17 (by decide)).trans (h.trans ((fm_draw S kd dr de py am).1 20 (by decide)).symm)
theorem rl_drawY {T : MS} {B : List BL} {S : MS} (hC : cinv T B) (kd dr de py am : Int32) (q9 e9 g9 : Nat) (hd : dcnd kd dr de py am) (hk : ¬ dr = py) (hf : T.1 16 < 40) (h : Rel T B S) : Rel (sI T 16 (T.1 16 + 1)) (B ++ [bnew q9 e9 g9 kd dr de py am (T.1 14)]) (mf_draw S kd dr de py am).2 := ((fx_sI (I := fun j => j = 16) (L := sN) (A := sN) (B := s0) (v := T.1 16 + 1) (fx_rfl T) rfl).1 17 (by decide)).trans (h.trans ((fm_draw S kd dr de py am).1 20 (by decide)).symm)
theorem rl_partN {T : MS} {B : List BL} {S : MS} (hC : cinv T B) (x sm cr : Int32)  (h : Rel T B S) : Rel (cf_fd T 1).2 B (mf_part S x sm cr).2 := ((fx_fd (I := sN) (L := sN) (A := sN) (B := s0) (q := 1) (fx_rfl T) rfl).1 17 (by decide)).trans (h.trans ((fm_part S x sm cr).1 20 (by decide)).symm)
theorem rl_partY {T : MS} {B : List BL} {S : MS} (hC : cinv T B) (x sm cr : Int32)  (h : Rel T B S) : Rel (cf_parT T B x) B (mf_part S x sm cr).2 := ((fc_parT T B x).1 17 (by decide)).trans (h.trans ((fm_part S x sm cr).1 20 (by decide)).symm)
theorem rl_readG {T : MS} {B : List BL} {S : MS} (hC : cinv T B)  {X : Int32 × MS} (eX : X = crx T) (h1 : X.1 = 1) (h : Rel T B S) : Rel (swT (cf_endT X.2 1)) B (mf_read S).2 := (fcr_gI hC eX (by decide) (by decide)).trans (h.trans ((fm_read S).1 20 (by decide)).symm)
theorem rl_readB {T : MS} {B : List BL} {S : MS} (hC : cinv T B)  {X : Int32 × MS} (eX : X = crx T) (h1 : X.1 = 0) (h : Rel T B S) : Rel (cf_fd (cf_endT X.2 0) 6).2 B (mf_read S).2 := ((fcr_b hC eX).1 17 (by decide)).trans (h.trans ((fm_read S).1 20 (by decide)).symm)
theorem pi_days {i : Nat} {T : MS} {B : List BL} {S : MS} (hi : i < 600) (n : Int32)  (hP : PI Rel i T B S) : PI Rel (i + 1) (cf_days T n).2 B (mf_days S n).2 := ⟨(cs_days n hP.1), (ri_up hi (ri_days (Mi_le hi).1 (Mi_le hi).2.1 n hP.2.1)), rl_days hP.1 n  hP.2.2⟩
theorem pi_gain {i : Nat} {T : MS} {B : List BL} {S : MS} (hi : i < 600) (v : Int32)  (hP : PI Rel i T B S) : PI Rel (i + 1) (cf_gain T v).2 B (mf_gain S v).2 := ⟨(cs_gain v hP.1), (ri_up hi (ri_gain v hP.2.1)), rl_gain hP.1 v  hP.2.2⟩
theorem pi_road {i : Nat} {T : MS} {B : List BL} {S : MS} (hi : i < 600) (t v : Int32)  (hP : PI Rel i T B S) : PI Rel (i + 1) (cf_road T t v).2 B (mf_road S t v).2 := ⟨(cs_road t v hP.1), (ri_up hi (ri_road t v hP.2.1)), rl_road hP.1 t v  hP.2.2⟩
theorem pi_seat {i : Nat} {T : MS} {B : List BL} {S : MS} (hi : i < 600) (x t : Int32)  (hP : PI Rel i T B S) : PI Rel (i + 1) (cf_seat T x t).2 B (mf_seat S x t).2 := ⟨(ci_seat x t hP.1), (ri_up hi (ri_seat x t hP.2.1)), rl_seat hP.1 x t  hP.2.2⟩
theorem pi_binds {i : Nat} {T : MS} {B : List BL} {S : MS} (hi : i < 600) (la am hp kd rd : Int32)  (hP : PI Rel i T B S) : PI Rel (i + 1) (cf_binds T la am hp kd rd).2 B (mf_binds S la am hp kd rd).2 := ⟨(cs_binds la am hp kd rd hP.1), (ri_up hi (ri_binds la am hp kd rd hP.2.1)), rl_binds hP.1 la am hp kd rd  hP.2.2⟩
theorem pi_owe {i : Nat} {T : MS} {B : List BL} {S : MS} (hi : i < 600) (x q v : Int32)  (hP : PI Rel i T B S) : PI Rel (i + 1) (cf_owe T x q v).2 B (mf_owe S x q v).2 := ⟨(cs_owe x q v hP.1), (Mi_s i ▸ ri_owe (Mi_le hi).1 x q v hP.2.1), rl_owe hP.1 x q v  hP.2.2⟩
theorem pi_owes {i : Nat} {T : MS} {B : List BL} {S : MS} (hi : i < 600) (x q : Int32)  (hP : PI Rel i T B S) : PI Rel (i + 1) (cf_owes T x q).2 B (mf_owes S x q).2 := ⟨(cs_owes x q hP.1), (ri_up hi (ri_owes x q hP.2.1)), rl_owes hP.1 x q  hP.2.2⟩
theorem pi_net {i : Nat} {T : MS} {B : List BL} {S : MS} (hi : i < 600) (x : Int32)  (hP : PI Rel i T B S) : PI Rel (i + 1) (cf_net T x).2 B (mf_net S x).2 := ⟨(cs_net x hP.1), (ri_up hi (ri_net x hP.2.1)), rl_net hP.1 x  hP.2.2⟩
theorem pi_coin {i : Nat} {T : MS} {B : List BL} {S : MS} (hi : i < 600) (k w f : Int32)  (hP : PI Rel i T B S) : PI Rel (i + 1) (cf_coin T k w f).2 B (mf_coin S k w f).2 := ⟨(cs_coin k w f hP.1), (ri_up hi (ri_coin k w f hP.2.1)), rl_coin hP.1 k w f  hP.2.2⟩
theorem pi_purse {i : Nat} {T : MS} {B : List BL} {S : MS} (hi : i < 600) (x k v : Int32)  (hP : PI Rel i T B S) : PI Rel (i + 1) (cf_purse T x k v).2 B (mf_purse S x k v).2 := ⟨(cs_purse x k v hP.1), (ri_up hi (ri_purse x k v hP.2.1)), rl_purse hP.1 x k v  hP.2.2⟩
theorem pi_has {i : Nat} {T : MS} {B : List BL} {S : MS} (hi : i < 600) (x k : Int32)  (hP : PI Rel i T B S) : PI Rel (i + 1) (cf_has T x k).2 B (mf_has S x k).2 := ⟨(cs_has x k hP.1), (ri_up hi (ri_has x k hP.2.1)), rl_has hP.1 x k  hP.2.2⟩
theorem pi_settle {i : Nat} {T : MS} {B : List BL} {S : MS} (hi : i < 600) (x q : Int32)  (hP : PI Rel i T B S) : PI Rel (i + 1) (cf_settle T x q).2 B (mf_settle S x q).2 := ⟨(cs_settle x q hP.1), (ri_up hi (ri_settle (Mi_le hi).1 x q hP.2.1)), rl_settle hP.1 x q  hP.2.2⟩
theorem pi_vote {i : Nat} {T : MS} {B : List BL} {S : MS} (hi : i < 600) (x t v : Int32)  (hP : PI Rel i T B S) : PI Rel (i + 1) (cf_vote T x t v).2 B (mf_vote S x t v).2 := ⟨(cs_vote x t v hP.1), (ri_up hi (ri_vote x t v hP.2.1)), rl_vote hP.1 x t v  hP.2.2⟩
theorem pi_rate {i : Nat} {T : MS} {B : List BL} {S : MS} (hi : i < 600) (t : Int32)  (hP : PI Rel i T B S) : PI Rel (i + 1) (cf_rate T t).2 B (mf_rate S t).2 := ⟨(cs_rate t hP.1), (ri_up hi (ri_rate t hP.2.1)), rl_rate hP.1 t  hP.2.2⟩
theorem pi_offer {i : Nat} {T : MS} {B : List BL} {S : MS} (hi : i < 600) (f t v : Int32)  (hP : PI Rel i T B S) : PI Rel (i + 1) (cf_offer T f t v).2 B (mf_offer S f t v).2 := ⟨(cs_offer f t v hP.1), (ri_up hi (ri_offer f t v hP.2.1)), rl_offer hP.1 f t v  hP.2.2⟩
theorem pi_tell {i : Nat} {T : MS} {B : List BL} {S : MS} (hi : i < 600) (v : Int32)  (hP : PI Rel i T B S) : PI Rel (i + 1) (cf_tell T v).2 B (mf_tell S v).2 := ⟨(ci_tell v hP.1), (ri_up hi (ri_tell v hP.2.1)), rl_tell hP.1 v  hP.2.2⟩
theorem pi_count {i : Nat} {T : MS} {B : List BL} {S : MS} (hi : i < 600) (x : Int32)  (hP : PI Rel i T B S) : PI Rel (i + 1) (cf_count T x).2 B (mf_count S x).2 := ⟨(cs_count x hP.1), (ri_up hi (ri_count x hP.2.1)), rl_count hP.1 x  hP.2.2⟩
theorem pi_found {i : Nat} {T : MS} {B : List BL} {S : MS} (hi : i < 600) (x : Int32)  (hP : PI Rel i T B S) : PI Rel (i + 1) (cf_found T x).2 B (mf_found S x).2 := ⟨(cs_found x hP.1), (ri_up hi (ri_found x hP.2.1)), rl_found hP.1 x  hP.2.2⟩
theorem pi_turn {i : Nat} {T : MS} {B : List BL} {S : MS} (hi : i < 600)   (hP : PI Rel i T B S) : PI Rel (i + 1) (cf_turn T).2 B (mf_turn S).2 := ⟨(cs_turn hP.1), (ri_up hi (ri_turn hP.2.1)), rl_turn hP.1   hP.2.2⟩
theorem pi_feed {i : Nat} {T : MS} {B : List BL} {S : MS} (hi : i < 600) (e : Int64) (n : Int32)  (hP : PI Rel i T B S) : PI Rel (i + 1) (cf_feed T e n).2 B (mf_feed S e n).2 := ⟨(ci_feed e n hP.1), (ri_up hi (ri_feed e n hP.2.1)), rl_feed hP.1 e n  hP.2.2⟩
theorem pi_pass {i : Nat} {T : MS} {B : List BL} {S : MS} (hi : i < 600) (x y : Int32)  (hP : PI Rel i T B S) : PI Rel (i + 1) (cf_pass T B x y).2.1 (cf_pass T B x y).2.2 (mf_pass S x y).2 := ⟨(ci_pass x y hP.1), (ri_up hi (ri_pass x y hP.2.1)), rl_pass hP.1 x y  hP.2.2⟩
theorem pi_take {i : Nat} {T : MS} {B : List BL} {S : MS} (hi : i < 600) (x r : Int32)  (hP : PI Rel i T B S) : PI Rel (i + 1) (cf_take T B x r).2.1 (cf_take T B x r).2.2 (mf_take S x r).2 := ⟨(ci_take x r hP.1), (ri_up hi (ri_take x r hP.2.1)), rl_take hP.1 x r  hP.2.2⟩
theorem pi_protest {i : Nat} {T : MS} {B : List BL} {S : MS} (hi : i < 600) (x : Int32)  (hP : PI Rel i T B S) : PI Rel (i + 1) (cf_protest T B x).2.1 (cf_protest T B x).2.2 (mf_protest S x).2 := ⟨(ci_protest x hP.1), (ri_up hi (ri_protest x hP.2.1)), rl_protest hP.1 x  hP.2.2⟩
theorem pi_pay {i : Nat} {T : MS} {B : List BL} {S : MS} (hi : i < 600) (x : Int32)  (hP : PI Rel i T B S) : PI Rel (i + 1) (cf_pay T B x).2.1 (cf_pay T B x).2.2 (mf_pay S x).2 := ⟨(ci_pay x hP.1), (Mi_s i ▸ ri_pay (Mi_le hi).1 x hP.2.1), rl_pay hP.1 x  hP.2.2⟩
theorem pi_recourse {i : Nat} {T : MS} {B : List BL} {S : MS} (hi : i < 600) (x j : Int32)  (hP : PI Rel i T B S) : PI Rel (i + 1) (cf_recourse T B x j).2.1 (cf_recourse T B x j).2.2 (mf_recourse S x j).2 := ⟨(ci_recourse x j hP.1), (Mi_s i ▸ ri_recourse (Mi_le hi).1 x j hP.2.1), rl_recourse hP.1 x j  hP.2.2⟩
theorem pi_about {i : Nat} {T : MS} {B : List BL} {S : MS} (hi : i < 600) (x q : Int32)  (hP : PI Rel i T B S) : PI Rel (i + 1) (cf_about T B x q).2.1 (cf_about T B x q).2.2 (mf_about S x q).2 := ⟨(cs_about x q hP.1), (ri_up hi (ri_about x q hP.2.1)), rl_about hP.1 x q  hP.2.2⟩
theorem pi_as {i : Nat} {T : MS} {B : List BL} {S : MS} (hi : i < 600) (x k : Int32)  (hP : PI Rel i T B S) : PI Rel (i + 1) (cf_as T B x k).2.1 (cf_as T B x k).2.2 (mf_as S x k).2 := ⟨(cs_as x k hP.1), (ri_up hi (ri_as x k hP.2.1)), rl_as hP.1 x k  hP.2.2⟩
theorem pi_knows {i : Nat} {T : MS} {B : List BL} {S : MS} (hi : i < 600) (x y d : Int32)  (hP : PI Rel i T B S) : PI Rel (i + 1) (cf_knows T B x y d).2.1 (cf_knows T B x y d).2.2 (mf_knows S x y d).2 := ⟨(cs_knows x y d hP.1), (ri_up hi (ri_knows x y d hP.2.1)), rl_knows hP.1 x y d  hP.2.2⟩
theorem pi_plan {i : Nat} {T : MS} {B : List BL} {S : MS} (hi : i < 600) (g : Int32) {U : MS} (hF : fr S U) (hP : PI Rel i T B S) : PI Rel (i + 1) (cf_plan T g).2 B (mf_plan U g).2 := ⟨(ci_plan g hP.1), (ri_up hi (ri_plan g (ri_fr hF hP.2.1))), rl_plan hP.1 g hF hP.2.2⟩
theorem pi_payment {i : Nat} {T : MS} {B : List BL} {S : MS} (hi : i < 600) (j w : Int32) {U : MS} (hF : fr S U) (hP : PI Rel i T B S) : PI Rel (i + 1) (cf_payment T j w).2 B (mf_payment S U j w).2 := ⟨(ci_payment j w hP.1), (ri_up hi (ri_payment j w hP.2.1 (ri_fr hF hP.2.1))), rl_payment hP.1 j w hF hP.2.2⟩
theorem pi_clear {i : Nat} {T : MS} {B : List BL} {S : MS} (hi : i < 600)  {U : MS} {N : Nat} (hF : fr S U) (hO : plOk U N) (hp : ∀ j, j < N → 0 ≤ (U.2.2.2 49 j).toInt) (hs : isum (fun j => (U.2.2.2 49 j).toInt) N ≤ Mi i) (hP : PI Rel i T B S) : PI Rel (i + 1) (cf_clear T).2 B (mf_clear U N).2 := ⟨(ci_clear hP.1), (ri_up hi (ri_clear (ri_fr hF hP.2.1) hO hp hs)), rl_clear hP.1  hF hO hp hP.2.2⟩
theorem pi_check {i : Nat} {T : MS} {B : List BL} {S : MS} (hi : i < 600)  {U : MS} {N : Nat} (hF : fr (sI S 20 0) U) (hP : PI Rel i T B S) : PI Rel (i + 1) (cf_check T).2 B (mf_check S U N).2 := ⟨(ci_check hP.1), (ri_up hi (ri_fr hF (ri_20 hP.2.1))), rl_check hP.1  hF hP.2.2⟩
theorem pi_fault {i : Nat} {T : MS} {B : List BL} {S : MS} (hi : i < 600)   (hP : PI Rel i T B S) : PI Rel (i + 1) T B S := ⟨hP.1, (ri_up hi hP.2.1), rl_fault hP.1   hP.2.2⟩
theorem pi_drawN {i : Nat} {T : MS} {B : List BL} {S : MS} (hi : i < 600) (kd dr de py am : Int32) (hd : ¬ dcnd kd dr de py am) (hP : PI Rel i T B S) : PI Rel (i + 1) (cf_fd T 1).2 B (mf_draw S kd dr de py am).2 := ⟨hP.1, (ri_up hi (ri_draw kd dr de py am hP.2.1)), rl_drawN hP.1 kd dr de py am hd hP.2.2⟩
theorem pi_drawK {i : Nat} {T : MS} {B : List BL} {S : MS} (hi : i < 600) (kd dr de py am : Int32) (hd : dcnd kd dr de py am) (hk : dr = py) (hP : PI Rel i T B S) : PI Rel (i + 1) (cf_fd T 5).2 B (mf_draw S kd dr de py am).2 := ⟨hP.1, (ri_up hi (ri_draw kd dr de py am hP.2.1)), rl_drawK hP.1 kd dr de py am hd hk hP.2.2⟩
theorem pi_drawF {i : Nat} {T : MS} {B : List BL} {S : MS} (hi : i < 600) (kd dr de py am : Int32) (hd : dcnd kd dr de py am) (hk : ¬ dr = py) (hf : ¬ T.1 16 < 40) (hP : PI Rel i T B S) : PI Rel (i + 1) (cf_fd T 4).2 B (mf_draw S kd dr de py am).2 := ⟨hP.1, (ri_up hi (ri_draw kd dr de py am hP.2.1)), rl_drawF hP.1 kd dr de py am hd hk hf hP.2.2⟩
theorem pi_drawY {i : Nat} {T : MS} {B : List BL} {S : MS} (hi : i < 600) (kd dr de py am : Int32) (q9 e9 g9 : Nat) (hd : dcnd kd dr de py am) (hk : ¬ dr = py) (hf : T.1 16 < 40) (hP : PI Rel i T B S) : PI Rel (i + 1) (sI T 16 (T.1 16 + 1)) (B ++ [bnew q9 e9 g9 kd dr de py am (T.1 14)]) (mf_draw S kd dr de py am).2 := ⟨(ci_draw hP.1 hd hf), (ri_up hi (ri_draw kd dr de py am hP.2.1)), rl_drawY hP.1 kd dr de py am q9 e9 g9 hd hk hf hP.2.2⟩
theorem pi_partN {i : Nat} {T : MS} {B : List BL} {S : MS} (hi : i < 600) (x sm cr : Int32)  (hP : PI Rel i T B S) : PI Rel (i + 1) (cf_fd T 1).2 B (mf_part S x sm cr).2 := ⟨hP.1, (ri_up hi (ri_part x sm cr hP.2.1)), rl_partN hP.1 x sm cr  hP.2.2⟩
theorem pi_partY {i : Nat} {T : MS} {B : List BL} {S : MS} (hi : i < 600) (x sm cr : Int32)  (hP : PI Rel i T B S) : PI Rel (i + 1) (cf_parT T B x) B (mf_part S x sm cr).2 := ⟨(cs_part x hP.1), (ri_up hi (ri_part x sm cr hP.2.1)), rl_partY hP.1 x sm cr  hP.2.2⟩
theorem pi_readG {i : Nat} {T : MS} {B : List BL} {S : MS} (hi : i < 600)  {X : Int32 × MS} (eX : X = crx T) (h1 : X.1 = 1) (hP : PI Rel i T B S) : PI Rel (i + 1) (swT (cf_endT X.2 1)) B (mf_read S).2 := ⟨(fcr_ci hP.1 eX 1).2, (ri_up hi (ri_read hP.2.1)), rl_readG hP.1  eX h1 hP.2.2⟩
theorem pi_readB {i : Nat} {T : MS} {B : List BL} {S : MS} (hi : i < 600)  {X : Int32 × MS} (eX : X = crx T) (h1 : X.1 = 0) (hP : PI Rel i T B S) : PI Rel (i + 1) (cf_fd (cf_endT X.2 0) 6).2 B (mf_read S).2 := ⟨(fcr_ci hP.1 eX 0).1, (ri_up hi (ri_read hP.2.1)), rl_readB hP.1  eX h1 hP.2.2⟩
theorem eq_m {T : MS} {B : List BL} {S : MS} (hC : cinv T B) (hR : Rel T B S) (v : Int32) : (cf_tell T v).1 = (mf_tell S v).1 := by
  have h' : T.1 17 = S.1 20 := hR
  unfold cf_tell mf_tell
  by_cases hc : T.1 17 < 30
  · rw [if_pos hc, if_neg ((tl30 hC h').mp hc)]
    show (T.1 17 + 1).toInt64 = (S.1 20 + 1).toInt64
    rw [h']
  · rw [if_neg hc, if_pos (Classical.not_not.mp (fun q => hc ((tl30 hC h').mpr q)))]
    exact (show (-1000000000000 : Int64) - (4 : Int32).toInt64 = -1000000000004 by decide)
theorem rel0 : Rel T0 [] S0 := rfl
