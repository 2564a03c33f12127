/-! read, of the reference -/
abbrev rI9 : Nat → Prop := fun j => j = 23 ∨ j = 29 ∨ j = 36 ∨ (38 ≤ j ∧ j < 42)
abbrev rA9 : Nat → Prop := fun q => (24 ≤ q ∧ q < 29) ∨ (30 ≤ q ∧ q < 35)
abbrev rL9 : Nat → Prop := fun j => j = 37
theorem fm_go {S T : MS} (k : fx rI9 rL9 rA9 m22 S T) : fx rI9 rL9 rA9 m22 S (mf_go T) := by
  obtain ⟨g1, g2⟩ := gx_go T
  exact fx_tr k ⟨fun j a => g2 j (fun e => a (by omega)) (fun e => a (by omega)) (fun e => a (by omega)) (fun e => a (by omega)), fun j _ => by rw [g1], fun q _ => by rw [g1], fun q _ => by rw [g1]⟩
theorem fm_wr {S T : MS} (k : fx rI9 rL9 rA9 m22 S T) : fx rI9 rL9 rA9 m22 S (mwr T) := fx_sL k rfl
theorem fm_test {S T : MS} (k : fx rI9 rL9 rA9 m22 S T) : fx rI9 rL9 rA9 m22 S (mf_test T).2 := by
  unfold mf_test
  split
  · have k1 := fm_go (fx_sA (j := 32) (i := (mtA T).toNatClampNeg) (v := T.1 41) k (by decide))
    generalize mf_go (sA T 32 (mtA T).toNatClampNeg (T.1 41)) = X at k1
    generalize (mtA T).toNatClampNeg = A
    unfold mtT2
    split
    · have k2 := fm_go (fx_sA (j := 33) (i := A) (v := X.1 40) k1 (by decide))
      generalize mf_go (sA X 33 A (X.1 40)) = Y at k2
      unfold mtT3
      split
      · have k3 := fm_go (T := mtN A Y) (S := S) (by unfold mtN; exact fx_sA (fx_sA k2 (by decide)) (by decide))
        generalize mf_go (mtN A Y) = Q at k3
        exact k3
      · exact fm_wr k2
    · exact fm_wr k1
  · exact fm_wr k
theorem fm_mcL {S : MS} : ∀ (f : Nat) (X : Int32 × MS), fx rI9 rL9 rA9 m22 S X.2 → fx rI9 rL9 rA9 m22 S (mcL f X).2
  | 0, X, k => k
  | f + 1, X, k => by
    unfold mcL
    split
    · exact k
    · split
      · split
        · exact fm_wr k
        · have q := fm_test (fm_go k)
          generalize mf_test (mf_go X.2) = Z at q
          exact fm_mcL f Z q
      · exact k
theorem fm_c1 {S T : MS} (v : Int32) (k : fx rI9 rL9 rA9 m22 S T) : fx rI9 rL9 rA9 m22 S (mc1 T v) := by
  unfold mc1
  exact fx_sI (fx_sA (fx_sA k (by decide)) (by decide)) (by decide)
theorem fm_mcB {S X : MS} (k : fx rI9 rL9 rA9 m22 S X) : fx rI9 rL9 rA9 m22 S (mcB X).2 := by
  have q := fm_test (fm_go k)
  unfold mcB
  generalize mf_test (mf_go X) = Z at q
  split
  · exact fm_mcL 4 Z q
  · exact k
theorem fm_clause {S T : MS} (k : fx rI9 rL9 rA9 m22 S T) : fx rI9 rL9 rA9 m22 S (mf_clause T).2 := by
  have q1 := fm_mcB (fm_go (fm_c1 1 k))
  have q0 := fm_mcB (fm_go (fm_c1 0 k))
  unfold mf_clause
  generalize mcB (mf_go (mc1 T 1)) = Z1 at q1
  generalize mcB (mf_go (mc1 T 0)) = Z0 at q0
  repeat' split
  · exact q1
  · exact q0
  · exact fm_wr k
theorem fm_mxL {S : MS} : ∀ (f : Nat) (X : Int32 × MS), fx rI9 rL9 rA9 m22 S X.2 → fx rI9 rL9 rA9 m22 S (mxL f X).2
  | 0, X, k => k
  | f + 1, X, k => by
    unfold mxL
    split
    · exact k
    · split
      · split
        · exact fm_wr k
        · have q := fm_clause (fm_go k)
          generalize mf_clause (mf_go X.2) = Z at q
          exact fm_mxL f Z q
      · split
        · exact k
        · exact fm_wr k
theorem fm_text {S T : MS} (k : fx rI9 rL9 rA9 m22 S T) : fx rI9 rL9 rA9 m22 S (mf_text T).2 := by
  have q := fm_clause k
  unfold mf_text
  generalize mf_clause T = Z at q
  split
  · exact k
  · exact fm_mxL 9 Z q
theorem fm_rdT (S : MS) : fx rI9 rL9 rA9 m22 S (rdT S).2 := by
  unfold rdT rdS
  exact fm_text (fm_go (fx_sI (fx_sI (fx_sL (fx_rfl S) rfl) (by decide)) (by decide)))
theorem fm_cp8 {S U : MS} (k : fx rI9 rL9 rA9 m22 S U) : ∀ n, fx rI9 rL9 rA9 m22 S (cp8 U n)
  | 0 => k
  | n + 1 => fx_sA (fx_sA (fm_cp8 k n) (by decide)) (by decide)
theorem fm_cp32 {S U : MS} (k : fx rI9 rL9 rA9 m22 S U) : ∀ n, fx rI9 rL9 rA9 m22 S (cp32 U n)
  | 0 => k
  | n + 1 => by
    show fx _ _ _ _ S (cpC (cp32 U n) n)
    unfold cpC cpB cpA
    exact fx_sA (fx_sA (fx_sA (fm_cp32 k n) (by decide)) (by decide)) (by decide)
theorem fm_read (S : MS) : fx rI9 rL9 rA9 m22 S (mf_read S).2 := by
  have k := fm_rdT S
  have k2 : fx rI9 rL9 rA9 m22 S (rdE S) := by unfold rdE; exact fx_sI k (by decide)
  unfold mf_read
  split
  · exact fx_mfd k2 rfl
  · unfold rdC
    generalize rdE S = U at k2
    exact fm_cp32 (fm_cp8 (fx_sI k2 (by decide)) 8) 32
theorem cp8_sp (U : MS) : ∀ n, (cp8 U n).1 = U.1 ∧ (cp8 U n).2.2.1 30 = U.2.2.1 30 ∧ (cp8 U n).2.2.1 31 = U.2.2.1 31 ∧ ∀ c, c < n → (cp8 U n).2.2.1 24 c = vp_nar .boolean (U.2.2.1 30 c) ∧ (cp8 U n).2.2.1 25 c = U.2.2.1 31 c
  | 0 => ⟨rfl, rfl, rfl, fun c hc => absurd hc (Nat.not_lt_zero c)⟩
  | n + 1 => by
    obtain ⟨k1, k2, k3, k4⟩ := cp8_sp U n
    refine ⟨k1, k2, k3, fun c hc => ?_⟩
    show upd ((cp8 U n).2.2.1 24) n (vp_nar .boolean ((cp8 U n).2.2.1 30 n)) c = _ ∧ upd ((cp8 U n).2.2.1 25) n ((cp8 U n).2.2.1 31 n) c = _
    rw [k2, k3]
    by_cases e : c = n
    · rw [e, updA_at, updA_at]
      exact ⟨rfl, rfl⟩
    · rw [updA_ne _ _ e, updA_ne _ _ e]
      exact k4 c (by omega)
theorem cp32_sp (U : MS) : ∀ n, (cp32 U n).1 = U.1 ∧ (cp32 U n).2.2.1 24 = U.2.2.1 24 ∧ (cp32 U n).2.2.1 25 = U.2.2.1 25 ∧ (cp32 U n).2.2.1 30 = U.2.2.1 30 ∧ (cp32 U n).2.2.1 31 = U.2.2.1 31
  | 0 => ⟨rfl, rfl, rfl, rfl, rfl⟩
  | n + 1 => by
    obtain ⟨k1, k2, k3, k4, k5⟩ := cp32_sp U n
    exact ⟨k1, k2, k3, k4, k5⟩
theorem ri_of {M : Int} {S T : MS} (h : rinv M S) (hm : minv T) (hn : ninv T) (k : fx rI9 rL9 rA9 m22 S T) : rinv M T := by
  refine ⟨hm, hn, ?_, ?_, ?_, ?_⟩
  · rw [k.1 1 (by decide)]; exact h.2.2.1
  · rw [k.2.2.2 15 (by decide)]; exact h.2.2.2.1
  · rw [k.2.2.1 17 (by decide)]; exact h.2.2.2.2.1
  · rw [k.2.2.1 9 (by decide)]; exact h.2.2.2.2.2
theorem ri_read {M : Int} {S : MS} (h : rinv M S) : rinv M (mf_read S).2 := by
  have hk := fm_read S
  have hX : ∃ m, rdJ m (rdT S).2 := by unfold rdT; exact (tx_rd (rd_go (rd_S h.1 h.2.1))).1
  have hE : ∃ m, m ≤ 8 ∧ (rdE S).1 29 = nI m ∧ minv (rdE S) ∧ ninv (rdE S) := by
    unfold rdE
    generalize rdT S = X at hX
    obtain ⟨m, hT, hN, h29, h8⟩ := hX
    refine ⟨m, h8, h29, ?_, hN⟩
    obtain ⟨a1, a2, a3, a4⟩ := hT.1
    exact ⟨a1, a2, by show 0 ≤ (0 : Int32).toInt ∧ (0 : Int32).toInt ≤ 400; decide, a4⟩
  refine ri_of h ?_ ?_ hk
  · unfold mf_read
    unfold rdC
    generalize rdT S = X
    generalize rdE S = U at hE
    split
    · obtain ⟨m, h8, h29, hm, hn⟩ := hE
      exact hm
    · obtain ⟨m, h8, h29, hm, hn⟩ := hE
      obtain ⟨p1, p2, p3, p4⟩ := cp8_sp (sI U 23 (U.1 29)) 8
      have pf := fm_cp8 (fx_rfl (sI U 23 (U.1 29))) 8
      generalize cp8 (sI U 23 (U.1 29)) 8 = V at p1 p2 p3 p4 pf
      obtain ⟨q1, q2, q3, q4, q5⟩ := cp32_sp V 32
      have qf := fm_cp32 (fx_rfl V) 32
      generalize cp32 V 32 = Z at q1 q2 q3 q4 q5 qf
      obtain ⟨a1, a2, a3, a4, a5, a6, a7, a8, a9⟩ := hm
      have fz : ∀ q, ¬ rA9 q → Z.2.2.1 q = U.2.2.1 q := fun q a => (qf.2.2.1 q a).trans (pf.2.2.1 q a)
      have iz : ∀ j, j ≠ 23 → Z.1 j = U.1 j := fun j a => by rw [q1, p1]; exact if_neg a
      have i23 : Z.1 23 = nI m := by rw [q1, p1]; exact h29
      show minv Z
      refine ⟨?_, ?_, ?_, ?_, ?_, ?_, ?_, ?_, ?_⟩
      · rw [iz 4 (by decide)]; exact a1
      · rw [iz 20 (by decide)]; exact a2
      · rw [iz 36 (by decide)]; exact a3
      · rw [i23, nI_toInt (by omega)]; omega
      · rw [fz 11 (by decide)]; exact a5
      · rw [fz 6 (by decide), fz 7 (by decide), fz 8 (by decide), fz 10 (by decide)]; exact a6
      · rw [fz 12 (by decide)]; exact a7
      · rw [fz 3 (by decide)]; exact a8
      · intro c hc
        rw [q2, q3, (p4 c hc).1, (p4 c hc).2]
        obtain ⟨⟨k, hk4, ek⟩, hb⟩ := hn c hc
        have ek' : (sI U 23 (U.1 29)).2.2.1 31 c = nI k := ek
        rw [ek', nI_toInt (by omega)]
        refine ⟨by omega, by omega, ?_⟩
        rcases hb with hb | hb
        · exact Or.inl (by rw [show (sI U 23 (U.1 29)).2.2.1 30 c = 0 from hb, vn0])
        · exact Or.inr (by rw [show (sI U 23 (U.1 29)).2.2.1 30 c = 1 from hb, vn1])
  · unfold mf_read
    unfold rdC
    generalize rdT S = X
    generalize rdE S = U at hE
    split
    · obtain ⟨m, h8, h29, hm, hn⟩ := hE
      exact hn
    · obtain ⟨m, h8, h29, hm, hn⟩ := hE
      obtain ⟨p1, p2, p3, p4⟩ := cp8_sp (sI U 23 (U.1 29)) 8
      generalize cp8 (sI U 23 (U.1 29)) 8 = V at p1 p2 p3 p4
      obtain ⟨q1, q2, q3, q4, q5⟩ := cp32_sp V 32
      generalize cp32 V 32 = Z at q1 q2 q3 q4 q5
      intro c hc
      show (∃ k, k ≤ 4 ∧ Z.2.2.1 31 c = nI k) ∧ (Z.2.2.1 30 c = 0 ∨ Z.2.2.1 30 c = 1)
      rw [q4, q5, p2, p3]
      exact hn c hc
