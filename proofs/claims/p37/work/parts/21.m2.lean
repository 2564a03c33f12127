/-- x lies in 0 .. n-1 (its values as ints) -/
theorem vpn {x : Int32} {n : Nat} (h : vp_in x n) (hn : n < 2 ^ 31) : ∃ j : Nat, j < n ∧ x = nI j := vp_in_of h hn
theorem ixm (m N : Nat) {x y : Int32} (hx : vp_in x N) (hy : vp_in y m) (hb : N * m < 2 ^ 31) (hN : N < 2 ^ 31) (hm : m < 2 ^ 31) : vp_in (nI m * x + y) (N * m) := by
  obtain ⟨i, hi, rfl⟩ := vp_in_of hx hN
  obtain ⟨j, hj, rfl⟩ := vp_in_of hy hm
  rw [pk_mul, nI_add]
  refine vp_in_nI ?_ hb
  have : m * (i + 1) ≤ m * N := Nat.mul_le_mul_left m hi
  rw [Nat.mul_add, Nat.mul_one] at this
  rw [Nat.mul_comm N m]
  omega
theorem ixc (m N : Nat) {x y : Int32} (hx : vp_in x N) (hy : vp_in y m) (hb : N * m < 2 ^ 31) (hN : N < 2 ^ 31) (hm : m < 2 ^ 31) : (nI m * x + y).toNatClampNeg = m * x.toNatClampNeg + y.toNatClampNeg := by
  obtain ⟨i, hi, rfl⟩ := vp_in_of hx hN
  obtain ⟨j, hj, rfl⟩ := vp_in_of hy hm
  have h2 : m * i + j < N * m := by
    have : m * (i + 1) ≤ m * N := Nat.mul_le_mul_left m hi
    rw [Nat.mul_add, Nat.mul_one] at this
    rw [Nat.mul_comm N m]
    omega
  rw [pk_mul, nI_add, nI_clamp (by omega), nI_clamp (by omega), nI_clamp (by omega)]
theorem vp_le {x : Int32} {n m : Nat} (h : vp_in x n) (hm : n ≤ m) : vp_in x m := by
  rw [vp_in_iff] at h ⊢
  omega
/-- what holds of every state of the reference that a run comes to: its indexes are in their rows -/
def minv (S : MS) : Prop :=
  (0 ≤ (S.1 4).toInt ∧ (S.1 4).toInt ≤ 40) ∧ (0 ≤ (S.1 20).toInt ∧ (S.1 20).toInt ≤ 30) ∧ (0 ≤ (S.1 36).toInt ∧ (S.1 36).toInt ≤ 400) ∧ (0 ≤ (S.1 23).toInt ∧ (S.1 23).toInt ≤ 8) ∧
  (∀ b, b < 40 → 0 ≤ (S.2.2.1 11 b).toInt ∧ (S.2.2.1 11 b).toInt ≤ 4) ∧ (∀ b, b < 40 → vp_in (S.2.2.1 6 b) 10 ∧ vp_in (S.2.2.1 7 b) 10 ∧ vp_in (S.2.2.1 8 b) 10 ∧ vp_in (S.2.2.1 10 b) 5) ∧
  (∀ b, b < 160 → vp_in (S.2.2.1 12 b) 10) ∧ (∀ h, h < 10 → vp_in (S.2.2.1 3 h) 5) ∧
  (∀ c, c < 8 → 0 ≤ (S.2.2.1 25 c).toInt ∧ (S.2.2.1 25 c).toInt ≤ 4 ∧ (S.2.2.1 24 c = 0 ∨ S.2.2.1 24 c = 1))
theorem mbill {S : MS} (hI : minv S) {x : Int32} (h : 0 ≤ x ∧ x ≤ S.1 4 - 1) : vp_in x 40 := by
  obtain ⟨⟨h1, h2⟩, -⟩ := hI
  obtain ⟨h3, h4⟩ := h
  rw [Int32.le_iff_toInt_le] at h3 h4
  have e0 : (0 : Int32).toInt = 0 := by decide
  have e1 : (S.1 4 - 1).toInt = (S.1 4).toInt - 1 := by
    rw [Int32.toInt_sub]
    have : (1 : Int32).toInt = 1 := by decide
    rw [this]
    apply Int.bmod_eq_of_le <;> omega
  rw [vp_in_iff]
  omega

def mf_becomes (S : MS) (b t : Int32) : MS := sB (sA S 10 b.toNatClampNeg t) 13 (5 * b + t).toNatClampNeg (S.2.1 0)
set_option maxHeartbeats 4000000 in
set_option maxRecDepth 100000 in
/-- a bill comes to a state -/
theorem M_becomes (l : Launch) (D : va_G) (cy : Nat → ClassId) (a : Nat → Nat) (S : MS) (b t : Int32) (hb : vp_in b 40) (ht : vp_in t 5) : Ct l D clx (tyx cy) yX9_becomes wsX9_becomes (rmD 0) 0 0 [.ref (a 0), .int b, .int t] (MW cy a S) (fun r9 w9 => r9 = none ∧ w9 = MW cy a (mf_becomes S b t)) := by
  refine g_start (cc := cX9_becomes) (maxL := 3) (ret := none) (by decide) rfl (Nat.le_of_ble_eq_true rfl) (fun v w1 h => by obtain ⟨rfl, -⟩ := h; exact rfl) (fun Γ hlΓ => ?_)
  subst hlΓ
  refine g_aload_n (i := 0) dX9_becomes_0 rfl rfl ?_
  refine m_get 10 dX9_becomes_1 (List.mem_of_getElem? (i := 1) rfl) (fun w h => List.mem_cons_of_mem _ (List.mem_append_right _ h)) (by decide) rfl ?_
  refine g_iload_n (i := 1) dX9_becomes_4 rfl rfl ?_
  refine g_iload_n (i := 2) dX9_becomes_5 rfl rfl ?_
  refine m_iast 10 8 40 dX9_becomes_6 rfl hb (wsA_10 _ _ _ _ _) ?_
  refine g_aload_n (i := 0) dX9_becomes_7 rfl rfl ?_
  refine m_get 13 dX9_becomes_8 (List.mem_of_getElem? (i := 2) rfl) (fun w h => List.mem_cons_of_mem _ (List.mem_append_right _ h)) (by decide) rfl ?_
  refine g_iconst (5) rfl dX9_becomes_11 ?_
  refine g_iload_n (i := 1) dX9_becomes_12 rfl rfl ?_
  refine g_imul dX9_becomes_13 ?_
  refine g_iload_n (i := 2) dX9_becomes_14 rfl rfl ?_
  refine g_iadd dX9_becomes_15 ?_
  refine g_aload_n (i := 0) dX9_becomes_16 rfl rfl ?_
  refine m_get 0 dX9_becomes_17 (List.mem_of_getElem? (i := 3) rfl) (fun w h => List.mem_cons_of_mem _ (List.mem_append_right _ h)) (by decide) rfl ?_
  refine m_last 13 11 200 dX9_becomes_20 rfl (ixm 5 40 hb ht (by decide) (by decide) (by decide)) (wsA_13 _ _ _ _ _) ?_
  refine g_vret dX9_becomes_21 ?_
  exact ⟨rfl, rfl⟩

