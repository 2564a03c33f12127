/-! the book of the reference: debts are never less than 0, all of them together at most M -/
def dI (f : Nat → Int64) (k : Nat) : Int := (f k).toInt
def dnv (M : Int) (f : Nat → Int64) : Prop := (∀ k, k < 100 → 0 ≤ dI f k) ∧ isum (dI f) 100 ≤ M
/-- row sums, column sums -/
theorem dnv_row {M : Int} {f : Nat → Int64} (h : dnv M f) {j : Nat} (hj : j < 10) {n : Nat} (hn : n ≤ 10) : 0 ≤ isum (fun i => dI f (10 * j + i)) n ∧ isum (fun i => dI f (10 * j + i)) n ≤ M := by
  have h0 := isum_nn (f := fun i => dI f (10 * j + i)) n (fun i hi => h.1 _ (by omega))
  have h1 := isum_mono (f := fun i => dI f (10 * j + i)) hn (fun i hi => h.1 _ (by omega))
  have h2 := isum_term (f := fun h => isum (fun k => dI f (10 * h + k)) 10) (i := j) (n := 10) hj (fun q hq => isum_nn _ (fun i hi => h.1 _ (by omega)))
  have h3 := isum_block (dI f) 10 10
  have h4 := h.2
  exact ⟨h0, by simp only [Nat.reduceMul] at h3; omega⟩
theorem dnv_col {M : Int} {f : Nat → Int64} (h : dnv M f) {j : Nat} (hj : j < 10) {n : Nat} (hn : n ≤ 10) : 0 ≤ isum (fun i => dI f (10 * i + j)) n ∧ isum (fun i => dI f (10 * i + j)) n ≤ M := by
  have h0 := isum_nn (f := fun i => dI f (10 * i + j)) n (fun i hi => h.1 _ (by omega))
  have h1 := isum_mono (f := fun i => dI f (10 * i + j)) hn (fun i hi => h.1 _ (by omega))
  have h2 : isum (fun i => dI f (10 * i + j)) 10 ≤ isum (fun h => isum (fun k => dI f (10 * h + k)) 10) 10 := isum_le 10 (fun i hi => isum_term (f := fun k => dI f (10 * i + k)) hj (fun k hk => h.1 _ (by omega)))
  have h3 := isum_block (dI f) 10 10
  have h4 := h.2
  exact ⟨h0, by simp only [Nat.reduceMul] at h3; omega⟩
/-- a house's net -/
def ntI (f : Nat → Int64) (j n : Nat) : Int := isum (fun i => dI f (10 * i + j)) n - isum (fun i => dI f (10 * j + i)) n
theorem dnv_le {M : Int} {f : Nat → Int64} (h : dnv M f) {k : Nat} (hk : k < 100) : dI f k ≤ M := by
  have h1 := isum_term (f := dI f) (i := k) (n := 100) hk h.1
  have h2 := h.2
  omega
theorem mnet_I {M : Int} {S : MS} (hM : M ≤ 1000000000000) (h : dnv M (S.2.2.2 15)) {j : Nat} (hj : j < 10) : ∀ {n : Nat}, n ≤ 10 → (mnetT S (nI j) n).toInt = ntI (S.2.2.2 15) j n
  | 0, _ => by show (0 : Int64).toInt = 0 - 0; decide
  | n + 1, hn => by
    have ih := mnet_I hM h hj (n := n) (by omega)
    have c0 := dnv_col h hj (n := n) (by omega)
    have c1 := dnv_col h hj (n := n + 1) hn
    have r0 := dnv_row h hj (n := n) (by omega)
    have r1 := dnv_row h hj (n := n + 1) hn
    have ec : isum (fun i => dI (S.2.2.2 15) (10 * i + j)) (n + 1) = isum (fun i => dI (S.2.2.2 15) (10 * i + j)) n + dI (S.2.2.2 15) (10 * n + j) := rfl
    have er : isum (fun i => dI (S.2.2.2 15) (10 * j + i)) (n + 1) = isum (fun i => dI (S.2.2.2 15) (10 * j + i)) n + dI (S.2.2.2 15) (10 * j + n) := rfl
    have q1 := h.1 (10 * n + j) (by omega)
    have q2 := h.1 (10 * j + n) (by omega)
    have q3 := dnv_le h (k := 10 * n + j) (by omega)
    have q4 := dnv_le h (k := 10 * j + n) (by omega)
    show (mnetT S (nI j) n + (S.2.2.2 15 (10 * nI n + nI j).toNatClampNeg - S.2.2.2 15 (10 * nI j + nI n).toNatClampNeg)).toInt = ntI (S.2.2.2 15) j (n + 1)
    rw [ix10 (by omega) hj, ix10 hj (by omega)]
    have e1 : (S.2.2.2 15 (10 * n + j) - S.2.2.2 15 (10 * j + n)).toInt = dI (S.2.2.2 15) (10 * n + j) - dI (S.2.2.2 15) (10 * j + n) := L_sub (by unfold dI at q1 q2 q3 q4; omega) (by unfold dI at q1 q2 q3 q4; omega)
    have e2 : ntI (S.2.2.2 15) j (n + 1) = ntI (S.2.2.2 15) j n + (dI (S.2.2.2 15) (10 * n + j) - dI (S.2.2.2 15) (10 * j + n)) := by
      unfold ntI
      omega
    have b1 : -M ≤ ntI (S.2.2.2 15) j n ∧ ntI (S.2.2.2 15) j n ≤ M := by unfold ntI; omega
    rw [L_add (by rw [ih, e1]; omega) (by rw [ih, e1]; omega), ih, e1, e2]
theorem ntI_b {M : Int} {f : Nat → Int64} (h : dnv M f) {j : Nat} (hj : j < 10) : -M ≤ ntI f j 10 ∧ ntI f j 10 ≤ M := by
  have c0 := dnv_col h hj (n := 10) (by omega)
  have r0 := dnv_row h hj (n := 10) (by omega)
  unfold ntI
  omega
/-- all nets together are 0 -/
theorem ntI_sum (f : Nat → Int64) : isum (fun j => ntI f j 10) 10 = 0 := by
  unfold ntI
  rw [isum_sub, isum_comm (fun j i => dI f (10 * i + j)) 10 10]
  omega
/-- the nets' sizes together are at most twice what is owed -/
theorem ntI_abs {M : Int} {f : Nat → Int64} (h : dnv M f) : isum (fun j => ((ntI f j 10).natAbs : Int)) 10 ≤ 2 * M := by
  have h1 : isum (fun j => ((ntI f j 10).natAbs : Int)) 10 ≤ isum (fun j => isum (fun i => dI f (10 * i + j)) 10 + isum (fun i => dI f (10 * j + i)) 10) 10 := by
    refine isum_le 10 (fun j hj => ?_)
    have c0 := dnv_col h hj (n := 10) (by omega)
    have r0 := dnv_row h hj (n := 10) (by omega)
    unfold ntI
    omega
  rw [isum_add, isum_comm (fun j i => dI f (10 * i + j)) 10 10, ← isum_block (dI f) 10 10] at h1
  have h2 := h.2
  simp only [Nat.reduceMul] at h1
  omega
/-! sets of houses -/
theorem tbit : ∀ s, s < 1024 → ∀ j, j < 10 → ((((nI s >>> (nI j &&& 31)) &&& 1) = 1) ↔ s.testBit j = true) := by decide +kernel
/-- a set's sum -/
def sgI (F : Nat → Int) (s : Nat) : Int := isum (fun j => if s.testBit j = true then F j else 0) 10
theorem sgI_xor (F : Nat → Int) {a g : Nat} (h : g &&& a = g) : sgI F (a ^^^ g) + sgI F g = sgI F a := by
  unfold sgI
  rw [← isum_add]
  refine isum_congr 10 (fun j _ => ?_)
  have hb : (g.testBit j && a.testBit j) = g.testBit j := by rw [← Nat.testBit_and, h]
  rw [Nat.testBit_xor]
  cases hg : g.testBit j <;> cases ha : a.testBit j <;> rw [hg, ha] at hb <;> simp at hb ⊢
def sgL (f : Nat → Int64) (s : Nat) : Nat → Int64
  | 0 => 0
  | j + 1 => sgL f s j + (if ((nI s >>> (nI j &&& 31)) &&& 1) = 1 then f j else 0)
theorem sgL_I {B : Int} {f : Nat → Int64} (hB : B ≤ 100000000000000000) (hf : ∀ j, j < 10 → -B ≤ (f j).toInt ∧ (f j).toInt ≤ B) {s : Nat} (hs : s < 1024) : ∀ {n : Nat}, n ≤ 10 → (sgL f s n).toInt = isum (fun j => if s.testBit j = true then (f j).toInt else 0) n ∧ -(B * n) ≤ (sgL f s n).toInt ∧ (sgL f s n).toInt ≤ B * n
  | 0, _ => by show (0 : Int64).toInt = 0 ∧ -(B * 0) ≤ (0 : Int64).toInt ∧ (0 : Int64).toInt ≤ B * 0; rw [show (0 : Int64).toInt = 0 from by decide]; omega
  | n + 1, hn => by
    obtain ⟨ih, i1, i2⟩ := sgL_I hB hf hs (n := n) (by omega)
    have hb := hf n (by omega)
    have e0 : (0 : Int64).toInt = 0 := by decide
    have ev : (if ((nI s >>> (nI n &&& 31)) &&& 1) = 1 then f n else 0).toInt = (if s.testBit n = true then (f n).toInt else 0) := by
      by_cases hc : s.testBit n = true
      · rw [if_pos ((tbit s hs n (by omega)).mpr hc), if_pos hc]
      · rw [if_neg (fun h => hc ((tbit s hs n (by omega)).mp h)), if_neg hc, e0]
    have hv : -B ≤ (if s.testBit n = true then (f n).toInt else 0) ∧ (if s.testBit n = true then (f n).toInt else 0) ≤ B := by
      split
      · exact hb
      · omega
    have hBn : B * (n : Int) ≤ B * 10 := Int.mul_le_mul_of_nonneg_left (by omega) (by omega)
    have eB : B * ((n : Int) + 1) = B * n + B := by rw [Int.mul_add, Int.mul_one]
    have e : (sgL f s (n + 1)).toInt = (sgL f s n).toInt + (if s.testBit n = true then (f n).toInt else 0) := by
      show (sgL f s n + (if ((nI s >>> (nI n &&& 31)) &&& 1) = 1 then f n else 0)).toInt = _
      rw [L_add (by rw [ev]; omega) (by rw [ev]; omega), ev]
    refine ⟨?_, ?_, ?_⟩
    · rw [e, ih]
      rfl
    · rw [e]
      rw [show ((n + 1 : Nat) : Int) = (n : Int) + 1 from rfl]
      omega
    · rw [e]
      rw [show ((n + 1 : Nat) : Int) = (n : Int) + 1 from rfl]
      omega
theorem sgL_s {B : Int} {f : Nat → Int64} (hB : B ≤ 100000000000000000) (hf : ∀ j, j < 10 → -B ≤ (f j).toInt ∧ (f j).toInt ≤ B) {s : Nat} (hs : s < 1024) : (sgL f s 10).toInt = sgI (fun j => (f j).toInt) s := (sgL_I hB hf hs (Nat.le_refl 10)).1
