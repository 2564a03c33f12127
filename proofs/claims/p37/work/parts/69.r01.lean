/-! sums of ints; longs that don't pass their bounds -/
theorem L_add {x y : Int64} (h1 : -9223372036854775808 ≤ x.toInt + y.toInt) (h2 : x.toInt + y.toInt < 9223372036854775808) : (x + y).toInt = x.toInt + y.toInt := by
  rw [Int64.toInt_add]
  exact Int.bmod_eq_of_le (by omega) (by omega)
theorem L_sub {x y : Int64} (h1 : -9223372036854775808 ≤ x.toInt - y.toInt) (h2 : x.toInt - y.toInt < 9223372036854775808) : (x - y).toInt = x.toInt - y.toInt := by
  rw [Int64.toInt_sub]
  exact Int.bmod_eq_of_le (by omega) (by omega)
theorem L_neg {x : Int64} (h1 : -9223372036854775808 < x.toInt) : (-x).toInt = -x.toInt := by
  rw [Int64.toInt_neg]
  have := Int64.toInt_lt x
  exact Int.bmod_eq_of_le (by omega) (by omega)
theorem L_mul {x y : Int64} (h1 : -9223372036854775808 ≤ x.toInt * y.toInt) (h2 : x.toInt * y.toInt < 9223372036854775808) : (x * y).toInt = x.toInt * y.toInt := by
  rw [Int64.toInt_mul]
  exact Int.bmod_eq_of_le (by omega) (by omega)
def isum (f : Nat → Int) : Nat → Int
  | 0 => 0
  | i + 1 => isum f i + f i
theorem isum_congr {f g : Nat → Int} : ∀ (n : Nat), (∀ i, i < n → f i = g i) → isum f n = isum g n
  | 0, _ => rfl
  | n + 1, h => by
    show isum f n + f n = isum g n + g n
    rw [isum_congr n (fun i hi => h i (by omega)), h n (by omega)]
theorem isum_add (f g : Nat → Int) : ∀ (n : Nat), isum (fun i => f i + g i) n = isum f n + isum g n
  | 0 => rfl
  | n + 1 => by
    show isum (fun i => f i + g i) n + (f n + g n) = isum f n + f n + (isum g n + g n)
    rw [isum_add f g n]
    omega
theorem isum_sub (f g : Nat → Int) : ∀ (n : Nat), isum (fun i => f i - g i) n = isum f n - isum g n
  | 0 => rfl
  | n + 1 => by
    show isum (fun i => f i - g i) n + (f n - g n) = isum f n + f n - (isum g n + g n)
    rw [isum_sub f g n]
    omega
theorem isum_le {f g : Nat → Int} : ∀ (n : Nat), (∀ i, i < n → f i ≤ g i) → isum f n ≤ isum g n
  | 0, _ => Int.le_refl _
  | n + 1, h => by
    show isum f n + f n ≤ isum g n + g n
    have h1 := isum_le n (fun i hi => h i (by omega))
    have h2 := h n (by omega)
    omega
theorem isum_0 : ∀ (n : Nat), isum (fun _ => 0) n = 0
  | 0 => rfl
  | n + 1 => by
    show isum (fun _ => 0) n + 0 = 0
    rw [isum_0 n]
    rfl
theorem isum_nn {f : Nat → Int} (n : Nat) (h : ∀ i, i < n → 0 ≤ f i) : 0 ≤ isum f n := by
  have h1 := isum_le (f := fun _ => 0) (g := f) n h
  rw [isum_0] at h1
  exact h1
theorem isum_zero {f : Nat → Int} (n : Nat) (h : ∀ i, i < n → f i = 0) : isum f n = 0 := by
  rw [isum_congr (g := fun _ => 0) n h, isum_0]
theorem isum_mono {f : Nat → Int} {n : Nat} : ∀ {m : Nat}, n ≤ m → (∀ i, i < m → 0 ≤ f i) → isum f n ≤ isum f m
  | 0, h, _ => by rw [Nat.le_zero.mp h]; exact Int.le_refl _
  | m + 1, h, h0 => by
    by_cases e : n = m + 1
    · rw [e]; exact Int.le_refl _
    · have h1 := isum_mono (f := f) (n := n) (m := m) (by omega) (fun i hi => h0 i (by omega))
      have h2 := h0 m (by omega)
      show isum f n ≤ isum f m + f m
      omega
theorem isum_term {f : Nat → Int} {i n : Nat} (hi : i < n) (h : ∀ j, j < n → 0 ≤ f j) : f i ≤ isum f n := by
  have h1 := isum_mono (f := f) (n := i + 1) (m := n) hi h
  have h2 := isum_nn (f := f) i (fun j hj => h j (by omega))
  have h3 : isum f (i + 1) = isum f i + f i := rfl
  omega
theorem isum_split (f : Nat → Int) (m : Nat) : ∀ (n : Nat), isum f (m + n) = isum f m + isum (fun k => f (m + k)) n
  | 0 => by show isum f m = isum f m + 0; omega
  | n + 1 => by
    show isum f (m + n) + f (m + n) = isum f m + (isum (fun k => f (m + k)) n + f (m + n))
    rw [isum_split f m n]
    omega
theorem isum_block (f : Nat → Int) (w : Nat) : ∀ (n : Nat), isum f (w * n) = isum (fun h => isum (fun k => f (w * h + k)) w) n
  | 0 => rfl
  | n + 1 => by
    show isum f (w * n + w) = isum (fun h => isum (fun k => f (w * h + k)) w) n + isum (fun k => f (w * n + k)) w
    rw [isum_split, isum_block f w n]
theorem isum_comm (f : Nat → Nat → Int) (m : Nat) : ∀ (n : Nat), isum (fun i => isum (fun j => f i j) m) n = isum (fun j => isum (fun i => f i j) n) m
  | 0 => (isum_0 m).symm
  | n + 1 => by
    show isum (fun i => isum (fun j => f i j) m) n + isum (fun j => f n j) m = isum (fun j => isum (fun i => f i j) n + f n j) m
    rw [isum_comm f m n, isum_add]
theorem isum_upd (f g : Nat → Int) (i : Nat) (h : ∀ j, j ≠ i → g j = f j) : ∀ (n : Nat), isum g n = isum f n + (if i < n then g i - f i else 0)
  | 0 => by simp [isum]
  | n + 1 => by
    show isum g n + g n = isum f n + f n + _
    rw [isum_upd f g i h n]
    by_cases e : n = i
    · subst e
      rw [if_neg (Nat.lt_irrefl _), if_pos (Nat.lt_succ_self _)]
      omega
    · rw [h n e]
      by_cases h1 : i < n
      · rw [if_pos h1, if_pos (by omega)]
        omega
      · rw [if_neg h1, if_neg (by omega)]
        omega
theorem nI_mul (a b : Nat) : nI a * nI b = nI (a * b) := (Int32.ofNat_mul a b).symm
theorem nI_and (a b : Nat) : nI a &&& nI b = nI (a &&& b) := by
  apply Int32.toBitVec_inj.mp
  show BitVec.ofNat 32 a &&& BitVec.ofNat 32 b = BitVec.ofNat 32 (a &&& b)
  exact BitVec.ofNat_and.symm
theorem nI_or (a b : Nat) : nI a ||| nI b = nI (a ||| b) := by
  apply Int32.toBitVec_inj.mp
  show BitVec.ofNat 32 a ||| BitVec.ofNat 32 b = BitVec.ofNat 32 (a ||| b)
  exact BitVec.ofNat_or.symm
theorem nI_xor (a b : Nat) : nI a ^^^ nI b = nI (a ^^^ b) := by
  apply Int32.toBitVec_inj.mp
  show BitVec.ofNat 32 a ^^^ BitVec.ofNat 32 b = BitVec.ofNat 32 (a ^^^ b)
  exact BitVec.ofNat_xor.symm
theorem ix10 {i j : Nat} (hi : i < 10) (hj : j < 10) : (10 * nI i + nI j).toNatClampNeg = 10 * i + j := by
  rw [show (10 : Int32) = nI 10 from by decide, nI_mul, nI_add, nI_clamp (by omega)]
