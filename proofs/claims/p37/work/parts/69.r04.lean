/-! the groups are found -/
theorem bit10 : ∀ i, i < 10 → ((1 : Int32) <<< (nI i &&& 31)) = nI (2 ^ i) := by decide +kernel
def anN (z : Nat → Int64) : Nat → Nat
  | 0 => 0
  | i + 1 => anN z i ||| (if z i = 0 then 0 else 2 ^ i)
theorem anN_lt (z : Nat → Int64) : ∀ n, anN z n < 2 ^ n
  | 0 => Nat.lt_succ_self 0
  | n + 1 => by
    show anN z n ||| (if z n = 0 then 0 else 2 ^ n) < 2 ^ (n + 1)
    refine Nat.or_lt_two_pow (Nat.lt_trans (anN_lt z n) (Nat.pow_lt_pow_right (by decide) (Nat.lt_succ_self n))) ?_
    split
    · exact Nat.two_pow_pos _
    · exact Nat.pow_lt_pow_right (by decide) (Nat.lt_succ_self n)
theorem anN_bit (z : Nat → Int64) (j : Nat) : ∀ n, (anN z n).testBit j = (decide (j < n) && decide (¬ z j = 0))
  | 0 => by simp [anN]
  | n + 1 => by
    show (anN z n ||| (if z n = 0 then 0 else 2 ^ n)).testBit j = _
    rw [Nat.testBit_or, anN_bit z j n]
    by_cases e : j = n
    · subst e
      by_cases h : z j = 0
      · simp [h]
      · simp [h, Nat.testBit_two_pow_self]
    · have h1 : (if z n = 0 then 0 else 2 ^ n).testBit j = false := by
        split
        · exact Nat.zero_testBit j
        · rw [Nat.testBit_two_pow]
          simp
          omega
      rw [h1, Bool.or_false]
      have h2 : decide (j < n) = decide (j < n + 1) := decide_eq_decide.mpr (by omega)
      rw [h2]
theorem npA_eq (S : MS) : ∀ n, n ≤ 10 → npA S n = nI (anN (fun j => mnetT S (nI j) 10) n)
  | 0, _ => by show (0 : Int32) = nI 0; decide
  | n + 1, hn => by
    show npA S n ||| (if (npF S (n + 1)).2.2.2 50 n = 0 then 0 else ((1 : Int32) <<< (nI n &&& 31))) = nI (anN _ n ||| (if mnetT S (nI n) 10 = 0 then 0 else 2 ^ n))
    rw [npA_eq S n (by omega), ← nI_or, (npF_sp S (n + 1)).2.2.2.2.2 n, if_pos (Nat.lt_succ_self n), bit10 n (by omega)]
    congr 1
    split
    · decide
    · rfl
theorem sub_bits {g a : Nat} (hg : g < 1024) : (nI g &&& (nI a ^^^ -1)) = 0 ↔ g &&& a = g := by
  have e1 : (-1 : Int32) = nI (2 ^ 32 - 1) := by decide
  have hle : g &&& (a ^^^ (2 ^ 32 - 1)) ≤ g := Nat.and_le_left
  rw [e1, nI_xor, nI_and, show (0 : Int32) = nI 0 from by decide, nI_eq (by omega) (by decide)]
  constructor
  · intro h
    apply Nat.eq_of_testBit_eq
    intro j
    have hj : (g &&& (a ^^^ (2 ^ 32 - 1))).testBit j = false := by rw [h]; exact Nat.zero_testBit j
    rw [Nat.testBit_and, Nat.testBit_xor, Nat.testBit_two_pow_sub_one] at hj
    rw [Nat.testBit_and]
    by_cases h32 : j < 32
    · rw [decide_eq_true h32] at hj
      cases hgj : g.testBit j <;> cases haj : a.testBit j <;> rw [hgj, haj] at hj <;> simp at hj ⊢
    · rw [Nat.testBit_lt_two_pow (x := g) (i := j) (Nat.lt_of_lt_of_le hg (Nat.le_trans (by decide : 1024 ≤ 2 ^ 32) (Nat.pow_le_pow_right (by decide) (by omega))))]
      rfl
  · intro h
    apply Nat.eq_of_testBit_eq
    intro j
    have hb : (g.testBit j && a.testBit j) = g.testBit j := by rw [← Nat.testBit_and, h]
    rw [Nat.testBit_and, Nat.testBit_xor, Nat.testBit_two_pow_sub_one, Nat.zero_testBit]
    by_cases h32 : j < 32
    · rw [decide_eq_true h32]
      cases hgj : g.testBit j <;> cases haj : a.testBit j <;> rw [hgj, haj] at hb <;> simp at hb ⊢
    · rw [Nat.testBit_lt_two_pow (x := g) (i := j) (Nat.lt_of_lt_of_le hg (Nat.le_trans (by decide : 1024 ≤ 2 ^ 32) (Nat.pow_le_pow_right (by decide) (by omega))))]
      rfl
theorem pc_nn (g : Nat) : 0 ≤ sgI (fun _ => 1) g := isum_nn 10 (fun i _ => by split; (show (0 : Int) ≤ 1; decide); exact Int.le_refl 0)
theorem pc_pos {g : Nat} (hg : g < 1024) (h0 : g ≠ 0) : 1 ≤ sgI (fun _ => 1) g := by
  by_cases h : ∃ j, j < 10 ∧ g.testBit j = true
  · obtain ⟨j, hj, hb⟩ := h
    have h1 := isum_term (f := fun j => if g.testBit j = true then (1 : Int) else 0) hj (fun i _ => by split <;> decide)
    simp only [hb, if_true] at h1
    exact h1
  · exfalso
    apply h0
    apply Nat.eq_of_testBit_eq
    intro j
    rw [Nat.zero_testBit]
    by_cases hj : j < 10
    · cases hb : g.testBit j
      · rfl
      · exact absurd ⟨j, hj, hb⟩ h
    · exact Nat.testBit_lt_two_pow (Nat.lt_of_lt_of_le hg (Nat.le_trans (by decide : 1024 ≤ 2 ^ 10) (Nat.pow_le_pow_right (by decide) (by omega))))
theorem pc_le (g : Nat) : sgI (fun _ => 1) g ≤ 10 := by
  have h := isum_le (f := fun j => if g.testBit j = true then (1 : Int) else 0) (g := fun _ => 1) 10 (fun i _ => by split <;> decide)
  exact Int.le_trans h (by decide)
theorem dis_sub {g a x : Nat} (h : g &&& a = g) (hx : x &&& (a ^^^ g) = x) : g &&& x = 0 ∧ x &&& a = x := by
  constructor
  · apply Nat.eq_of_testBit_eq
    intro j
    have hb : (g.testBit j && a.testBit j) = g.testBit j := by rw [← Nat.testBit_and, h]
    have hc : (x.testBit j && (a.testBit j ^^ g.testBit j)) = x.testBit j := by rw [← Nat.testBit_xor, ← Nat.testBit_and, hx]
    rw [Nat.testBit_and, Nat.zero_testBit]
    cases hg : g.testBit j <;> cases ha : a.testBit j <;> cases hq : x.testBit j <;> rw [hg, ha] at hb <;> rw [hg, ha, hq] at hc <;> simp at hb hc ⊢
  · apply Nat.eq_of_testBit_eq
    intro j
    have hb : (g.testBit j && a.testBit j) = g.testBit j := by rw [← Nat.testBit_and, h]
    have hc : (x.testBit j && (a.testBit j ^^ g.testBit j)) = x.testBit j := by rw [← Nat.testBit_xor, ← Nat.testBit_and, hx]
    rw [Nat.testBit_and]
    cases hg : g.testBit j <;> cases ha : a.testBit j <;> cases hq : x.testBit j <;> rw [hg, ha] at hb <;> rw [hg, ha, hq] at hc <;> simp at hb hc ⊢
/-- the least of those that there are -/
theorem least_ex {P : Nat → Prop} : ∀ (n : Nat), P n → ∃ m, P m ∧ m ≤ n ∧ ∀ j, j < m → ¬ P j := by
  intro n
  induction n using Nat.strongRecOn with
  | _ n ih =>
    intro hn
    by_cases h : ∃ j, j < n ∧ P j
    · obtain ⟨j, hj, hp⟩ := h
      obtain ⟨m, h1, h2, h3⟩ := ih j hj hp
      exact ⟨m, h1, by omega, h3⟩
    · exact ⟨n, hn, Nat.le_refl n, fun j hj hp => h ⟨j, hj, hp⟩⟩
theorem fg_ex {sm : Nat → Int64} {m : Nat → Int32} (hadd : ∀ a g, a < 1024 → g &&& a = g → sm a = 0 → sm g = 0 → sm (a ^^^ g) = 0) (hmo : ∀ a, 0 < a → a < 1024 → sm a = 0 → ∃ g, 1 ≤ g ∧ g &&& a = g ∧ ¬ (nI g &&& (nI a &&& -nI a)) = 0 ∧ sm g = 0 ∧ m (a ^^^ g) + 1 = m a) : ∀ (f al c : Nat) (T : MS), al < 1024 → sm al = 0 → sgI (fun _ => 1) al ≤ f → c + f ≤ 10 → (∀ s, s < 1024 → T.2.2.2 42 s = sm s) → (∀ s, s < 1024 → T.2.2.1 43 s = m s) → T.1 44 = nI c → ∃ (X : MS) (N : Nat) (G : Nat → Nat), fgRun f (nI al) T X ∧ c ≤ N ∧ N ≤ c + f ∧ X.1 44 = nI N ∧ fr T X ∧ X.1 46 = T.1 46 ∧ X.2.2.2 = T.2.2.2 ∧ (∀ q, q ≠ 45 → X.2.2.1 q = T.2.2.1 q) ∧ (∀ j, c ≤ j → j < N → X.2.2.1 45 j = nI (G j) ∧ G j < 1024 ∧ G j &&& al = G j ∧ sm (G j) = 0) ∧ (∀ j, j < c → X.2.2.1 45 j = T.2.2.1 45 j) ∧ (∀ j k, c ≤ j → j < k → k < N → G j &&& G k = 0)
  | 0, al, c, T, ha, hs, hp, hc, h42, h43, h44 => by
    have e0 : al = 0 := by
      apply Classical.byContradiction
      intro h
      have := pc_pos ha h
      omega
    subst e0
    exact ⟨T, c, fun _ => 0, ⟨by decide, rfl⟩, Nat.le_refl _, by omega, h44, fr_rfl T, rfl, rfl, fun _ _ => rfl, fun j h1 h2 => absurd h1 (by omega), fun _ _ => rfl, fun j k h1 h2 h3 => absurd h1 (by omega)⟩
  | f + 1, al, c, T, ha, hs, hp, hc, h42, h43, h44 => by
    by_cases e0 : al = 0
    · subst e0
      exact ⟨T, c, fun _ => 0, Or.inl ⟨by decide, rfl⟩, Nat.le_refl _, by omega, h44, fr_rfl T, rfl, rfl, fun _ _ => rfl, fun j h1 h2 => absurd h1 (by omega), fun _ _ => rfl, fun j k h1 h2 h3 => absurd h1 (by omega)⟩
    · have hne : ¬ nI al = 0 := fun h => e0 ((nI_eq (a := al) (b := 0) (by omega) (by decide)).mp (h.trans (by decide)))
      obtain ⟨g0, a1, a2, a3, a4, a5⟩ := hmo al (by omega) ha hs
      have hiff : ∀ g, g < 1024 → (fgHit T (nI al) g ↔ (g &&& al = g ∧ ¬ (nI g &&& (nI al &&& -nI al)) = 0 ∧ sm g = 0 ∧ m (al ^^^ g) + 1 = m al)) := by
        intro g hg
        unfold fgHit
        rw [sub_bits hg]
        constructor
        · rintro ⟨b1, b2, b3, b4⟩
          have hx : al ^^^ g < 1024 := by
            have := sub_xor b1
            have h2 : al ^^^ g ≤ al := by rw [← this]; exact Nat.and_le_right
            omega
          rw [nI_xor, nI_clamp (by omega), nI_clamp (by omega), h43 _ hx, h43 _ ha] at b4
          rw [h42 g hg] at b3
          exact ⟨b1, b2, b3, b4⟩
        · rintro ⟨b1, b2, b3, b4⟩
          have hx : al ^^^ g < 1024 := by
            have := sub_xor b1
            have h2 : al ^^^ g ≤ al := by rw [← this]; exact Nat.and_le_right
            omega
          rw [nI_xor, nI_clamp (by omega), nI_clamp (by omega), h43 _ hx, h43 _ ha, h42 g hg]
          exact ⟨b1, b2, b3, b4⟩
      have hg0 : g0 < 1024 := by have := sub_le a2; omega
      obtain ⟨g, b1, b2, b3⟩ := least_ex (P := fun g => 1 ≤ g ∧ fgHit T (nI al) g) g0 ⟨a1, (hiff g0 hg0).mpr ⟨a2, a3, a4, a5⟩⟩
      obtain ⟨b0, b1⟩ := b1
      have hg : g < 1024 := by omega
      obtain ⟨c1, c2, c3, c4⟩ := (hiff g hg).mp b1
      have hx : al ^^^ g < al := sub_lt c1 (by omega)
      have hpx := sgI_xor (fun _ => 1) c1
      have hp1 := pc_pos hg (by omega)
      have e44 : (T.1 44).toNatClampNeg = c := by rw [h44, nI_clamp (by omega)]
      have eS : fgS T g = sI (sA T 45 c (nI g)) 44 (nI (c + 1)) := by
        unfold fgS
        rw [e44, show (sA T 45 c (nI g)).1 44 = nI c from h44, nI_1]
      have frS : fr T (fgS T g) := by rw [eS]; exact fr_tr (fr_sA (Or.inr (Or.inl rfl))) (fr_sI (Or.inl rfl))
      obtain ⟨X, N, G, r1, r2, r3, r4, r5, r6, r7, r8, r9, r10, r11⟩ := fg_ex hadd hmo f (al ^^^ g) (c + 1) (fgS T g) (by omega) (hadd al g ha c1 hs c3) (by omega) (by omega) (by rw [eS]; exact h42) (by rw [eS]; exact h43) (by rw [eS]; rfl)
      obtain ⟨G', hG1, hG2⟩ : ∃ G' : Nat → Nat, G' c = g ∧ ∀ j, j ≠ c → G' j = G j := ⟨fun j => if j = c then g else G j, if_pos rfl, fun j h => if_neg h⟩
      refine ⟨X, N, G', Or.inr ⟨hne, vp_in_nI ha (by decide), by rw [h44]; exact vp_in_nI (by omega) (by decide), g, b0, hg, b1, fun j hj1 hj2 h => b3 j hj2 ⟨hj1, h⟩, ?_⟩, by omega, by omega, r4, fr_tr frS r5, ?_, ?_, ?_, ?_, ?_, ?_⟩
      · rw [nI_xor]; exact r1
      · rw [r6, eS]; rfl
      · rw [r7, eS]; rfl
      · intro q hq; rw [r8 q hq, eS]; exact if_neg hq
      · intro j h1 h2
        by_cases e : j = c
        · subst e
          rw [hG1, r10 j (by omega), eS]
          refine ⟨?_, hg, c1, c3⟩
          show (sA T 45 j (nI g)).2.2.1 45 j = nI g
          rw [sA_at, updA_at]
        · rw [hG2 j e]
          obtain ⟨k1, k2, k3, k4⟩ := r9 j (by omega) h2
          exact ⟨k1, k2, (dis_sub c1 k3).2, k4⟩
      · intro j hj
        rw [r10 j (by omega), eS]
        show (sA T 45 c (nI g)).2.2.1 45 j = T.2.2.1 45 j
        rw [sA_at, updA_ne _ _ (by omega)]
      · intro j k h1 h2 h3
        rw [hG2 k (by omega)]
        by_cases e : j = c
        · rw [e, hG1]
          exact (dis_sub c1 (r9 k (by omega) h3).2.2.1).1
        · rw [hG2 j e]
          exact r11 j k (by omega) h2 h3
