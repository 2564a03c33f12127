/-! what the plan changes of the reference -/
def fr (S T : MS) : Prop := (∀ j, j ≠ 44 → j ≠ 46 → T.1 j = S.1 j) ∧ T.2.1 = S.2.1 ∧ (∀ q, q ≠ 43 → q ≠ 45 → q ≠ 47 → q ≠ 48 → T.2.2.1 q = S.2.2.1 q) ∧ (∀ q, q ≠ 42 → q ≠ 49 → q ≠ 50 → T.2.2.2 q = S.2.2.2 q)
theorem fr_rfl (S : MS) : fr S S := ⟨fun _ _ _ => rfl, rfl, fun _ _ _ _ _ => rfl, fun _ _ _ _ => rfl⟩
theorem fr_tr {S T U : MS} (h : fr S T) (g : fr T U) : fr S U := ⟨fun j a b => (g.1 j a b).trans (h.1 j a b), g.2.1.trans h.2.1, fun q a b c d => (g.2.2.1 q a b c d).trans (h.2.2.1 q a b c d), fun q a b c => (g.2.2.2 q a b c).trans (h.2.2.2 q a b c)⟩
theorem fr_sI {S : MS} {j : Nat} {v : Int32} (h : j = 44 ∨ j = 46) : fr S (sI S j v) := ⟨fun i a b => if_neg (by rcases h with h | h <;> rw [h] <;> assumption), rfl, fun _ _ _ _ _ => rfl, fun _ _ _ _ => rfl⟩
theorem fr_sA {S : MS} {j i : Nat} {v : Int32} (h : j = 43 ∨ j = 45 ∨ j = 47 ∨ j = 48) : fr S (sA S j i v) := ⟨fun _ _ _ => rfl, rfl, fun q a b c d => if_neg (by rcases h with h | h | h | h <;> rw [h] <;> assumption), fun _ _ _ _ => rfl⟩
theorem fr_sB {S : MS} {j i : Nat} {v : Int64} (h : j = 42 ∨ j = 49 ∨ j = 50) : fr S (sB S j i v) := ⟨fun _ _ _ => rfl, rfl, fun _ _ _ _ _ => rfl, fun q a b c => if_neg (by rcases h with h | h | h <;> rw [h] <;> assumption)⟩
theorem sB_at (S : MS) (j i : Nat) (v : Int64) : (sB S j i v).2.2.2 j = vp_updL (S.2.2.2 j) i v := if_pos rfl
theorem sB_ne (S : MS) {j q : Nat} (i : Nat) (v : Int64) (h : q ≠ j) : (sB S j i v).2.2.2 q = S.2.2.2 q := if_neg h
theorem sA_at (S : MS) (j i : Nat) (v : Int32) : (sA S j i v).2.2.1 j = upd (S.2.2.1 j) i v := if_pos rfl
theorem sA_ne (S : MS) {j q : Nat} (i : Nat) (v : Int32) (h : q ≠ j) : (sA S j i v).2.2.1 q = S.2.2.1 q := if_neg h
theorem updL_at (f : Nat → Int64) (i : Nat) (v : Int64) : vp_updL f i v i = v := if_pos rfl
theorem updL_ne (f : Nat → Int64) {i j : Nat} (v : Int64) (h : j ≠ i) : vp_updL f i v j = f j := if_neg h
theorem updA_at (f : Nat → Int32) (i : Nat) (v : Int32) : upd f i v i = v := if_pos rfl
theorem updA_ne (f : Nat → Int32) {i j : Nat} (v : Int32) (h : j ≠ i) : upd f i v j = f j := if_neg h
/-- the nets -/
theorem mnetT_c {S T : MS} (h : T.2.2.2 15 = S.2.2.2 15) (x : Int32) : ∀ n, mnetT T x n = mnetT S x n
  | 0 => rfl
  | n + 1 => by
    show mnetT T x n + (T.2.2.2 15 _ - T.2.2.2 15 _) = mnetT S x n + (S.2.2.2 15 _ - S.2.2.2 15 _)
    rw [mnetT_c h x n, h]
theorem npF_sp (S : MS) : ∀ i, fr S (npF S i) ∧ (npF S i).2.2.2 42 = S.2.2.2 42 ∧ (npF S i).2.2.2 49 = S.2.2.2 49 ∧ (npF S i).1 = S.1 ∧ (npF S i).2.2.1 = S.2.2.1 ∧ ∀ j, (npF S i).2.2.2 50 j = if j < i then mnetT S (nI j) 10 else S.2.2.2 50 j
  | 0 => ⟨fr_rfl S, rfl, rfl, rfl, rfl, fun j => (if_neg (Nat.not_lt_zero j)).symm⟩
  | i + 1 => by
    obtain ⟨h1, h2, h3, h4, h5, h6⟩ := npF_sp S i
    refine ⟨fr_tr h1 (fr_sB (Or.inr (Or.inr rfl))), h2, h3, h4, h5, fun j => ?_⟩
    show vp_updL ((npF S i).2.2.2 50) i (mnetT (npF S i) (nI i) 10) j = _
    rw [mnetT_c (h1.2.2.2 15 (by decide) (by decide) (by decide))]
    by_cases e : j = i
    · subst e
      rw [updL_at, if_pos (Nat.lt_succ_self _)]
    · rw [updL_ne _ _ e, h6]
      by_cases hj : j < i
      · rw [if_pos hj, if_pos (by omega)]
      · rw [if_neg hj, if_neg (by omega)]
/-- sums of all sets -/
theorem smI_sp (T : MS) (i : Nat) : ∀ n, fr T (smI T i n) ∧ (smI T i n).1 = T.1 ∧ (smI T i n).2.2.1 = T.2.2.1 ∧ (smI T i n).2.2.2 50 = T.2.2.2 50 ∧ (smI T i n).2.2.2 42 = vp_updL (T.2.2.2 42) i (sgL (T.2.2.2 50) i n)
  | 0 => ⟨fr_sB (Or.inl rfl), rfl, rfl, rfl, rfl⟩
  | n + 1 => by
    obtain ⟨h1, h2, h3, h4, h5⟩ := smI_sp T i n
    refine ⟨fr_tr h1 (fr_sB (Or.inl rfl)), h2, h3, h4, ?_⟩
    show vp_updL ((smI T i n).2.2.2 42) i ((smI T i n).2.2.2 42 i + (if ((nI i >>> (nI n &&& 31)) &&& 1) = 1 then (smI T i n).2.2.2 50 n else 0)) = _
    rw [h4, h5, updL_at]
    funext j
    by_cases e : j = i
    · subst e
      rw [updL_at, updL_at]
      rfl
    · rw [updL_ne _ _ e, updL_ne _ _ e, updL_ne _ _ e]
theorem smO_sp (S : MS) : ∀ n, fr S (smO S n) ∧ (smO S n).1 = S.1 ∧ (smO S n).2.2.1 = S.2.2.1 ∧ (smO S n).2.2.2 50 = S.2.2.2 50 ∧ ∀ s, (smO S n).2.2.2 42 s = if s < n then sgL (S.2.2.2 50) s 10 else S.2.2.2 42 s
  | 0 => ⟨fr_rfl S, rfl, rfl, rfl, fun s => (if_neg (Nat.not_lt_zero s)).symm⟩
  | n + 1 => by
    obtain ⟨h1, h2, h3, h4, h5⟩ := smO_sp S n
    obtain ⟨k1, k2, k3, k4, k5⟩ := smI_sp (smO S n) n 10
    refine ⟨fr_tr h1 k1, k2.trans h2, k3.trans h3, k4.trans h4, fun s => ?_⟩
    show (smI (smO S n) n 10).2.2.2 42 s = _
    rw [k5, h4]
    by_cases e : s = n
    · subst e
      rw [updL_at, if_pos (Nat.lt_succ_self _)]
    · rw [updL_ne _ _ e, h5]
      by_cases hj : s < n
      · rw [if_pos hj, if_pos (by omega)]
      · rw [if_neg hj, if_neg (by omega)]
/-! how many groups a set can make: what of it the search needs -/
theorem sub_xor {a g : Nat} (h : g &&& a = g) : (a ^^^ g) &&& a = a ^^^ g := by
  apply Nat.eq_of_testBit_eq
  intro j
  have hb : (g.testBit j && a.testBit j) = g.testBit j := by rw [← Nat.testBit_and, h]
  rw [Nat.testBit_and, Nat.testBit_xor]
  cases hg : g.testBit j <;> cases ha : a.testBit j <;> rw [hg, ha] at hb <;> simp at hb ⊢
theorem sub_lt {a g : Nat} (h : g &&& a = g) (h0 : g ≠ 0) : a ^^^ g < a := by
  have h1 : a ^^^ g ≤ a := by rw [← sub_xor h]; exact Nat.and_le_right
  have h2 : a ^^^ g ≠ a := by
    intro e
    apply h0
    have h3 : a ^^^ (a ^^^ g) = g := by rw [← Nat.xor_assoc, Nat.xor_self, Nat.zero_xor]
    rw [e, Nat.xor_self] at h3
    exact h3.symm
  omega
theorem sub_le {a g : Nat} (h : g &&& a = g) : g ≤ a := by rw [← h]; exact Nat.and_le_right
abbrev moA (sm : Nat → Int64) (m : Nat → Int32) (i : Nat) (v : Int32) : Prop := 0 ≤ v → ∃ g, 1 ≤ g ∧ g &&& i = g ∧ ¬ (nI g &&& (nI i &&& -nI i)) = 0 ∧ sm g = 0 ∧ 0 ≤ m (i ^^^ g) ∧ m (i ^^^ g) + 1 = v
theorem moS_sp {i g : Nat} {T : MS} (hi : i < 1024) (hg : g &&& i = g) (h0 : g ≠ 0) : fr T (moS i g T) ∧ (moS i g T).1 = T.1 ∧ (moS i g T).2.2.2 = T.2.2.2 ∧ (∀ a, a ≠ i → (moS i g T).2.2.1 43 a = T.2.2.1 43 a) ∧ (∀ q, q ≠ 43 → (moS i g T).2.2.1 q = T.2.2.1 q) ∧ T.2.2.1 43 i ≤ (moS i g T).2.2.1 43 i ∧ (moA (T.2.2.2 42) (T.2.2.1 43) i (T.2.2.1 43 i) → moA (T.2.2.2 42) (T.2.2.1 43) i ((moS i g T).2.2.1 43 i)) := by
  have hgi := sub_le hg
  have hx : (nI i ^^^ nI g).toNatClampNeg = i ^^^ g := by
    rw [nI_xor, nI_clamp]
    have := sub_lt hg h0
    omega
  have triv : fr T T ∧ T.1 = T.1 ∧ T.2.2.2 = T.2.2.2 ∧ (∀ a, a ≠ i → T.2.2.1 43 a = T.2.2.1 43 a) ∧ (∀ q, q ≠ 43 → T.2.2.1 q = T.2.2.1 q) ∧ T.2.2.1 43 i ≤ T.2.2.1 43 i ∧ (moA (T.2.2.2 42) (T.2.2.1 43) i (T.2.2.1 43 i) → moA (T.2.2.2 42) (T.2.2.1 43) i (T.2.2.1 43 i)) := ⟨fr_rfl T, rfl, rfl, fun _ _ => rfl, fun _ _ => rfl, Int32.le_refl _, id⟩
  unfold moS
  rw [hx]
  split
  · exact triv
  · next hl =>
    split
    · next hs =>
      split
      · exact triv
      · next hp =>
        split
        · exact triv
        · next hm =>
          refine ⟨fr_sA (Or.inl rfl), rfl, rfl, fun a ha => ?_, fun q hq => if_neg hq, ?_, fun _ _ => ?_⟩
          · rw [sA_at, updA_ne _ _ ha]
          · rw [sA_at, updA_at]
            exact Int32.le_of_lt (Int32.not_le.mp hm)
          · refine ⟨g, by omega, hg, hl, hs, Int32.not_lt.mp hp, ?_⟩
            rw [sA_at, updA_at]
    · exact triv
theorem moA_c {sm : Nat → Int64} {m m' : Nat → Int32} {i : Nat} {v : Int32} (h : ∀ a, a < i → m' a = m a) (k : moA sm m i v) : moA sm m' i v := by
  intro h0
  obtain ⟨g, g1, g2, g3, g4, g5, g6⟩ := k h0
  have hx := sub_lt g2 (by omega)
  exact ⟨g, g1, g2, g3, g4, by rw [h _ hx]; exact g5, by rw [h _ hx]; exact g6⟩
theorem moR_s (i f g : Nat) (T : MS) : moR i (f + 1) g T = if g = 0 then T else moR i f ((g - 1) &&& i) (moS i g T) := rfl
theorem moR_sp {i : Nat} (hi : i < 1024) : ∀ (f g : Nat) (T : MS), g &&& i = g → fr T (moR i f g T) ∧ (moR i f g T).1 = T.1 ∧ (moR i f g T).2.2.2 = T.2.2.2 ∧ (∀ a, a ≠ i → (moR i f g T).2.2.1 43 a = T.2.2.1 43 a) ∧ (∀ q, q ≠ 43 → (moR i f g T).2.2.1 q = T.2.2.1 q) ∧ T.2.2.1 43 i ≤ (moR i f g T).2.2.1 43 i ∧ (moA (T.2.2.2 42) (T.2.2.1 43) i (T.2.2.1 43 i) → moA (T.2.2.2 42) (T.2.2.1 43) i ((moR i f g T).2.2.1 43 i))
  | 0, g, T, _ => ⟨fr_rfl T, rfl, rfl, fun _ _ => rfl, fun _ _ => rfl, Int32.le_refl _, id⟩
  | f + 1, g, T, hg => by
    rw [moR_s]
    split
    · exact ⟨fr_rfl T, rfl, rfl, fun _ _ => rfl, fun _ _ => rfl, Int32.le_refl _, id⟩
    · next h0 =>
      obtain ⟨a1, a2, a3, a4, a4', a5, a6⟩ := moS_sp (T := T) hi hg h0
      obtain ⟨b1, b2, b3, b4, b4', b5, b6⟩ := moR_sp hi f ((g - 1) &&& i) (moS i g T) (by rw [Nat.and_assoc, Nat.and_self])
      refine ⟨fr_tr a1 b1, b2.trans a2, b3.trans a3, fun a ha => (b4 a ha).trans (a4 a ha), fun q hq => (b4' q hq).trans (a4' q hq), Int32.le_trans a5 b5, fun h => ?_⟩
      have h1 := b6 (moA_c (fun a ha => a4 a (by omega)) (by rw [a3]; exact a6 h))
      rw [a3] at h1
      exact moA_c (fun a ha => (a4 a (by omega)).symm) h1
theorem low_self : ∀ i, i < 1024 → 0 < i → ¬ (nI i &&& (nI i &&& -nI i)) = 0 := by decide +kernel
theorem moR_1 {i : Nat} (hi : i < 1024) (h0 : 0 < i) (f : Nat) (T : MS) (hs : T.2.2.2 42 i = 0) (h1 : T.2.2.1 43 0 = 0) (h2 : T.2.2.1 43 i = -1) : 1 ≤ (moR i (f + 1) i T).2.2.1 43 i := by
  rw [moR_s, if_neg (by omega)]
  obtain ⟨b1, b2, b3, b4, b4', b5, b6⟩ := moR_sp hi f ((i - 1) &&& i) (moS i i T) (by rw [Nat.and_assoc, Nat.and_self])
  refine Int32.le_trans ?_ b5
  unfold moS
  rw [if_neg (low_self i hi h0), if_pos hs, nI_xor, Nat.xor_self, show (nI 0).toNatClampNeg = 0 from by decide, h1, h2, if_neg (by decide), if_neg (by decide), sA_at, updA_at]
  decide
/-- the first n sets are counted -/
theorem moO_sp (S : MS) : ∀ n, n < 1024 → fr S (moO S n) ∧ (moO S n).1 = S.1 ∧ (moO S n).2.2.2 = S.2.2.2 ∧ (∀ q, q ≠ 43 → (moO S n).2.2.1 q = S.2.2.1 q) ∧ (moO S n).2.2.1 43 0 = 0 ∧ ∀ a, 0 < a → a ≤ n → moA (S.2.2.2 42) ((moO S n).2.2.1 43) a ((moO S n).2.2.1 43 a) ∧ (S.2.2.2 42 a = 0 → 1 ≤ (moO S n).2.2.1 43 a)
  | 0, _ => ⟨fr_sA (Or.inl rfl), rfl, rfl, fun q hq => if_neg hq, by show (sA S 43 0 0).2.2.1 43 0 = 0; rw [sA_at, updA_at], fun a h1 h2 => absurd h1 (by omega)⟩
  | n + 1, hn => by
    obtain ⟨h1, h2, h3, h3', h4, h5⟩ := moO_sp S n (by omega)
    have e : moO S (n + 1) = moR (n + 1) 1024 (n + 1) (sA (moO S n) 43 (n + 1) (-1)) := rfl
    obtain ⟨b1, b2, b3, b4, b4', b5, b6⟩ := moR_sp (i := n + 1) hn 1024 (n + 1) (sA (moO S n) 43 (n + 1) (-1)) (Nat.and_self _)
    have c1 : ∀ a, a ≠ n + 1 → (sA (moO S n) 43 (n + 1) (-1)).2.2.1 43 a = (moO S n).2.2.1 43 a := fun a ha => by rw [sA_at, updA_ne _ _ ha]
    have c2 : (sA (moO S n) 43 (n + 1) (-1)).2.2.1 43 (n + 1) = -1 := by rw [sA_at, updA_at]
    have c3 : (sA (moO S n) 43 (n + 1) (-1)).2.2.2 = S.2.2.2 := h3
    have d1 : ∀ a, a ≠ n + 1 → (moO S (n + 1)).2.2.1 43 a = (moO S n).2.2.1 43 a := fun a ha => by rw [e, b4 a ha, c1 a ha]
    refine ⟨?_, ?_, ?_, ?_, ?_, ?_⟩
    · rw [e]; exact fr_tr h1 (fr_tr (fr_sA (Or.inl rfl)) b1)
    · rw [e, b2]; exact h2
    · rw [e, b3]; exact h3
    · intro q hq; rw [e, b4' q hq]; exact (if_neg hq).trans (h3' q hq)
    · rw [d1 0 (by omega)]; exact h4
    · intro a ha hle
      by_cases ea : a = n + 1
      · subst ea
        refine ⟨?_, fun hs => ?_⟩
        · have k := b6 (by rw [c2]; intro h; exact absurd h (by decide))
          rw [c3] at k
          refine moA_c (fun q hq => ?_) (by rw [e]; exact k)
          rw [d1 q (by omega), c1 q (by omega)]
        · rw [e]
          exact moR_1 hn ha 1023 _ (by rw [c3]; exact hs) (by rw [c1 0 (by omega)]; exact h4) c2
      · obtain ⟨k1, k2⟩ := h5 a ha (by omega)
        rw [d1 a ea]
        exact ⟨moA_c (fun q hq => d1 q (by omega)) k1, k2⟩
