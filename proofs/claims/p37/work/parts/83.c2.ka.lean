/-! the subsets of a set, gone through downwards; the most groups of a set is the most over all first groups -/
theorem sub_nx : ∀ (i g x : Nat), g &&& i = g → x &&& i = x → x < g → x ≤ (g - 1) &&& i := by
  intro i
  induction i using Nat.strongRecOn with
  | _ i ih =>
    intro g x hg hx hlt
    have hi0 : 0 < i := by
      have := sub_le hg
      omega
    have hg2 : (g / 2) &&& (i / 2) = g / 2 := by rw [← Nat.and_div_two, hg]
    have hx2 : (x / 2) &&& (i / 2) = x / 2 := by rw [← Nat.and_div_two, hx]
    have hxm : (x % 2) &&& (i % 2) = x % 2 := by
      have := congrArg (· % 2) hx
      simpa [Nat.and_mod_two_pow (n := 1)] using this
    have d2 : ((g - 1) &&& i) / 2 = ((g - 1) / 2) &&& (i / 2) := Nat.and_div_two
    have m2 : ((g - 1) &&& i) % 2 = ((g - 1) % 2) &&& (i % 2) := by
      have := Nat.and_mod_two_pow (a := g - 1) (b := i) (n := 1)
      simpa using this
    rcases Nat.mod_two_eq_zero_or_one g with c | c
    · have e1 : (g - 1) / 2 = g / 2 - 1 := by omega
      have e2 : (g - 1) % 2 = 1 := by omega
      have := ih (i / 2) (by omega) (g / 2) (x / 2) hg2 hx2 (by omega)
      rw [e1] at d2
      rw [e2] at m2
      have hb : x % 2 ≤ 1 &&& (i % 2) := by
        rcases Nat.mod_two_eq_zero_or_one i with q | q <;> rcases Nat.mod_two_eq_zero_or_one x with r | r <;> rw [q, r] at hxm <;> rw [q, r] <;> revert hxm <;> decide
      omega
    · have e1 : (g - 1) / 2 = g / 2 := by omega
      rw [e1, hg2] at d2
      omega
abbrev moC (sm : Nat → Int64) (m : Nat → Int32) (i : Nat) (v : Int32) (g : Nat) : Prop := g &&& i = g → g ≠ 0 → ¬ (nI g &&& (nI i &&& -nI i)) = 0 → sm g = 0 → 0 ≤ m (i ^^^ g) → m (i ^^^ g) + 1 ≤ v
theorem moS_C {i g : Nat} {T : MS} (hi : i < 1024) (hg : g &&& i = g) (h0 : g ≠ 0) : moC (T.2.2.2 42) (T.2.2.1 43) i ((moS i g T).2.2.1 43 i) g := by
  intro _ _ hl hs hp
  have hx : (nI i ^^^ nI g).toNatClampNeg = i ^^^ g := by
    rw [nI_xor, nI_clamp]
    have := sub_lt hg h0
    omega
  unfold moS
  rw [hx, if_neg hl, if_pos hs, if_neg (Int32.not_lt.mpr hp)]
  split
  · next h => exact h
  · rw [sA_at, updA_at]
    exact Int32.le_refl _
theorem moR_C {i : Nat} (hi : i < 1024) : ∀ (f g : Nat) (T : MS), g &&& i = g → g ≤ f → ∀ x, x ≤ g → moC (T.2.2.2 42) (T.2.2.1 43) i ((moR i f g T).2.2.1 43 i) x
  | 0, g, T, _, hf, x, hx => fun _ h0 => absurd h0 (by omega)
  | f + 1, g, T, hg, hf, x, hx => by
    intro hs h0 hl hz hp
    rw [moR_s, if_neg (by omega)]
    obtain ⟨a1, a2, a3, a4, a4', a5, a6⟩ := moS_sp (T := T) hi hg (by omega)
    obtain ⟨b1, b2, b3, b4, b4', b5, b6⟩ := moR_sp hi f ((g - 1) &&& i) (moS i g T) (by rw [Nat.and_assoc, Nat.and_self])
    by_cases e : x = g
    · subst e
      exact Int32.le_trans (moS_C hi hg h0 hs h0 hl hz hp) b5
    · have hn := sub_nx i g x hg hs (by omega)
      have hle : (g - 1) &&& i ≤ f := Nat.le_trans Nat.and_le_left (by omega)
      have hxi : i ^^^ x ≠ i := by
        have := sub_lt hs h0
        omega
      have k := moR_C hi f ((g - 1) &&& i) (moS i g T) (by rw [Nat.and_assoc, Nat.and_self]) hle x hn hs h0 hl (by rw [a3]; exact hz) (by rw [a4 _ hxi]; exact hp)
      rw [a4 _ hxi] at k
      exact k
theorem moO_C (S : MS) : ∀ n, n < 1024 → ∀ a, 0 < a → a ≤ n → ∀ x, moC (S.2.2.2 42) ((moO S n).2.2.1 43) a ((moO S n).2.2.1 43 a) x
  | 0, _, a, h1, h2, _ => absurd h1 (by omega)
  | n + 1, hn, a, h1, h2, x => by
    intro hs h0 hl hz hp
    have e : moO S (n + 1) = moR (n + 1) 1024 (n + 1) (sA (moO S n) 43 (n + 1) (-1)) := rfl
    obtain ⟨k1, k2, k3, k3', k4, k5⟩ := moO_sp S n (by omega)
    obtain ⟨b1, b2, b3, b4, b4', b5, b6⟩ := moR_sp (i := n + 1) hn 1024 (n + 1) (sA (moO S n) 43 (n + 1) (-1)) (Nat.and_self _)
    have c1 : ∀ a, a ≠ n + 1 → (sA (moO S n) 43 (n + 1) (-1)).2.2.1 43 a = (moO S n).2.2.1 43 a := fun a ha => by rw [sA_at, updA_ne _ _ ha]
    have c3 : (sA (moO S n) 43 (n + 1) (-1)).2.2.2 = S.2.2.2 := k3
    have d1 : ∀ a, a ≠ n + 1 → (moO S (n + 1)).2.2.1 43 a = (moO S n).2.2.1 43 a := fun a ha => by rw [e, b4 a ha, c1 a ha]
    have hxa : a ^^^ x < a := sub_lt hs h0
    by_cases ea : a = n + 1
    · subst ea
      have k := moR_C hn 1024 (n + 1) (sA (moO S n) 43 (n + 1) (-1)) (Nat.and_self _) (by omega) x (sub_le hs) hs h0 hl (by rw [c3]; exact hz)
      rw [← e, c1 _ (by omega), ← d1 _ (by omega)] at k
      exact k hp
    · have k := moO_C S n (by omega) a h1 (by omega) x hs h0 hl hz
      rw [← d1 _ ea, ← d1 _ (by omega)] at k
      exact k hp
/-! the class: nets, the set of all that are not even, the sums of the sets -/
theorem rnF_sp (T : MS) : ∀ i, (rnF T i).1 = T.1 ∧ (rnF T i).2.1 = T.2.1 ∧ (rnF T i).2.2.1 = T.2.2.1 ∧ (∀ q, q ≠ 42 → (rnF T i).2.2.2 q = T.2.2.2 q) ∧ ∀ j, (rnF T i).2.2.2 42 j = if j < i then cnetT T (nI j) 10 else T.2.2.2 42 j
  | 0 => ⟨rfl, rfl, rfl, fun _ _ => rfl, fun j => by rw [if_neg (Nat.not_lt_zero j)]; rfl⟩
  | i + 1 => by
    obtain ⟨h1, h2, h3, h4, h5⟩ := rnF_sp T i
    have hc : ∀ x n, cnetT (rnF T i) x n = cnetT T x n := by
      intro x n
      induction n with
      | zero => rfl
      | succ n ih =>
        show cnetT (rnF T i) x n + ((rnF T i).2.2.2 (100 + n) _ - (rnF T i).2.2.2 (100 + x.toNatClampNeg) n) = cnetT T x n + (T.2.2.2 (100 + n) _ - T.2.2.2 (100 + x.toNatClampNeg) n)
        rw [ih, h4 _ (by omega), h4 _ (by omega)]
    refine ⟨h1, h2, h3, fun q hq => (if_neg hq).trans (h4 q hq), fun j => ?_⟩
    show (sB (rnF T i) 42 i (cnetT (rnF T i) (nI i) 10)).2.2.2 42 j = _
    rw [sB_at, hc]
    by_cases e : j = i
    · subst e
      rw [updL_at, if_pos (Nat.lt_succ_self _)]
    · rw [updL_ne _ _ e, h5]
      by_cases hj : j < i
      · rw [if_pos hj, if_pos (by omega)]
      · rw [if_neg hj, if_neg (by omega)]
theorem rnA_eq (T : MS) : ∀ n, n ≤ 10 → rnA T n = nI (anN (fun j => cnetT T (nI j) 10) n)
  | 0, _ => rfl
  | n + 1, hn => by
    obtain ⟨h1, h2, h3, h4, h5⟩ := rnF_sp T (n + 1)
    show (if (rnF T (n + 1)).2.2.2 42 n = 0 then rnA T n else rnA T n ||| bt1 n) = nI (anN (fun j => cnetT T (nI j) 10) n ||| (if cnetT T (nI n) 10 = 0 then 0 else 2 ^ n))
    rw [h5, if_pos (Nat.lt_succ_self n), rnA_eq T n (by omega)]
    split
    · rw [Nat.or_zero]
    · rw [show bt1 n = nI (2 ^ n) from bit10 n (by omega), nI_or]
theorem p10 : ∀ h, h < 10 → 2 ^ h ≤ 512 := by decide
theorem sgL_bit (f : Nat → Int64) {s j : Nat} (hs : s < 1024) (hj : j < 10) : sgL f s (j + 1) = sgL f s j + (if s.testBit j = true then f j else 0) := by
  show sgL f s j + (if ((nI s >>> (nI j &&& 31)) &&& 1) = 1 then f j else 0) = _
  congr 1
  by_cases h : s.testBit j = true
  · rw [if_pos h, if_pos ((tbit s hs j hj).mpr h)]
  · rw [if_neg h, if_neg (fun q => h ((tbit s hs j hj).mp q))]
theorem sgL_lo (f : Nat → Int64) {s h : Nat} (hh : h < 10) (hs : s < 2 ^ h) : ∀ n, n ≤ h → sgL f (s + 2 ^ h) n = sgL f s n
  | 0, _ => rfl
  | n + 1, hn => by
    have := p10 h hh
    rw [sgL_bit f (by omega) (by omega), sgL_bit f (by omega) (by omega), sgL_lo f hh hs n (by omega), Nat.add_comm s, Nat.testBit_two_pow_add_gt (by omega)]
theorem auI_sp (T : MS) {h : Nat} (hh : h < 10) : ∀ n, n ≤ 2 ^ h → (auI T h n).1 = T.1 ∧ (auI T h n).2.1 = T.2.1 ∧ (auI T h n).2.2.1 = T.2.2.1 ∧ (∀ q, q ≠ 43 → (auI T h n).2.2.2 q = T.2.2.2 q) ∧ (∀ s, s < 2 ^ h → (auI T h n).2.2.2 43 s = T.2.2.2 43 s) ∧ ∀ s, s < n → (auI T h n).2.2.2 43 (s + 2 ^ h) = T.2.2.2 43 s + T.2.2.2 42 h
  | 0, _ => ⟨rfl, rfl, rfl, fun _ _ => rfl, fun _ _ => rfl, fun s hs => absurd hs (by omega)⟩
  | n + 1, hn => by
    obtain ⟨h1, h2, h3, h4, h5, h6⟩ := auI_sp T hh n (by omega)
    refine ⟨h1, h2, h3, fun q hq => (if_neg hq).trans (h4 q hq), fun s hs => ?_, fun s hs => ?_⟩
    · show (sB (auI T h n) 43 (n + 2 ^ h) _).2.2.2 43 s = _
      rw [sB_at, updL_ne _ _ (by omega)]
      exact h5 s hs
    · show (sB (auI T h n) 43 (n + 2 ^ h) ((auI T h n).2.2.2 43 n + (auI T h n).2.2.2 42 h)).2.2.2 43 (s + 2 ^ h) = _
      rw [sB_at]
      by_cases e : s = n
      · subst e
        rw [updL_at, h5 s (by omega), h4 42 (by decide)]
      · rw [updL_ne _ _ (by omega)]
        exact h6 s (by omega)
theorem auO_sp (T : MS) (h0 : T.2.2.2 43 0 = 0) : ∀ h, h ≤ 10 → (auO T h).1 = T.1 ∧ (auO T h).2.1 = T.2.1 ∧ (auO T h).2.2.1 = T.2.2.1 ∧ (∀ q, q ≠ 43 → (auO T h).2.2.2 q = T.2.2.2 q) ∧ ∀ s, s < 2 ^ h → (auO T h).2.2.2 43 s = sgL (T.2.2.2 42) s h
  | 0, _ => ⟨rfl, rfl, rfl, fun _ _ => rfl, fun s hs => by
      have : s = 0 := by have : 2 ^ 0 = 1 := rfl; omega
      rw [this]; exact h0⟩
  | h + 1, hh => by
    obtain ⟨h1, h2, h3, h4, h5⟩ := auO_sp T h0 h (by omega)
    obtain ⟨k1, k2, k3, k4, k5, k6⟩ := auI_sp (auO T h) (h := h) (by omega) (2 ^ h) (Nat.le_refl _)
    have hp := p10 h (by omega)
    have h2p : 2 ^ (h + 1) = 2 ^ h + 2 ^ h := by rw [Nat.pow_succ]; omega
    refine ⟨k1.trans h1, k2.trans h2, k3.trans h3, fun q hq => (k4 q hq).trans (h4 q hq), fun s hs => ?_⟩
    show (auI (auO T h) h (2 ^ h)).2.2.2 43 s = _
    rw [sgL_bit _ (by omega) (by omega)]
    by_cases e : s < 2 ^ h
    · rw [k5 s e, h5 s e, Nat.testBit_lt_two_pow e, if_neg (by decide), Int64.add_zero]
    · have e1 : s = (s - 2 ^ h) + 2 ^ h := by omega
      have e2 : s.testBit h = true := by
        rw [e1, Nat.add_comm, Nat.testBit_two_pow_add_eq, Nat.testBit_lt_two_pow (by omega)]
        rfl
      rw [if_pos e2, e1, k6 _ (by omega), h5 _ (by omega), sgL_lo _ (by omega) (by omega) h (Nat.le_refl _), h4 42 (by decide)]
/-! the list of the sets that are even -/
abbrev sl (T : MS) (i : Nat) : Nat := (T.2.2.1 44 i).toNatClampNeg
def LSv (T : MS) (A : Nat) (sm : Nat → Int64) (n c : Nat) : Prop := T.1 49 = nI c ∧ c ≤ n ∧ (∀ i, i < c → T.2.2.1 44 i = nI (sl T i) ∧ 1 ≤ sl T i ∧ sl T i ≤ n ∧ sl T i &&& A = sl T i ∧ sm (sl T i) = 0) ∧ (∀ i j, i < j → j < c → sl T i < sl T j) ∧ ∀ x, 1 ≤ x → x ≤ n → x &&& A = x → sm x = 0 → ∃ i, i < c ∧ sl T i = x
theorem lzR_sp (T : MS) {A : Nat} (hA : A < 1024) : ∀ n, n < 1024 → (∀ j, j ≠ 49 → (lzR T A n).1 j = T.1 j) ∧ (lzR T A n).2.1 = T.2.1 ∧ (∀ q, q ≠ 44 → (lzR T A n).2.2.1 q = T.2.2.1 q) ∧ (lzR T A n).2.2.2 = T.2.2.2 ∧ ∃ c, LSv (lzR T A n) A (T.2.2.2 43) n c
  | 0, _ => ⟨fun j hj => if_neg hj, rfl, fun _ _ => rfl, rfl, 0, rfl, Nat.le_refl 0, fun i hi => absurd hi (Nat.not_lt_zero i), fun i j _ hj => absurd hj (Nat.not_lt_zero j), fun x h1 h2 => absurd h1 (by omega)⟩
  | n + 1, hn => by
    obtain ⟨h1, h2, h3, h4, c, l1, l2, l3, l4, l5⟩ := lzR_sp T hA n (by omega)
    have hb : (nI (n + 1) &&& nI A = nI (n + 1)) ↔ (n + 1) &&& A = n + 1 := by
      rw [nI_and, nI_eq (Nat.lt_of_le_of_lt Nat.and_le_right (by omega)) (by omega)]
    show (∀ j, j ≠ 49 → (if lzP (lzR T A n) A (n + 1) then lzS (lzR T A n) (n + 1) else lzR T A n).1 j = T.1 j) ∧ (if lzP (lzR T A n) A (n + 1) then lzS (lzR T A n) (n + 1) else lzR T A n).2.1 = T.2.1 ∧ (∀ q, q ≠ 44 → (if lzP (lzR T A n) A (n + 1) then lzS (lzR T A n) (n + 1) else lzR T A n).2.2.1 q = T.2.2.1 q) ∧ (if lzP (lzR T A n) A (n + 1) then lzS (lzR T A n) (n + 1) else lzR T A n).2.2.2 = T.2.2.2 ∧ ∃ c, LSv (if lzP (lzR T A n) A (n + 1) then lzS (lzR T A n) (n + 1) else lzR T A n) A (T.2.2.2 43) (n + 1) c
    generalize lzR T A n = V at *
    by_cases hp : lzP V A (n + 1)
    · rw [if_pos hp]
      have hc : (V.1 49).toNatClampNeg = c := by rw [l1, nI_clamp (by omega)]
      have a1 : (lzS V (n + 1)).2.2.1 44 = upd (V.2.2.1 44) c (nI (n + 1)) := by
        show (sA V 44 (V.1 49).toNatClampNeg (nI (n + 1))).2.2.1 44 = _
        rw [sA_at, hc]
      have a2 : ∀ i, i < c → sl (lzS V (n + 1)) i = sl V i := by
        intro i hi
        show ((lzS V (n + 1)).2.2.1 44 i).toNatClampNeg = _
        rw [a1, updA_ne _ _ (by omega)]
      have a3 : sl (lzS V (n + 1)) c = n + 1 := by
        show ((lzS V (n + 1)).2.2.1 44 c).toNatClampNeg = _
        rw [a1, updA_at, nI_clamp (by omega)]
      refine ⟨fun j hj => (if_neg hj).trans (h1 j hj), h2, fun q hq => (if_neg hq).trans (h3 q hq), h4, c + 1, ?_, by omega, ?_, ?_, ?_⟩
      · show V.1 49 + 1 = nI (c + 1)
        rw [l1, nI_1]
      · intro i hi
        by_cases e : i = c
        · subst e
          rw [a3, a1, updA_at]
          exact ⟨rfl, by omega, Nat.le_refl _, hb.mp hp.1, by rw [← h4]; exact hp.2⟩
        · rw [a2 i (by omega), a1, updA_ne _ _ e]
          obtain ⟨p1, p2, p3, p4, p5⟩ := l3 i (by omega)
          exact ⟨p1, p2, by omega, p4, p5⟩
      · intro i j hij hj
        by_cases e : j = c
        · subst e
          rw [a3, a2 i hij]
          have := (l3 i hij).2.2.1
          omega
        · rw [a2 i (by omega), a2 j (by omega)]
          exact l4 i j hij (by omega)
      · intro x x1 x2 x3 x4
        by_cases e : x = n + 1
        · exact ⟨c, by omega, by rw [a3, e]⟩
        · obtain ⟨i, i1, i2⟩ := l5 x x1 (by omega) x3 x4
          exact ⟨i, by omega, by rw [a2 i i1, i2]⟩
    · rw [if_neg hp]
      refine ⟨h1, h2, h3, h4, c, l1, by omega, fun i hi => ?_, l4, fun x x1 x2 x3 x4 => ?_⟩
      · obtain ⟨p1, p2, p3, p4, p5⟩ := l3 i hi
        exact ⟨p1, p2, by omega, p4, p5⟩
      · by_cases e : x = n + 1
        · subst e
          exact absurd ⟨hb.mpr x3, by rw [h4]; exact x4⟩ hp
        · exact l5 x x1 (by omega) x3 x4
/-! the class's counts are the reference's -/
def MO3 (sm : Nat → Int64) (m : Nat → Int32) : Prop := (∀ a g, a < 1024 → g &&& a = g → sm a = 0 → sm g = 0 → sm (a ^^^ g) = 0) ∧ m 0 = 0 ∧ (∀ a, 0 < a → a < 1024 → moA sm m a (m a)) ∧ (∀ a, 0 < a → a < 1024 → sm a = 0 → 1 ≤ m a) ∧ ∀ a, 0 < a → a < 1024 → ∀ x, moC sm m a (m a) x
theorem mbf_iff {g w : Nat} (hg : g < 1024) (hw : w < 1024) : mbf (nI g) (nI w) ↔ (g &&& w = g ∧ ¬ (nI g &&& (nI w &&& -nI w)) = 0) := by
  show (nI g &&& nI w = nI g ∧ ¬ nI g &&& (nI w &&& -nI w) = 0) ↔ _
  rw [nI_and, nI_eq (Nat.lt_of_le_of_lt Nat.and_le_left (by omega)) (by omega)]
theorem cgI_le (T : MS) (w : Int32) : ∀ n, 1 ≤ cgI T w n
  | 0 => by show (1 : Int32) ≤ 1; decide
  | n + 1 => by
    have := cgI_le T w n
    show 1 ≤ (if mbf (T.2.2.1 44 n) w then (if cgI T w n < 1 + T.2.2.1 45 (w ^^^ T.2.2.1 44 n).toNatClampNeg then 1 + T.2.2.1 45 (w ^^^ T.2.2.1 44 n).toNatClampNeg else cgI T w n) else cgI T w n)
    split
    · split
      · next h => exact Int32.le_trans this (Int32.le_of_lt h)
      · exact this
    · exact this
theorem cgI_up (T : MS) (w : Int32) : ∀ n j, j < n → mbf (T.2.2.1 44 j) w → 1 + T.2.2.1 45 (w ^^^ T.2.2.1 44 j).toNatClampNeg ≤ cgI T w n
  | 0, j, hj, _ => absurd hj (Nat.not_lt_zero j)
  | n + 1, j, hj, hm => by
    show _ ≤ (if mbf (T.2.2.1 44 n) w then (if cgI T w n < 1 + T.2.2.1 45 (w ^^^ T.2.2.1 44 n).toNatClampNeg then 1 + T.2.2.1 45 (w ^^^ T.2.2.1 44 n).toNatClampNeg else cgI T w n) else cgI T w n)
    by_cases e : j = n
    · subst e
      rw [if_pos hm]
      split
      · exact Int32.le_refl _
      · next h => exact Int32.not_lt.mp h
    · have := cgI_up T w n j (by omega) hm
      split
      · split
        · next h => exact Int32.le_trans this (Int32.le_of_lt h)
        · exact this
      · exact this
theorem cgI_ex (T : MS) (w : Int32) : ∀ n, cgI T w n = 1 ∨ ∃ j, j < n ∧ mbf (T.2.2.1 44 j) w ∧ cgI T w n = 1 + T.2.2.1 45 (w ^^^ T.2.2.1 44 j).toNatClampNeg
  | 0 => Or.inl rfl
  | n + 1 => by
    have ih := cgI_ex T w n
    have ih' : cgI T w n = 1 ∨ ∃ j, j < n + 1 ∧ mbf (T.2.2.1 44 j) w ∧ cgI T w n = 1 + T.2.2.1 45 (w ^^^ T.2.2.1 44 j).toNatClampNeg := by
      rcases ih with h | ⟨j, a, b, c⟩
      · exact Or.inl h
      · exact Or.inr ⟨j, by omega, b, c⟩
    show (if mbf (T.2.2.1 44 n) w then (if cgI T w n < 1 + T.2.2.1 45 (w ^^^ T.2.2.1 44 n).toNatClampNeg then 1 + T.2.2.1 45 (w ^^^ T.2.2.1 44 n).toNatClampNeg else cgI T w n) else cgI T w n) = 1 ∨ ∃ j, j < n + 1 ∧ mbf (T.2.2.1 44 j) w ∧ (if mbf (T.2.2.1 44 n) w then (if cgI T w n < 1 + T.2.2.1 45 (w ^^^ T.2.2.1 44 n).toNatClampNeg then 1 + T.2.2.1 45 (w ^^^ T.2.2.1 44 n).toNatClampNeg else cgI T w n) else cgI T w n) = 1 + T.2.2.1 45 (w ^^^ T.2.2.1 44 j).toNatClampNeg
    by_cases h1 : mbf (T.2.2.1 44 n) w
    · rw [if_pos h1]
      by_cases h2 : cgI T w n < 1 + T.2.2.1 45 (w ^^^ T.2.2.1 44 n).toNatClampNeg
      · rw [if_pos h2]
        exact Or.inr ⟨n, by omega, h1, rfl⟩
      · rw [if_neg h2]
        exact ih'
    · rw [if_neg h1]
      exact ih'
theorem LS_c {T V : MS} {A n c : Nat} {sm : Nat → Int64} (h49 : V.1 49 = T.1 49) (h44 : V.2.2.1 44 = T.2.2.1 44) (h : LSv T A sm n c) : LSv V A sm n c := by
  have e : ∀ i, sl V i = sl T i := fun i => by show (V.2.2.1 44 i).toNatClampNeg = _; rw [h44]
  obtain ⟨l1, l2, l3, l4, l5⟩ := h
  refine ⟨h49.trans l1, l2, fun i hi => ?_, fun i j hij hj => ?_, fun x a b d f => ?_⟩
  · rw [e, h44]; exact l3 i hi
  · rw [e, e]; exact l4 i j hij hj
  · obtain ⟨i, p, q⟩ := l5 x a b d f
    exact ⟨i, p, by rw [e]; exact q⟩
/-- a set and a part of it: what is left is among the earlier ones, or nothing -/
theorem LS_x {T : MS} {A c w : Nat} {sm : Nat → Int64} {m : Nat → Int32} (hA : A < 1024) (hO : MO3 sm m) (hL : LSv T A sm A c) (hwA : w &&& A = w) (hw0 : sm w = 0) {j : Nat} (hj : j < c) (hs : sl T j &&& w = sl T j) : (w ^^^ sl T j) &&& A = w ^^^ sl T j ∧ sm (w ^^^ sl T j) = 0 ∧ w ^^^ sl T j < w := by
  obtain ⟨l1, l2, l3, l4, l5⟩ := hL
  obtain ⟨p1, p2, p3, p4, p5⟩ := l3 j hj
  have hwA' := sub_le hwA
  refine ⟨?_, hO.1 w _ (by omega) hs hw0 p5, sub_lt hs (by omega)⟩
  have := sub_xor hs
  rw [← this, Nat.and_assoc, hwA]
theorem cgO_sp {T : MS} {A C : Nat} {sm : Nat → Int64} {m : Nat → Int32} (hA : A < 1024) (hO : MO3 sm m) (hL : LSv T A sm A C) (h45 : T.2.2.1 45 0 = 0) : ∀ n, n ≤ C → (cgO T n).1 = T.1 ∧ (cgO T n).2.1 = T.2.1 ∧ (∀ q, q ≠ 45 → (cgO T n).2.2.1 q = T.2.2.1 q) ∧ (cgO T n).2.2.2 = T.2.2.2 ∧ (cgO T n).2.2.1 45 0 = 0 ∧ ∀ i, i < n → (cgO T n).2.2.1 45 (sl T i) = m (sl T i)
  | 0, _ => ⟨rfl, rfl, fun _ _ => rfl, rfl, h45, fun i hi => absurd hi (Nat.not_lt_zero i)⟩
  | n + 1, hn => by
    obtain ⟨h1, h2, h3, h4, h5, h6⟩ := cgO_sp hA hO hL h45 n (by omega)
    have hLS := hL
    obtain ⟨l1, l2, l3, l4, l5⟩ := hL
    obtain ⟨p1, p2, p3, p4, p5⟩ := l3 n (by omega)
    have e : cgO T (n + 1) = sA (cgO T n) 45 ((cgO T n).2.2.1 44 n).toNatClampNeg (cgI (cgO T n) ((cgO T n).2.2.1 44 n) n) := rfl
    rw [e]
    clear e
    generalize cgO T n = V at *
    have e44 : V.2.2.1 44 = T.2.2.1 44 := h3 44 (by decide)
    have key : cgI V (V.2.2.1 44 n) n = m (sl T n) := by
      rw [e44, p1]
      have hx : ∀ j, j < n → (nI (sl T n) ^^^ V.2.2.1 44 j).toNatClampNeg = sl T n ^^^ sl T j := by
        intro j hj
        have q := l3 j (by omega)
        rw [e44, q.1, nI_xor, nI_clamp]
        have : sl T n ^^^ sl T j < 1024 := Nat.xor_lt_two_pow (n := 10) (by omega) (by omega)
        omega
      have hmb : ∀ j, j < n → (mbf (V.2.2.1 44 j) (nI (sl T n)) ↔ (sl T j &&& sl T n = sl T j ∧ ¬ (nI (sl T j) &&& (nI (sl T n) &&& -nI (sl T n))) = 0)) := by
        intro j hj
        have q := l3 j (by omega)
        rw [e44, q.1]
        exact mbf_iff (by omega) (by omega)
      have hval : ∀ j, j < n → sl T j &&& sl T n = sl T j → V.2.2.1 45 (sl T n ^^^ sl T j) = m (sl T n ^^^ sl T j) ∧ 0 ≤ m (sl T n ^^^ sl T j) := by
        intro j hj hs
        obtain ⟨x1, x2, x3⟩ := LS_x hA hO hLS p4 p5 (by omega) hs
        have hne : sl T n ^^^ sl T j ≠ 0 := by
          intro q
          have h3 : sl T n ^^^ (sl T n ^^^ sl T j) = sl T j := by rw [← Nat.xor_assoc, Nat.xor_self, Nat.zero_xor]
          rw [q, Nat.xor_zero] at h3
          have := l4 j n hj (by omega)
          omega
        obtain ⟨i, i1, i2⟩ := l5 _ (by omega) (by omega) x1 x2
        have hin : i < n := by
          apply Nat.lt_of_not_le
          intro q
          rcases Nat.eq_or_lt_of_le q with q | q
          · subst q; omega
          · have := l4 n i q i1; omega
        refine ⟨by rw [← i2]; exact h6 i hin, ?_⟩
        exact Int32.le_trans (by decide) (hO.2.2.2.1 _ (by omega) (by omega) x2)
      apply Int32.le_antisymm
      · rcases cgI_ex V (nI (sl T n)) n with q | ⟨j, j1, j2, j3⟩
        · rw [q]
          exact hO.2.2.2.1 _ (by omega) (by omega) p5
        · have k := (hmb j j1).mp j2
          obtain ⟨v1, v2⟩ := hval j j1 k.1
          rw [j3, hx j j1, v1, Int32.add_comm]
          have q := l3 j (by omega)
          exact hO.2.2.2.2 _ (by omega) (by omega) _ k.1 (by omega) k.2 q.2.2.2.2 v2
      · have o := hO.2.2.2.1 _ (by omega) (by omega) p5
        obtain ⟨g, g1, g2, g3, g4, g5, g6⟩ := hO.2.2.1 _ (by omega) (by omega) (Int32.le_trans (by decide) o)
        rw [← g6]
        by_cases eg : g = sl T n
        · rw [eg, Nat.xor_self, hO.2.1]
          exact cgI_le _ _ _
        · have gl := sub_le g2
          obtain ⟨j, j1, j2⟩ := l5 g g1 (by omega) (by rw [← g2, Nat.and_assoc, p4]) g4
          have hjn : j < n := by
            apply Nat.lt_of_not_le
            intro q
            rcases Nat.eq_or_lt_of_le q with q | q
            · subst q; omega
            · have := l4 n j q j1; omega
          have hs : sl T j &&& sl T n = sl T j := by rw [j2]; exact g2
          have k := cgI_up V (nI (sl T n)) n j hjn ((hmb j hjn).mpr ⟨hs, by rw [j2]; exact g3⟩)
          rw [hx j hjn, (hval j hjn hs).1, j2, Int32.add_comm] at k
          exact k
    have hix : (V.2.2.1 44 n).toNatClampNeg = sl T n := by rw [e44]
    rw [key, hix]
    refine ⟨h1, h2, fun q hq => (if_neg hq).trans (h3 q hq), h4, ?_, fun i hi => ?_⟩
    · rw [sA_at, updA_ne _ _ (by omega)]
      exact h5
    · rw [sA_at]
      by_cases ei : sl T i = sl T n
      · rw [ei, updA_at]
      · rw [updA_ne _ _ ei]
        refine h6 i ?_
        rcases Nat.lt_or_ge i n with q | q
        · exact q
        · exact absurd (by rw [show i = n by omega]) ei
/-! the next group -/
abbrev gHit (sm : Nat → Int64) (m : Nat → Int32) (al g : Nat) : Prop := g &&& al = g ∧ ¬ (nI g &&& (nI al &&& -nI al)) = 0 ∧ sm g = 0 ∧ m (al ^^^ g) + 1 = m al
theorem fgC_at (T : MS) (r : Int32) : ∀ n i k, i ≤ k → k < i + n → fgP T r k → (∀ j, i ≤ j → j < k → ¬ fgP T r j) → fgC T r n i = T.2.2.1 44 k
  | 0, i, k, h1, h2, _, _ => absurd h2 (by omega)
  | n + 1, i, k, h1, h2, h3, h4 => by
    show (if fgP T r i then T.2.2.1 44 i else fgC T r n (i + 1)) = _
    by_cases e : i = k
    · subst e
      rw [if_pos h3]
    · rw [if_neg (h4 i (Nat.le_refl _) (by omega))]
      exact fgC_at T r n (i + 1) k (by omega) (by omega) h3 (fun j a b => h4 j (by omega) b)
def cT (T : MS) (A C : Nat) (sm : Nat → Int64) (m : Nat → Int32) : Prop := LSv T A sm A C ∧ T.2.2.1 45 0 = 0 ∧ ∀ i, i < C → T.2.2.1 45 (sl T i) = m (sl T i)
theorem cT_v {T : MS} {A C : Nat} {sm : Nat → Int64} {m : Nat → Int32} (hA : A < 1024) (hO : MO3 sm m) (h : cT T A C sm m) {w : Nat} (hw : w &&& A = w) (h0 : sm w = 0) : T.2.2.1 45 w = m w := by
  by_cases e : w = 0
  · rw [e, h.2.1, hO.2.1]
  · have := sub_le hw
    obtain ⟨i, i1, i2⟩ := h.1.2.2.2.2 w (by omega) this hw h0
    rw [← i2]
    exact h.2.2 i i1
theorem fgP_iff {T : MS} {A C : Nat} {sm : Nat → Int64} {m : Nat → Int32} (hA : A < 1024) (hO : MO3 sm m) (h : cT T A C sm m) {al : Nat} (hal : al &&& A = al) (h0 : sm al = 0) {i : Nat} (hi : i < C) : fgP T (nI al) i ↔ gHit sm m al (sl T i) := by
  obtain ⟨p1, p2, p3, p4, p5⟩ := h.1.2.2.1 i hi
  have hle := sub_le hal
  have hx : (nI al ^^^ T.2.2.1 44 i).toNatClampNeg = al ^^^ sl T i := by
    rw [p1, nI_xor, nI_clamp]
    have : al ^^^ sl T i < 1024 := Nat.xor_lt_two_pow (n := 10) (by omega) (by omega)
    omega
  show (mbf (T.2.2.1 44 i) (nI al) ∧ T.2.2.1 45 (nI al ^^^ T.2.2.1 44 i).toNatClampNeg + 1 = T.2.2.1 45 (nI al).toNatClampNeg) ↔ _
  rw [hx, p1, mbf_iff (by omega) (by omega), nI_clamp (by omega), cT_v hA hO h hal h0]
  constructor
  · rintro ⟨⟨a, b⟩, c⟩
    obtain ⟨x1, x2, x3⟩ := LS_x hA hO h.1 hal h0 hi a
    rw [cT_v hA hO h x1 x2] at c
    exact ⟨a, b, p5, c⟩
  · rintro ⟨a, b, c, d⟩
    obtain ⟨x1, x2, x3⟩ := LS_x hA hO h.1 hal h0 hi a
    rw [cT_v hA hO h x1 x2]
    exact ⟨⟨a, b⟩, d⟩
theorem fgC_eq {T : MS} {A C : Nat} {sm : Nat → Int64} {m : Nat → Int32} (hA : A < 1024) (hO : MO3 sm m) (h : cT T A C sm m) {al : Nat} (hal : al &&& A = al) (h0 : sm al = 0) {g : Nat} (hg : 1 ≤ g) (hh : gHit sm m al g) (hl : ∀ j, 1 ≤ j → j < g → ¬ gHit sm m al j) : fgC T (nI al) C 0 = nI g := by
  have hle := sub_le hal
  have hgl := sub_le hh.1
  obtain ⟨k, k1, k2⟩ := h.1.2.2.2.2 g hg (by omega) (by rw [← hh.1, Nat.and_assoc, hal]) hh.2.2.1
  rw [fgC_at T (nI al) C 0 k (by omega) (by omega) ((fgP_iff hA hO h hal h0 k1).mpr (by rw [k2]; exact hh)) (fun j _ hj hp => ?_), (h.1.2.2.1 k k1).1, k2]
  have a := h.1.2.2.2.1 j k hj k1
  have b := (h.1.2.2.1 j (by omega)).2.1
  exact hl (sl T j) b (by omega) ((fgP_iff hA hO h hal h0 (by omega)).mp hp)
/-! the payments of a group -/
theorem tbit2 : ∀ s, s < 1024 → ∀ j, j < 10 → ((((nI s >>> (nI j &&& 31)) &&& 1) = 1) ↔ ¬ (nI s &&& ((1 : Int32) <<< (nI j &&& 31))) = 0) := by decide +kernel
def pmR (T Y : MS) : Prop := T.1 41 = Y.1 46 ∧ (∀ j, j < 10 → T.2.2.2 42 j = Y.2.2.2 50 j) ∧ ∀ j, j < (Y.1 46).toNatClampNeg → T.2.2.1 46 j = Y.2.2.1 47 j ∧ T.2.2.1 47 j = Y.2.2.1 48 j ∧ T.2.2.2 48 j = Y.2.2.2 49 j
theorem ls_eq {T Y : MS} (h : pmR T Y) {g : Nat} (hg : g < 1024) (sg : Int32) : ∀ n i, i + n ≤ 10 → (lsR Y (nI g) sg n i = -1 ∧ lsC T (nI g) sg n i = none) ∨ ∃ q, q < 10 ∧ lsR Y (nI g) sg n i = nI q ∧ lsC T (nI g) sg n i = some q
  | 0, i, _ => Or.inl ⟨rfl, rfl⟩
  | n + 1, i, hi => by
    have e : lsHit Y (nI g) sg i ↔ lsP T (nI g) sg i := by
      show (((nI g >>> (nI i &&& 31)) &&& 1) = 1 ∧ ¬ Y.2.2.2 50 i * sg.toInt64 ≤ 0) ↔ (¬ nI g &&& bt1 i = 0 ∧ 0 < T.2.2.2 42 i * sg.toInt64)
      rw [tbit2 g hg i (by omega), h.2.1 i (by omega), Int64.not_le]
    show ((if lsHit Y (nI g) sg i then nI i else lsR Y (nI g) sg n (i + 1)) = -1 ∧ (if lsP T (nI g) sg i then some i else lsC T (nI g) sg n (i + 1)) = none) ∨ ∃ q, q < 10 ∧ (if lsHit Y (nI g) sg i then nI i else lsR Y (nI g) sg n (i + 1)) = nI q ∧ (if lsP T (nI g) sg i then some i else lsC T (nI g) sg n (i + 1)) = some q
    by_cases hh : lsHit Y (nI g) sg i
    · rw [if_pos hh, if_pos (e.mp hh)]
      exact Or.inr ⟨i, by omega, rfl, rfl⟩
    · rw [if_neg hh, if_neg (fun q => hh (e.mpr q))]
      exact ls_eq h hg sg n (i + 1) (by omega)
abbrev cFr (T V : MS) : Prop := (∀ j, j ≠ 41 → V.1 j = T.1 j) ∧ V.2.1 = T.2.1 ∧ (∀ q, q ≠ 46 → q ≠ 47 → V.2.2.1 q = T.2.2.1 q) ∧ ∀ q, q ≠ 42 → q ≠ 48 → V.2.2.2 q = T.2.2.2 q
theorem pwS_fr (T : MS) (p q : Nat) : cFr T (pwS T p q) := by
  refine ⟨fun j hj => if_neg hj, rfl, fun j h1 h2 => ?_, fun j h1 h2 => ?_⟩
  · exact (if_neg h2).trans (if_neg h1)
  · exact (if_neg h2).trans ((if_neg h1).trans (if_neg h1))
theorem pwR_fr (g : Int32) : ∀ n T, cFr T (pwR g n T)
  | 0, T => ⟨fun _ _ => rfl, rfl, fun _ _ _ => rfl, fun _ _ _ => rfl⟩
  | n + 1, T => by
    have t : cFr T T := ⟨fun _ _ => rfl, rfl, fun _ _ _ => rfl, fun _ _ _ => rfl⟩
    show cFr T (match lsC T g (-1) 10 0, lsC T g 1 10 0 with
      | some p, some q => if T.1 41 < 10 then pwR g n (pwS T p q) else T
      | _, _ => T)
    split
    · next p q _ _ =>
      split
      · obtain ⟨a1, a2, a3, a4⟩ := pwS_fr T p q
        obtain ⟨b1, b2, b3, b4⟩ := pwR_fr g n (pwS T p q)
        exact ⟨fun j h => (b1 j h).trans (a1 j h), b2.trans a2, fun q h1 h2 => (b3 q h1 h2).trans (a3 q h1 h2), fun q h1 h2 => (b4 q h1 h2).trans (a4 q h1 h2)⟩
      · exact t
    · exact t
theorem poR_45 (st : Int32) : ∀ f T, (poR st f T).2.2.1 45 = T.2.2.1 45 ∧ (poR st f T).1 44 = T.1 44
  | 0, T => ⟨rfl, rfl⟩
  | f + 1, T => by
    show (if poF st T < 0 then T else poR st f (poS st T)).2.2.1 45 = T.2.2.1 45 ∧ (if poF st T < 0 then T else poR st f (poS st T)).1 44 = T.1 44
    split
    · exact ⟨rfl, rfl⟩
    · obtain ⟨a, b⟩ := poR_45 st f (poS st T)
      exact ⟨a.trans rfl, b.trans rfl⟩
theorem pw_step {T Y : MS} (h : pmR T Y) {g p q : Nat} (hp : p < 10) (hq : q < 10) (h1 : poF (nI g) Y = nI p) (h2 : poT (nI g) Y = nI q) (h46 : vp_in (Y.1 46) 10) : pmR (pwS T p q) (poS (nI g) Y) := by
  obtain ⟨c, hc, ec⟩ := vp_in_of h46 (by decide)
  obtain ⟨e1, e2, e3⟩ := h
  have hv : poV (nI g) Y = pwV T p q := by
    unfold poV
    rw [h1, h2, nI_clamp (by omega), nI_clamp (by omega), ← e2 p hp, ← e2 q hq]
  have c1 : (T.1 41).toNatClampNeg = c := by rw [e1, ec, nI_clamp (by omega)]
  have c2 : (Y.1 46).toNatClampNeg = c := by rw [ec, nI_clamp (by omega)]
  have k46 : (poS (nI g) Y).1 46 = nI (c + 1) := by
    show Y.1 46 + 1 = _
    rw [ec, nI_1]
  refine ⟨?_, fun j hj => ?_, fun j hj => ?_⟩
  · rw [k46]
    show T.1 41 + 1 = _
    rw [e1, ec, nI_1]
  · show (sB (sB T 42 p (T.2.2.2 42 p + pwV T p q)) 42 q ((sB T 42 p (T.2.2.2 42 p + pwV T p q)).2.2.2 42 q - pwV T p q)).2.2.2 42 j = (sB (po3 (nI g) Y) 50 (poT (nI g) Y).toNatClampNeg ((po3 (nI g) Y).2.2.2 50 (poT (nI g) Y).toNatClampNeg - poV (nI g) Y)).2.2.2 50 j
    have k50 : (po3 (nI g) Y).2.2.2 50 = vp_updL (Y.2.2.2 50) p (Y.2.2.2 50 p + pwV T p q) := by
      show (sB (po2 (nI g) Y) 50 (poF (nI g) Y).toNatClampNeg ((po2 (nI g) Y).2.2.2 50 (poF (nI g) Y).toNatClampNeg + poV (nI g) Y)).2.2.2 50 = _
      rw [sB_at, h1, nI_clamp (by omega), hv]
      rfl
    rw [sB_at, sB_at, sB_at, k50, h2, nI_clamp (by omega), hv]
    have hf : ∀ k, k < 10 → vp_updL (T.2.2.2 42) p (T.2.2.2 42 p + pwV T p q) k = vp_updL (Y.2.2.2 50) p (Y.2.2.2 50 p + pwV T p q) k := by
      intro k hk
      by_cases e : k = p
      · rw [e, updL_at, updL_at, e2 p hp]
      · rw [updL_ne _ _ e, updL_ne _ _ e, e2 k hk]
    by_cases e : j = q
    · rw [e, updL_at, updL_at, hf q hq]
    · rw [updL_ne _ _ e, updL_ne _ _ e, hf j hj]
  · rw [k46, nI_clamp (by omega)] at hj
    have a1 : (pwS T p q).2.2.1 46 = upd (T.2.2.1 46) c (nI p) := by
      show upd (T.2.2.1 46) (T.1 41).toNatClampNeg (nI p) = _
      rw [c1]
    have a2 : (pwS T p q).2.2.1 47 = upd (T.2.2.1 47) c (nI q) := by
      show upd (T.2.2.1 47) (T.1 41).toNatClampNeg (nI q) = _
      rw [c1]
    have a3 : (pwS T p q).2.2.2 48 = vp_updL (T.2.2.2 48) c (pwV T p q) := by
      show vp_updL (T.2.2.2 48) (T.1 41).toNatClampNeg (pwV T p q) = _
      rw [c1]
    have b1 : (poS (nI g) Y).2.2.1 47 = upd (Y.2.2.1 47) c (nI p) := by
      show upd (Y.2.2.1 47) (Y.1 46).toNatClampNeg (poF (nI g) Y) = _
      rw [c2, h1]
    have b2 : (poS (nI g) Y).2.2.1 48 = upd (Y.2.2.1 48) c (nI q) := by
      show upd (Y.2.2.1 48) (Y.1 46).toNatClampNeg (poT (nI g) Y) = _
      rw [c2, h2]
    have b3 : (poS (nI g) Y).2.2.2 49 = vp_updL (Y.2.2.2 49) c (pwV T p q) := by
      show vp_updL (Y.2.2.2 49) (Y.1 46).toNatClampNeg (poV (nI g) Y) = _
      rw [c2, hv]
    rw [a1, a2, a3, b1, b2, b3]
    by_cases e : j = c
    · rw [e, updA_at, updA_at, updA_at, updA_at, updL_at, updL_at]
      exact ⟨rfl, rfl, rfl⟩
    · rw [updA_ne _ _ e, updA_ne _ _ e, updA_ne _ _ e, updA_ne _ _ e, updL_ne _ _ e, updL_ne _ _ e]
      exact e3 j (by rw [c2]; omega)
theorem nIneg {q : Nat} (h : q < 10) : ¬ nI q < 0 := by
  rw [show (0 : Int32) = nI 0 from rfl, nI_ltI (by omega) (by omega)]
  omega
theorem pw_po {g : Nat} (hg : g < 1024) : ∀ (f : Nat) (T Y : MS), pmR T Y → poOk (nI g) f Y → pmR (pwR (nI g) f T) (poR (nI g) f Y)
  | 0, T, Y, h, _ => h
  | f + 1, T, Y, h, hO => by
    show pmR (match lsC T (nI g) (-1) 10 0, lsC T (nI g) 1 10 0 with
      | some p, some q => if T.1 41 < 10 then pwR (nI g) f (pwS T p q) else T
      | _, _ => T) (if poF (nI g) Y < 0 then Y else poR (nI g) f (poS (nI g) Y))
    rcases ls_eq h hg (-1) 10 0 (by omega) with ⟨a1, a2⟩ | ⟨p, hp, a1, a2⟩
    · rw [a2, if_pos (by show lsR Y (nI g) (-1) 10 0 < 0; rw [a1]; decide)]
      exact h
    · have hF : ¬ poF (nI g) Y < 0 := by
        show ¬ lsR Y (nI g) (-1) 10 0 < 0
        rw [a1]
        exact nIneg hp
      rcases hO with hO | ⟨o1, o2, o3⟩
      · exact absurd hO hF
      · rcases ls_eq h hg 1 10 0 (by omega) with ⟨b1, b2⟩ | ⟨q, hq, b1, b2⟩
        · exfalso
          have o1' : vp_in (lsR Y (nI g) 1 10 0) 10 := o1
          rw [b1] at o1'
          have := (vp_in_iff.mp o1').1
          revert this
          decide
        · rw [a2, b2, if_neg hF]
          obtain ⟨c, hc, ec⟩ := vp_in_of o2 (by decide)
          show pmR (if T.1 41 < 10 then pwR (nI g) f (pwS T p q) else T) _
          rw [if_pos (show T.1 41 < 10 by rw [h.1, ec, show (10 : Int32) = nI 10 from rfl, nI_ltI (by omega) (by omega)]; exact hc)]
          exact pw_po hg f _ _ (pw_step h hp hq a1 b1 o2) o3
/-! the groups and their payments: the class beside the reference -/
theorem fgRun_45 : ∀ (f : Nat) (al : Int32) (T X : MS) (c : Nat), fgRun f al T X → T.1 44 = nI c → c < 2 ^ 31 → (∀ j, j < c → X.2.2.1 45 j = T.2.2.1 45 j) ∧ ∃ N, c ≤ N ∧ N ≤ c + f ∧ X.1 44 = nI N
  | 0, al, T, X, c, h, hc, _ => by
    obtain ⟨-, e⟩ := h
    rw [e]
    exact ⟨fun _ _ => rfl, c, Nat.le_refl c, by omega, hc⟩
  | f + 1, al, T, X, c, h, hc, hb => by
    rcases h with ⟨-, e⟩ | ⟨-, -, h4, g, -, -, -, -, hr⟩
    · rw [e]
      exact ⟨fun _ _ => rfl, c, Nat.le_refl c, by omega, hc⟩
    · obtain ⟨c', hc', ec⟩ := vp_in_of h4 (by decide)
      rw [hc] at ec
      have : c = c' := (nI_eq (by omega) (by omega)).mp ec
      subst this
      have e44 : (fgS T g).1 44 = nI (c + 1) := by
        show T.1 44 + 1 = _
        rw [hc, nI_1]
      obtain ⟨a, N, b, b', d⟩ := fgRun_45 f _ (fgS T g) X (c + 1) hr e44 (by omega)
      refine ⟨fun j hj => ?_, N, by omega, by omega, d⟩
      rw [a j (by omega)]
      show upd (T.2.2.1 45) (T.1 44).toNatClampNeg (nI g) j = _
      rw [hc, nI_clamp (by omega), updA_ne _ _ (by omega)]
theorem ppF_45 (X : MS) : ∀ n, (ppF X n).2.2.1 45 = X.2.2.1 45
  | 0 => rfl
  | n + 1 => (poR_45 _ 10 (ppF X n)).1.trans (ppF_45 X n)
abbrev rFr (T V : MS) : Prop := (∀ j, j ≠ 41 → j ≠ 40 → V.1 j = T.1 j) ∧ V.2.1 = T.2.1 ∧ (∀ q, q ≠ 46 → q ≠ 47 → V.2.2.1 q = T.2.2.1 q) ∧ ∀ q, q ≠ 42 → q ≠ 48 → V.2.2.2 q = T.2.2.2 q
theorem rfS_fr (T : MS) (g : Int32) : rFr T (rfS T g) := by
  obtain ⟨a, b, c, d⟩ := pwR_fr g 10 T
  exact ⟨fun j h1 h2 => (if_neg h2).trans (a j h1), b, c, d⟩
theorem rfR_fr (C : Nat) : ∀ n r T, rFr T (rfR C n r T)
  | 0, r, T => ⟨fun _ _ _ => rfl, rfl, fun _ _ _ => rfl, fun _ _ _ => rfl⟩
  | n + 1, r, T => by
    show rFr T (if r = 0 then T else rfR C n (r ^^^ fgC T r C 0) (rfS T (fgC T r C 0)))
    split
    · exact ⟨fun _ _ _ => rfl, rfl, fun _ _ _ => rfl, fun _ _ _ => rfl⟩
    · obtain ⟨a1, a2, a3, a4⟩ := rfS_fr T (fgC T r C 0)
      obtain ⟨b1, b2, b3, b4⟩ := rfR_fr C n (r ^^^ fgC T r C 0) (rfS T (fgC T r C 0))
      exact ⟨fun j h h' => (b1 j h h').trans (a1 j h h'), b2.trans a2, fun q h1 h2 => (b3 q h1 h2).trans (a3 q h1 h2), fun q h1 h2 => (b4 q h1 h2).trans (a4 q h1 h2)⟩
theorem cT_c {T V : MS} {A C : Nat} {sm : Nat → Int64} {m : Nat → Int32} (hf : rFr T V) (h : cT T A C sm m) : cT V A C sm m := by
  have e44 := hf.2.2.1 44 (by decide) (by decide)
  have e45 := hf.2.2.1 45 (by decide) (by decide)
  refine ⟨LS_c (hf.1 49 (by decide) (by decide)) e44 h.1, by rw [e45]; exact h.2.1, fun i hi => ?_⟩
  have e : sl V i = sl T i := by show (V.2.2.1 44 i).toNatClampNeg = _; rw [e44]
  rw [e, e45]
  exact h.2.2 i hi
theorem rf_pp {A C N : Nat} {sm : Nat → Int64} {m : Nat → Int32} (hA : A < 1024) (hO : MO3 sm m) {X : MS} (hN : N ≤ 10) (hX : X.1 44 = nI N) : ∀ (f al c : Nat) (T Tc : MS), f ≤ 10 → fgRun f (nI al) T X → al &&& A = al → sm al = 0 → T.1 44 = nI c → c ≤ 10 → (∀ g, g < 1024 → T.2.2.2 42 g = sm g) → T.2.2.1 43 = m → cT Tc A C sm m → Tc.1 40 = nI c → pmR Tc (ppF X c) → (∀ j, c ≤ j → j < N → poOk ((ppF X j).2.2.1 45 j) 10 (ppF X j)) → pmR (rfR C f (nI al) Tc) (ppF X N) ∧ (rfR C f (nI al) Tc).1 40 = nI N
  | 0, al, c, T, Tc, _, hf, h1, h2, h3, h4, h5, h6, h7, h8, h9, h10 => by
    obtain ⟨-, e⟩ := hf
    rw [e, h3] at hX
    have : c = N := (nI_eq (by omega) (by omega)).mp hX
    rw [← this]
    exact ⟨h9, h8⟩
  | f + 1, al, c, T, Tc, hf10, hf, h1, h2, h3, h4, h5, h6, h7, h8, h9, h10 => by
    have hal := sub_le h1
    show pmR (if nI al = 0 then Tc else rfR C f (nI al ^^^ fgC Tc (nI al) C 0) (rfS Tc (fgC Tc (nI al) C 0))) (ppF X N) ∧ (if nI al = 0 then Tc else rfR C f (nI al ^^^ fgC Tc (nI al) C 0) (rfS Tc (fgC Tc (nI al) C 0))).1 40 = nI N
    rcases hf with ⟨e0, e⟩ | ⟨e0, h11, h12, g, g1, g2, g3, g4, hr⟩
    · rw [e, h3] at hX
      have : c = N := (nI_eq (by omega) (by omega)).mp hX
      rw [← this, if_pos e0]
      exact ⟨h9, h8⟩
    · rw [if_neg e0]
      obtain ⟨c', hc', ec⟩ := vp_in_of h12 (by decide)
      rw [h3] at ec
      have : c = c' := (nI_eq (by omega) (by omega)).mp ec
      subst this
      have hiff : ∀ j, j < 1024 → (fgHit T (nI al) j ↔ gHit sm m al j) := by
        intro j hj
        show ((nI j &&& (nI al ^^^ -1)) = 0 ∧ ¬ (nI j &&& (nI al &&& -nI al)) = 0 ∧ T.2.2.2 42 j = 0 ∧ T.2.2.1 43 (nI al ^^^ nI j).toNatClampNeg + 1 = T.2.2.1 43 (nI al).toNatClampNeg) ↔ _
        have hx : al ^^^ j < 1024 := Nat.xor_lt_two_pow (n := 10) (by omega) (by omega)
        rw [sub_bits hj, h5 j hj, h6, nI_xor, nI_clamp (by omega), nI_clamp (by omega)]
      have hg := (hiff g g2).mp g3
      have hC := fgC_eq hA hO h7 h1 h2 g1 hg (fun j j1 j2 k => g4 j j1 j2 ((hiff j (by omega)).mpr k))
      rw [hC, nI_xor]
      rw [nI_xor] at hr
      have e44 : (fgS T g).1 44 = nI (c + 1) := by
        show T.1 44 + 1 = _
        rw [h3, nI_1]
      obtain ⟨q1, N', q2, q2', q3⟩ := fgRun_45 f _ (fgS T g) X (c + 1) hr e44 (by omega)
      have hNN : N' = N := (nI_eq (by omega) (by omega)).mp (q3.symm.trans hX)
      have hcN : c < N := by omega
      have r45 : X.2.2.1 45 c = nI g := by
        rw [q1 c (by omega)]
        show upd (T.2.2.1 45) (T.1 44).toNatClampNeg (nI g) c = _
        rw [h3, nI_clamp (by omega), updA_at]
      have hok := h10 c (Nat.le_refl c) hcN
      rw [ppF_45, r45] at hok
      have hpp : ppF X (c + 1) = poR (nI g) 10 (ppF X c) := by
        show poR ((ppF X c).2.2.1 45 c) 10 (ppF X c) = _
        rw [ppF_45, r45]
      have hpm := pw_po g2 10 Tc (ppF X c) h9 hok
      have hfr := rfS_fr Tc (nI g)
      refine rf_pp hA hO hN hX f (al ^^^ g) (c + 1) (fgS T g) (rfS Tc (nI g)) (by omega) hr ?_ (hO.1 al g (by omega) hg.1 h2 hg.2.2.1) e44 (by omega) h5 h6 (cT_c hfr h7) ?_ ?_ (fun j a b => h10 j (by omega) b)
      · have := sub_xor hg.1
        rw [← this, Nat.and_assoc, h1]
      · show (pwR (nI g) 10 Tc).1 40 + 1 = _
        rw [(pwR_fr (nI g) 10 Tc).1 40 (by decide), h8, nI_1]
      · rw [hpp]
        exact hpm
theorem poR_46 (st : Int32) : ∀ f T, poOk st f T → (∃ c, c ≤ 10 ∧ T.1 46 = nI c) → ∃ c, c ≤ 10 ∧ (poR st f T).1 46 = nI c
  | 0, T, _, h => h
  | f + 1, T, hO, h => by
    show ∃ c, c ≤ 10 ∧ (if poF st T < 0 then T else poR st f (poS st T)).1 46 = nI c
    split
    · exact h
    · next hn =>
      rcases hO with hO | ⟨-, o2, o3⟩
      · exact absurd hO hn
      · refine poR_46 st f (poS st T) o3 ?_
        obtain ⟨c, hc, ec⟩ := vp_in_of o2 (by decide)
        refine ⟨c + 1, by omega, ?_⟩
        show T.1 46 + 1 = _
        rw [ec, nI_1]
theorem pp_46 {X : MS} {N : Nat} (hN : N ≤ 10) (hp : ∀ j, j < N → poOk ((ppF X j).2.2.1 45 j) 10 (ppF X j)) (h0 : ∃ c, c ≤ 10 ∧ X.1 46 = nI c) : ∃ c, c ≤ 10 ∧ (ppF X N).1 46 = nI c := by
  have k : ∀ n, n ≤ N → ∃ c, c ≤ 10 ∧ (ppF X n).1 46 = nI c := by
    intro n
    induction n with
    | zero => exact fun _ => h0
    | succ n ih => exact fun hn => poR_46 _ 10 _ (hp n (by omega)) (ih (by omega))
  exact k N (Nat.le_refl N)
/-! the class's plan, made anew, is the reference's -/
def plM (T U : MS) : Prop := ∃ N, N ≤ 10 ∧ T.1 41 = nI N ∧ U.1 46 = nI N ∧ T.1 40 = U.1 44 ∧ ∀ j, j < N → T.2.2.1 46 j = U.2.2.1 47 j ∧ T.2.2.1 47 j = U.2.2.1 48 j ∧ T.2.2.2 48 j = U.2.2.2 49 j
def dbR (T S : MS) : Prop := ∀ h q, h < 10 → q < 10 → T.2.2.2 (100 + h) q = S.2.2.2 15 (10 * h + q)
theorem anN_c {z z' : Nat → Int64} : ∀ n, (∀ j, j < n → z j = z' j) → anN z n = anN z' n
  | 0, _ => rfl
  | n + 1, h => by
    show anN z n ||| (if z n = 0 then 0 else 2 ^ n) = anN z' n ||| (if z' n = 0 then 0 else 2 ^ n)
    rw [anN_c n (fun j hj => h j (by omega)), h n (by omega)]
theorem sgL_c {f g : Nat → Int64} (s : Nat) : ∀ n, (∀ j, j < n → f j = g j) → sgL f s n = sgL g s n
  | 0, _ => rfl
  | n + 1, h => by
    show sgL f s n + (if ((nI s >>> (nI n &&& 31)) &&& 1) = 1 then f n else 0) = sgL g s n + (if ((nI s >>> (nI n &&& 31)) &&& 1) = 1 then g n else 0)
    rw [sgL_c s n (fun j hj => h j (by omega)), h n (by omega)]
theorem cnet_eq {T S : MS} (h : dbR T S) {x : Nat} (hx : x < 10) : ∀ n, n ≤ 10 → cnetT T (nI x) n = mnetT S (nI x) n
  | 0, _ => rfl
  | n + 1, hn => by
    show cnetT T (nI x) n + (T.2.2.2 (100 + n) (nI x).toNatClampNeg - T.2.2.2 (100 + (nI x).toNatClampNeg) n) = mnetT S (nI x) n + (S.2.2.2 15 (10 * nI n + nI x).toNatClampNeg - S.2.2.2 15 (10 * nI x + nI n).toNatClampNeg)
    rw [cnet_eq h hx n (by omega), nI_clamp (by omega), ix10 (by omega) hx, ix10 hx (by omega), h n x (by omega) hx, h x n hx (by omega)]
theorem fgRun_fr : ∀ (f : Nat) (al : Int32) (T X : MS), fgRun f al T X → X.2.2.2 = T.2.2.2 ∧ X.1 46 = T.1 46
  | 0, al, T, X, h => by
    rw [h.2]
    exact ⟨rfl, rfl⟩
  | f + 1, al, T, X, h => by
    rcases h with ⟨-, e⟩ | ⟨-, -, h4, g, -, -, -, -, hr⟩
    · rw [e]
      exact ⟨rfl, rfl⟩
    · obtain ⟨a, b⟩ := fgRun_fr f _ (fgS T g) X hr
      exact ⟨a.trans rfl, b.trans rfl⟩
theorem LS_s {T : MS} {A n c : Nat} {sm sm' : Nat → Int64} (hn : n < 1024) (e : ∀ s, s < 1024 → sm s = sm' s) (h : LSv T A sm n c) : LSv T A sm' n c := by
  obtain ⟨l1, l2, l3, l4, l5⟩ := h
  refine ⟨l1, l2, fun i hi => ?_, l4, fun x a b d f => l5 x a b d ?_⟩
  · obtain ⟨p1, p2, p3, p4, p5⟩ := l3 i hi
    exact ⟨p1, p2, p3, p4, by rw [← e _ (by omega)]; exact p5⟩
  · rw [e x (by omega)]; exact f
theorem ppF_44k (X : MS) : ∀ n, (ppF X n).1 44 = X.1 44
  | 0 => rfl
  | n + 1 => (poR_45 _ 10 (ppF X n)).2.trans (ppF_44k X n)
theorem pm_M {V X : MS} {N c : Nat} (hc : c ≤ 10) (h46 : (ppF X N).1 46 = nI c) (hX : X.1 44 = nI N) (h : pmR V (ppF X N) ∧ V.1 40 = nI N) : plM V (ppF X N) := by
  obtain ⟨⟨a, b, d⟩, e⟩ := h
  refine ⟨c, hc, a.trans h46, h46, by rw [e, ppF_44k, hX], fun j hj => d j ?_⟩
  rw [h46, nI_clamp (by omega)]
  exact hj
theorem ref_eq0 {M : Int} (hM : M ≤ 1000000000000) {S W V U T T1 T2 T4 Y : MS} (h : dnv M (S.2.2.2 15)) (n6 : ∀ j, W.2.2.2 50 j = if j < 10 then mnetT S (nI j) 10 else S.2.2.2 50 j) (s4 : V.2.2.2 50 = W.2.2.2 50) (s5 : ∀ s, V.2.2.2 42 s = if s < 1024 then sgL (W.2.2.2 50) s 10 else W.2.2.2 42 s) (m3 : U.2.2.2 = V.2.2.2) (m4 : U.2.2.1 43 0 = 0) (m5 : ∀ a, 0 < a → a ≤ 1023 → moA (V.2.2.2 42) (U.2.2.1 43) a (U.2.2.1 43 a) ∧ (V.2.2.2 42 a = 0 → 1 ≤ U.2.2.1 43 a)) (m6 : ∀ a, 0 < a → a ≤ 1023 → ∀ x, moC (V.2.2.2 42) (U.2.2.1 43) a (U.2.2.1 43 a) x) (e0 : mpl0 S = sI (sI U 44 0) 46 0)
    (hD : dbR T S) (h45 : T.2.2.1 45 0 = 0) (i40 : T.1 40 = 0) (i41 : T.1 41 = 0) {A C : Nat} (eA : rnA T 10 = nI (anN (fun j => cnetT T (nI j) 10) 10)) (t1 : T1.1 = T.1 ∧ T1.2.2.1 = T.2.2.1 ∧ ∀ j, T1.2.2.2 42 j = if j < 10 then cnetT T (nI j) 10 else T.2.2.2 42 j) (t2 : T2.1 = T1.1 ∧ T2.2.2.1 = T1.2.2.1 ∧ T2.2.2.2 42 = T1.2.2.2 42 ∧ ∀ s, s < 1024 → T2.2.2.2 43 s = sgL (T1.2.2.2 42) s 10) (hAn : A = anN (fun j => cnetT T (nI j) 10) 10) (t4 : (∀ j, j ≠ 49 → T4.1 j = T2.1 j) ∧ (∀ q, q ≠ 44 → T4.2.2.1 q = T2.2.2.1 q) ∧ T4.2.2.2 = T2.2.2.2) (hL : LSv T4 A (T2.2.2.2 43) A C) (hY : plRun S Y) : plM (rfR C 10 (rnA T 10) (cgO T4 C)) Y := by
  have eN : ∀ j, j < 10 → (W).2.2.2 50 j = mnetT S (nI j) 10 := fun j hj => by rw [n6, if_pos hj]
  have hb : ∀ j, j < 10 → ((W).2.2.2 50 j).toInt = ntI (S.2.2.2 15) j 10 := fun j hj => by rw [eN j hj, mnet_I hM h hj (Nat.le_refl 10)]
  have hB : ∀ j, j < 10 → -M ≤ ((W).2.2.2 50 j).toInt ∧ ((W).2.2.2 50 j).toInt ≤ M := fun j hj => by rw [hb j hj]; exact ntI_b h hj
  obtain ⟨sm, esm⟩ : ∃ sm, sm = V.2.2.2 42 := ⟨_, rfl⟩
  have hsm : ∀ s, s < 1024 → sm s = sgL ((W).2.2.2 50) s 10 := fun s hs => by rw [esm, s5, if_pos hs]
  have hz : ∀ s, s < 1024 → (sm s = 0 ↔ sgI (fun j => ((W).2.2.2 50 j).toInt) s = 0) := fun s hs => by rw [hsm s hs]; exact sm0 (by omega) hB hs
  have hxl : ∀ a g, a < 1024 → g &&& a = g → a ^^^ g < 1024 := fun a g ha hg => by
    have h2 : a ^^^ g ≤ a := by rw [← sub_xor hg]; exact Nat.and_le_right
    omega
  obtain ⟨m, em⟩ : ∃ m, m = U.2.2.1 43 := ⟨_, rfl⟩
  have hadd : ∀ a g, a < 1024 → g &&& a = g → sm a = 0 → sm g = 0 → sm (a ^^^ g) = 0 := fun a g ha hg h1 h2 => by
    have hgl : g < 1024 := by have := sub_le hg; omega
    rw [hz a ha] at h1
    rw [hz g hgl] at h2
    rw [hz _ (hxl a g ha hg)]
    have := sgI_xor (fun j => ((W).2.2.2 50 j).toInt) hg
    omega
  have hO : MO3 sm m := by
    rw [esm, em]
    rw [esm] at hadd
    exact ⟨hadd, m4, fun a h0 ha => (m5 a h0 (by omega)).1, fun a h0 ha => (m5 a h0 (by omega)).2, fun a h0 ha => m6 a h0 (by omega)⟩
  have hAm : A = anN (fun j => mnetT S (nI j) 10) 10 := by
    rw [hAn]
    exact anN_c 10 (fun j hj => cnet_eq hD hj 10 (Nat.le_refl 10))
  have hAl : A < 1024 := by rw [hAm]; exact anN_lt _ 10
  have hA0 : sm A = 0 := by
    rw [hz A hAl]
    have e : sgI (fun j => ((W).2.2.2 50 j).toInt) A = isum (fun j => ntI (S.2.2.2 15) j 10) 10 := by
      refine isum_congr 10 (fun j hj => ?_)
      rw [hAm, anN_bit, decide_eq_true hj, Bool.true_and]
      by_cases hc : mnetT S (nI j) 10 = 0
      · rw [if_neg (by simp [hc]), ← hb j hj, eN j hj, hc]
        decide
      · rw [if_pos (by simp [hc])]
        exact hb j hj
    rw [e]
    exact ntI_sum _
  have c42 : ∀ j, j < 10 → T1.2.2.2 42 j = W.2.2.2 50 j := fun j hj => by
    rw [t1.2.2, if_pos hj, eN j hj, cnet_eq hD hj 10 (Nat.le_refl 10)]
  have c43 : ∀ s, s < 1024 → T2.2.2.2 43 s = sm s := fun s hs => by
    rw [t2.2.2.2 s hs, hsm s hs]
    exact sgL_c s 10 c42
  have hL' : LSv T4 A sm A C := LS_s hAl c43 hL
  have k45 : T4.2.2.1 45 0 = 0 := by rw [t4.2.1 45 (by decide), t2.2.1, t1.2.1, h45]
  obtain ⟨g1, g2, g3, g4, g5, g6⟩ := cgO_sp hAl hO hL' k45 C (Nat.le_refl C)
  have e44 : (cgO T4 C).2.2.1 44 = T4.2.2.1 44 := g3 44 (by decide)
  have hcT : cT (cgO T4 C) A C sm m := by
    refine ⟨LS_c (by rw [g1]) e44 hL', g5, fun i hi => ?_⟩
    have e : sl (cgO T4 C) i = sl T4 i := by show ((cgO T4 C).2.2.1 44 i).toNatClampNeg = _; rw [e44]
    rw [e]
    exact g6 i hi
  obtain ⟨X, N, hN, y1, y2, y3, y4⟩ := hY
  rw [npA_eq S 10 (Nat.le_refl 10), ← hAm, e0] at y1
  obtain ⟨x1, x2⟩ := fgRun_fr 10 _ _ X y1
  have hpm : pmR (cgO T4 C) (ppF X 0) := by
    have z46 : X.1 46 = 0 := x2
    refine ⟨?_, fun j hj => ?_, fun j hj => ?_⟩
    · show (cgO T4 C).1 41 = X.1 46
      rw [z46, g1, t4.1 41 (by decide), t2.1, t1.1, i41]
    · show (cgO T4 C).2.2.2 42 j = X.2.2.2 50 j
      rw [g4, t4.2.2, t2.2.2.1, c42 j hj, x1]
      show _ = U.2.2.2 50 j
      rw [m3, s4]
    · have hj' : j < (X.1 46).toNatClampNeg := hj
      rw [z46] at hj'
      exact absurd hj' (Nat.not_lt_zero j)
  have fin := rf_pp hAl hO hN y2 10 A 0 _ (cgO T4 C) (Nat.le_refl 10) y1 (Nat.and_self A) hA0 rfl (by omega) (fun g hg => by show U.2.2.2 42 g = _; rw [m3, esm]) (by show U.2.2.1 43 = m; rw [em]) hcT (by rw [g1, t4.1 40 (by decide), t2.1, t1.1, i40]; rfl) hpm (fun j _ hj => y3 j hj)
  obtain ⟨c, hc, ec⟩ : ∃ c, c ≤ 10 ∧ (ppF X N).1 46 = nI c := pp_46 hN y3 (by exact ⟨0, by omega, x2⟩)
  rw [eA, ← hAn, y4]
  exact pm_M hc ec y2 fin
/-! the class's plan, as it is kept: the cache -/
theorem rf4_sp {T : MS} (h43 : T.2.2.2 43 0 = 0) : ∃ (T1 T2 : MS) (A C : Nat), A = anN (fun j => cnetT (rf1 T) (nI j) 10) 10 ∧ (T1.1 = (rf1 T).1 ∧ T1.2.2.1 = (rf1 T).2.2.1 ∧ ∀ j, T1.2.2.2 42 j = if j < 10 then cnetT (rf1 T) (nI j) 10 else (rf1 T).2.2.2 42 j) ∧ (T2.1 = T1.1 ∧ T2.2.2.1 = T1.2.2.1 ∧ T2.2.2.2 42 = T1.2.2.2 42 ∧ ∀ s, s < 1024 → T2.2.2.2 43 s = sgL (T1.2.2.2 42) s 10) ∧ ((∀ j, j ≠ 49 → (rf4 T).1 j = T2.1 j) ∧ (∀ q, q ≠ 44 → (rf4 T).2.2.1 q = T2.2.2.1 q) ∧ (rf4 T).2.2.2 = T2.2.2.2) ∧ LSv (rf4 T) A (T2.2.2.2 43) A C ∧ rfC T = C ∧ (rf4 T).2.1 = (rf1 T).2.1 ∧ (∀ q, q ≠ 42 → q ≠ 43 → (rf4 T).2.2.2 q = T.2.2.2 q) ∧ A < 1024 := by
  have eA := rnA_eq (rf1 T) 10 (Nat.le_refl 10)
  have hAl : anN (fun j => cnetT (rf1 T) (nI j) 10) 10 < 1024 := anN_lt _ 10
  have a := rnF_sp (rf1 T) 10
  have e43 : (rnF (rf1 T) 10).2.2.2 43 0 = 0 := (congrFun (a.2.2.2.1 43 (by decide)) 0).trans h43
  have b := auO_sp (rnF (rf1 T) 10) e43 10 (Nat.le_refl 10)
  have e4 : rf4 T = lzR (auO (rnF (rf1 T) 10) 10) (rnA (rf1 T) 10).toNatClampNeg (rnA (rf1 T) 10).toNatClampNeg := rf4.eq_1 T
  have eC : rfC T = ((rf4 T).1 49).toNatClampNeg := rfC.eq_1 T
  rw [eA, nI_clamp (by omega)] at e4
  obtain ⟨A, hA⟩ : ∃ A, A = anN (fun j => cnetT (rf1 T) (nI j) 10) 10 := ⟨_, rfl⟩
  rw [← hA] at e4 hAl
  have c := lzR_sp (auO (rnF (rf1 T) 10) 10) hAl A hAl
  rw [← e4] at c
  clear e4
  generalize auO (rnF (rf1 T) 10) 10 = T2 at *
  generalize rnF (rf1 T) 10 = T1 at *
  generalize rf4 T = T4 at *
  obtain ⟨c1, c2, c3, c4, C, c5⟩ := c
  refine ⟨T1, T2, A, C, hA, ⟨a.1, a.2.2.1, a.2.2.2.2⟩, ⟨b.1, b.2.2.1, b.2.2.2.1 42 (by decide), b.2.2.2.2⟩, ⟨c1, c3, c4⟩, c5, ?_, ?_, fun q h1 h2 => ?_, hAl⟩
  · have := c5.2.1
    rw [eC, c5.1, nI_clamp (by omega)]
  · rw [c2, b.2.1, a.2.1]
  · rw [c4, b.2.2.2.1 q h2, a.2.2.2.1 q h1]
    rfl
theorem rfN_eq {M : Int} (hM : M ≤ 1000000000000) {T S Y : MS} (h : dnv M (S.2.2.2 15)) (hD : dbR T S) (h43 : T.2.2.2 43 0 = 0) (h45 : T.2.2.1 45 0 = 0) (hY : plRun S Y) : plM (rfR (rfC T) 10 (rnA (rf1 T) 10) (rf5 T)) Y := by
  have n := npF_sp S 10
  have s := smO_sp (npF S 10) 1024
  have m := moO_sp (smO (npF S 10) 1024) 1023 (by decide)
  have mc := moO_C (smO (npF S 10) 1024) 1023 (by decide)
  obtain ⟨T1, T2, A, C, r1, r2, r3, r4, r5, r6, r7, r8, r9⟩ := rf4_sp h43
  rw [rf5.eq_1 T, r6]
  exact ref_eq0 hM (T := rf1 T) (T1 := T1) (T2 := T2) (T4 := rf4 T) h n.2.2.2.2.2 s.2.2.2.1 s.2.2.2.2 m.2.2.1 m.2.2.2.2.1 m.2.2.2.2.2 mc (mpl0.eq_1 S) hD h45 rfl rfl (rnA_eq (rf1 T) 10 (Nat.le_refl 10)) r2 r3 r1 r4 r5 hY
theorem cgO_0 {T : MS} : ∀ n, (∀ i, i < n → (T.2.2.1 44 i).toNatClampNeg ≠ 0) → (cgO T n).2.2.1 44 = T.2.2.1 44 ∧ (cgO T n).2.2.1 45 0 = T.2.2.1 45 0 ∧ (cgO T n).2.1 = T.2.1 ∧ (cgO T n).2.2.2 = T.2.2.2
  | 0, _ => ⟨rfl, rfl, rfl, rfl⟩
  | n + 1, h => by
    obtain ⟨a, b, c, d⟩ := cgO_0 n (fun i hi => h i (by omega))
    have hn := h n (by omega)
    show (sA (cgO T n) 45 ((cgO T n).2.2.1 44 n).toNatClampNeg (cgI (cgO T n) ((cgO T n).2.2.1 44 n) n)).2.2.1 44 = _ ∧ (sA (cgO T n) 45 ((cgO T n).2.2.1 44 n).toNatClampNeg (cgI (cgO T n) ((cgO T n).2.2.1 44 n) n)).2.2.1 45 0 = _ ∧ _
    refine ⟨(sA_ne _ _ _ (by decide)).trans a, ?_, c, d⟩
    rw [sA_at, updA_ne _ _ (by rw [a]; exact fun q => hn q.symm)]
    exact b
theorem sgL_0 (f : Nat → Int64) : ∀ n, n ≤ 10 → sgL f 0 n = 0
  | 0, _ => rfl
  | n + 1, hn => by
    rw [sgL_bit f (by decide) (by omega), sgL_0 f n (by omega), Nat.zero_testBit, if_neg (by decide)]
    rfl
theorem rfN_k {T : MS} (h43 : T.2.2.2 43 0 = 0) (h45 : T.2.2.1 45 0 = 0) : (rfR (rfC T) 10 (rnA (rf1 T) 10) (rf5 T)).2.2.2 43 0 = 0 ∧ (rfR (rfC T) 10 (rnA (rf1 T) 10) (rf5 T)).2.2.1 45 0 = 0 ∧ (rfR (rfC T) 10 (rnA (rf1 T) 10) (rf5 T)).2.1 30 = T.2.1 30 ∧ (rfR (rfC T) 10 (rnA (rf1 T) 10) (rf5 T)).2.1 50 = T.2.1 30 := by
  obtain ⟨T1, T2, A, C, r1, r2, r3, r4, r5, r6, r7, r8, r9⟩ := rf4_sp h43
  obtain ⟨f1, f2, f3, f4⟩ := rfR_fr (rfC T) 10 (rnA (rf1 T) 10) (rf5 T)
  have hg := cgO_0 (T := rf4 T) C (fun i hi => by
    have := (r5.2.2.1 i hi).2.1
    have e : sl (rf4 T) i = ((rf4 T).2.2.1 44 i).toNatClampNeg := rfl
    omega)
  have e5 : rf5 T = cgO (rf4 T) C := by rw [rf5.eq_1 T, r6]
  rw [← e5] at hg
  generalize rfR (rfC T) 10 (rnA (rf1 T) 10) (rf5 T) = V at *
  generalize rf5 T = T5 at *
  generalize rf4 T = T4 at *
  have l30 : V.2.1 = (rf1 T).2.1 := by rw [f2, hg.2.2.1, r7]
  refine ⟨?_, ?_, ?_, ?_⟩
  · rw [f4 43 (by decide) (by decide), hg.2.2.2, r4.2.2, r3.2.2.2 0 (by decide)]
    exact sgL_0 _ 10 (Nat.le_refl 10)
  · rw [f3 45 (by decide) (by decide), hg.2.1, r4.2.1 45 (by decide), r3.2.1, r2.2.1]
    exact h45
  · rw [l30]; rfl
  · rw [l30]; rfl
def caR (T S : MS) : Prop := T.2.1 50 = T.2.1 30 → ∀ S' Y : MS, (∀ k, k < 100 → S'.2.2.2 15 k = S.2.2.2 15 k) → plRun S' Y → plM T Y
def plR (i : Nat) (T S : MS) : Prop := T.2.2.2 43 0 = 0 ∧ T.2.2.1 45 0 = 0 ∧ caR T S ∧ -1 ≤ (T.2.1 50).toInt ∧ (T.2.1 50).toInt ≤ (T.2.1 30).toInt ∧ (T.2.1 30).toInt ≤ 100 * i
theorem dnv_c {M : Int} {f g : Nat → Int64} (e : ∀ k, k < 100 → g k = f k) (h : dnv M f) : dnv M g := by
  have e' : ∀ k, k < 100 → dI g k = dI f k := fun k hk => by unfold dI; rw [e k hk]
  refine ⟨fun k hk => by rw [e' k hk]; exact h.1 k hk, ?_⟩
  rw [isum_congr 100 e']
  exact h.2
theorem ca_ref {M : Int} (hM : M ≤ 1000000000000) {i : Nat} {T S : MS} (h : dnv M (S.2.2.2 15)) (hD : dbR T S) (hp : plR i T S) : plR i (cf_ref T) S ∧ (cf_ref T).2.1 50 = (cf_ref T).2.1 30 ∧ (cf_ref T).2.1 30 = T.2.1 30 := by
  obtain ⟨p1, p2, p3, p4, p5, p6⟩ := hp
  unfold cf_ref
  split
  · next e => exact ⟨⟨p1, p2, p3, p4, p5, p6⟩, e, rfl⟩
  · obtain ⟨k1, k2, k3, k4⟩ := rfN_k p1 p2
    have key : ∀ S' Y : MS, (∀ k, k < 100 → S'.2.2.2 15 k = S.2.2.2 15 k) → plRun S' Y → plM (rfR (rfC T) 10 (rnA (rf1 T) 10) (rf5 T)) Y := by
      intro S' Y e hY
      refine rfN_eq hM (dnv_c e h) (fun x q hx hq => ?_) p1 p2 hY
      rw [hD x q hx hq, e _ (by omega)]
    generalize rfR (rfC T) 10 (rnA (rf1 T) 10) (rf5 T) = V at *
    refine ⟨⟨k1, k2, fun _ => key, ?_, ?_, ?_⟩, ?_, k3⟩
    · rw [k4]; omega
    · rw [k3, k4]; omega
    · rw [k3]; exact p6
    · rw [k3, k4]
theorem pl_M {M : Int} (hM : M ≤ 1000000000000) {i : Nat} {T S S' Y : MS} (h : dnv M (S.2.2.2 15)) (hD : dbR T S) (hp : plR i T S) (e : S'.2.2.2 15 = S.2.2.2 15) (hY : plRun S' Y) : plM (cf_ref T) Y := by
  obtain ⟨a, b, -⟩ := ca_ref hM h hD hp
  exact a.2.2.1 b S' Y (fun k _ => by rw [e]) hY
/-- nothing of the debts, nothing of the plan changed -/
theorem pl_k {i : Nat} {T S U V : MS} (h : plR i T S) (h1 : U.2.2.2 43 = T.2.2.2 43) (h2 : U.2.2.1 45 = T.2.2.1 45) (h3 : U.2.1 50 = T.2.1 50) (h4 : U.2.1 30 = T.2.1 30) (h5 : U.1 41 = T.1 41) (h6 : U.1 40 = T.1 40) (h7 : U.2.2.1 46 = T.2.2.1 46) (h8 : U.2.2.1 47 = T.2.2.1 47) (h9 : U.2.2.2 48 = T.2.2.2 48) (h10 : V.2.2.2 15 = S.2.2.2 15) : plR (i + 1) U V := by
  obtain ⟨p1, p2, p3, p4, p5, p6⟩ := h
  refine ⟨by rw [h1]; exact p1, by rw [h2]; exact p2, fun e S' Y e' hY => ?_, by rw [h3]; exact p4, by rw [h3, h4]; exact p5, by rw [h4]; omega⟩
  rw [h3, h4] at e
  rw [h10] at e'
  obtain ⟨N, n1, n2, n3, n4, n5⟩ := p3 e S' Y e' hY
  exact ⟨N, n1, by rw [h5]; exact n2, n3, by rw [h6]; exact n4, by rw [h7, h8, h9]; exact n5⟩
/-- the debts changed: the plan kept is an old one -/
theorem pl_n {i n : Nat} {T S U V : MS} (hn : n ≤ 100) (h0 : 0 < n) (h : plR i T S) (h1 : U.2.2.2 43 = T.2.2.2 43) (h2 : U.2.2.1 45 = T.2.2.1 45) (h3 : U.2.1 50 = T.2.1 50) (h4 : (U.2.1 30).toInt = (T.2.1 30).toInt + n) : plR (i + 1) U V := by
  obtain ⟨p1, p2, p3, p4, p5, p6⟩ := h
  refine ⟨by rw [h1]; exact p1, by rw [h2]; exact p2, fun e => ?_, by rw [h3]; exact p4, by rw [h3, h4]; omega, by rw [h4]; omega⟩
  exfalso
  have := congrArg Int64.toInt e
  rw [h3, h4] at this
  omega
/-! settle: the class takes the dearest kind first, the reference goes down the worths -/
def wtR (T S : MS) (w : Nat → Nat) : Prop := ∀ k, k < 4 → T.2.2.1 55 k = nI (w k) ∧ S.2.2.1 16 k = nI (w k) ∧ w k ≤ 1000
def cnR (T S : MS) : Prop := ∀ x k, x < 10 → k < 4 → T.2.2.1 (110 + x) k = S.2.2.1 17 (4 * x + k)
theorem ix4n {i j : Nat} (hi : i < 10) (hj : j < 4) : (4 * nI i + nI j).toNatClampNeg = 4 * i + j := by
  rw [show (4 : Int32) = nI 4 from rfl, nI_mul, nI_add, nI_clamp (by omega)]
theorem to3264 (x : Int32) : x.toInt64.toInt32 = x := by simp
theorem mv_g {T S : MS} {w : Nat → Nat} (hw : wtR T S w) (hc : cnR T S) {x y k : Nat} (hx : x < 10) (hy : y < 10) (hk : k < 4) (l : Int64) : hoM T (nI x) (nI y) k l = stg S (nI x) (nI y) k (w k) l := by
  unfold hoM stg stm
  rw [nI_clamp (by omega), nI_clamp (by omega), ix4n hx hk, ix4n hy hk, hc x k hx hk, hc y k hy hk, (hw k hk).1]
  generalize (if 1000 - S.2.2.1 17 (4 * y + k) < S.2.2.1 17 (4 * x + k) then 1000 - S.2.2.1 17 (4 * y + k) else S.2.2.1 17 (4 * x + k)) = z
  by_cases e : l / (nI (w k)).toInt64 < z.toInt64
  · rw [if_pos e, if_neg (Int64.not_le.mpr e)]
  · rw [if_neg e, if_pos (Int64.not_lt.mp e), to3264]
theorem mv_c {T S : MS} (hc : cnR T S) {x y k : Nat} (hx : x < 10) (hy : y < 10) (hk : k < 4) (v : Int32) : cnR (hoT T (nI x) (nI y) k v) (stB (stA S (nI x) k v) (nI y) k v) := by
  intro x9 k9 h1 h2
  unfold hoT stB stA
  rw [nI_clamp (by omega), nI_clamp (by omega), ix4n hx hk, ix4n hy hk, hc x k hx hk]
  have inner : ∀ x8 k8, x8 < 10 → k8 < 4 → (sA T (110 + x) k (S.2.2.1 17 (4 * x + k) - v)).2.2.1 (110 + x8) k8 = (sA S 17 (4 * x + k) (S.2.2.1 17 (4 * x + k) - v)).2.2.1 17 (4 * x8 + k8) := by
    intro x8 k8 a b
    rw [sA_at S]
    by_cases e1 : x8 = x
    · subst e1
      rw [sA_at]
      by_cases e2 : k8 = k
      · subst e2
        rw [updA_at, updA_at]
      · rw [updA_ne _ _ e2, updA_ne _ _ (by omega), hc _ k8 a b]
    · rw [sA_ne _ _ _ (by omega), updA_ne _ _ (by omega), hc x8 k8 a b]
  rw [inner y k hy hk]
  generalize sA T (110 + x) k (S.2.2.1 17 (4 * x + k) - v) = T' at *
  generalize sA S 17 (4 * x + k) (S.2.2.1 17 (4 * x + k) - v) = S' at *
  rw [sA_at S']
  by_cases e1 : x9 = y
  · subst e1
    rw [sA_at]
    by_cases e2 : k9 = k
    · subst e2
      rw [updA_at, updA_at]
    · rw [updA_ne _ _ e2, updA_ne _ _ (by omega), inner _ k9 h1 h2]
  · rw [sA_ne _ _ _ (by omega), updA_ne _ _ (by omega), inner x9 k9 h1 h2]
theorem mv_w {T S : MS} {w : Nat → Nat} (hw : wtR T S w) (x y k : Nat) (v : Int32) : wtR (hoT T (nI x) (nI y) k v) (stB (stA S (nI x) k v) (nI y) k v) w := by
  intro k9 h
  have e1 : (hoT T (nI x) (nI y) k v).2.2.1 55 = T.2.2.1 55 := by
    unfold hoT
    rw [sA_ne _ _ _ (by omega), sA_ne _ _ _ (by omega)]
  have e2 : (stB (stA S (nI x) k v) (nI y) k v).2.2.1 16 = S.2.2.1 16 := rfl
  rw [e1, e2]
  exact hw k9 h
/-! the dearest of what is left -/
abbrev dn (d : Int32) (j : Nat) : Prop := ¬ d &&& bt1 j = 0
theorem dbO_sp (T : MS) (d : Int32) : ∀ n, (dbO T d n = none ∧ ∀ j, j < n → dn d j) ∨ ∃ b, b < n ∧ dbO T d n = some b ∧ ¬ dn d b ∧ (∀ j, j < n → ¬ dn d j → T.2.2.1 55 j ≤ T.2.2.1 55 b) ∧ ∀ j, j < b → ¬ dn d j → T.2.2.1 55 j < T.2.2.1 55 b
  | 0 => Or.inl ⟨rfl, fun j hj => absurd hj (Nat.not_lt_zero j)⟩
  | n + 1 => by
    have e : dbO T d (n + 1) = match dbO T d n with
      | none => if d &&& bt1 n = 0 then some n else none
      | some b => if d &&& bt1 n = 0 ∧ T.2.2.1 55 b < T.2.2.1 55 n then some n else some b := rfl
    rw [e]
    clear e
    rcases dbO_sp T d n with ⟨h1, h2⟩ | ⟨b, hb, h1, h2, h3, h4⟩
    · rw [h1]
      by_cases hz : d &&& bt1 n = 0
      · refine Or.inr ⟨n, by omega, if_pos hz, fun q => q hz, fun j hj hn => ?_, fun j hj hn => absurd (h2 j hj) hn⟩
        by_cases e : j = n
        · rw [e]; exact Int32.le_refl _
        · exact absurd (h2 j (by omega)) hn
      · refine Or.inl ⟨if_neg hz, fun j hj => ?_⟩
        by_cases e : j = n
        · rw [e]; exact hz
        · exact h2 j (by omega)
    · rw [h1]
      by_cases hz : d &&& bt1 n = 0 ∧ T.2.2.1 55 b < T.2.2.1 55 n
      · refine Or.inr ⟨n, by omega, if_pos hz, fun q => q hz.1, fun j hj hn => ?_, fun j hj hn => ?_⟩
        · by_cases e : j = n
          · rw [e]; exact Int32.le_refl _
          · exact Int32.le_trans (h3 j (by omega) hn) (Int32.le_of_lt hz.2)
        · exact Int32.lt_of_le_of_lt (h3 j hj hn) hz.2
      · refine Or.inr ⟨b, by omega, if_neg hz, h2, fun j hj hn => ?_, h4⟩
        by_cases e : j = n
        · subst e
          rcases Int32.lt_or_le (T.2.2.1 55 b) (T.2.2.1 55 j) with q | q
          · exact absurd ⟨Classical.not_not.mp hn, q⟩ hz
          · exact q
        · exact h3 j (by omega) hn
def cz (m : Nat) : Nat := (if m.testBit 0 then 0 else 1) + (if m.testBit 1 then 0 else 1) + (if m.testBit 2 then 0 else 1) + (if m.testBit 3 then 0 else 1)
theorem mk1 : ∀ m, m < 16 → ∀ k, k < 4 → (nI m ||| bt1 k = nI (m ||| 2 ^ k) ∧ m ||| 2 ^ k < 16) := by decide +kernel
theorem mk2 : ∀ m, m < 16 → ∀ k, k < 4 → ∀ j, j < 4 → (dn (nI (m ||| 2 ^ k)) j ↔ (dn (nI m) j ∨ j = k)) := by decide +kernel
theorem mk3 : ∀ m, m < 16 → ∀ k, k < 4 → ¬ dn (nI m) k → cz (m ||| 2 ^ k) + 1 = cz m := by decide +kernel
theorem mk4 : ∀ j, j < 4 → ¬ dn (nI 0) j := by decide +kernel
abbrev Dn (w : Nat → Nat) (v k j : Nat) : Prop := v < w j ∨ (w j = v ∧ j < k)
/-- class and reference, the coins alike, the kinds of D done -/
def seR (w : Nat → Nat) (v k : Nat) (T : MS) (m n : Nat) (l : Int64) (X : MS × Int64) : Prop := m < 16 ∧ cz m ≤ n ∧ (∀ j, j < 4 → (dn (nI m) j ↔ Dn w v k j)) ∧ wtR T X.1 w ∧ cnR T X.1 ∧ l = X.2
def rvR (h q : Int32) : Nat → MS × Int64 → MS × Int64
  | 0, X => X
  | r + 1, X => rvR h q r (stK h q (r + 1) X 4)
theorem rv_st (h q : Int32) (X : MS × Int64) : ∀ i, i ≤ 1000 → rvR h q (1000 - i) (stV h q X i) = rvR h q 1000 X
  | 0, _ => rfl
  | i + 1, hi => by
    rw [← rv_st h q X i (by omega)]
    have e : 1000 - i = (1000 - (i + 1)) + 1 := by omega
    have e2 : stV h q X (i + 1) = stK h q (1000 - i) (stV h q X i) 4 := rfl
    rw [e2]
    generalize stV h q X i = Z
    rw [e]
    rfl
theorem stK_s (h q : Int32) (v : Nat) (X : MS × Int64) (i : Nat) : stK h q v X (i + 1) = if (stK h q v X i).1.2.2.1 16 i = nI v then (stB (stA (stK h q v X i).1 h i (stg (stK h q v X i).1 h q i v (stK h q v X i).2)) q i (stg (stK h q v X i).1 h q i v (stK h q v X i).2), (stK h q v X i).2 - (stg (stK h q v X i).1 h q i v (stK h q v X i).2).toInt64 * (nI v).toInt64) else stK h q v X i := rfl
theorem hoR_s (h q : Int32) (n : Nat) (T : MS) (d : Int32) (l : Int64) : hoR h q (n + 1) T d l = match dbO T d 4 with
    | none => (l, T)
    | some k => if T.2.2.1 55 k ≤ 0 then (l, T) else hoR h q n (hoT T h q k (hoM T h q k l)) (d ||| bt1 k) (l - (hoM T h q k l).toInt64 * (T.2.2.1 55 k).toInt64) := rfl
theorem se_k {w : Nat → Nat} {x y v : Nat} (hx : x < 10) (hy : y < 10) (hv : 1 ≤ v) (hv2 : v ≤ 1000) (X : MS × Int64) : ∀ k, k ≤ 4 → ∀ (T : MS) (m n : Nat) (l : Int64), seR w v 0 T m n l X → ∃ (T' : MS) (m' n' : Nat) (l' : Int64), seR w v k T' m' n' l' (stK (nI x) (nI y) v X k) ∧ hoR (nI x) (nI y) n T (nI m) l = hoR (nI x) (nI y) n' T' (nI m') l'
  | 0, _, T, m, n, l, h => ⟨T, m, n, l, h, rfl⟩
  | k + 1, hk, T, m, n, l, h => by
    obtain ⟨T1, m1, n1, l1, ⟨g1, g2, g3, g4, g5, g6⟩, e⟩ := se_k hx hy hv hv2 X k (by omega) T m n l h
    rw [e, stK_s]
    generalize stK (nI x) (nI y) v X k = Y at *
    have hwk := g4 k (by omega)
    by_cases hz : w k = v
    · rw [if_pos (by rw [hwk.2.1, hz])]
      have hnd : ¬ dn (nI m1) k := fun q => by
        have := (g3 k (by omega)).mp q
        omega
      have c3 := mk3 m1 g1 k (by omega) hnd
      obtain ⟨n2, rfl⟩ : ∃ n2, n1 = n2 + 1 := ⟨n1 - 1, by omega⟩
      have hdb : dbO T1 (nI m1) 4 = some k := by
        rcases dbO_sp T1 (nI m1) 4 with ⟨-, h2⟩ | ⟨b, hb, h1, h2, h3, h4⟩
        · exact absurd (h2 k (by omega)) hnd
        · rw [h1]
          have wb := g4 b hb
          have a1 := h3 k (by omega) hnd
          rw [hwk.1, wb.1, nI_leI (by omega) (by omega)] at a1
          have a2 : ¬ Dn w v k b := fun q => h2 ((g3 b hb).mpr q)
          have a3 : b = k := by
            rcases Nat.lt_or_ge k b with q | q
            · have a4 := h4 k q hnd
              rw [hwk.1, wb.1, nI_ltI (by omega) (by omega)] at a4
              omega
            · omega
          rw [a3]
      obtain ⟨b1, b2⟩ := mk1 m1 g1 k (by omega)
      have hM := mv_g g4 g5 hx hy (show k < 4 by omega) l1
      rw [hz, g6] at hM
      refine ⟨hoT T1 (nI x) (nI y) k (hoM T1 (nI x) (nI y) k l1), m1 ||| 2 ^ k, n2, l1 - (hoM T1 (nI x) (nI y) k l1).toInt64 * (T1.2.2.1 55 k).toInt64, ⟨b2, by omega, fun j hj => ?_, ?_, ?_, ?_⟩, ?_⟩
      · rw [mk2 m1 g1 k (by omega) j hj, g3 j hj]
        show (Dn w v k j ∨ j = k) ↔ (v < w j ∨ (w j = v ∧ j < k + 1))
        constructor
        · rintro (q | q)
          · omega
          · subst q; omega
        · intro q
          by_cases ej : j = k
          · exact Or.inr ej
          · left; omega
      · rw [g6, hM]; exact mv_w g4 x y k _
      · rw [g6, hM]; exact mv_c g5 hx hy (by omega) _
      · show _ = Y.2 - _
        rw [g6, hM, hwk.1, hz]
      · rw [hoR_s, hdb, ← b1]
        show (if T1.2.2.1 55 k ≤ 0 then (l1, T1) else _) = _
        rw [if_neg]
        rw [hwk.1, show (0 : Int32) = nI 0 from rfl, nI_leI (by omega) (by omega)]
        omega
    · rw [if_neg (by rw [hwk.2.1, nI_eq (by omega) (by omega)]; exact hz)]
      refine ⟨T1, m1, n1, l1, ⟨g1, g2, fun j hj => ?_, g4, g5, g6⟩, rfl⟩
      rw [g3 j hj]
      show (v < w j ∨ (w j = v ∧ j < k)) ↔ (v < w j ∨ (w j = v ∧ j < k + 1))
      constructor
      · omega
      · rintro (q | ⟨q1, q2⟩)
        · exact Or.inl q
        · by_cases ej : j = k
          · subst ej; exact absurd q1 hz
          · right; omega
theorem se_v {w : Nat → Nat} {x y : Nat} (hx : x < 10) (hy : y < 10) : ∀ (r : Nat) (X : MS × Int64) (T : MS) (m n : Nat) (l : Int64), r ≤ 1000 → seR w r 0 T m n l X → ∃ T', hoR (nI x) (nI y) n T (nI m) l = ((rvR (nI x) (nI y) r X).2, T') ∧ cnR T' (rvR (nI x) (nI y) r X).1 ∧ wtR T' (rvR (nI x) (nI y) r X).1 w
  | 0, X, T, m, n, l, _, ⟨g1, g2, g3, g4, g5, g6⟩ => by
    show ∃ T', hoR (nI x) (nI y) n T (nI m) l = (X.2, T') ∧ cnR T' X.1 ∧ wtR T' X.1 w
    refine ⟨T, ?_, g5, g4⟩
    rw [← g6]
    cases n with
    | zero => rfl
    | succ n =>
      rw [hoR_s]
      rcases dbO_sp T (nI m) 4 with ⟨h1, -⟩ | ⟨b, hb, h1, h2, h3, h4⟩
      · rw [h1]
      · rw [h1]
        show (if T.2.2.1 55 b ≤ 0 then (l, T) else _) = _
        rw [if_pos]
        have := fun q => h2 ((g3 b hb).mpr q)
        have wb := g4 b hb
        rw [wb.1, show w b = 0 by have : ¬ Dn w 0 0 b := this; omega]
        decide
  | r + 1, X, T, m, n, l, hr, h => by
    obtain ⟨T1, m1, n1, l1, ⟨g1, g2, g3, g4, g5, g6⟩, e⟩ := se_k hx hy (by omega) hr X 4 (Nat.le_refl 4) T m n l h
    rw [e]
    have k := se_v hx hy r (stK (nI x) (nI y) (r + 1) X 4) T1 m1 n1 l1 (by omega) ⟨g1, g2, fun j hj => by rw [g3 j hj]; show (r + 1 < w j ∨ (w j = r + 1 ∧ j < 4)) ↔ (r < w j ∨ (w j = r ∧ j < 0)); omega, g4, g5, g6⟩
    exact k
theorem se_eq {w : Nat → Nat} {T S : MS} {x y : Nat} (hx : x < 10) (hy : y < 10) (hw : wtR T S w) (hc : cnR T S) (l : Int64) : ∃ T', hoR (nI x) (nI y) 4 T 0 l = ((stV (nI x) (nI y) (S, l) 1000).2, T') ∧ cnR T' (stV (nI x) (nI y) (S, l) 1000).1 ∧ wtR T' (stV (nI x) (nI y) (S, l) 1000).1 w := by
  have e := rv_st (nI x) (nI y) (S, l) 1000 (Nat.le_refl 1000)
  rw [Nat.sub_self] at e
  have e' : stV (nI x) (nI y) (S, l) 1000 = rvR (nI x) (nI y) 1000 (S, l) := e
  rw [e']
  exact se_v hx hy 1000 (S, l) T 0 4 l (Nat.le_refl 1000) ⟨by decide, by decide, fun j hj => ⟨fun q => absurd q (mk4 j hj), fun q => by have := (hw j hj).2.2; have q' : 1000 < w j ∨ (w j = 1000 ∧ j < 0) := q; omega⟩, hw, hc, rfl⟩
/-! read, of the reference, before it copies; the custom; binds -/
abbrev tI9 : Nat → Prop := fun j => j = 29 ∨ (38 ≤ j ∧ j < 42)
abbrev tA9 : Nat → Prop := fun q => 30 ≤ q ∧ q < 35
theorem ft_go {S T : MS} (k : fx tI9 rL9 tA9 sN S T) : fx tI9 rL9 tA9 sN S (mf_go T) := by
  obtain ⟨g1, g2⟩ := gx_go T
  exact fx_tr k ⟨fun j a => g2 j (fun e => a (by omega)) (fun e => a (by omega)) (fun e => a (by omega)) (fun e => a (by omega)), fun j _ => by rw [g1], fun q _ => by rw [g1], fun q _ => by rw [g1]⟩
theorem ft_wr {S T : MS} (k : fx tI9 rL9 tA9 sN S T) : fx tI9 rL9 tA9 sN S (mwr T) := fx_sL k rfl
theorem ft_test {S T : MS} (k : fx tI9 rL9 tA9 sN S T) : fx tI9 rL9 tA9 sN S (mf_test T).2 := by
  unfold mf_test
  split
  · have k1 := ft_go (fx_sA (j := 32) (i := (mtA T).toNatClampNeg) (v := T.1 41) k (by decide))
    generalize mf_go (sA T 32 (mtA T).toNatClampNeg (T.1 41)) = X at k1
    generalize (mtA T).toNatClampNeg = A
    unfold mtT2
    split
    · have k2 := ft_go (fx_sA (j := 33) (i := A) (v := X.1 40) k1 (by decide))
      generalize mf_go (sA X 33 A (X.1 40)) = Y at k2
      unfold mtT3
      split
      · have k3 := ft_go (T := mtN A Y) (S := S) (by unfold mtN; exact fx_sA (fx_sA k2 (by decide)) (by decide))
        generalize mf_go (mtN A Y) = Q at k3
        exact k3
      · exact ft_wr k2
    · exact ft_wr k1
  · exact ft_wr k
theorem ft_mcL {S : MS} : ∀ (f : Nat) (X : Int32 × MS), fx tI9 rL9 tA9 sN S X.2 → fx tI9 rL9 tA9 sN S (mcL f X).2
  | 0, X, k => k
  | f + 1, X, k => by
    unfold mcL
    split
    · exact k
    · split
      · split
        · exact ft_wr k
        · have q := ft_test (ft_go k)
          generalize mf_test (mf_go X.2) = Z at q
          exact ft_mcL f Z q
      · exact k
theorem ft_c1 {S T : MS} (v : Int32) (k : fx tI9 rL9 tA9 sN S T) : fx tI9 rL9 tA9 sN S (mc1 T v) := by
  unfold mc1
  exact fx_sI (fx_sA (fx_sA k (by decide)) (by decide)) (by decide)
theorem ft_mcB {S X : MS} (k : fx tI9 rL9 tA9 sN S X) : fx tI9 rL9 tA9 sN S (mcB X).2 := by
  have q := ft_test (ft_go k)
  unfold mcB
  generalize mf_test (mf_go X) = Z at q
  split
  · exact ft_mcL 4 Z q
  · exact k
theorem ft_clause {S T : MS} (k : fx tI9 rL9 tA9 sN S T) : fx tI9 rL9 tA9 sN S (mf_clause T).2 := by
  have q1 := ft_mcB (ft_go (ft_c1 1 k))
  have q0 := ft_mcB (ft_go (ft_c1 0 k))
  unfold mf_clause
  generalize mcB (mf_go (mc1 T 1)) = Z1 at q1
  generalize mcB (mf_go (mc1 T 0)) = Z0 at q0
  repeat' split
  · exact q1
  · exact q0
  · exact ft_wr k
theorem ft_mxL {S : MS} : ∀ (f : Nat) (X : Int32 × MS), fx tI9 rL9 tA9 sN S X.2 → fx tI9 rL9 tA9 sN S (mxL f X).2
  | 0, X, k => k
  | f + 1, X, k => by
    unfold mxL
    split
    · exact k
    · split
      · split
        · exact ft_wr k
        · have q := ft_clause (ft_go k)
          generalize mf_clause (mf_go X.2) = Z at q
          exact ft_mxL f Z q
      · split
        · exact k
        · exact ft_wr k
theorem ft_text {S T : MS} (k : fx tI9 rL9 tA9 sN S T) : fx tI9 rL9 tA9 sN S (mf_text T).2 := by
  have q := ft_clause k
  unfold mf_text
  generalize mf_clause T = Z at q
  split
  · exact k
  · exact ft_mxL 9 Z q
theorem ft_rdT (S : MS) : fx tI9 rL9 tA9 sN S (rdT S).2 := by
  unfold rdT rdS
  exact ft_text (ft_go (fx_sI (fx_sI (fx_sL (fx_rfl S) rfl) (by decide)) (by decide)))
def cuR (T S : MS) : Prop := ∃ n, cs0 n (T.1 70) (S.1 23) (fun q => T.2.2.1 (q - 10)) (fun q => S.2.2.1 (q - 6))
theorem cu_k {T S U V : MS} (h : cuR T S) (h1 : U.1 70 = T.1 70) (h2 : ∀ q, 71 ≤ q → q < 76 → U.2.2.1 q = T.2.2.1 q) (h3 : V.1 23 = S.1 23) (h4 : ∀ q, 24 ≤ q → q < 29 → V.2.2.1 q = S.2.2.1 q) : cuR U V := by
  obtain ⟨n, a, b, c, d⟩ := h
  refine ⟨n, h1.trans a, h3.trans b, c, fun x hx => ?_⟩
  obtain ⟨k, k1, k2, k3, k4, k5⟩ := d x hx
  refine ⟨k, k1, ?_, ?_, ?_, fun j hj => ?_⟩
  · show U.2.2.1 71 x = V.2.2.1 24 x
    rw [h2 71 (by decide) (by decide), h4 24 (by decide) (by decide)]; exact k2
  · show U.2.2.1 72 x = _
    rw [h2 72 (by decide) (by decide)]; exact k3
  · show V.2.2.1 25 x = _
    rw [h4 25 (by decide) (by decide)]; exact k4
  · obtain ⟨e1, e2, e3⟩ := k5 j hj
    refine ⟨?_, ?_, ?_⟩
    · show ∃ f, f < 5 ∧ U.2.2.1 73 _ = _ ∧ V.2.2.1 26 _ = _
      rw [h2 73 (by decide) (by decide), h4 26 (by decide) (by decide)]; exact e1
    · show sgn2 (U.2.2.1 74 _) (V.2.2.1 27 _)
      rw [h2 74 (by decide) (by decide), h4 27 (by decide) (by decide)]; exact e2
    · show U.2.2.1 75 _ = V.2.2.1 28 _
      rw [h2 75 (by decide) (by decide), h4 28 (by decide) (by decide)]; exact e3
theorem cp8_r (U : MS) : ∀ n q, q ≠ 24 → q ≠ 25 → (cp8 U n).2.2.1 q = U.2.2.1 q
  | 0, _, _, _ => rfl
  | n + 1, q, h1, h2 => (sA_ne _ _ _ h2).trans ((sA_ne _ _ _ h1).trans (cp8_r U n q h1 h2))
theorem cp32_r (U : MS) : ∀ n, (∀ q, q ≠ 26 → q ≠ 27 → q ≠ 28 → (cp32 U n).2.2.1 q = U.2.2.1 q) ∧ ∀ k, k < n → (cp32 U n).2.2.1 26 k = U.2.2.1 32 k ∧ (cp32 U n).2.2.1 27 k = U.2.2.1 33 k ∧ (cp32 U n).2.2.1 28 k = U.2.2.1 34 k
  | 0 => ⟨fun _ _ _ _ => rfl, fun k hk => absurd hk (Nat.not_lt_zero k)⟩
  | n + 1 => by
    obtain ⟨a, b⟩ := cp32_r U n
    have e : cp32 U (n + 1) = cpC (cp32 U n) n := rfl
    rw [e]
    generalize cp32 U n = V at a b
    refine ⟨fun q h1 h2 h3 => ((sA_ne _ _ _ h3).trans ((sA_ne _ _ _ h2).trans (sA_ne _ _ _ h1))).trans (a q h1 h2 h3), fun k hk => ?_⟩
    have e1 : (cpC V n).2.2.1 26 = upd (V.2.2.1 26) n (V.2.2.1 32 n) := rfl
    have e2 : (cpC V n).2.2.1 27 = upd (V.2.2.1 27) n (V.2.2.1 33 n) := rfl
    have e3 : (cpC V n).2.2.1 28 = upd (V.2.2.1 28) n (V.2.2.1 34 n) := rfl
    rw [e1, e2, e3]
    by_cases ek : k = n
    · subst ek
      rw [updA_at, updA_at, updA_at, a 32 (by decide) (by decide) (by decide), a 33 (by decide) (by decide) (by decide), a 34 (by decide) (by decide) (by decide)]
      exact ⟨rfl, rfl, rfl⟩
    · rw [updA_ne _ _ ek, updA_ne _ _ ek, updA_ne _ _ ek]
      exact b k (by omega)
theorem cu_cp {Z X : MS} {n : Nat} (hz : ∀ c, c < 8 → Z.2.2.1 81 c = 0 ∨ Z.2.2.1 81 c = 1) (h : cs0 n (Z.1 80) (X.1 29) Z.2.2.1 X.2.2.1) : cuR (swT Z) (cp32 (cp8 (sI X 23 (X.1 29)) 8) 32) := by
  obtain ⟨a, b, c, d⟩ := h
  obtain ⟨q1, -⟩ := cp32_sp (cp8 (sI X 23 (X.1 29)) 8) 32
  obtain ⟨r1, r2⟩ := cp32_r (cp8 (sI X 23 (X.1 29)) 8) 32
  obtain ⟨p1, p2, p3, p4⟩ := cp8_sp (sI X 23 (X.1 29)) 8
  have p5 := cp8_r (sI X 23 (X.1 29)) 8
  generalize cp8 (sI X 23 (X.1 29)) 8 = V at *
  generalize cp32 V 32 = W at *
  refine ⟨n, ?_, ?_, c, fun x hx => ?_⟩
  · show Z.1 80 = nI n
    exact a
  · rw [q1, p1]
    show X.1 29 = nI n
    exact b
  · obtain ⟨k, k1, k2, k3, k4, k5⟩ := d x hx
    refine ⟨k, k1, ?_, ?_, ?_, fun j hj => ?_⟩
    · show Z.2.2.1 81 x = W.2.2.1 24 x
      rw [r1 24 (by decide) (by decide) (by decide), (p4 x (by omega)).1]
      show _ = vp_nar .boolean (X.2.2.1 30 x)
      rw [← k2]
      rcases hz x (by omega) with e | e
      · rw [e]; exact vn0.symm
      · rw [e]; exact vn1.symm
    · exact k3
    · show W.2.2.1 25 x = _
      rw [r1 25 (by decide) (by decide) (by decide), (p4 x (by omega)).2]
      exact k4
    · obtain ⟨e1, e2, e3⟩ := k5 j hj
      obtain ⟨s1, s2, s3⟩ := r2 (4 * x + j) (by omega)
      rw [p5 32 (by decide) (by decide)] at s1
      rw [p5 33 (by decide) (by decide)] at s2
      rw [p5 34 (by decide) (by decide)] at s3
      refine ⟨?_, ?_, ?_⟩
      · show ∃ f, f < 5 ∧ Z.2.2.1 83 _ = _ ∧ W.2.2.1 26 _ = _
        rw [s1]; exact e1
      · show sgn2 (Z.2.2.1 84 _) (W.2.2.1 27 _)
        rw [s2]; exact e2
      · show Z.2.2.1 85 _ = W.2.2.1 28 _
        rw [s3]; exact e3
/-! what a clause asks -/
theorem i64lt (x y : Int32) : x.toInt64 < y.toInt64 ↔ x < y := by
  rw [Int64.lt_iff_toInt_lt, Int32.lt_iff_toInt_lt, Int32.toInt_toInt64, Int32.toInt_toInt64]
theorem i64eq (x y : Int32) : x.toInt64 = y.toInt64 ↔ x = y := by
  rw [← Int64.toInt_inj, ← Int32.toInt_inj, Int32.toInt_toInt64, Int32.toInt_toInt64]
theorem ck_eq {T S : MS} {la am hp kd rd : Int32} {la6 : Int64} (hl : la6 = la.toInt64) {q c k : Nat} (hq : q = 4 * c + k) (h1 : ∃ f, f < 5 ∧ T.2.2.1 73 q = nI f ∧ S.2.2.1 26 q = nI f) (h2 : sgn2 (T.2.2.1 74 q) (S.2.2.1 27 q)) (h3 : T.2.2.1 75 q = S.2.2.1 28 q) : chk (cf_facts T la am hp kd rd) c k ↔ mtest S q (mvalu S q la6 am hp kd rd) := by
  obtain ⟨f, hf, f1, f2⟩ := h1
  subst hq
  have hv : mvalu S (4 * c + k) la6 am hp kd rd = ((cf_facts T la am hp kd rd).2.2.1 4 ((cf_facts T la am hp kd rd).2.2.1 73 (4 * c + k)).toNatClampNeg).toInt64 := by
    have e73 : (cf_facts T la am hp kd rd).2.2.1 73 = T.2.2.1 73 := rfl
    have e4 : (cf_facts T la am hp kd rd).2.2.1 4 = upd (upd (upd (upd (upd (T.2.2.1 4) 0 la) 1 am) 2 hp) 3 kd) 4 rd := rfl
    rw [e73, e4, f1, nI_clamp (by omega)]
    unfold mvalu
    rw [f2, hl]
    obtain rfl | rfl | rfl | rfl | rfl := (show f = 0 ∨ f = 1 ∨ f = 2 ∨ f = 3 ∨ f = 4 by omega)
    · rfl
    · rfl
    · rfl
    · rfl
    · rfl
  rw [hv]
  have e74 : (cf_facts T la am hp kd rd).2.2.1 74 = T.2.2.1 74 := rfl
  have e75 : (cf_facts T la am hp kd rd).2.2.1 75 = T.2.2.1 75 := rfl
  show chold ((cf_facts T la am hp kd rd).2.2.1 4 ((cf_facts T la am hp kd rd).2.2.1 73 (4 * c + k)).toNatClampNeg) ((cf_facts T la am hp kd rd).2.2.1 74 (4 * c + k)) ((cf_facts T la am hp kd rd).2.2.1 75 (4 * c + k)) ↔ _
  generalize (cf_facts T la am hp kd rd).2.2.1 4 ((cf_facts T la am hp kd rd).2.2.1 73 (4 * c + k)).toNatClampNeg = z
  rw [e74, e75, h3]
  rcases h2 with ⟨a, b⟩ | ⟨a, b⟩ | ⟨a, b⟩
  · show (if T.2.2.1 74 (4 * c + k) = 5 then _ else _) ↔ (if S.2.2.1 27 (4 * c + k) = 60 then _ else _)
    rw [a, b, if_pos rfl, if_pos rfl, i64lt]
  · show (if T.2.2.1 74 (4 * c + k) = 5 then _ else if _ then _ else _) ↔ (if S.2.2.1 27 (4 * c + k) = 60 then _ else if _ then _ else _)
    rw [a, b, if_neg (by decide), if_pos rfl, if_neg (by decide), if_neg (by decide), i64eq]
  · show (if T.2.2.1 74 (4 * c + k) = 5 then _ else if _ then _ else _) ↔ (if S.2.2.1 27 (4 * c + k) = 60 then _ else if _ then _ else _)
    rw [a, b, if_neg (by decide), if_neg (by decide), if_neg (by decide), if_pos rfl, i64lt]
theorem mho {S : MS} {c : Nat} {la : Int64} {am hp kd rd : Int32} : ∀ n, (mholds S c la am hp kd rd n = 0 ↔ ¬ ∀ j, j < n → mtest S (4 * c + j) (mvalu S (4 * c + j) la am hp kd rd))
  | 0 => ⟨fun h => absurd h (by show ¬ (1 : Int32) = 0; decide), fun h => absurd (fun j hj => absurd hj (Nat.not_lt_zero j)) h⟩
  | n + 1 => by
    have ih := mho (S := S) (c := c) (la := la) (am := am) (hp := hp) (kd := kd) (rd := rd) n
    show (if mholds S c la am hp kd rd n = 0 then (0 : Int32) else if mtest S (4 * c + n) (mvalu S (4 * c + n) la am hp kd rd) then 1 else 0) = 0 ↔ _
    by_cases h0 : mholds S c la am hp kd rd n = 0
    · rw [if_pos h0]
      exact ⟨fun _ q => (ih.mp h0) (fun j hj => q j (by omega)), fun _ => rfl⟩
    · rw [if_neg h0]
      have hall := Classical.not_not.mp (fun q => h0 (ih.mpr q))
      by_cases h1 : mtest S (4 * c + n) (mvalu S (4 * c + n) la am hp kd rd)
      · rw [if_pos h1]
        refine ⟨fun q => absurd q (by decide), fun q => absurd (fun j hj => ?_) q⟩
        by_cases e : j = n
        · rw [e]; exact h1
        · exact hall j (by omega)
      · rw [if_neg h1]
        exact ⟨fun _ q => h1 (q n (by omega)), fun _ => rfl⟩
theorem bn_eq {T S : MS} {la am hp kd rd : Int32} {la6 : Int64} (hl : la6 = la.toInt64) (h : cuR T S) : cfb T la am hp kd rd = mbound S la6 am hp kd rd := by
  obtain ⟨n, a, b, c, d⟩ := h
  unfold cfb cbound mbound
  have e70 : (cf_facts T la am hp kd rd).1 70 = nI n := a
  rw [e70, b, nI_clamp (by omega)]
  have key : ∀ m x, x + m = n → cbnd (cf_facts T la am hp kd rd) m x = mbnd S la6 am hp kd rd m x := by
    intro m
    induction m with
    | zero => exact fun _ _ => rfl
    | succ m ih =>
      intro x hx
      obtain ⟨k, k1, k2, k3, k4, k5⟩ := d x (by omega)
      have e72 : (cf_facts T la am hp kd rd).2.2.1 72 x = nI k := k3
      have e71 : (cf_facts T la am hp kd rd).2.2.1 71 x = S.2.2.1 24 x := k2
      have e25 : S.2.2.1 25 x = nI k := k4
      have hh := mho (S := S) (c := x) (la := la6) (am := am) (hp := hp) (kd := kd) (rd := rd) k
      have hc : (∀ j, j < k → chk (cf_facts T la am hp kd rd) x j) ↔ ∀ j, j < k → mtest S (4 * x + j) (mvalu S (4 * x + j) la6 am hp kd rd) := by
        constructor
        · intro q j hj
          obtain ⟨t1, t2, t3⟩ := k5 j hj
          exact (ck_eq hl rfl t1 t2 t3).mp (q j hj)
        · intro q j hj
          obtain ⟨t1, t2, t3⟩ := k5 j hj
          exact (ck_eq hl rfl t1 t2 t3).mpr (q j hj)
      unfold cbnd mbnd
      rw [e72, e71, e25, nI_clamp (by omega)]
      by_cases q : ∀ j, j < k → chk (cf_facts T la am hp kd rd) x j
      · rw [if_pos q, if_neg (fun z => (hh.mp z) (hc.mp q))]
      · rw [if_neg q, if_pos (hh.mpr (fun z => q (hc.mpr z))), ih (x + 1) (by omega)]
  exact key n 0 (by omega)
