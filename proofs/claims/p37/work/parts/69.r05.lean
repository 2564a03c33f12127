/-! payments within a group -/
def nF (T : MS) (h : Nat) : Int := (T.2.2.2 50 h).toInt
def nz (F : Nat → Int) : Int := isum (fun h => if F h = 0 then 0 else 1) 10
def ab (F : Nat → Int) : Int := isum (fun h => ((F h).natAbs : Int)) 10
theorem lsR_sp (S : MS) (st sg : Int32) : ∀ (n i : Nat), (lsR S st sg n i = -1 ∧ ∀ q, i ≤ q → q < i + n → ¬ lsHit S st sg q) ∨ ∃ q, i ≤ q ∧ q < i + n ∧ lsHit S st sg q ∧ lsR S st sg n i = nI q ∧ ∀ r, i ≤ r → r < q → ¬ lsHit S st sg r
  | 0, i => Or.inl ⟨rfl, fun q h1 h2 => absurd h1 (by omega)⟩
  | n + 1, i => by
    by_cases h : lsHit S st sg i
    · exact Or.inr ⟨i, Nat.le_refl i, by omega, h, if_pos h, fun r h1 h2 => absurd h1 (by omega)⟩
    · have e : lsR S st sg (n + 1) i = lsR S st sg n (i + 1) := if_neg h
      rw [e]
      rcases lsR_sp S st sg n (i + 1) with ⟨k1, k2⟩ | ⟨q, k1, k2, k3, k4, k5⟩
      · refine Or.inl ⟨k1, fun q h1 h2 => ?_⟩
        by_cases eq : q = i
        · rw [eq]; exact h
        · exact k2 q (by omega) (by omega)
      · refine Or.inr ⟨q, by omega, by omega, k3, k4, fun r h1 h2 => ?_⟩
        by_cases er : r = i
        · rw [er]; exact h
        · exact k5 r (by omega) h2
theorem hitN {T : MS} {g i : Nat} (hg : g < 1024) (hi : i < 10) (hb : -1000000000000 ≤ nF T i ∧ nF T i ≤ 1000000000000) : lsHit T (nI g) (-1) i ↔ g.testBit i = true ∧ nF T i < 0 := by
  unfold lsHit
  rw [tbit g hg i hi, show (-1 : Int32).toInt64 = -1 from by decide, Int64.le_iff_toInt_le]
  have e1 : (-1 : Int64).toInt = -1 := by decide
  have e0 : (0 : Int64).toInt = 0 := by decide
  unfold nF at *
  rw [L_mul (by rw [e1]; omega) (by rw [e1]; omega), e1, e0]
  constructor
  · rintro ⟨a, b⟩; exact ⟨a, by omega⟩
  · rintro ⟨a, b⟩; exact ⟨a, by omega⟩
theorem hitP {T : MS} {g i : Nat} (hg : g < 1024) (hi : i < 10) (hb : -1000000000000 ≤ nF T i ∧ nF T i ≤ 1000000000000) : lsHit T (nI g) 1 i ↔ g.testBit i = true ∧ 0 < nF T i := by
  unfold lsHit
  rw [tbit g hg i hi, show (1 : Int32).toInt64 = 1 from by decide, Int64.le_iff_toInt_le]
  have e1 : (1 : Int64).toInt = 1 := by decide
  have e0 : (0 : Int64).toInt = 0 := by decide
  unfold nF at *
  rw [L_mul (by rw [e1]; omega) (by rw [e1]; omega), e1, e0]
  constructor
  · rintro ⟨a, b⟩; exact ⟨a, by omega⟩
  · rintro ⟨a, b⟩; exact ⟨a, by omega⟩
/-- where one owes within a sum of 0, one is to get -/
theorem sg_pos {F : Nat → Int} {g p : Nat} (hp : p < 10) (hb : g.testBit p = true) (hn : F p < 0) (hs : sgI F g = 0) : ∃ q, q < 10 ∧ g.testBit q = true ∧ 0 < F q := by
  apply Classical.byContradiction
  intro h
  have h1 : ∀ q, q < 10 → 0 ≤ -(if g.testBit q = true then F q else 0) := by
    intro q hq
    split
    · next hbq =>
      have : ¬ 0 < F q := fun h2 => h ⟨q, hq, hbq, h2⟩
      omega
    · omega
  have h2 := isum_term (f := fun q => -(if g.testBit q = true then F q else 0)) hp h1
  have h3 : isum (fun q => -(if g.testBit q = true then F q else 0)) 10 = -sgI F g := by
    have := isum_sub (fun _ => 0) (fun q => if g.testBit q = true then F q else 0) 10
    rw [isum_0] at this
    unfold sgI
    rw [← Int.zero_sub, ← this]
    exact isum_congr 10 (fun i _ => by omega)
  simp only [hb, if_true] at h2
  omega
/-- a payment moves v from p to q -/
theorem mv_sg {F F' : Nat → Int} {p q : Nat} {v : Int} (hpq : p ≠ q) (hp : p < 10) (hq : q < 10) (h1 : F' p = F p + v) (h2 : F' q = F q - v) (h3 : ∀ h, h ≠ p → h ≠ q → F' h = F h) (g : Nat) : sgI F' g = sgI F g + (if g.testBit p = true then v else 0) - (if g.testBit q = true then v else 0) := by
  unfold sgI
  have e : isum (fun j => if g.testBit j = true then F' j else 0) 10 = isum (fun j => (if g.testBit j = true then F j else 0) + (if j = p then (if g.testBit p = true then v else 0) else 0) + (if j = q then -(if g.testBit q = true then v else 0) else 0)) 10 := by
    refine isum_congr 10 (fun j _ => ?_)
    by_cases ep : j = p
    · subst ep
      rw [if_pos rfl, if_neg hpq, h1]
      split <;> omega
    · by_cases eq : j = q
      · subst eq
        rw [if_neg ep, if_pos rfl, h2]
        split <;> omega
      · rw [if_neg ep, if_neg eq, h3 j ep eq]
        omega
  have s1 : ∀ (x : Nat) (w : Int), x < 10 → isum (fun j => if j = x then w else 0) 10 = w := by
    intro x w hx
    have := isum_upd (fun _ => 0) (fun j => if j = x then w else 0) x (fun j hj => if_neg hj) 10
    rw [isum_0, if_pos hx, if_pos rfl] at this
    omega
  rw [e, isum_add, isum_add, s1 p _ hp, s1 q _ hq]
  omega
theorem mv_nz {F F' : Nat → Int} {p q : Nat} (hpq : p ≠ q) (hp : p < 10) (hq : q < 10) (h1 : F p ≠ 0) (h2 : F q ≠ 0) (h0 : F' p = 0 ∨ F' q = 0) (h3 : ∀ h, h ≠ p → h ≠ q → F' h = F h) : nz F' + 1 ≤ nz F ∧ 2 ≤ nz F := by
  have hd : isum (fun h => (if F h = 0 then (0 : Int) else 1) - (if F' h = 0 then 0 else 1)) 10 = nz F - nz F' := isum_sub _ _ 10
  have key : ∀ x, x < 10 → x = p ∨ x = q → F' x = 0 → nz F' + 1 ≤ nz F := by
    intro x hx hxx hz
    have hnn : ∀ h, h < 10 → 0 ≤ (if F h = 0 then (0 : Int) else 1) - (if F' h = 0 then 0 else 1) := by
      intro h _
      by_cases ep : h = p
      · subst ep; rw [if_neg h1]; split <;> omega
      · by_cases eq : h = q
        · subst eq; rw [if_neg h2]; split <;> omega
        · rw [h3 h ep eq]; omega
    have ht := isum_term (f := fun h => (if F h = 0 then (0 : Int) else 1) - (if F' h = 0 then 0 else 1)) hx hnn
    have hx0 : F x ≠ 0 := by rcases hxx with e | e <;> rw [e] <;> assumption
    simp only [if_neg hx0, if_pos hz] at ht
    omega
  refine ⟨?_, ?_⟩
  · rcases h0 with h0 | h0
    · exact key p hp (Or.inl rfl) h0
    · exact key q hq (Or.inr rfl) h0
  · have hle : isum (fun j => (if j = p then (1 : Int) else 0) + (if j = q then 1 else 0)) 10 ≤ nz F := by
      refine isum_le 10 (fun j _ => ?_)
      by_cases ep : j = p
      · subst ep; rw [if_pos rfl, if_neg hpq, if_neg h1]; decide
      · by_cases eq : j = q
        · subst eq; rw [if_neg ep, if_pos rfl, if_neg h2]; decide
        · rw [if_neg ep, if_neg eq]; split <;> decide
    have s1 : ∀ (x : Nat), x < 10 → isum (fun j => if j = x then (1 : Int) else 0) 10 = 1 := by
      intro x hx
      have := isum_upd (fun _ => 0) (fun j => if j = x then (1 : Int) else 0) x (fun j hj => if_neg hj) 10
      rw [isum_0, if_pos hx, if_pos rfl] at this
      omega
    rw [isum_add, s1 p hp, s1 q hq] at hle
    omega
theorem mv_ab {F F' : Nat → Int} {p q : Nat} {v : Int} (hpq : p ≠ q) (hp : p < 10) (hq : q < 10) (h0 : 0 ≤ v) (hv1 : v ≤ -F p) (hv2 : v ≤ F q) (h1 : F' p = F p + v) (h2 : F' q = F q - v) (h3 : ∀ h, h ≠ p → h ≠ q → F' h = F h) : ab F' + 2 * v = ab F := by
  unfold ab
  have e : isum (fun j => ((F' j).natAbs : Int)) 10 = isum (fun j => ((F j).natAbs : Int) + (if j = p then -v else 0) + (if j = q then -v else 0)) 10 := by
    refine isum_congr 10 (fun j _ => ?_)
    by_cases ep : j = p
    · subst ep
      rw [if_pos rfl, if_neg hpq, h1]
      omega
    · by_cases eq : j = q
      · subst eq
        rw [if_neg ep, if_pos rfl, h2]
        omega
      · rw [if_neg ep, if_neg eq, h3 j ep eq]
        omega
  have s1 : ∀ (x : Nat) (w : Int), x < 10 → isum (fun j => if j = x then w else 0) 10 = w := by
    intro x w hx
    have := isum_upd (fun _ => 0) (fun j => if j = x then w else 0) x (fun j hj => if_neg hj) 10
    rw [isum_0, if_pos hx, if_pos rfl] at this
    omega
  rw [e, isum_add, isum_add, s1 p _ hp, s1 q _ hq]
  omega
/-- what stands between payments: c of them are made -/
def poI (A B : Int) (T : MS) (c : Nat) : Prop := T.1 46 = nI c ∧ (c : Int) + nz (nF T) ≤ 10 ∧ (∀ j, j < c → vp_in (T.2.2.1 47 j) 10 ∧ vp_in (T.2.2.1 48 j) 10 ∧ 0 ≤ (T.2.2.2 49 j).toInt) ∧ 2 * isum (fun j => (T.2.2.2 49 j).toInt) c + ab (nF T) = A ∧ ∀ h, h < 10 → -B ≤ nF T h ∧ nF T h ≤ B
theorem po_step {A B : Int} (hB : B ≤ 1000000000000) {T : MS} {c g p : Nat} (hg : g < 1024) (hI : poI A B T c) (hs : sgI (nF T) g = 0) (hp : p < 10) (hh : lsHit T (nI g) (-1) p) (hF : poF (nI g) T = nI p) : vp_in (poT (nI g) T) 10 ∧ vp_in (T.1 46) 10 ∧ poI A B (poS (nI g) T) (c + 1) ∧ sgI (nF (poS (nI g) T)) g = 0 ∧ nz (nF (poS (nI g) T)) + 1 ≤ nz (nF T) ∧ (∀ x, g &&& x = 0 → sgI (nF (poS (nI g) T)) x = sgI (nF T) x) ∧ fr T (poS (nI g) T) ∧ (poS (nI g) T).2.2.1 45 = T.2.2.1 45 ∧ (poS (nI g) T).2.2.2 42 = T.2.2.2 42 ∧ (poS (nI g) T).1 44 = T.1 44 := by
  obtain ⟨i1, i2, i3, i4, i5⟩ := hI
  have hb : ∀ h, h < 10 → -1000000000000 ≤ nF T h ∧ nF T h ≤ 1000000000000 := fun h hh => by have := i5 h hh; omega
  obtain ⟨bp, np⟩ := (hitN hg hp (hb p hp)).mp hh
  obtain ⟨q0, hq0, bq0, nq0⟩ := sg_pos hp bp np hs
  have hT : ∃ q, q < 10 ∧ g.testBit q = true ∧ 0 < nF T q ∧ poT (nI g) T = nI q := by
    rcases lsR_sp T (nI g) 1 10 0 with ⟨k1, k2⟩ | ⟨q, k1, k2, k3, k4, k5⟩
    · exact absurd ((hitP hg hq0 (hb q0 hq0)).mpr ⟨bq0, nq0⟩) (k2 q0 (Nat.zero_le _) (by omega))
    · obtain ⟨a1, a2⟩ := (hitP hg (by omega) (hb q (by omega))).mp k3
      exact ⟨q, by omega, a1, a2, k4⟩
  obtain ⟨q, hq, bq, nq, eT⟩ := hT
  have hpq : p ≠ q := by intro e; rw [e] at np; omega
  have hbp := i5 p hp
  have hbq := i5 q hq
  have cp : (nI p).toNatClampNeg = p := nI_clamp (by omega)
  have cq : (nI q).toNatClampNeg = q := nI_clamp (by omega)
  have hneg : (-T.2.2.2 50 p).toInt = -nF T p := L_neg (by unfold nF at *; omega)
  have hnz2 : 2 ≤ nz (nF T) := (mv_nz (F' := fun h => if h = p then 0 else nF T h) hpq hp hq (by omega) (by omega) (Or.inl (if_pos rfl)) (fun h h1 _ => if_neg h1)).2
  have hc9 : c < 10 := by omega
  have cc : (T.1 46).toNatClampNeg = c := by rw [i1]; exact nI_clamp (by omega)
  obtain ⟨v, ev⟩ : ∃ v, v = poV (nI g) T := ⟨_, rfl⟩
  have hv : 0 < v.toInt ∧ v.toInt ≤ -nF T p ∧ v.toInt ≤ nF T q ∧ (v.toInt = -nF T p ∨ v.toInt = nF T q) := by
    rw [ev]
    unfold poV
    rw [eT, hF, cp, cq]
    split
    · next h => rw [Int64.lt_iff_toInt_lt, hneg] at h; unfold nF at *; omega
    · next h => rw [Int64.not_lt, Int64.le_iff_toInt_le, hneg] at h; rw [hneg]; unfold nF at *; omega
  have eS : poS (nI g) T = sB (sB (sI (sB (sA (sA T 47 c (nI p)) 48 c (nI q)) 49 c v) 46 (nI (c + 1))) 50 p (T.2.2.2 50 p + v)) 50 q (T.2.2.2 50 q - v) := by
    unfold poS po3 po2 po1
    rw [← ev, eT, hF, cp, cq, cc]
    have e1 : (sB (sA (sA T 47 c (nI p)) 48 c (nI q)) 49 c v).1 46 = nI c := i1
    rw [e1, nI_1]
    have e2 : (sI (sB (sA (sA T 47 c (nI p)) 48 c (nI q)) 49 c v) 46 (nI (c + 1))).2.2.2 50 p = T.2.2.2 50 p := rfl
    rw [e2]
    have e3 : (sB (sI (sB (sA (sA T 47 c (nI p)) 48 c (nI q)) 49 c v) 46 (nI (c + 1))) 50 p (T.2.2.2 50 p + v)).2.2.2 50 q = T.2.2.2 50 q := by
      rw [sB_at, updL_ne _ _ hpq.symm]
      rfl
    rw [e3]
  have r50 : ∀ h, (poS (nI g) T).2.2.2 50 h = if h = q then T.2.2.2 50 q - v else if h = p then T.2.2.2 50 p + v else T.2.2.2 50 h := by
    intro h
    rw [eS, sB_at]
    by_cases eq : h = q
    · rw [eq, updL_at, if_pos rfl]
    · rw [updL_ne _ _ eq, if_neg eq, sB_at]
      by_cases ep : h = p
      · rw [ep, updL_at, if_pos rfl]
      · rw [updL_ne _ _ ep, if_neg ep]
        rfl
  have F1 : nF (poS (nI g) T) p = nF T p + v.toInt := by
    unfold nF
    rw [r50, if_neg hpq, if_pos rfl]
    exact L_add (by unfold nF at *; omega) (by unfold nF at *; omega)
  have F2 : nF (poS (nI g) T) q = nF T q - v.toInt := by
    unfold nF
    rw [r50, if_pos rfl]
    exact L_sub (by unfold nF at *; omega) (by unfold nF at *; omega)
  have F3 : ∀ h, h ≠ p → h ≠ q → nF (poS (nI g) T) h = nF T h := by
    intro h h1 h2
    unfold nF
    rw [r50, if_neg h2, if_neg h1]
  have hz := mv_nz (F := nF T) (F' := nF (poS (nI g) T)) hpq hp hq (by omega) (by omega) (by rcases hv.2.2.2 with e | e <;> omega) F3
  have r49 : ∀ j, (poS (nI g) T).2.2.2 49 j = if j = c then v else T.2.2.2 49 j := by
    intro j
    rw [eS]
    show (sB (sA (sA T 47 c (nI p)) 48 c (nI q)) 49 c v).2.2.2 49 j = _
    rw [sB_at]
    rfl
  refine ⟨by rw [eT]; exact vp_in_nI hq (by decide), by rw [i1]; exact vp_in_nI hc9 (by decide), ⟨?_, ?_, ?_, ?_, ?_⟩, ?_, hz.1, ?_, ?_, ?_, ?_, ?_⟩
  · rw [eS]; rfl
  · have := hz.1
    omega
  · intro j hj
    rw [r49]
    have e47 : (poS (nI g) T).2.2.1 47 j = if j = c then nI p else T.2.2.1 47 j := by rw [eS]; rfl
    have e48 : (poS (nI g) T).2.2.1 48 j = if j = c then nI q else T.2.2.1 48 j := by rw [eS]; rfl
    rw [e47, e48]
    by_cases e : j = c
    · rw [if_pos e, if_pos e, if_pos e]
      exact ⟨vp_in_nI hp (by decide), vp_in_nI hq (by decide), by omega⟩
    · rw [if_neg e, if_neg e, if_neg e]
      exact i3 j (by omega)
  · have hab := mv_ab (F := nF T) (F' := nF (poS (nI g) T)) hpq hp hq (by omega) hv.2.1 hv.2.2.1 F1 F2 F3
    have e : isum (fun j => ((poS (nI g) T).2.2.2 49 j).toInt) (c + 1) = isum (fun j => (T.2.2.2 49 j).toInt) c + v.toInt := by
      show isum (fun j => ((poS (nI g) T).2.2.2 49 j).toInt) c + ((poS (nI g) T).2.2.2 49 c).toInt = _
      rw [r49, if_pos rfl, isum_congr (g := fun j => (T.2.2.2 49 j).toInt) c (fun j hj => by rw [r49, if_neg (by omega)])]
    rw [e]
    omega
  · intro h hh
    by_cases ep : h = p
    · rw [ep, F1]; omega
    · by_cases eq : h = q
      · rw [eq, F2]; omega
      · rw [F3 h ep eq]; exact i5 h hh
  · rw [mv_sg hpq hp hq F1 F2 F3 g, if_pos bp, if_pos bq, hs]
    omega
  · intro x hx
    have dx : ∀ h, g.testBit h = true → x.testBit h = false := by
      intro h hh
      have : (g &&& x).testBit h = false := by rw [hx]; exact Nat.zero_testBit h
      rw [Nat.testBit_and, hh] at this
      simpa using this
    rw [mv_sg hpq hp hq F1 F2 F3 x, dx p bp, dx q bq]
    simp
  · rw [eS]
    exact fr_tr (fr_tr (fr_tr (fr_tr (fr_tr (fr_sA (Or.inr (Or.inr (Or.inl rfl)))) (fr_sA (Or.inr (Or.inr (Or.inr rfl))))) (fr_sB (Or.inr (Or.inl rfl)))) (fr_sI (Or.inr rfl))) (fr_sB (Or.inr (Or.inr rfl)))) (fr_sB (Or.inr (Or.inr rfl)))
  · rw [eS]; rfl
  · rw [eS]; rfl
  · rw [eS]; rfl
theorem nz_nn (F : Nat → Int) : 0 ≤ nz F := isum_nn 10 (fun i _ => by split; exact Int.le_refl 0; decide)
theorem po_ok {A B : Int} (hB : B ≤ 1000000000000) {g : Nat} (hg : g < 1024) : ∀ (f : Nat) (T : MS) (c : Nat), poI A B T c → sgI (nF T) g = 0 → nz (nF T) ≤ f → poOk (nI g) f T ∧ ∃ c', poI A B (poR (nI g) f T) c' ∧ fr T (poR (nI g) f T) ∧ (poR (nI g) f T).2.2.1 45 = T.2.2.1 45 ∧ (poR (nI g) f T).1 44 = T.1 44 ∧ ∀ x, g &&& x = 0 → sgI (nF (poR (nI g) f T)) x = sgI (nF T) x
  | 0, T, c, hI, hs, hz => by
    refine ⟨?_, c, hI, fr_rfl T, rfl, rfl, fun _ _ => rfl⟩
    show poF (nI g) T < 0
    rcases lsR_sp T (nI g) (-1) 10 0 with ⟨k1, k2⟩ | ⟨q, k1, k2, k3, k4, k5⟩
    · rw [show poF (nI g) T = -1 from k1]; decide
    · exfalso
      have hb : -1000000000000 ≤ nF T q ∧ nF T q ≤ 1000000000000 := by have := hI.2.2.2.2 q (by omega); omega
      obtain ⟨a1, a2⟩ := (hitN hg (by omega) hb).mp k3
      have ht := isum_term (f := fun h => if nF T h = 0 then (0 : Int) else 1) (i := q) (n := 10) (by omega) (fun i _ => by split <;> decide)
      simp only [if_neg (show ¬ nF T q = 0 by omega)] at ht
      have hz' : isum (fun h => if nF T h = 0 then (0 : Int) else 1) 10 ≤ 0 := hz
      omega
  | f + 1, T, c, hI, hs, hz => by
    rcases lsR_sp T (nI g) (-1) 10 0 with ⟨k1, k2⟩ | ⟨q, k1, k2, k3, k4, k5⟩
    · have hlt : poF (nI g) T < 0 := by rw [show poF (nI g) T = -1 from k1]; decide
      have e : poR (nI g) (f + 1) T = T := if_pos hlt
      rw [e]
      exact ⟨Or.inl hlt, c, hI, fr_rfl T, rfl, rfl, fun _ _ => rfl⟩
    · have hnl : ¬ poF (nI g) T < 0 := by
        rw [show poF (nI g) T = nI q from k4, show (0 : Int32) = nI 0 from by decide, nI_ltI (by omega) (by decide)]
        omega
      have e : poR (nI g) (f + 1) T = poR (nI g) f (poS (nI g) T) := if_neg hnl
      obtain ⟨s1, s2, s3, s4, s5, s6, s7, s8, s9, s10⟩ := po_step hB hg hI hs (by omega) k3 k4
      obtain ⟨r1, c', r2, r3, r4, r5, r6⟩ := po_ok hB hg f (poS (nI g) T) (c + 1) s3 s4 (by omega)
      rw [e]
      exact ⟨Or.inr ⟨s1, s2, r1⟩, c', r2, fr_tr s7 r3, r4.trans s8, r5.trans s10, fun x hx => (r6 x hx).trans (s6 x hx)⟩
