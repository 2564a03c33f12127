theorem ix5 {x t : Int32} {N : Nat} (hN : N ≤ 10) (hx : vp_in x N) (ht : vp_in t 5) : (5 * x + t).toNatClampNeg = 5 * x.toNatClampNeg + t.toNatClampNeg := by
  obtain ⟨i, hi, rfl⟩ := vp_in_of hx (by omega)
  obtain ⟨j, hj, rfl⟩ := vp_in_of ht (by decide)
  rw [show (5 : Int32) = nI 5 from by decide, nI_mul, nI_add, nI_clamp (by omega), nI_clamp (by omega), nI_clamp (by omega)]

/-! the middle vote -/
def rI (f : Nat → Int32) (i : Nat) : Int := (f i).toInt
/-- v is put in its place among the first n of r -/
theorem ins_sp : ∀ (n : Nat) (T : MS) (v : Int32), ∃ p, p ≤ n ∧ (∀ i, i < p → (insR n T v).2.2.1 62 i = T.2.2.1 62 i) ∧ (insR n T v).2.2.1 62 p = v ∧ (∀ i, p ≤ i → i < n → (insR n T v).2.2.1 62 (i + 1) = T.2.2.1 62 i ∧ v.toInt < rI (T.2.2.1 62) i) ∧ (∀ i, i + 1 = p → rI (T.2.2.1 62) i ≤ v.toInt) ∧ (∀ i, n < i → (insR n T v).2.2.1 62 i = T.2.2.1 62 i)
  | 0, T, v => ⟨0, Nat.le_refl 0, fun i hi => absurd hi (Nat.not_lt_zero i), by show (sA T 62 0 v).2.2.1 62 0 = v; rw [sA_at, updA_at], fun i _ hi => absurd hi (Nat.not_lt_zero i), fun i hi => absurd hi (Nat.succ_ne_zero i), fun i hi => by show (sA T 62 0 v).2.2.1 62 i = _; rw [sA_at, updA_ne _ _ (by omega)]⟩
  | n + 1, T, v => by
    by_cases hc : T.2.2.1 62 n ≤ v
    · have e : insR (n + 1) T v = sA T 62 (n + 1) v := if_pos hc
      rw [e]
      refine ⟨n + 1, Nat.le_refl _, fun i hi => ?_, ?_, fun i h1 h2 => absurd h1 (by omega), fun i hi => ?_, fun i hi => ?_⟩
      · rw [sA_at, updA_ne _ _ (by omega)]
      · rw [sA_at, updA_at]
      · have : i = n := by omega
        subst this
        rw [Int32.le_iff_toInt_le] at hc
        exact hc
      · rw [sA_at, updA_ne _ _ (by omega)]
    · have e : insR (n + 1) T v = insR n (sA T 62 (n + 1) (T.2.2.1 62 n)) v := if_neg hc
      rw [e]
      obtain ⟨p, h1, h2, h3, h4, h5, h6⟩ := ins_sp n (sA T 62 (n + 1) (T.2.2.1 62 n)) v
      have hr : ∀ i, i ≤ n → (sA T 62 (n + 1) (T.2.2.1 62 n)).2.2.1 62 i = T.2.2.1 62 i := fun i hi => by rw [sA_at, updA_ne _ _ (by omega)]
      refine ⟨p, by omega, fun i hi => ?_, h3, fun i hi1 hi2 => ?_, fun i hi => ?_, fun i hi => ?_⟩
      · rw [h2 i hi, hr i (by omega)]
      · by_cases en : i = n
        · subst en
          rw [h6 (i + 1) (by omega), sA_at, updA_at]
          rw [Int32.not_le, Int32.lt_iff_toInt_lt] at hc
          exact ⟨rfl, hc⟩
        · obtain ⟨k1, k2⟩ := h4 i hi1 (by omega)
          rw [k1, hr i (by omega)]
          unfold rI at k2 ⊢
          rw [hr i (by omega)] at k2
          exact ⟨rfl, k2⟩
      · have := h5 i hi
        unfold rI at this ⊢
        rw [hr i (by omega)] at this
        exact this
      · rw [h6 i (by omega), sA_at, updA_ne _ _ (by omega)]
/-- how many of the first n hold q -/
def cnt (q : Int → Prop) [DecidablePred q] (r : Nat → Int) (n : Nat) : Int := isum (fun i => if q (r i) then 1 else 0) n
def srt (r : Nat → Int) (n : Nat) : Prop := ∀ i j, i ≤ j → j < n → r i ≤ r j
theorem ins_cnt {r r' : Nat → Int} {v : Int} {n p : Nat} (hp : p ≤ n) (h1 : ∀ i, i < p → r' i = r i) (h2 : r' p = v) (h3 : ∀ i, p ≤ i → i < n → r' (i + 1) = r i) (q : Int → Prop) [DecidablePred q] : cnt q r' (n + 1) = cnt q r n + (if q v then 1 else 0) := by
  unfold cnt
  have e1 := isum_split (fun i => if q (r' i) then (1 : Int) else 0) p (n + 1 - p)
  have e2 := isum_split (fun i => if q (r i) then (1 : Int) else 0) p (n - p)
  have e3 := isum_split (fun k => if q (r' (p + k)) then (1 : Int) else 0) 1 (n - p)
  rw [show p + (n + 1 - p) = n + 1 by omega] at e1
  rw [show p + (n - p) = n by omega] at e2
  rw [show 1 + (n - p) = n + 1 - p by omega] at e3
  have e4 : isum (fun i => if q (r' i) then (1 : Int) else 0) p = isum (fun i => if q (r i) then (1 : Int) else 0) p := isum_congr p (fun i hi => by rw [h1 i hi])
  have e5 : isum (fun k => if q (r' (p + (1 + k))) then (1 : Int) else 0) (n - p) = isum (fun k => if q (r (p + k)) then (1 : Int) else 0) (n - p) := isum_congr (n - p) (fun k hk => by rw [show p + (1 + k) = p + k + 1 by omega, h3 (p + k) (by omega) (by omega)])
  have e6 : isum (fun k => if q (r' (p + k)) then (1 : Int) else 0) 1 = (if q v then 1 else 0) := by
    show 0 + (if q (r' (p + 0)) then (1 : Int) else 0) = _
    rw [Nat.add_zero, h2, Int.zero_add]
  rw [e1, e3, e4, e5, e6, e2]
  omega
theorem ins_srt {r r' : Nat → Int} {v : Int} {n p : Nat} (hp : p ≤ n) (hs : srt r n) (h1 : ∀ i, i < p → r' i = r i) (h2 : r' p = v) (h3 : ∀ i, p ≤ i → i < n → r' (i + 1) = r i ∧ v < r i) (h4 : ∀ i, i + 1 = p → r i ≤ v) : srt r' (n + 1) := by
  intro i j hij hj
  have hlow : ∀ i, i < p → r i ≤ v := fun i hi => by
    have k1 := h4 (p - 1) (by omega)
    have k2 := hs i (p - 1) (by omega) (by omega)
    omega
  by_cases a1 : j < p
  · rw [h1 i (by omega), h1 j a1]; exact hs i j hij (by omega)
  · by_cases a2 : j = p
    · subst a2
      by_cases b1 : i < j
      · rw [h1 i b1, h2]; exact hlow i b1
      · rw [show i = j by omega]; exact Int.le_refl _
    · obtain ⟨k1, k2⟩ := h3 (j - 1) (by omega) (by omega)
      rw [show j - 1 + 1 = j by omega] at k1
      rw [k1]
      by_cases b1 : i < p
      · rw [h1 i b1]; exact hs i (j - 1) (by omega) (by omega)
      · by_cases b2 : i = p
        · rw [b2, h2]; omega
        · obtain ⟨m1, m2⟩ := h3 (i - 1) (by omega) (by omega)
          rw [show i - 1 + 1 = i by omega] at m1
          rw [m1]
          exact hs (i - 1) (j - 1) (by omega) (by omega)
/-- behind i houses: the sorted row, and how its counts go -/
theorem mv_sp (T : MS) (t : Int32) (ht : vp_in t 5) : ∀ n, n ≤ 10 → (mvR T t n).1 ≤ n ∧ srt (rI ((mvR T t n).2.2.2.1 62)) (mvR T t n).1 ∧ (mvR T t n).2.2.2.1 (120 + t.toNatClampNeg) = T.2.2.1 (120 + t.toNatClampNeg) ∧ ((mvR T t n).1 : Int) = isum (fun i => if (T.2.2.1 (120 + t.toNatClampNeg) i).toInt = 0 then 0 else 1) n ∧ ∀ (q : Int → Prop) [DecidablePred q], cnt q (rI ((mvR T t n).2.2.2.1 62)) (mvR T t n).1 = isum (fun i => if (T.2.2.1 (120 + t.toNatClampNeg) i).toInt = 0 then 0 else if q (T.2.2.1 (120 + t.toNatClampNeg) i).toInt then 1 else 0) n
  | 0, _ => ⟨Nat.le_refl 0, fun i j _ hj => absurd hj (Nat.not_lt_zero j), rfl, rfl, fun q _ => rfl⟩
  | n + 1, hn => by
    obtain ⟨h1, h2, h3, h4, h5⟩ := mv_sp T t ht n (by omega)
    have ht' := vcl ht
    have hz : ∀ x : Int32, x = 0 ↔ x.toInt = 0 := fun x => ⟨fun e => by rw [e]; decide, fun e => Int32.toInt_inj.mp (e.trans (by decide))⟩
    by_cases hc : (mvR T t n).2.2.2.1 (120 + t.toNatClampNeg) n = 0
    · have e : mvR T t (n + 1) = mvR T t n := if_pos hc
      rw [e]
      have hc' : (T.2.2.1 (120 + t.toNatClampNeg) n).toInt = 0 := (hz _).mp (by rw [← h3]; exact hc)
      refine ⟨by omega, h2, h3, ?_, fun q _ => ?_⟩
      · show ((mvR T t n).1 : Int) = isum _ n + (if (T.2.2.1 (120 + t.toNatClampNeg) n).toInt = 0 then 0 else 1)
        rw [if_pos hc', h4]
        omega
      · show _ = isum _ n + (if (T.2.2.1 (120 + t.toNatClampNeg) n).toInt = 0 then 0 else _)
        rw [if_pos hc', h5 q]
        omega
    · have e : mvR T t (n + 1) = ((mvR T t n).1 + 1, insR (mvR T t n).1 (mvR T t n).2 ((mvR T t n).2.2.2.1 (120 + t.toNatClampNeg) n)) := if_neg hc
      have hc' : ¬ (T.2.2.1 (120 + t.toNatClampNeg) n).toInt = 0 := fun z => hc (by rw [h3]; exact (hz _).mpr z)
      rw [h3] at e
      obtain ⟨p, k1, k2, k3, k4, k5, k6⟩ := ins_sp (mvR T t n).1 (mvR T t n).2 (T.2.2.1 (120 + t.toNatClampNeg) n)
      have kf := fc_insR (mvR T t n).1 (mvR T t n).2 (mvR T t n).2 (T.2.2.1 (120 + t.toNatClampNeg) n) (fx_rfl _)
      rw [e]
      generalize mvR T t n = Y at h1 h2 h3 h4 h5 k1 k2 k3 k4 k5 k6 kf
      generalize hV : insR Y.1 Y.2 (T.2.2.1 (120 + t.toNatClampNeg) n) = V at k2 k3 k4 k6 kf
      have r1 : ∀ i, i < p → rI (V.2.2.1 62) i = rI (Y.2.2.2.1 62) i := fun i hi => by unfold rI; rw [k2 i hi]
      have r2 : rI (V.2.2.1 62) p = (T.2.2.1 (120 + t.toNatClampNeg) n).toInt := by unfold rI; rw [k3]
      have r3 : ∀ i, p ≤ i → i < Y.1 → rI (V.2.2.1 62) (i + 1) = rI (Y.2.2.2.1 62) i ∧ (T.2.2.1 (120 + t.toNatClampNeg) n).toInt < rI (Y.2.2.2.1 62) i := fun i a b => ⟨by unfold rI; rw [(k4 i a b).1], (k4 i a b).2⟩
      refine ⟨by show Y.1 + 1 ≤ n + 1; omega, ins_srt k1 h2 r1 r2 r3 k5, ?_, ?_, fun q _ => ?_⟩
      · show V.2.2.1 (120 + t.toNatClampNeg) = _
        rw [kf.2.2.1 (120 + t.toNatClampNeg) (fun h9 => by omega), h3]
      · show ((Y.1 + 1 : Nat) : Int) = isum _ n + (if (T.2.2.1 (120 + t.toNatClampNeg) n).toInt = 0 then 0 else 1)
        rw [if_neg hc', ← h4]
        omega
      · show cnt q (rI (V.2.2.1 62)) (Y.1 + 1) = isum _ n + (if (T.2.2.1 (120 + t.toNatClampNeg) n).toInt = 0 then 0 else if q (T.2.2.1 (120 + t.toNatClampNeg) n).toInt then 1 else 0)
        rw [if_neg hc', ins_cnt k1 r1 r2 (fun i a b => (r3 i a b).1) q, h5 q]
theorem isum1_le {P : Nat → Prop} [DecidablePred P] (n : Nat) : 0 ≤ isum (fun k => if P k then (1 : Int) else 0) n ∧ isum (fun k => if P k then (1 : Int) else 0) n ≤ n := by
  induction n with
  | zero => exact ⟨Int.le_refl 0, Int.le_refl 0⟩
  | succ n ih =>
    have e : isum (fun k => if P k then (1 : Int) else 0) (n + 1) = isum (fun k => if P k then (1 : Int) else 0) n + (if P n then 1 else 0) := rfl
    rw [e]
    split <;> omega
/-- the j-th of those that hold P -/
theorem sel_ex {P : Nat → Prop} [DecidablePred P] : ∀ (n : Nat) (j : Int), 0 ≤ j → j < isum (fun k => if P k then (1 : Int) else 0) n → ∃ h, h < n ∧ P h ∧ isum (fun k => if P k then (1 : Int) else 0) h = j
  | 0, j, h0, hj => absurd hj (by show ¬ j < 0; omega)
  | n + 1, j, h0, hj => by
    by_cases h : j < isum (fun k => if P k then (1 : Int) else 0) n
    · obtain ⟨q, a, b, c⟩ := sel_ex n j h0 h
      exact ⟨q, by omega, b, c⟩
    · have e : isum (fun k => if P k then (1 : Int) else 0) (n + 1) = isum (fun k => if P k then (1 : Int) else 0) n + (if P n then 1 else 0) := rfl
      rw [e] at hj
      by_cases hp : P n
      · rw [if_pos hp] at hj
        exact ⟨n, by omega, hp, by omega⟩
      · rw [if_neg hp] at hj
        exact absurd hj (by omega)
theorem isum_cut {f : Nat → Int} {h n : Nat} (hh : h ≤ n) : isum (fun k => if k < h then f k else 0) n = isum f h := by
  have e := isum_split (fun k => if k < h then f k else 0) h (n - h)
  rw [show h + (n - h) = n by omega] at e
  rw [e, isum_congr (g := f) h (fun i hi => if_pos hi), isum_zero (n - h) (fun i _ => if_neg (by omega))]
  omega
section MED
variable {w : Nat → Int} {s : Nat → Int} {n : Nat}
/-- counts over the votes -/
abbrev cL (w : Nat → Int) (v : Int) : Int := isum (fun k => if w k = 0 then 0 else if w k < v then 1 else 0) 10
abbrev cE (w : Nat → Int) (v : Int) : Int := isum (fun k => if w k = 0 then 0 else if w k ≤ v then 1 else 0) 10
abbrev cB (w : Nat → Int) (h : Nat) : Int := isum (fun k => if w k = 0 then 0 else if w k < w h ∨ (w k = w h ∧ k < h) then 1 else 0) 10
theorem srt_lo (hs : srt s n) {r : Nat} (hr : r < n) : cnt (fun x => x < s r) s n ≤ r := by
  unfold cnt
  have e := isum_split (fun i => if s i < s r then (1 : Int) else 0) r (n - r)
  rw [show r + (n - r) = n by omega] at e
  rw [e, isum_zero (n - r) (fun i hi => if_neg (by have := hs r (r + i) (by omega) (by omega); omega))]
  have := (isum1_le (P := fun i => s i < s r) r).2
  omega
theorem srt_hi (hs : srt s n) {r : Nat} (hr : r < n) : (r : Int) < cnt (fun x => x ≤ s r) s n := by
  unfold cnt
  have e := isum_split (fun i => if s i ≤ s r then (1 : Int) else 0) (r + 1) (n - (r + 1))
  rw [show r + 1 + (n - (r + 1)) = n by omega] at e
  have e1 : isum (fun i => if s i ≤ s r then (1 : Int) else 0) (r + 1) = isum (fun _ => 1) (r + 1) := isum_congr (r + 1) (fun i hi => if_pos (hs i r (by omega) hr))
  have e2 : ∀ m, isum (fun _ => 1) m = (m : Int) := by
    intro m
    induction m with
    | zero => rfl
    | succ m ih =>
      show isum (fun _ => 1) m + 1 = _
      rw [ih]
      omega
  have e3 := (isum1_le (P := fun i => s (r + 1 + i) ≤ s r) (n - (r + 1))).1
  rw [e, e1, e2]
  omega
theorem med_uni {v v' r : Int} (h1 : cL w v ≤ r) (h2 : r < cE w v) (h3 : cL w v' ≤ r) (h4 : r < cE w v') : v = v' := by
  apply Classical.byContradiction
  intro hne
  have mono : ∀ a b : Int, a < b → cE w a ≤ cL w b := fun a b hab => isum_le 10 (fun k _ => by
    show (if w k = 0 then 0 else if w k ≤ a then (1 : Int) else 0) ≤ (if w k = 0 then 0 else if w k < b then 1 else 0)
    split
    · omega
    · split
      · rw [if_pos (by omega)]; omega
      · split <;> omega)
  rcases Int.lt_or_lt_of_ne hne with h | h
  · have := mono v v' h; omega
  · have := mono v' v h; omega
theorem cB_b {h : Nat} (hh : h < 10) (hw : w h ≠ 0) : cL w (w h) ≤ cB w h ∧ cB w h + 1 ≤ cE w (w h) := by
  constructor
  · refine isum_le 10 (fun k _ => ?_)
    show (if w k = 0 then 0 else if w k < w h then (1 : Int) else 0) ≤ (if w k = 0 then 0 else if w k < w h ∨ (w k = w h ∧ k < h) then 1 else 0)
    split
    · omega
    · split
      · rw [if_pos (Or.inl (by omega))]; omega
      · split <;> omega
  · have hd : isum (fun k => (if w k = 0 then 0 else if w k ≤ w h then (1 : Int) else 0) - (if w k = 0 then 0 else if w k < w h ∨ (w k = w h ∧ k < h) then 1 else 0)) 10 = cE w (w h) - cB w h := isum_sub _ _ 10
    have ht := isum_term (f := fun k => (if w k = 0 then 0 else if w k ≤ w h then (1 : Int) else 0) - (if w k = 0 then 0 else if w k < w h ∨ (w k = w h ∧ k < h) then 1 else 0)) hh (fun k _ => by
      show 0 ≤ (if w k = 0 then 0 else if w k ≤ w h then (1 : Int) else 0) - (if w k = 0 then 0 else if w k < w h ∨ (w k = w h ∧ k < h) then 1 else 0)
      split
      · omega
      · split
        · split <;> omega
        · rw [if_neg (by omega)]; omega)
    simp only [if_neg hw, if_pos (Int.le_refl (w h)), if_neg (show ¬ (w h < w h ∨ (w h = w h ∧ h < h)) by omega)] at ht
    omega
theorem cB_ex {v r : Int} (h1 : cL w v ≤ r) (h2 : r < cE w v) : ∃ h, h < 10 ∧ w h ≠ 0 ∧ w h = v ∧ cB w h = r := by
  have he : cE w v = cL w v + isum (fun k => if w k ≠ 0 ∧ w k = v then (1 : Int) else 0) 10 := by
    unfold cE cL
    rw [← isum_add]
    refine isum_congr 10 (fun k _ => ?_)
    by_cases a : w k = 0
    · rw [if_pos a, if_pos a, if_neg (fun q => q.1 a)]; rfl
    · rw [if_neg a, if_neg a]
      by_cases b : w k < v
      · rw [if_pos b, if_pos (by omega), if_neg (by omega)]; rfl
      · by_cases c : w k = v
        · rw [if_neg b, if_pos (by omega), if_pos ⟨a, c⟩]; rfl
        · rw [if_neg b, if_neg (by omega), if_neg (fun q => c q.2)]; rfl
  obtain ⟨h, a1, a2, a3⟩ := sel_ex (P := fun k => w k ≠ 0 ∧ w k = v) 10 (r - cL w v) (by omega) (by omega)
  refine ⟨h, a1, a2.1, a2.2, ?_⟩
  have e : cB w h = cL w v + isum (fun k => if k < h then (if w k ≠ 0 ∧ w k = v then (1 : Int) else 0) else 0) 10 := by
    unfold cB cL
    rw [← isum_add, a2.2]
    refine isum_congr 10 (fun k _ => ?_)
    by_cases a : w k = 0
    · rw [if_pos a, if_pos a]
      split
      · rw [if_neg (fun q => q.1 a)]; rfl
      · rfl
    · rw [if_neg a, if_neg a]
      by_cases b : w k < v
      · rw [if_pos (Or.inl b), if_pos b]
        split
        · rw [if_neg (by omega)]; rfl
        · rfl
      · rw [if_neg b]
        by_cases c : w k = v ∧ k < h
        · rw [if_pos (Or.inr c), if_pos c.2, if_pos ⟨a, c.1⟩]; rfl
        · rw [if_neg (by omega)]
          split
          · rw [if_neg (fun q => c ⟨q.2, by assumption⟩)]; rfl
          · rfl
  rw [e, isum_cut (by omega), a3]
  omega
end MED
theorem ix5n {k tt : Nat} (hk : k < 10) (ht : tt < 5) : (5 * nI k + nI tt).toNatClampNeg = 5 * k + tt := by
  rw [show (5 : Int32) = nI 5 from by decide, nI_mul, nI_add, nI_clamp (by omega)]
/-- votes of both sides for a town -/
def vR (T S : MS) (tt : Nat) : Prop := ∀ k, k < 10 → T.2.2.1 (120 + tt) k = S.2.2.1 18 (5 * k + tt) ∧ 0 ≤ (T.2.2.1 (120 + tt) k).toInt
theorem mny_I {T S : MS} {tt : Nat} (ht : tt < 5) (h : vR T S tt) : ∀ n, n ≤ 10 → (mnyT S (nI tt) n).toInt = isum (fun i => if (T.2.2.1 (120 + tt) i).toInt = 0 then 0 else 1) n
  | 0, _ => by show (0 : Int32).toInt = 0; decide
  | n + 1, hn => by
    have ih := mny_I ht h n (by omega)
    obtain ⟨e, h0⟩ := h n (by omega)
    have hb := isum_le (f := fun i => if (T.2.2.1 (120 + tt) i).toInt = 0 then (0 : Int) else 1) (g := fun _ => 1) n (fun i _ => by split <;> decide)
    have hb0 := isum_nn (f := fun i => if (T.2.2.1 (120 + tt) i).toInt = 0 then (0 : Int) else 1) n (fun i _ => by split <;> decide)
    have e2 : ∀ m, isum (fun _ => 1) m = (m : Int) := by
      intro m
      induction m with
      | zero => rfl
      | succ m ih =>
        show isum (fun _ => 1) m + 1 = _
        rw [ih]
        omega
    rw [e2] at hb
    show (mnyT S (nI tt) n + (if S.2.2.1 18 (5 * nI n + nI tt).toNatClampNeg ≤ 0 then 0 else 1)).toInt = isum _ n + (if (T.2.2.1 (120 + tt) n).toInt = 0 then 0 else 1)
    rw [ix5n (by omega) ht, ← e]
    by_cases hz : (T.2.2.1 (120 + tt) n).toInt = 0
    · rw [if_pos hz, if_pos (by rw [Int32.le_iff_toInt_le, hz]; decide), I_add (by rw [ih, show (0 : Int32).toInt = 0 from by decide]; omega) (by rw [ih, show (0 : Int32).toInt = 0 from by decide]; omega), ih]
      rfl
    · rw [if_neg hz, if_neg (by rw [Int32.le_iff_toInt_le, show (0 : Int32).toInt = 0 from by decide]; omega), I_add (by rw [ih, show (1 : Int32).toInt = 1 from by decide]; omega) (by rw [ih, show (1 : Int32).toInt = 1 from by decide]; omega), ih]
      rfl
theorem blw_I {T S : MS} {tt h : Nat} (ht : tt < 5) (hv : vR T S tt) (hh : h < 10) : ∀ n, n ≤ 10 → (blw S (nI tt) h n).toInt = isum (fun k => if (T.2.2.1 (120 + tt) k).toInt = 0 then 0 else if (T.2.2.1 (120 + tt) k).toInt < (T.2.2.1 (120 + tt) h).toInt ∨ ((T.2.2.1 (120 + tt) k).toInt = (T.2.2.1 (120 + tt) h).toInt ∧ k < h) then 1 else 0) n ∧ 0 ≤ (blw S (nI tt) h n).toInt ∧ (blw S (nI tt) h n).toInt ≤ n
  | 0, _ => by
    show (0 : Int32).toInt = 0 ∧ 0 ≤ (0 : Int32).toInt ∧ (0 : Int32).toInt ≤ 0
    decide
  | n + 1, hn => by
    obtain ⟨ih, i1, i2⟩ := blw_I ht hv hh n (by omega)
    obtain ⟨e, h0⟩ := hv n (by omega)
    obtain ⟨eh, hh0⟩ := hv h hh
    have z0 : (0 : Int32).toInt = 0 := by decide
    have z1 : (1 : Int32).toInt = 1 := by decide
    have ec : (blwC S (nI tt) h n).toInt = (if (T.2.2.1 (120 + tt) n).toInt = 0 then 0 else if (T.2.2.1 (120 + tt) n).toInt < (T.2.2.1 (120 + tt) h).toInt ∨ ((T.2.2.1 (120 + tt) n).toInt = (T.2.2.1 (120 + tt) h).toInt ∧ n < h) then 1 else 0) ∧ 0 ≤ (blwC S (nI tt) h n).toInt ∧ (blwC S (nI tt) h n).toInt ≤ 1 := by
      unfold blwC
      rw [ix5n (k := n) (by omega) ht, ix5n hh ht, ← e, ← eh]
      generalize T.2.2.1 (120 + tt) n = a at *
      generalize T.2.2.1 (120 + tt) h = b at *
      by_cases c1 : a.toInt = 0
      · rw [if_pos (by rw [Int32.le_iff_toInt_le, c1, z0]; omega), if_pos c1, z0]
        omega
      · rw [if_neg (by rw [Int32.le_iff_toInt_le, z0]; omega), if_neg c1]
        by_cases c2 : a.toInt < b.toInt
        · rw [if_pos (by rw [Int32.lt_iff_toInt_lt]; exact c2), if_pos (Or.inl c2), z1]
          omega
        · rw [if_neg (by rw [Int32.lt_iff_toInt_lt]; exact c2)]
          by_cases c3 : a = b
          · rw [if_pos c3]
            by_cases c4 : n < h
            · rw [if_neg (by rw [nI_leI (by omega) (by omega)]; omega), if_pos (Or.inr ⟨by rw [c3], c4⟩), z1]
              omega
            · rw [if_pos (by rw [nI_leI (by omega) (by omega)]; omega), if_neg (by omega), z0]
              omega
          · rw [if_neg c3, if_neg (fun q => by rcases q with q | q; exact c2 q; exact c3 (Int32.toInt_inj.mp q.1)), z0]
            omega
    have es : (blw S (nI tt) h (n + 1)).toInt = (blw S (nI tt) h n).toInt + (blwC S (nI tt) h n).toInt := I_add (by omega) (by omega)
    refine ⟨?_, by rw [es]; omega, by rw [es]; omega⟩
    rw [es, ih, ec.1]
    rfl
theorem rt_sp (S : MS) (t : Int32) : ∀ n i, (∃ h, i ≤ h ∧ h < i + n ∧ rtHit S t h ∧ rtR S t n i = ((S.2.2.1 18 (5 * nI h + t).toNatClampNeg).toInt64, S)) ∨ ((∀ h, i ≤ h → h < i + n → ¬ rtHit S t h) ∧ rtR S t n i = mf_finding S (-1000000000002))
  | 0, i => Or.inr ⟨fun h a b => absurd a (by omega), rfl⟩
  | n + 1, i => by
    by_cases hc : rtHit S t i
    · exact Or.inl ⟨i, Nat.le_refl i, by omega, hc, if_pos hc⟩
    · have e : rtR S t (n + 1) i = rtR S t n (i + 1) := if_neg hc
      rcases rt_sp S t n (i + 1) with ⟨h, a, b, c, d⟩ | ⟨a, b⟩
      · exact Or.inl ⟨h, by omega, by omega, c, e.trans d⟩
      · refine Or.inr ⟨fun h x y => ?_, e.trans b⟩
        by_cases q : h = i
        · rw [q]; exact hc
        · exact a h (by omega) (by omega)
theorem rate_eq {T S : MS} (hv : ∀ tt, tt < 5 → vR T S tt) (t : Int32) : (cf_rate T t).1 = (mf_rate S t).1 := by
  by_cases hc : 0 ≤ t ∧ t ≤ 4
  · obtain ⟨tt, ht, rfl⟩ := vp_in_of (vin (n := 5) hc (by decide)) (by decide)
    have h := hv tt ht
    obtain ⟨m1, m2, m3, m4, m5⟩ := mv_sp T (nI tt) (vp_in_nI ht (by decide)) 10 (Nat.le_refl 10)
    rw [nI_clamp (by omega)] at m3 m4 m5
    have hN := mny_I ht h 10 (Nat.le_refl 10)
    have hit : ∀ q, q < 10 → (rtHit S (nI tt) q ↔ (T.2.2.1 (120 + tt) q).toInt ≠ 0 ∧ cB (fun k => (T.2.2.1 (120 + tt) k).toInt) q = (((mvR T (nI tt) 10).1 - 1) / 2 : Nat)) := by
      intro q hq
      obtain ⟨e, h0⟩ := h q hq
      obtain ⟨b1, b2, b3⟩ := blw_I ht h hq 10 (Nat.le_refl 10)
      have z0 : (0 : Int32).toInt = 0 := by decide
      unfold rtHit
      rw [ix5n hq ht, ← e, Int32.le_iff_toInt_le, z0]
      have hpos : (T.2.2.1 (120 + tt) q).toInt ≠ 0 → 1 ≤ (mvR T (nI tt) 10).1 := fun hz => by
        have ht9 := isum_term (f := fun i => if (T.2.2.1 (120 + tt) i).toInt = 0 then (0 : Int) else 1) hq (fun i _ => by split <;> decide)
        simp only [if_neg hz] at ht9
        omega
      have hdiv : 1 ≤ (mvR T (nI tt) 10).1 → ((mnyT S (nI tt) 10 - 1) / 2).toInt = (((mvR T (nI tt) 10).1 - 1) / 2 : Nat) := fun hp => by
        have z1 : (1 : Int32).toInt = 1 := by decide
        have e1 : (mnyT S (nI tt) 10 - 1).toInt = ((mvR T (nI tt) 10).1 : Int) - 1 := by rw [I_sub (by rw [hN, ← m4, z1]; omega) (by rw [hN, ← m4, z1]; omega), hN, ← m4, z1]
        rw [Int32.toInt_div, e1, show (2 : Int32).toInt = 2 from by decide, Int.tdiv_eq_ediv_of_nonneg (by omega), Int.bmod_eq_of_le (by omega) (by omega)]
        omega
      constructor
      · rintro ⟨a1, a2⟩
        have hz : (T.2.2.1 (120 + tt) q).toInt ≠ 0 := by omega
        refine ⟨hz, ?_⟩
        rw [← hdiv (hpos hz), ← a2]
        exact b1.symm
      · rintro ⟨a1, a2⟩
        refine ⟨by omega, Int32.toInt_inj.mp ?_⟩
        rw [hdiv (hpos a1), ← a2]
        exact b1
    unfold cf_rate mf_rate
    rw [if_pos hc, if_pos hc]
    by_cases hn : (mvR T (nI tt) 10).1 = 0
    · have em : cf_mid T (nI tt) = 0 := by unfold cf_mid; rw [if_pos hn]
      rw [if_pos em]
      rcases rt_sp S (nI tt) 10 0 with ⟨q, a, b, c, d⟩ | ⟨a, b⟩
      · exfalso
        have hz := ((hit q (by omega)).mp c).1
        have ht9 := isum_term (f := fun i => if (T.2.2.1 (120 + tt) i).toInt = 0 then (0 : Int) else 1) (i := q) (n := 10) (by omega) (fun i _ => by split <;> decide)
        simp only [if_neg hz] at ht9
        omega
      · rw [b]
        show (-1000000000000 : Int64) - (2 : Int32).toInt64 = -1000000000002
        decide
    · have hr : ((mvR T (nI tt) 10).1 - 1) / 2 < (mvR T (nI tt) 10).1 := by omega
      have em : cf_mid T (nI tt) = (mvR T (nI tt) 10).2.2.2.1 62 (((mvR T (nI tt) 10).1 - 1) / 2) := by unfold cf_mid; rw [if_neg hn]
      generalize mvR T (nI tt) 10 = Y at m1 m2 m3 m4 m5 hit hn hr em
      have lo := srt_lo m2 hr
      have hi := srt_hi m2 hr
      rw [m5 (fun x => x < rI (Y.2.2.2.1 62) ((Y.1 - 1) / 2))] at lo
      rw [m5 (fun x => x ≤ rI (Y.2.2.2.1 62) ((Y.1 - 1) / 2))] at hi
      have emi : (cf_mid T (nI tt)).toInt = rI (Y.2.2.2.1 62) ((Y.1 - 1) / 2) := by rw [em]; rfl
      rcases rt_sp S (nI tt) 10 0 with ⟨q, a, b, c, d⟩ | ⟨a, b⟩
      · obtain ⟨c1, c2⟩ := (hit q (by omega)).mp c
        obtain ⟨g1, g2⟩ := cB_b (w := fun k => (T.2.2.1 (120 + tt) k).toInt) (h := q) (by omega) c1
        have hu := med_uni (w := fun k => (T.2.2.1 (120 + tt) k).toInt) (r := (((Y.1 - 1) / 2 : Nat) : Int)) (v := (T.2.2.1 (120 + tt) q).toInt) (v' := rI (Y.2.2.2.1 62) ((Y.1 - 1) / 2)) (by rw [← c2]; exact g1) (by rw [← c2]; omega) lo hi
        have ev : cf_mid T (nI tt) = T.2.2.1 (120 + tt) q := Int32.toInt_inj.mp (by rw [emi, hu])
        rw [d, if_neg (fun z => c1 (by rw [← ev, z]; decide)), ix5n (by omega) ht, ev, (h q (by omega)).1]
      · exfalso
        obtain ⟨q, q1, q2, q3, q4⟩ := cB_ex (w := fun k => (T.2.2.1 (120 + tt) k).toInt) lo hi
        exact a q (Nat.zero_le q) (by omega) ((hit q q1).mpr ⟨q2, q4⟩)
  · unfold cf_rate mf_rate
    rw [if_neg hc, if_neg hc]
    show (-1000000000000 : Int64) - (1 : Int32).toInt64 = -1000000000001
    decide
/-! the best turn -/
theorem ar2 (x y : Int64) : 100000000 * (1 * x * y) = x * y * 10000 * 10000 := by
  rw [Int64.one_mul, Int64.mul_assoc (x * y), show (10000 : Int64) * 10000 = 100000000 from by decide, Int64.mul_comm]
theorem ar3 (u v z : Int64) : 10000 * (1 * u * v * z) = v * z * u * 10000 := by
  rw [Int64.one_mul, Int64.mul_comm 10000, Int64.mul_assoc u v z, Int64.mul_comm u]
theorem ar4 (u v w z : Int64) : 1 * (1 * u * v * w * z) = w * z * v * u := by
  rw [Int64.one_mul, Int64.one_mul, Int64.mul_assoc (u * v), Int64.mul_comm u v, Int64.mul_comm (v * u), ← Int64.mul_assoc (w * z)]
theorem tb2 : ∀ a, a < 5 → ∀ b, b < 5 → ((bt1 b &&& bt1 a = 0) ↔ a ≠ b) ∧ (((bt1 b ||| bt1 a) &&& (bt1 a - 1) = 0) ↔ a ≤ b) := by decide +kernel
theorem all5 {p : Nat → Bool} (h : (List.range 5).all p = true) {a : Nat} (ha : a < 5) : p a = true := List.all_eq_true.mp h a (List.mem_range.mpr ha)
theorem tb3' : ((List.range 5).all fun a => (List.range 5).all fun b => (List.range 5).all fun c => (decide ((bt1 c ||| bt1 b) &&& bt1 a = 0) == (decide (a ≠ b) && decide (a ≠ c))) && (decide ((bt1 c ||| bt1 b ||| bt1 a) &&& (bt1 a - 1) = 0) == (decide (a ≤ b) && decide (a ≤ c)))) = true := by decide +kernel
theorem tb3 (a : Nat) (ha : a < 5) (b : Nat) (hb : b < 5) (c : Nat) (hc : c < 5) : (((bt1 c ||| bt1 b) &&& bt1 a = 0) ↔ (a ≠ b ∧ a ≠ c)) ∧ (((bt1 c ||| bt1 b ||| bt1 a) &&& (bt1 a - 1) = 0) ↔ (a ≤ b ∧ a ≤ c)) := by
  have h := all5 (all5 (all5 tb3' ha) hb) hc
  rw [Bool.and_eq_true, beq_iff_eq, beq_iff_eq, ← Bool.decide_and, ← Bool.decide_and, decide_eq_decide, decide_eq_decide] at h
  exact h
theorem tb4' : ((List.range 5).all fun a => (List.range 5).all fun b => (List.range 5).all fun c => (List.range 5).all fun d => (decide ((bt1 d ||| bt1 c ||| bt1 b) &&& bt1 a = 0) == (decide (a ≠ b) && (decide (a ≠ c) && decide (a ≠ d)))) && (decide ((bt1 d ||| bt1 c ||| bt1 b ||| bt1 a) &&& (bt1 a - 1) = 0) == (decide (a ≤ b) && (decide (a ≤ c) && decide (a ≤ d))))) = true := by decide +kernel
theorem tb4 (a : Nat) (ha : a < 5) (b : Nat) (hb : b < 5) (c : Nat) (hc : c < 5) (d : Nat) (hd : d < 5) : (((bt1 d ||| bt1 c ||| bt1 b) &&& bt1 a = 0) ↔ (a ≠ b ∧ a ≠ c ∧ a ≠ d)) ∧ (((bt1 d ||| bt1 c ||| bt1 b ||| bt1 a) &&& (bt1 a - 1) = 0) ↔ (a ≤ b ∧ a ≤ c ∧ a ≤ d)) := by
  have h := all5 (all5 (all5 (all5 tb4' ha) hb) hc) hd
  rw [Bool.and_eq_true, beq_iff_eq, beq_iff_eq, ← Bool.decide_and, ← Bool.decide_and, ← Bool.decide_and, ← Bool.decide_and, decide_eq_decide, decide_eq_decide] at h
  exact h
abbrev oT (T : MS) (x y : Nat) : Int64 := (T.2.2.1 (130 + x) y).toInt64
theorem dg_l5 (r i : Nat) : dg r i < 5 := Nat.mod_lt _ (by decide)
theorem cpo1 (T : MS) (r : Nat) : cpoN T r 1 = if dg r 1 ≠ dg r 0 then some (bt1 (dg r 0) ||| bt1 (dg r 1), 1 * oT T (dg r 1) (dg r 0)) else none := by
  show (if bt1 (dg r 0) &&& bt1 (dg r 1) = 0 then some (bt1 (dg r 0) ||| bt1 (dg r 1), 1 * oT T (dg r 1) (dg r 0)) else none) = _
  have h := (tb2 (dg r 1) (dg_l5 r 1) (dg r 0) (dg_l5 r 0)).1
  by_cases hc : dg r 1 ≠ dg r 0
  · rw [if_pos hc, if_pos (h.mpr hc)]
  · rw [if_neg hc, if_neg (fun q => hc (h.mp q))]
theorem cpr2 (T : MS) (r : Nat) : cprod T r 2 = if dg r 1 < dg r 0 then 1 * oT T (dg r 1) (dg r 0) * oT T (dg r 0) (dg r 1) else 0 := by
  have h := (tb2 (dg r 1) (dg_l5 r 1) (dg r 0) (dg_l5 r 0)).2
  unfold cprod
  rw [show 2 - 1 = 1 from rfl, cpo1]
  by_cases hc : dg r 1 ≠ dg r 0
  · rw [if_pos hc]
    show cpoV T r (bt1 (dg r 0) ||| bt1 (dg r 1)) (1 * oT T (dg r 1) (dg r 0)) 1 = _
    unfold cpoV
    by_cases hl : dg r 1 < dg r 0
    · rw [if_pos (h.mpr (by omega)), if_pos hl]
    · rw [if_neg (fun q => hl (by have := h.mp q; omega)), if_neg hl]
  · rw [if_neg hc, if_neg (by omega)]
theorem cpo2 (T : MS) (r : Nat) : cpoN T r 2 = if dg r 1 ≠ dg r 0 ∧ dg r 2 ≠ dg r 1 ∧ dg r 2 ≠ dg r 0 then some (bt1 (dg r 0) ||| bt1 (dg r 1) ||| bt1 (dg r 2), 1 * oT T (dg r 1) (dg r 0) * oT T (dg r 2) (dg r 1)) else none := by
  have h := (tb3 (dg r 2) (dg_l5 r 2) (dg r 1) (dg_l5 r 1) (dg r 0) (dg_l5 r 0)).1
  show (match cpoN T r 1 with | none => none | some (u, p) => if u &&& bt1 (dg r 2) = 0 then some (u ||| bt1 (dg r 2), p * oT T (dg r 2) (dg r 1)) else none) = _
  rw [cpo1]
  by_cases hc : dg r 1 ≠ dg r 0
  · rw [if_pos hc]
    show (if (bt1 (dg r 0) ||| bt1 (dg r 1)) &&& bt1 (dg r 2) = 0 then _ else none) = _
    by_cases hd : dg r 2 ≠ dg r 1 ∧ dg r 2 ≠ dg r 0
    · rw [if_pos (h.mpr hd), if_pos ⟨hc, hd⟩]
    · rw [if_neg (fun q => hd (h.mp q)), if_neg (fun q => hd q.2)]
  · rw [if_neg hc, if_neg (fun q => hc q.1)]
theorem cpr3 (T : MS) (r : Nat) : cprod T r 3 = if dg r 2 < dg r 1 ∧ dg r 2 < dg r 0 ∧ dg r 1 ≠ dg r 0 then 1 * oT T (dg r 1) (dg r 0) * oT T (dg r 2) (dg r 1) * oT T (dg r 0) (dg r 2) else 0 := by
  have h := (tb3 (dg r 2) (dg_l5 r 2) (dg r 1) (dg_l5 r 1) (dg r 0) (dg_l5 r 0)).2
  unfold cprod
  rw [show 3 - 1 = 2 from rfl, cpo2]
  by_cases hc : dg r 1 ≠ dg r 0 ∧ dg r 2 ≠ dg r 1 ∧ dg r 2 ≠ dg r 0
  · rw [if_pos hc]
    show cpoV T r (bt1 (dg r 0) ||| bt1 (dg r 1) ||| bt1 (dg r 2)) (1 * oT T (dg r 1) (dg r 0) * oT T (dg r 2) (dg r 1)) 2 = _
    unfold cpoV
    by_cases hl : dg r 2 ≤ dg r 1 ∧ dg r 2 ≤ dg r 0
    · rw [if_pos (h.mpr hl), if_pos (by omega)]
    · rw [if_neg (fun q => hl (h.mp q)), if_neg (by omega)]
  · rw [if_neg hc, if_neg (by omega)]
theorem cpo3 (T : MS) (r : Nat) : cpoN T r 3 = if (dg r 1 ≠ dg r 0 ∧ dg r 2 ≠ dg r 1 ∧ dg r 2 ≠ dg r 0) ∧ (dg r 3 ≠ dg r 2 ∧ dg r 3 ≠ dg r 1 ∧ dg r 3 ≠ dg r 0) then some (bt1 (dg r 0) ||| bt1 (dg r 1) ||| bt1 (dg r 2) ||| bt1 (dg r 3), 1 * oT T (dg r 1) (dg r 0) * oT T (dg r 2) (dg r 1) * oT T (dg r 3) (dg r 2)) else none := by
  have h := (tb4 (dg r 3) (dg_l5 r 3) (dg r 2) (dg_l5 r 2) (dg r 1) (dg_l5 r 1) (dg r 0) (dg_l5 r 0)).1
  show (match cpoN T r 2 with | none => none | some (u, p) => if u &&& bt1 (dg r 3) = 0 then some (u ||| bt1 (dg r 3), p * oT T (dg r 3) (dg r 2)) else none) = _
  rw [cpo2]
  by_cases hc : dg r 1 ≠ dg r 0 ∧ dg r 2 ≠ dg r 1 ∧ dg r 2 ≠ dg r 0
  · rw [if_pos hc]
    show (if (bt1 (dg r 0) ||| bt1 (dg r 1) ||| bt1 (dg r 2)) &&& bt1 (dg r 3) = 0 then _ else none) = _
    by_cases hd : dg r 3 ≠ dg r 2 ∧ dg r 3 ≠ dg r 1 ∧ dg r 3 ≠ dg r 0
    · rw [if_pos (h.mpr hd), if_pos ⟨hc, hd⟩]
    · rw [if_neg (fun q => hd (h.mp q)), if_neg (fun q => hd q.2)]
  · rw [if_neg hc, if_neg (fun q => hc q.1)]
theorem cpr4 (T : MS) (r : Nat) : cprod T r 4 = if (dg r 3 < dg r 2 ∧ dg r 3 < dg r 1 ∧ dg r 3 < dg r 0) ∧ (dg r 1 ≠ dg r 0 ∧ dg r 2 ≠ dg r 1 ∧ dg r 2 ≠ dg r 0) then 1 * oT T (dg r 1) (dg r 0) * oT T (dg r 2) (dg r 1) * oT T (dg r 3) (dg r 2) * oT T (dg r 0) (dg r 3) else 0 := by
  have h := (tb4 (dg r 3) (dg_l5 r 3) (dg r 2) (dg_l5 r 2) (dg r 1) (dg_l5 r 1) (dg r 0) (dg_l5 r 0)).2
  unfold cprod
  rw [show 4 - 1 = 3 from rfl, cpo3]
  by_cases hc : (dg r 1 ≠ dg r 0 ∧ dg r 2 ≠ dg r 1 ∧ dg r 2 ≠ dg r 0) ∧ (dg r 3 ≠ dg r 2 ∧ dg r 3 ≠ dg r 1 ∧ dg r 3 ≠ dg r 0)
  · rw [if_pos hc]
    show cpoV T r (bt1 (dg r 0) ||| bt1 (dg r 1) ||| bt1 (dg r 2) ||| bt1 (dg r 3)) (1 * oT T (dg r 1) (dg r 0) * oT T (dg r 2) (dg r 1) * oT T (dg r 3) (dg r 2)) 3 = _
    unfold cpoV
    by_cases hl : dg r 3 ≤ dg r 2 ∧ dg r 3 ≤ dg r 1 ∧ dg r 3 ≤ dg r 0
    · rw [if_pos (h.mpr hl), if_pos (by omega)]
    · rw [if_neg (fun q => hl (h.mp q)), if_neg (by omega)]
  · rw [if_neg hc, if_neg (by omega)]
theorem cf2 : ∀ r, r < 25 → (cfig r 2).toInt64 = 100 + 10 * (nI (dg r 1)).toInt64 + (nI (dg r 0)).toInt64 ∧ cfig r 2 ≠ 0 := by decide +kernel
theorem cf3 : ∀ r, r < 125 → (cfig r 3).toInt64 = 10 * (100 + 10 * (nI (dg r 2)).toInt64 + (nI (dg r 1)).toInt64) + (nI (dg r 0)).toInt64 ∧ cfig r 3 ≠ 0 := by decide +kernel
theorem cf4 : ∀ r, r < 625 → (cfig r 4).toInt64 = 10 * (10 * (100 + 10 * (nI (dg r 3)).toInt64 + (nI (dg r 2)).toInt64) + (nI (dg r 1)).toInt64) + (nI (dg r 0)).toInt64 ∧ cfig r 4 ≠ 0 := by decide +kernel
/-- both searches stand alike -/
def tnI (X : Int64 × Int32) (S : MS) : Prop := 10000000000000000 ≤ X.1 ∧ S.2.1 51 = X.1 ∧ ((X.2 = 0 ∧ S.2.1 52 = -1000000000002) ∨ (X.2 ≠ 0 ∧ S.2.1 52 = X.2.toInt64))
theorem tn_best {X : Int64 × Int32} {S : MS} {p c : Int64} {f : Int32} (h : tnI X S) (hf : f ≠ 0) (hc : c = f.toInt64) : tnI (if p ≤ X.1 then X else (p, f)) (mf_best S p c) := by
  obtain ⟨h1, h2, h3⟩ := h
  unfold mf_best
  rw [h2]
  split
  · exact ⟨h1, h2, h3⟩
  · next hp => exact ⟨Int64.le_trans h1 (Int64.le_of_lt (Int64.not_le.mp hp)), rfl, Or.inr ⟨hf, hc⟩⟩
theorem tn_skip {X : Int64 × Int32} {S : MS} {f : Int32} {sc : Int64} (h : tnI X S) : tnI (if sc * 0 ≤ X.1 then X else (sc * 0, f)) S := by
  rw [if_pos (by rw [Int64.mul_zero]; exact Int64.le_trans (by decide) h.1)]
  exact h
def oR (T S : MS) : Prop := ∀ x y : Nat, x < 5 → y < 5 → T.2.2.1 (130 + x) y = S.2.2.1 19 (5 * x + y)
theorem dv5 {i : Nat} (h : i < 2 ^ 31) : nI i / 5 = nI (i / 5) := by rw [show (5 : Int32) = nI 5 from by decide, pk_div h (by decide) (by decide)]
theorem dv25 {i : Nat} (h : i < 2 ^ 31) : nI i / 25 = nI (i / 25) := by rw [show (25 : Int32) = nI 25 from by decide, pk_div h (by decide) (by decide)]
theorem dv125 {i : Nat} (h : i < 2 ^ 31) : nI i / 125 = nI (i / 125) := by rw [show (125 : Int32) = nI 125 from by decide, pk_div h (by decide) (by decide)]
theorem rm5 {i : Nat} (h : i < 2 ^ 31) : nI i - nI i / 5 * 5 = nI (i % 5) := by
  rw [dv5 h, show (5 : Int32) = nI 5 from by decide, nI_mul, pk_sub (by omega)]
  congr 1
  omega
theorem z5 {k : Nat} (h : k < 5) : (nI k = 0) ↔ k = 0 := by
  rw [show (0 : Int32) = nI 0 from by decide, nI_eq (by omega) (by decide)]
theorem best_rows (S : MS) (p c : Int64) : (mf_best S p c).2.2.1 = S.2.2.1 := by
  unfold mf_best
  split <;> rfl
theorem bt_s (T : MS) (n : Nat) (sc : Int64) (s0 : Int64 × Int32) (i : Nat) : btR T n sc s0 (i + 1) = if sc * cprod T i n ≤ (btR T n sc s0 i).1 then btR T n sc s0 i else (sc * cprod T i n, cfig i n) := rfl
theorem oeq {T U V : MS} (ho : oR T U) (hv : V.2.2.1 = U.2.2.1) {x y : Nat} (hx : x < 5) (hy : y < 5) : (V.2.2.1 19 (5 * nI x + nI y).toNatClampNeg).toInt64 = oT T x y := by
  rw [ix5n (by omega) hy, hv, ← ho x y hx hy]
theorem t2 {T U : MS} {s0 : Int64 × Int32} (ho : oR T U) (h0 : tnI s0 U) : ∀ n, n ≤ 625 → tnI (btR T 2 100000000 s0 ((n + 24) / 25)) (tnF2 U n) ∧ (tnF2 U n).2.2.1 = U.2.2.1
  | 0, _ => ⟨h0, rfl⟩
  | n + 1, hn => by
    obtain ⟨ih, hv⟩ := t2 ho h0 n (by omega)
    show tnI (btR T 2 100000000 s0 ((n + 1 + 24) / 25)) (tnS2 (tnF2 U n) n) ∧ (tnS2 (tnF2 U n) n).2.2.1 = U.2.2.1
    generalize tnF2 U n = V at ih hv
    have b5 : n < 2 ^ 31 := by omega
    unfold tnS2
    rw [dv125 b5, dv25 b5, rm5 b5, dv5 b5, rm5 (i := n / 5) (by omega), rm5 (i := n / 25) (by omega)]
    by_cases hr : n % 25 = 0
    · obtain ⟨m, rfl⟩ : ∃ m, n = 25 * m := ⟨n / 25, by omega⟩
      have e1 : (25 * m + 24) / 25 = m := by omega
      have e2 : (25 * m + 1 + 24) / 25 = m + 1 := by omega
      rw [e1] at ih
      rw [e2, if_pos ((z5 (Nat.mod_lt _ (by decide))).mpr (by omega)), if_pos ((z5 (Nat.mod_lt _ (by decide))).mpr (by omega)), show 25 * m / 125 = dg m 1 by unfold dg; omega, show 25 * m / 25 % 5 = dg m 0 by unfold dg; omega, bt_s, cpr2]
      have hm : m < 25 := by omega
      generalize btR T 2 100000000 s0 m = X at ih
      by_cases hc : dg m 1 < dg m 0
      · rw [if_pos hc, if_neg (fun q => absurd ((nI_leI (by have := dg_l5 m 0; omega) (by have := dg_l5 m 1; omega)).mp q) (by omega)), ar2]
        unfold mlook2
        rw [oeq ho hv (dg_l5 m 1) (dg_l5 m 0), oeq ho hv (dg_l5 m 0) (dg_l5 m 1)]
        exact ⟨tn_best ih (cf2 m hm).2 (cf2 m hm).1.symm, (best_rows _ _ _).trans hv⟩
      · rw [if_neg hc, if_pos ((nI_leI (by have := dg_l5 m 0; omega) (by have := dg_l5 m 1; omega)).mpr (by omega))]
        exact ⟨tn_skip ih, hv⟩
    · rw [show (n + 1 + 24) / 25 = (n + 24) / 25 by omega]
      by_cases hq : n / 5 % 5 = 0
      · rw [if_pos ((z5 (Nat.mod_lt _ (by decide))).mpr hq), if_neg (fun q => absurd ((z5 (Nat.mod_lt _ (by decide))).mp q) (by omega))]
        exact ⟨ih, hv⟩
      · rw [if_neg (fun q => hq ((z5 (Nat.mod_lt _ (by decide))).mp q))]
        exact ⟨ih, hv⟩
theorem t3 {T U : MS} {s0 : Int64 × Int32} (ho : oR T U) (h0 : tnI s0 U) : ∀ n, n ≤ 625 → tnI (btR T 3 10000 s0 ((n + 4) / 5)) (tnF3 U n) ∧ (tnF3 U n).2.2.1 = U.2.2.1
  | 0, _ => ⟨h0, rfl⟩
  | n + 1, hn => by
    obtain ⟨ih, hv⟩ := t3 ho h0 n (by omega)
    show tnI (btR T 3 10000 s0 ((n + 1 + 4) / 5)) (tnS3 (tnF3 U n) n) ∧ (tnS3 (tnF3 U n) n).2.2.1 = U.2.2.1
    generalize tnF3 U n = V at ih hv
    have b5 : n < 2 ^ 31 := by omega
    unfold tnS3
    rw [dv125 b5, dv25 b5, rm5 b5, dv5 b5, rm5 (i := n / 5) (by omega), rm5 (i := n / 25) (by omega)]
    by_cases hr : n % 5 = 0
    · obtain ⟨m, rfl⟩ : ∃ m, n = 5 * m := ⟨n / 5, by omega⟩
      have e1 : (5 * m + 4) / 5 = m := by omega
      have e2 : (5 * m + 1 + 4) / 5 = m + 1 := by omega
      rw [e1] at ih
      rw [e2, if_pos ((z5 (Nat.mod_lt _ (by decide))).mpr (by omega)), show 5 * m / 125 = dg m 2 by unfold dg; omega, show 5 * m / 25 % 5 = dg m 1 by unfold dg; omega, show 5 * m / 5 % 5 = dg m 0 by unfold dg; omega, bt_s, cpr3]
      have hm : m < 125 := by omega
      have l0 := dg_l5 m 0
      have l1 := dg_l5 m 1
      have l2 := dg_l5 m 2
      generalize btR T 3 10000 s0 m = X at ih
      have k1 : nI (dg m 1) ≤ nI (dg m 2) ↔ dg m 1 ≤ dg m 2 := nI_leI (by omega) (by omega)
      have k2 : nI (dg m 0) ≤ nI (dg m 2) ↔ dg m 0 ≤ dg m 2 := nI_leI (by omega) (by omega)
      have k3 : nI (dg m 1) = nI (dg m 0) ↔ dg m 1 = dg m 0 := nI_eq (by omega) (by omega)
      by_cases hc : dg m 2 < dg m 1 ∧ dg m 2 < dg m 0 ∧ dg m 1 ≠ dg m 0
      · rw [if_pos hc, if_neg (fun q => absurd (k1.mp q) (by omega)), if_neg (fun q => absurd (k2.mp q) (by omega)), if_neg (fun q => hc.2.2 (k3.mp q)), ar3]
        unfold mlook3
        rw [oeq ho hv l2 l1, oeq ho hv l0 l2, oeq ho hv l1 l0]
        exact ⟨tn_best ih (cf3 m hm).2 (cf3 m hm).1.symm, (best_rows _ _ _).trans hv⟩
      · rw [if_neg hc]
        by_cases c1 : dg m 1 ≤ dg m 2
        · rw [if_pos (k1.mpr c1)]; exact ⟨tn_skip ih, hv⟩
        · rw [if_neg (fun q => c1 (k1.mp q))]
          by_cases c2 : dg m 0 ≤ dg m 2
          · rw [if_pos (k2.mpr c2)]; exact ⟨tn_skip ih, hv⟩
          · rw [if_neg (fun q => c2 (k2.mp q)), if_pos (k3.mpr (by omega))]; exact ⟨tn_skip ih, hv⟩
    · rw [show (n + 1 + 4) / 5 = (n + 4) / 5 by omega, if_neg (fun q => hr ((z5 (Nat.mod_lt _ (by decide))).mp q))]
      exact ⟨ih, hv⟩
theorem t4 {T U : MS} {s0 : Int64 × Int32} (ho : oR T U) (h0 : tnI s0 U) : ∀ n, n ≤ 625 → tnI (btR T 4 1 s0 n) (tnF4 U n) ∧ (tnF4 U n).2.2.1 = U.2.2.1
  | 0, _ => ⟨h0, rfl⟩
  | n + 1, hn => by
    obtain ⟨ih, hv⟩ := t4 ho h0 n (by omega)
    show tnI (btR T 4 1 s0 (n + 1)) (tnS4 (tnF4 U n) n) ∧ (tnS4 (tnF4 U n) n).2.2.1 = U.2.2.1
    generalize tnF4 U n = V at ih hv
    have b5 : n < 2 ^ 31 := by omega
    have hm : n < 625 := by omega
    unfold tnS4
    rw [dv125 b5, dv25 b5, rm5 b5, dv5 b5, rm5 (i := n / 5) (by omega), rm5 (i := n / 25) (by omega)]
    rw [show n / 125 = dg n 3 by unfold dg; omega, show n / 25 % 5 = dg n 2 by unfold dg; omega, show n / 5 % 5 = dg n 1 by unfold dg; omega, show n % 5 = dg n 0 by unfold dg; omega, bt_s, cpr4]
    have l0 := dg_l5 n 0
    have l1 := dg_l5 n 1
    have l2 := dg_l5 n 2
    have l3 := dg_l5 n 3
    generalize btR T 4 1 s0 n = X at ih
    have k1 : nI (dg n 2) ≤ nI (dg n 3) ↔ dg n 2 ≤ dg n 3 := nI_leI (by omega) (by omega)
    have k2 : nI (dg n 1) ≤ nI (dg n 3) ↔ dg n 1 ≤ dg n 3 := nI_leI (by omega) (by omega)
    have k3 : nI (dg n 2) = nI (dg n 1) ↔ dg n 2 = dg n 1 := nI_eq (by omega) (by omega)
    have k4 : nI (dg n 0) ≤ nI (dg n 3) ↔ dg n 0 ≤ dg n 3 := nI_leI (by omega) (by omega)
    have k5 : nI (dg n 2) = nI (dg n 0) ↔ dg n 2 = dg n 0 := nI_eq (by omega) (by omega)
    have k6 : nI (dg n 1) = nI (dg n 0) ↔ dg n 1 = dg n 0 := nI_eq (by omega) (by omega)
    by_cases hc : (dg n 3 < dg n 2 ∧ dg n 3 < dg n 1 ∧ dg n 3 < dg n 0) ∧ (dg n 1 ≠ dg n 0 ∧ dg n 2 ≠ dg n 1 ∧ dg n 2 ≠ dg n 0)
    · rw [if_pos hc, if_neg (fun q => absurd (k1.mp q) (by omega)), if_neg (fun q => absurd (k2.mp q) (by omega)), if_neg (fun q => hc.2.2.1 (k3.mp q)), if_neg (fun q => absurd (k4.mp q) (by omega)), if_neg (fun q => hc.2.2.2 (k5.mp q)), if_neg (fun q => hc.2.1 (k6.mp q)), ar4]
      unfold mlook4
      rw [oeq ho hv l3 l2, oeq ho hv l0 l3, oeq ho hv l2 l1, oeq ho hv l1 l0]
      exact ⟨tn_best ih (cf4 n hm).2 (cf4 n hm).1.symm, (best_rows _ _ _).trans hv⟩
    · rw [if_neg hc]
      by_cases c1 : dg n 2 ≤ dg n 3
      · rw [if_pos (k1.mpr c1)]; exact ⟨tn_skip ih, hv⟩
      · rw [if_neg (fun q => c1 (k1.mp q))]
        by_cases c2 : dg n 1 ≤ dg n 3
        · rw [if_pos (k2.mpr c2)]; exact ⟨tn_skip ih, hv⟩
        · rw [if_neg (fun q => c2 (k2.mp q))]
          by_cases c3 : dg n 2 = dg n 1
          · rw [if_pos (k3.mpr c3)]; exact ⟨tn_skip ih, hv⟩
          · rw [if_neg (fun q => c3 (k3.mp q))]
            by_cases c4 : dg n 0 ≤ dg n 3
            · rw [if_pos (k4.mpr c4)]; exact ⟨tn_skip ih, hv⟩
            · rw [if_neg (fun q => c4 (k4.mp q))]
              by_cases c5 : dg n 2 = dg n 0
              · rw [if_pos (k5.mpr c5)]; exact ⟨tn_skip ih, hv⟩
              · rw [if_neg (fun q => c5 (k5.mp q)), if_pos (k6.mpr (by omega))]; exact ⟨tn_skip ih, hv⟩
theorem turn_c {T S : MS} {X : Int64 × Int32} {U : MS} (hX : cf_best T = X.2) (hU : mtn S = U) (h : tnI X U) : (cf_turn T).1 = (mf_turn S).1 := by
  unfold cf_turn mf_turn
  rw [hX, hU]
  obtain ⟨-, -, h3⟩ := h
  rcases h3 with ⟨a, b⟩ | ⟨a, b⟩
  · rw [if_pos a, if_pos b]
    show (-1000000000000 : Int64) - (2 : Int32).toInt64 = -1000000000002
    decide
  · have hb : ¬ U.2.1 52 = -1000000000002 := by
      intro e
      rw [b] at e
      have e2 : X.2.toInt = -1000000000002 := by
        have := congrArg Int64.toInt e
        rw [Int32.toInt_toInt64] at this
        exact this.trans (by decide)
      have := Int32.le_toInt X.2
      omega
    rw [if_neg a, if_neg hb]
    exact b.symm
theorem turn_y {T S : MS} (ho : oR T S) {n2 n3 n4 m2 m3 : Nat} (h2 : n2 ≤ 625) (h3 : n3 ≤ 625) (h4 : n4 ≤ 625) (e2 : (n2 + 24) / 25 = m2) (e3 : (n3 + 4) / 5 = m3) : tnI (btR T 4 1 (btR T 3 10000 (btR T 2 100000000 (10000000000000000, 0) m2) m3) n4) (tnF4 (tnF3 (tnF2 (mtn0 S) n2) n3) n4) := by
  have h0 : tnI (10000000000000000, 0) (mtn0 S) := ⟨by decide, rfl, Or.inl ⟨rfl, rfl⟩⟩
  have a2 := t2 (T := T) (U := mtn0 S) (s0 := (10000000000000000, 0)) ho h0 n2 h2
  rw [e2] at a2
  generalize btR T 2 100000000 (10000000000000000, 0) m2 = s2 at a2
  generalize tnF2 (mtn0 S) n2 = U2 at a2
  have a3 := t3 (T := T) (U := U2) (s0 := s2) (fun x y hx hy => by rw [a2.2]; exact ho x y hx hy) a2.1 n3 h3
  rw [e3] at a3
  generalize btR T 3 10000 s2 m3 = s3 at a3
  generalize tnF3 U2 n3 = U3 at a3
  exact (t4 (T := T) (U := U3) (s0 := s3) (fun x y hx hy => by rw [a3.2, a2.2]; exact ho x y hx hy) a3.1 n4 h4).1
theorem turn_x {T S : MS} (ho : oR T S) : ∃ (X : Int64 × Int32) (U : MS), cf_best T = X.2 ∧ mtn S = U ∧ tnI X U := by
  have h := turn_y ho (n2 := 625) (n3 := 625) (n4 := 625) (m2 := 25) (m3 := 125) (by decide) (by decide) (by decide) (by decide) (by decide)
  rw [← bt2.eq_1, ← bt3.eq_1, ← bt4.eq_1, ← mtn.eq_1] at h
  exact ⟨bt4 T, mtn S, cf_best.eq_1 T, rfl, h⟩
theorem turn_eq {T S : MS} (ho : oR T S) : (cf_turn T).1 = (mf_turn S).1 := by
  obtain ⟨X, U, h1, h2, h3⟩ := turn_x ho
  exact turn_c h1 h2 h3
/-! both readers, step by step -/
theorem sI_sI (T : MS) (j : Nat) (a b : Int32) : sI (sI T j a) j b = sI T j b := by
  show (fun i => if i = j then b else if i = j then a else T.1 i, T.2) = (fun i => if i = j then b else T.1 i, T.2)
  congr 1
  funext i
  split <;> rfl
theorem sI_self (T : MS) {j : Nat} {a : Int32} (h : T.1 j = a) : T = sI T j a := by
  show T = (fun i => if i = j then a else T.1 i, T.2)
  have : (fun i => if i = j then a else T.1 i) = T.1 := by
    funext i
    split
    · next e => rw [e, h]
    · rfl
  rw [this]
theorem sI_comm (T : MS) {i j : Nat} (h : i ≠ j) (a b : Int32) : sI (sI T i a) j b = sI (sI T j b) i a := by
  show (fun k => if k = j then b else if k = i then a else T.1 k, T.2) = (fun k => if k = i then a else if k = j then b else T.1 k, T.2)
  congr 1
  funext k
  by_cases h1 : k = j
  · rw [if_pos h1, if_neg (by omega), if_pos h1]
  · rw [if_neg h1, if_neg h1]
/-- text and place alike -/
def lk (L P : Nat) (T S : MS) : Prop := P ≤ L ∧ L ≤ 400 ∧ T.1 20 = nI L ∧ S.1 36 = nI L ∧ T.1 23 = nI P ∧ S.1 39 = nI P ∧ ∀ k, k < L → T.2.2.1 22 k = S.2.2.1 35 k ∧ 0 ≤ (T.2.2.1 22 k).toInt
theorem lk_e {L P : Nat} {T S : MS} (h : lk L P T S) (hP : ¬ P < L) : cat T = -1 ∧ mat S (S.1 39) = -1 := by
  obtain ⟨h1, h2, h3, h4, h5, h6, h7⟩ := h
  unfold cat mat
  rw [h3, h4, h5, h6, if_pos ((nI_leI (by omega) (by omega)).mpr (by omega)), if_pos ((nI_leI (by omega) (by omega)).mpr (by omega))]
  exact ⟨rfl, rfl⟩
theorem lk_c {L P : Nat} {T S : MS} (h : lk L P T S) (hP : P < L) : cat T = T.2.2.1 22 P ∧ mat S (S.1 39) = T.2.2.1 22 P := by
  obtain ⟨h1, h2, h3, h4, h5, h6, h7⟩ := h
  unfold cat mat
  rw [h3, h4, h5, h6, if_neg (fun q => absurd ((nI_leI (by omega) (by omega)).mp q) (by omega)), if_neg (fun q => absurd ((nI_leI (by omega) (by omega)).mp q) (by omega)), nI_clamp (by omega), ← (h7 P hP).1]
  exact ⟨rfl, rfl⟩
theorem lk_at {L P : Nat} {T S : MS} (h : lk L P T S) : cat T = mat S (S.1 39) := by
  by_cases hP : P < L
  · rw [(lk_c h hP).1, (lk_c h hP).2]
  · rw [(lk_e h hP).1, (lk_e h hP).2]
theorem lk_st {L P : Nat} {T S : MS} (h : lk L P T S) (hP : P < L) : lk L (P + 1) (sI T 23 (T.1 23 + 1)) (sI S 39 (S.1 39 + 1)) := by
  obtain ⟨h1, h2, h3, h4, h5, h6, h7⟩ := h
  refine ⟨hP, h2, h3, h4, ?_, ?_, h7⟩
  · show T.1 23 + 1 = _
    rw [h5, nI_1]
  · show S.1 39 + 1 = _
    rw [h6, nI_1]
theorem lk_in {L P : Nat} {T S : MS} (h : lk L P T S) (hc : ¬ cat T = -1) : P < L := Classical.not_not.mp (fun q => hc (lk_e h q).1)
/-- spaces -/
theorem sk_lk {L : Nat} : ∀ (f : Nat) {T S : MS} {P : Nat}, lk L P T S → L - P < f → ∃ Q, P ≤ Q ∧ Q ≤ L ∧ cskR f T = sI T 23 (nI Q) ∧ skR f S = sI S 39 (nI Q)
  | 0, _, _, _, _, hf => absurd hf (Nat.not_lt_zero _)
  | f + 1, T, S, P, h, hf => by
    unfold cskR skR
    rw [← lk_at h]
    by_cases hc : cat T = 32
    · have hP := lk_in h (by rw [hc]; decide)
      obtain ⟨Q, q1, q2, q3, q4⟩ := sk_lk f (lk_st h hP) (by omega)
      rw [if_pos hc, if_pos hc]
      exact ⟨Q, by omega, q2, q3.trans (sI_sI _ _ _ _), q4.trans (sI_sI _ _ _ _)⟩
    · rw [if_neg hc, if_neg hc]
      exact ⟨P, Nat.le_refl P, h.1, sI_self _ h.2.2.2.2.1, sI_self _ h.2.2.2.2.2.1⟩
/-- a word's number -/
def wc (t : Nat → Int32) (W : Nat) : Nat → Int
  | 0 => 0
  | n + 1 => wc t W n * 27 + ((t (W + n)).toInt - 96)
abbrev let1 (c : Int32) : Prop := 97 ≤ c.toInt ∧ c.toInt ≤ 122
theorem wc_b {t : Nat → Int32} {W : Nat} : ∀ n, (∀ k, k < n → let1 (t (W + k))) → 0 ≤ wc t W n ∧ wc t W n < 27 ^ n
  | 0, _ => ⟨Int.le_refl _, by show (0 : Int) < 27 ^ 0; decide⟩
  | n + 1, h => by
    obtain ⟨a, b⟩ := wc_b n (fun k hk => h k (by omega))
    obtain ⟨c, d⟩ := h n (by omega)
    show 0 ≤ wc t W n * 27 + _ ∧ wc t W n * 27 + _ < 27 ^ (n + 1)
    rw [Int.pow_succ]
    generalize (27 : Int) ^ n = p at *
    omega
theorem wc_inj {t u : Nat → Int32} {W V : Nat} : ∀ n m, (∀ k, k < n → let1 (t (W + k))) → (∀ k, k < m → let1 (u (V + k))) → wc t W n = wc u V m → n = m ∧ ∀ k, k < n → t (W + k) = u (V + k)
  | 0, 0, _, _, _ => ⟨rfl, fun k hk => absurd hk (Nat.not_lt_zero k)⟩
  | 0, m + 1, _, hu, e => by
    have := (wc_b m (fun k hk => hu k (by omega))).1
    have := hu m (by omega)
    have e' : (0 : Int) = wc u V m * 27 + ((u (V + m)).toInt - 96) := e
    omega
  | n + 1, 0, ht, _, e => by
    have := (wc_b n (fun k hk => ht k (by omega))).1
    have := ht n (by omega)
    have e' : wc t W n * 27 + ((t (W + n)).toInt - 96) = (0 : Int) := e
    omega
  | n + 1, m + 1, ht, hu, e => by
    have h1 := ht n (by omega)
    have h2 := hu m (by omega)
    have e' : wc t W n * 27 + ((t (W + n)).toInt - 96) = wc u V m * 27 + ((u (V + m)).toInt - 96) := e
    obtain ⟨a, b⟩ := wc_inj n m (fun k hk => ht k (by omega)) (fun k hk => hu k (by omega)) (by omega)
    subst a
    refine ⟨rfl, fun k hk => ?_⟩
    by_cases hkn : k = n
    · subst hkn
      exact Int32.toInt_inj.mp (by omega)
    · exact b k (by omega)
theorem isLet_c {c : Int32} : (97 ≤ c ∧ c ≤ 122) ↔ let1 c := by
  rw [Int32.le_iff_toInt_le, Int32.le_iff_toInt_le, show (97 : Int32).toInt = 97 from by decide, show (122 : Int32).toInt = 122 from by decide]
theorem lt_v {T S : MS} {L P W n : Nat} {c : Int64} (h : lk L P T S) (hP : P < L) (h38 : S.1 38 = nI W) (hn : P = W + n) (hl : ∀ k, k < n → let1 (T.2.2.1 22 (W + k))) (hc : let1 (cat T)) (e : n ≤ 12 → c.toInt = wc (T.2.2.1 22) W n) : n + 1 ≤ 12 → (lt2 S c).toInt = wc (T.2.2.1 22) W (n + 1) := by
  intro h12
  have e1 := e (by omega)
  have hL := h.2.1
  have h39 := h.2.2.2.2.2.1
  obtain ⟨b1, b2⟩ := wc_b n hl
  have b3 : (27 : Int) ^ n ≤ 27 ^ 11 := by
    exact_mod_cast Nat.pow_le_pow_right (by decide : 0 < 27) (by omega : n ≤ 11)
  have b4 : (27 : Int) ^ 11 = 5559060566555523 := by decide
  unfold lt2 lt1
  rw [h39, h38, pk_sub (by omega), hn, Nat.add_sub_cancel_left]
  rw [if_pos (by rw [show (12 : Int32) = nI 12 from by decide, nI_ltI (by omega) (by decide)]; omega), if_neg (fun q : (12 : Int32) ≤ nI n => absurd ((nI_leI (a := 12) (b := n) (by decide) (by omega)).mp q) (by omega))]
  rw [← hn, ← h39, ← lk_at h]
  rw [(lk_c h hP).1] at hc ⊢
  have e27 : (27 : Int64).toInt = 27 := by decide
  have e96 : (96 : Int64).toInt = 96 := by decide
  have m1 : (c * 27).toInt = c.toInt * 27 := by rw [L_mul (by rw [e27]; omega) (by rw [e27]; omega), e27]
  have m2 : (c * 27 + (T.2.2.1 22 P).toInt64).toInt = c.toInt * 27 + (T.2.2.1 22 P).toInt := by
    rw [L_add (by rw [m1, Int32.toInt_toInt64]; omega) (by rw [m1, Int32.toInt_toInt64]; omega), m1, Int32.toInt_toInt64]
  rw [L_sub (by rw [m2, e96]; omega) (by rw [m2, e96]; omega), m2, e96, e1]
  show _ = wc (T.2.2.1 22) W n * 27 + ((T.2.2.1 22 (W + n)).toInt - 96)
  rw [← hn]
  omega
theorem lt_lk {L W : Nat} : ∀ (f : Nat) {T S : MS} {P n : Nat} {c : Int64}, lk L P T S → L - P < f → S.1 38 = nI W → P = W + n → (∀ k, k < n → let1 (T.2.2.1 22 (W + k))) → (n ≤ 12 → c.toInt = wc (T.2.2.1 22) W n) → ∃ m c', n ≤ m ∧ W + m ≤ L ∧ cltR f T = sI T 23 (nI (W + m)) ∧ ltR f c S = (c', sI S 39 (nI (W + m))) ∧ (m ≤ 12 → c'.toInt = wc (T.2.2.1 22) W m) ∧ ∀ k, k < m → let1 (T.2.2.1 22 (W + k))
  | 0, _, _, _, _, _, _, hf, _, _, _, _ => absurd hf (Nat.not_lt_zero _)
  | f + 1, T, S, P, n, c, h, hf, h38, hn, hl, he => by
    unfold cltR ltR
    have ha : isLet S ↔ cLet T := by
      show (97 ≤ mat S (S.1 39) ∧ mat S (S.1 39) ≤ 122) ↔ (97 ≤ cat T ∧ cat T ≤ 122)
      rw [lk_at h]
    by_cases hc : cLet T
    · have hl1 : let1 (cat T) := isLet_c.mp hc
      have hP := lk_in h (fun q => by rw [q] at hl1; exact absurd hl1 (by decide))
      have hv := lt_v h hP h38 hn hl hl1 he
      rw [(lk_c h hP).1] at hl1
      obtain ⟨m, c', q1, q2, q3, q4, q5, q6⟩ := lt_lk (W := W) f (n := n + 1) (c := lt2 S c) (lk_st h hP) (by omega) h38 (by omega) (fun k hk => by
        by_cases hkn : k = n
        · subst hkn
          rw [← hn]
          exact hl1
        · exact hl k (by omega)) hv
      rw [if_pos hc, if_pos (ha.mpr hc)]
      exact ⟨m, c', by omega, q2, q3.trans (sI_sI _ _ _ _), q4.trans (by rw [sI_sI]), q5, q6⟩
    · rw [if_neg hc, if_neg (fun q => hc (ha.mp q))]
      subst hn
      exact ⟨n, c, Nat.le_refl n, h.1, sI_self _ h.2.2.2.2.1, by rw [← sI_self _ h.2.2.2.2.2.1], he, hl⟩
/-- figures -/
def nvR (v w : Int32) : Prop := (0 ≤ w.toInt ∧ w.toInt ≤ 999999 ∧ v = w) ∨ (999999 < w.toInt ∧ 999999 < v.toInt ∧ v.toInt ≤ 1000000)
theorem isFig_c {c : Int32} : (48 ≤ c ∧ c ≤ 57) ↔ (48 ≤ c.toInt ∧ c.toInt ≤ 57) := by
  rw [Int32.le_iff_toInt_le, Int32.le_iff_toInt_le, show (48 : Int32).toInt = 48 from by decide, show (57 : Int32).toInt = 57 from by decide]
theorem nu_v {d v w : Int32} (hd : 48 ≤ d.toInt ∧ d.toInt ≤ 57) (h : nvR v w) : nvR (if 1000000 < v * 10 + (d - 48) then 1000000 else v * 10 + (d - 48)) (if w ≤ 999999 then 10 * w + d - 48 else w) := by
  have e10 : (10 : Int32).toInt = 10 := by decide
  have e48 : (48 : Int32).toInt = 48 := by decide
  have e9 : (999999 : Int32).toInt = 999999 := by decide
  have e6 : (1000000 : Int32).toInt = 1000000 := by decide
  have d1 : (d - 48).toInt = d.toInt - 48 := by rw [I_sub (by rw [e48]; omega) (by rw [e48]; omega), e48]
  have hv : 0 ≤ v.toInt ∧ v.toInt ≤ 1000000 := by
    rcases h with ⟨a, b, rfl⟩ | ⟨a, b, c⟩ <;> omega
  have v1 : (v * 10).toInt = v.toInt * 10 := by rw [I_mul (by rw [e10]; omega) (by rw [e10]; omega), e10]
  have v2 : (v * 10 + (d - 48)).toInt = v.toInt * 10 + (d.toInt - 48) := by rw [I_add (by rw [v1, d1]; omega) (by rw [v1, d1]; omega), v1, d1]
  rcases h with ⟨a, b, rfl⟩ | ⟨a, b, c⟩
  · have w2 : 10 * v + d - 48 = v * 10 + (d - 48) := by
      rw [Int32.mul_comm, Int32.sub_eq_add_neg, Int32.add_assoc, ← Int32.sub_eq_add_neg]
    rw [if_pos (show v ≤ 999999 from by rw [Int32.le_iff_toInt_le, e9]; omega), w2]
    by_cases hc : 1000000 < v * 10 + (d - 48)
    · have hc' := hc
      rw [Int32.lt_iff_toInt_lt, e6, v2] at hc'
      rw [if_pos hc]
      exact Or.inr ⟨by rw [v2]; omega, by rw [e6]; decide, by rw [e6]; decide⟩
    · have hc' := hc
      rw [Int32.lt_iff_toInt_lt, e6, v2] at hc'
      rw [if_neg hc]
      by_cases h9 : v.toInt * 10 + (d.toInt - 48) ≤ 999999
      · exact Or.inl ⟨by rw [v2]; omega, by rw [v2]; omega, rfl⟩
      · exact Or.inr ⟨by rw [v2]; omega, by rw [v2]; omega, by rw [v2]; omega⟩
  · rw [if_neg (show ¬ w ≤ 999999 from by rw [Int32.le_iff_toInt_le, e9]; omega), if_pos (show 1000000 < v * 10 + (d - 48) from by rw [Int32.lt_iff_toInt_lt, e6, v2]; omega)]
    exact Or.inr ⟨a, by rw [e6]; decide, by rw [e6]; decide⟩
theorem sI4 (S : MS) (a b c d : Int32) : sI (sI (sI (sI S 41 a) 39 b) 41 c) 39 d = sI (sI S 41 c) 39 d := by
  rw [sI_comm (sI S 41 a) (by decide) b c, sI_sI, sI_sI]
theorem nu_lk {L : Nat} : ∀ (f : Nat) {T S : MS} {P : Nat} {v : Int32}, lk L P T S → L - P < f → nvR v (S.1 41) → ∃ Q v' w', P ≤ Q ∧ Q ≤ L ∧ cnuR f v T = (v', sI T 23 (nI Q)) ∧ fgR f S = sI (sI S 41 w') 39 (nI Q) ∧ nvR v' w'
  | 0, _, _, _, _, _, hf, _ => absurd hf (Nat.not_lt_zero _)
  | f + 1, T, S, P, v, h, hf, hv => by
    unfold cnuR fgR
    have ha : isFig S ↔ cFig T := by
      show (48 ≤ mat S (S.1 39) ∧ mat S (S.1 39) ≤ 57) ↔ (48 ≤ cat T ∧ cat T ≤ 57)
      rw [lk_at h]
    by_cases hc : cFig T
    · have hl1 := isFig_c.mp hc
      have hP := lk_in h (fun q => by rw [q] at hl1; exact absurd hl1 (by decide))
      have h23 := h.2.2.2.2.1
      have hL := h.2.1
      have e1 : cnv T v = (if 1000000 < v * 10 + (cat T - 48) then 1000000 else v * 10 + (cat T - 48)) := by
        unfold cnv
        rw [h23, nI_clamp (by omega), (lk_c h hP).1]
      have e2 : fgv S = (if S.1 41 ≤ 999999 then 10 * S.1 41 + cat T - 48 else S.1 41) := by
        unfold fgv
        rw [lk_at h]
      have hn := nu_v hl1 hv
      rw [← e1, ← e2] at hn
      have hk := lk_st h hP
      have hk' : lk L (P + 1) (sI T 23 (T.1 23 + 1)) (fgN S) := hk
      obtain ⟨Q, v', w', q1, q2, q3, q4, q5⟩ := nu_lk f hk' (by omega) (v := cnv T v) hn
      rw [if_pos hc, if_pos (ha.mpr hc)]
      refine ⟨Q, v', w', by omega, q2, q3.trans (by rw [sI_sI]), q4.trans ?_, q5⟩
      unfold fgN
      exact sI4 S _ _ _ _
    · rw [if_neg hc, if_neg (fun q => hc (ha.mp q))]
      exact ⟨P, v, S.1 41, Nat.le_refl P, h.1, by rw [← sI_self _ h.2.2.2.2.1], by rw [← sI_self S rfl, ← sI_self _ h.2.2.2.2.2.1], hv⟩
/-- words -/
def tkP (a n b w : Int32) : Prop := (a = 8 ↔ b = 2) ∧ (a = 9 ↔ b = 3) ∧ (a = 10 ↔ b = 4) ∧ (a = 11 ↔ b = 5) ∧ (a < 5 ↔ b = 6) ∧ (a < 5 → a = w) ∧ (a = 5 ↔ b = 60) ∧ (a = 6 ↔ b = 61) ∧ (a = 7 ↔ b = 62) ∧ (a = 12 ↔ b = 59) ∧ ((a = 13 ∧ n ≤ 999999) ↔ b = 7) ∧ (b = 7 → n = w) ∧ (a = 14 ↔ b = 0)
def tkN (a b : Int32) : Bool := decide ((a = 8 ↔ b = 2) ∧ (a = 9 ↔ b = 3) ∧ (a = 10 ↔ b = 4) ∧ (a = 11 ↔ b = 5) ∧ (a < 5 ↔ b = 6) ∧ (a = 5 ↔ b = 60) ∧ (a = 6 ↔ b = 61) ∧ (a = 7 ↔ b = 62) ∧ (a = 12 ↔ b = 59) ∧ ¬ a = 13 ∧ ¬ b = 7 ∧ (a = 14 ↔ b = 0))
theorem tk_N {a b n w : Int32} (h : tkN a b = true) (hw : a < 5 → a = w) : tkP a n b w := by
  obtain ⟨a1, a2, a3, a4, a5, a6, a7, a8, a9, b1, b2, b3⟩ := of_decide_eq_true h
  exact ⟨a1, a2, a3, a4, a5, hw, a6, a7, a8, a9, ⟨fun q => absurd q.1 b1, fun q => absurd q b2⟩, fun q => absurd q b2, b3⟩
theorem tk_13 {v w : Int32} (h : nvR v w) : tkP 13 v (if w ≤ 999999 then 7 else 1) w := by
  have e9 : (999999 : Int32).toInt = 999999 := by decide
  rcases h with ⟨a, b, rfl⟩ | ⟨a, b, c⟩
  · have hw : v ≤ 999999 := by rw [Int32.le_iff_toInt_le, e9]; omega
    rw [if_pos hw]
    exact ⟨by decide, by decide, by decide, by decide, by decide, fun q => absurd q (by decide), by decide, by decide, by decide, by decide, ⟨fun _ => rfl, fun _ => ⟨rfl, hw⟩⟩, fun _ => rfl, by decide⟩
  · have hw : ¬ w ≤ 999999 := by rw [Int32.le_iff_toInt_le, e9]; omega
    have hv : ¬ v ≤ 999999 := by rw [Int32.le_iff_toInt_le, e9]; omega
    rw [if_neg hw]
    exact ⟨by decide, by decide, by decide, by decide, by decide, fun q => absurd q (by decide), by decide, by decide, by decide, by decide, ⟨fun q => absurd q.2 hv, fun q => absurd q (by decide)⟩, fun q => absurd q (by decide), by decide⟩
theorem wc_cg {t u : Nat → Int32} {W V : Nat} : ∀ n, (∀ k, k < n → t (W + k) = u (V + k)) → wc t W n = wc u V n
  | 0, _ => rfl
  | n + 1, h => by
    show wc t W n * 27 + _ = wc u V n * 27 + _
    rw [wc_cg n (fun k hk => h k (by omega)), h n (by omega)]
theorem sCh_let : ∀ i, i < 9 → ∀ k, k < sLen.getD i 0 → let1 (sCh i (0 + k)) := by decide +kernel
theorem sLen_le : ∀ i, i < 9 → sLen.getD i 0 ≤ 6 := by decide
theorem csp_iff {T : MS} {W m i : Nat} (h23 : T.1 23 = nI (W + m)) (h25 : T.1 25 = nI W) (hm : W + m ≤ 400) (hl : ∀ k, k < m → let1 (T.2.2.1 22 (W + k))) (hi : i < 9) : csp T i ↔ wc (T.2.2.1 22) W m = wc (sCh i) 0 (sLen.getD i 0) := by
  have h6 := sLen_le i hi
  unfold csp
  rw [h23, h25, pk_sub (by omega), Nat.add_sub_cancel_left, nI_clamp (by omega), nI_eq (by omega) (by omega)]
  constructor
  · rintro ⟨rfl, q⟩
    exact wc_cg _ (fun k hk => by rw [q k hk, Nat.zero_add])
  · intro e
    obtain ⟨a, b⟩ := wc_inj _ _ hl (sCh_let i hi) e
    exact ⟨a, fun k hk => by rw [b k (by omega), Nat.zero_add]⟩
def wK (i : Nat) : Int64 := [46309, 131360, 249, 1111, 237470, 21568592, 168850, 223456, 365260].getD i 0
theorem wK_eq : ∀ i, i < 9 → wc (sCh i) 0 (sLen.getD i 0) = (wK i).toInt := by decide +kernel
theorem csp_K {T : MS} {W m i : Nat} {c : Int64} (h23 : T.1 23 = nI (W + m)) (h25 : T.1 25 = nI W) (hm : W + m ≤ 400) (hl : ∀ k, k < m → let1 (T.2.2.1 22 (W + k))) (hc : c.toInt = wc (T.2.2.1 22) W m) (hi : i < 9) : csp T i ↔ c = wK i := by
  rw [csp_iff h23 h25 hm hl hi, wK_eq i hi, ← hc]
  exact Int64.toInt_inj
theorem csp_no {T : MS} {W m i : Nat} (h23 : T.1 23 = nI (W + m)) (h25 : T.1 25 = nI W) (hm : W + m ≤ 400) (h12 : 12 < m) (hi : i < 9) : ¬ csp T i := by
  have h6 := sLen_le i hi
  unfold csp
  rw [h23, h25, pk_sub (by omega), Nat.add_sub_cancel_left, nI_eq (by omega) (by omega)]
  intro q
  omega
theorem cwd_no {T : MS} (h : ∀ i, i < 9 → ¬ csp T i) : cwd T = 15 := by
  unfold cwd
  rw [if_neg (h 0 (by decide)), if_neg (h 1 (by decide)), if_neg (h 2 (by decide)), if_neg (h 3 (by decide)), if_neg (h 4 (by decide)), if_neg (h 5 (by decide)), if_neg (h 6 (by decide)), if_neg (h 7 (by decide)), if_neg (h 8 (by decide))]
theorem wd_lk {T S : MS} {c : Int64} {n : Int32} (h : ∀ i, i < 9 → (csp T i ↔ c = wK i)) : ∃ a b w, cwd T = a ∧ (mwd S c).1 = b ∧ ((mwd S c).2 = S ∧ w = S.1 41 ∨ (mwd S c).2 = sI S 41 w) ∧ tkP a n b w := by
  unfold cwd mwd
  have z0 : csp T 0 ↔ c = 46309 := h 0 (by decide)
  have z1 : csp T 1 ↔ c = 131360 := h 1 (by decide)
  have z2 : csp T 2 ↔ c = 249 := h 2 (by decide)
  have z3 : csp T 3 ↔ c = 1111 := h 3 (by decide)
  have z4 : csp T 4 ↔ c = 237470 := h 4 (by decide)
  have z5 : csp T 5 ↔ c = 21568592 := h 5 (by decide)
  have z6 : csp T 6 ↔ c = 168850 := h 6 (by decide)
  have z7 : csp T 7 ↔ c = 223456 := h 7 (by decide)
  have z8 : csp T 8 ↔ c = 365260 := h 8 (by decide)
  by_cases h0 : csp T 0
  · rw [if_pos h0, if_pos (z0.mp h0)]
    exact ⟨8, 2, _, rfl, rfl, Or.inl ⟨rfl, rfl⟩, tk_N (by decide) (fun q => absurd q (by decide))⟩
  · rw [if_neg h0, if_neg (fun q => h0 (z0.mpr q))]
    by_cases h1 : csp T 1
    · rw [if_pos h1, if_pos (z1.mp h1)]
      exact ⟨9, 3, _, rfl, rfl, Or.inl ⟨rfl, rfl⟩, tk_N (by decide) (fun q => absurd q (by decide))⟩
    · rw [if_neg h1, if_neg (fun q => h1 (z1.mpr q))]
      by_cases h2 : csp T 2
      · rw [if_pos h2, if_pos (z2.mp h2)]
        exact ⟨10, 4, _, rfl, rfl, Or.inl ⟨rfl, rfl⟩, tk_N (by decide) (fun q => absurd q (by decide))⟩
      · rw [if_neg h2, if_neg (fun q => h2 (z2.mpr q))]
        by_cases h3 : csp T 3
        · rw [if_pos h3, if_pos (z3.mp h3)]
          exact ⟨11, 5, _, rfl, rfl, Or.inl ⟨rfl, rfl⟩, tk_N (by decide) (fun q => absurd q (by decide))⟩
        · rw [if_neg h3, if_neg (fun q => h3 (z3.mpr q))]
          by_cases h4 : csp T 4
          · rw [if_pos h4, if_pos (z4.mp h4)]
            exact ⟨0, 6, 0, rfl, rfl, Or.inr rfl, tk_N (by decide) (fun q => rfl)⟩
          · rw [if_neg h4, if_neg (fun q => h4 (z4.mpr q))]
            by_cases h5 : csp T 5
            · rw [if_pos h5, if_pos (z5.mp h5)]
              exact ⟨1, 6, 1, rfl, rfl, Or.inr rfl, tk_N (by decide) (fun q => rfl)⟩
            · rw [if_neg h5, if_neg (fun q => h5 (z5.mpr q))]
              by_cases h6 : csp T 6
              · rw [if_pos h6, if_pos (z6.mp h6)]
                exact ⟨2, 6, 2, rfl, rfl, Or.inr rfl, tk_N (by decide) (fun q => rfl)⟩
              · rw [if_neg h6, if_neg (fun q => h6 (z6.mpr q))]
                by_cases h7 : csp T 7
                · rw [if_pos h7, if_pos (z7.mp h7)]
                  exact ⟨3, 6, 3, rfl, rfl, Or.inr rfl, tk_N (by decide) (fun q => rfl)⟩
                · rw [if_neg h7, if_neg (fun q => h7 (z7.mpr q))]
                  by_cases h8 : csp T 8
                  · rw [if_pos h8, if_pos (z8.mp h8)]
                    exact ⟨4, 6, 4, rfl, rfl, Or.inr rfl, tk_N (by decide) (fun q => rfl)⟩
                  · rw [if_neg h8, if_neg (fun q => h8 (z8.mpr q))]
                    exact ⟨15, 1, _, rfl, rfl, Or.inl ⟨rfl, rfl⟩, tk_N (by decide) (fun q => absurd q (by decide))⟩
/-- both stand at the same word -/
def tk (T S : MS) : Prop := tkP (T.1 24) (T.1 26) (S.1 40) (S.1 41)
def st (T S : MS) : Prop := ∃ W, W ≤ 400 ∧ T.1 25 = nI W ∧ S.1 38 = nI W
theorem sg_lk : ∀ c n w, tkP (csg c) n (sgW c) w := by
  intro c n w
  unfold csg sgW
  by_cases h0 : c = 60
  · rw [if_pos h0, if_pos h0, h0]; exact tk_N (by decide) (fun q => absurd q (by decide))
  · rw [if_neg h0, if_neg h0]
    by_cases h1 : c = 61
    · rw [if_pos h1, if_pos h1, h1]; exact tk_N (by decide) (fun q => absurd q (by decide))
    · rw [if_neg h1, if_neg h1]
      by_cases h2 : c = 62
      · rw [if_pos h2, if_pos h2, h2]; exact tk_N (by decide) (fun q => absurd q (by decide))
      · rw [if_neg h2, if_neg h2]
        by_cases h3 : c = 59
        · rw [if_pos h3, if_pos h3, h3]; exact tk_N (by decide) (fun q => absurd q (by decide))
        · rw [if_neg h3, if_neg h3]; exact tk_N (by decide) (fun q => absurd q (by decide))
theorem nx_w {L P : Nat} {T S : MS} (h : lk L P T S) (h25 : T.1 25 = nI P) (h38 : S.1 38 = nI P) : ∃ P', P ≤ P' ∧ lk L P' (sI (cltR 401 T) 24 (cwd (cltR 401 T))) (mf_letters S) ∧ tk (sI (cltR 401 T) 24 (cwd (cltR 401 T))) (mf_letters S) ∧ st (sI (cltR 401 T) 24 (cwd (cltR 401 T))) (mf_letters S) := by
  have hL := h.2.1
  obtain ⟨m, c', q1, q2, q3, q4, q5, q6⟩ := lt_lk (W := P) 401 (n := 0) (c := 0) h (by omega) h38 rfl (fun k hk => absurd hk (Nat.not_lt_zero k)) (fun _ => rfl)
  unfold mf_letters
  rw [q3, q4]
  unfold ltE
  have e23 : (sI T 23 (nI (P + m))).1 23 = nI (P + m) := rfl
  have e25 : (sI T 23 (nI (P + m))).1 25 = nI P := h25
  have e39 : ((c', sI S 39 (nI (P + m))) : Int64 × MS).2.1 39 - ((c', sI S 39 (nI (P + m))) : Int64 × MS).2.1 38 = nI m := by
    show nI (P + m) - S.1 38 = nI m
    rw [h38, pk_sub (by omega), Nat.add_sub_cancel_left]
  rw [e39]
  have lkx : ∀ (a b : Int32) (X : MS), (X = sI S 39 (nI (P + m)) ∨ ∃ w, X = sI (sI S 39 (nI (P + m))) 41 w) → lk L (P + m) (sI (sI T 23 (nI (P + m))) 24 a) (sI X 40 b) ∧ st (sI (sI T 23 (nI (P + m))) 24 a) (sI X 40 b) := by
    intro a b X hX
    rcases hX with rfl | ⟨w, rfl⟩
    · exact ⟨⟨q2, h.2.1, h.2.2.1, h.2.2.2.1, rfl, rfl, h.2.2.2.2.2.2⟩, ⟨P, by omega, h25, h38⟩⟩
    · exact ⟨⟨q2, h.2.1, h.2.2.1, h.2.2.2.1, rfl, rfl, h.2.2.2.2.2.2⟩, ⟨P, by omega, h25, h38⟩⟩
  by_cases h12 : m ≤ 12
  · rw [if_pos (show nI m ≤ (12 : Int32) from (nI_leI (a := m) (b := 12) (by omega) (by decide)).mpr h12)]
    obtain ⟨a, b, w, w1, w2, w3, w4⟩ := wd_lk (T := sI T 23 (nI (P + m))) (S := sI S 39 (nI (P + m))) (c := c') (n := T.1 26) (fun i hi => csp_K e23 e25 (by omega) q6 (q5 h12) hi)
    show ∃ P', P ≤ P' ∧ lk L P' (sI (sI T 23 (nI (P + m))) 24 (cwd (sI T 23 (nI (P + m))))) (sI (mwd (sI S 39 (nI (P + m))) c').2 40 (mwd (sI S 39 (nI (P + m))) c').1) ∧ tk (sI (sI T 23 (nI (P + m))) 24 (cwd (sI T 23 (nI (P + m))))) (sI (mwd (sI S 39 (nI (P + m))) c').2 40 (mwd (sI S 39 (nI (P + m))) c').1) ∧ st (sI (sI T 23 (nI (P + m))) 24 (cwd (sI T 23 (nI (P + m))))) (sI (mwd (sI S 39 (nI (P + m))) c').2 40 (mwd (sI S 39 (nI (P + m))) c').1)
    rw [w1, w2]
    generalize (mwd (sI S 39 (nI (P + m))) c').2 = X at w3
    have hX : X = sI S 39 (nI (P + m)) ∨ ∃ w, X = sI (sI S 39 (nI (P + m))) 41 w := by
      rcases w3 with ⟨a, -⟩ | a
      · exact Or.inl a
      · exact Or.inr ⟨w, a⟩
    have hw : (sI X 40 b).1 41 = w := by
      rcases w3 with ⟨rfl, e⟩ | rfl
      · exact e.symm
      · rfl
    refine ⟨P + m, by omega, (lkx a b X hX).1, ?_, (lkx a b X hX).2⟩
    show tkP a (T.1 26) b ((sI X 40 b).1 41)
    rw [hw]
    exact w4
  · rw [if_neg (fun q : nI m ≤ (12 : Int32) => h12 ((nI_leI (a := m) (b := 12) (by omega) (by decide)).mp q)), cwd_no (fun i hi => csp_no e23 e25 (by omega) (by omega) hi)]
    refine ⟨P + m, by omega, (lkx 15 1 _ (Or.inl rfl)).1, ?_, (lkx 15 1 _ (Or.inl rfl)).2⟩
    exact tk_N (a := 15) (b := 1) (by decide) (fun q => absurd q (by decide))
theorem nx_f {L P : Nat} {T S : MS} (h : lk L P T S) (h24 : T.1 24 = 13) (h25 : T.1 25 = nI P) (h38 : S.1 38 = nI P) (h41 : S.1 41 = 0) : ∃ P', P ≤ P' ∧ lk L P' (cnE (cnuR 401 0 T)) (fgE (fgR 401 S)) ∧ tk (cnE (cnuR 401 0 T)) (fgE (fgR 401 S)) ∧ st (cnE (cnuR 401 0 T)) (fgE (fgR 401 S)) := by
  have hL := h.2.1
  obtain ⟨Q, v', w', q1, q2, q3, q4, q5⟩ := nu_lk 401 h (by omega) (v := 0) (Or.inl ⟨by rw [h41]; decide, by rw [h41]; decide, h41.symm⟩)
  rw [q3, q4]
  refine ⟨Q, q1, ⟨q2, h.2.1, h.2.2.1, h.2.2.2.1, rfl, rfl, h.2.2.2.2.2.2⟩, ?_, ⟨P, by omega, h25, h38⟩⟩
  have := tk_13 q5
  rw [← h24] at this
  exact this
theorem nx_s {L P : Nat} {T S : MS} (h : lk L P T S) (hP : P < L) (h25 : T.1 25 = nI P) (h38 : S.1 38 = nI P) : ∃ P', P ≤ P' ∧ lk L P' (csE T) (sgE S) ∧ tk (csE T) (sgE S) ∧ st (csE T) (sgE S) := by
  have hL := h.2.1
  refine ⟨P + 1, by omega, lk_st h hP, ?_, ⟨P, by omega, h25, h38⟩⟩
  show tkP (csg (cat T)) (T.1 26) (sgW (mat S (S.1 39))) (S.1 41)
  rw [← lk_at h]
  exact sg_lk _ _ _
theorem nx_b {L P : Nat} {T S : MS} (h : lk L P T S) : ∃ P', P ≤ P' ∧ lk L P' (cnB T) (goB S) ∧ tk (cnB T) (goB S) ∧ st (cnB T) (goB S) := by
  have h' : lk L P (sI T 25 (T.1 23)) (goI S) := h
  have h'' : lk L P (sI (sI T 25 (T.1 23)) 24 13) (goI S) := h
  have e25 : (sI T 25 (T.1 23)).1 25 = nI P := h.2.2.2.2.1
  have e38 : (goI S).1 38 = nI P := h.2.2.2.2.2.1
  have hg : goc S = cat T := (lk_at h').symm
  have hPL := h.1
  have hL := h.2.1
  unfold cnB goB
  rw [hg]
  by_cases hP : P < L
  · have hz := (h.2.2.2.2.2.2 P hP).2
    rw [if_neg (show ¬ T.1 20 ≤ T.1 23 from by rw [h.2.2.1, h.2.2.2.2.1]; exact fun q => absurd ((nI_leI (by omega) (by omega)).mp q) (by omega))]
    rw [if_pos (show 0 ≤ cat T from by rw [(lk_c h hP).1, Int32.le_iff_toInt_le]; exact hz)]
    by_cases hl : cLet T
    · rw [if_pos hl, if_pos hl]
      exact nx_w h' e25 e38
    · rw [if_neg hl, if_neg hl]
      by_cases hf : cFig T
      · rw [if_pos hf, if_pos hf]
        exact nx_f h'' rfl e25 e38 rfl
      · rw [if_neg hf, if_neg hf]
        exact nx_s h' hP e25 e38
  · rw [if_pos (show T.1 20 ≤ T.1 23 from by rw [h.2.2.1, h.2.2.2.2.1]; exact (nI_leI (by omega) (by omega)).mpr (by omega))]
    rw [if_neg (show ¬ 0 ≤ cat T from by rw [(lk_e h hP).1]; decide)]
    exact ⟨P, Nat.le_refl P, h, tk_N (a := 14) (b := 0) (by decide) (fun q => absurd q (by decide)), ⟨P, by omega, e25, e38⟩⟩
theorem nx_lk {L P : Nat} {T S : MS} (h : lk L P T S) : ∃ P', P ≤ P' ∧ lk L P' (cnx T) (mf_go S) ∧ tk (cnx T) (mf_go S) ∧ st (cnx T) (mf_go S) := by
  have hL := h.2.1
  obtain ⟨Q, q1, q2, q3, q4⟩ := sk_lk 401 h (by omega)
  unfold cnx mf_go
  rw [q3, q4]
  have h' : lk L Q (sI T 23 (nI Q)) (sI S 39 (nI Q)) := ⟨q2, h.2.1, h.2.2.1, h.2.2.2.1, rfl, rfl, h.2.2.2.2.2.2⟩
  obtain ⟨P', p1, p2⟩ := nx_b h'
  exact ⟨P', by omega, p2⟩
/-! both parsers, step by step -/
def sgn2 (a b : Int32) : Prop := (a = 5 ∧ b = 60) ∨ (a = 6 ∧ b = 61) ∨ (a = 7 ∧ b = 62)
def te (R Q : Nat → Nat → Int32) (q : Nat) : Prop := (∃ f, f < 5 ∧ R 83 q = nI f ∧ Q 32 q = nI f) ∧ sgn2 (R 84 q) (Q 33 q) ∧ R 85 q = Q 34 q
def cln (R Q : Nat → Nat → Int32) (c k : Nat) : Prop := R 81 c = Q 30 c ∧ R 82 c = nI k ∧ Q 31 c = nI k ∧ ∀ j, j < k → te R Q (4 * c + j)
def cl1 (R Q : Nat → Nat → Int32) (c : Nat) : Prop := ∃ k, k ≤ 4 ∧ cln R Q c k
def cs0 (n : Nat) (a b : Int32) (R Q : Nat → Nat → Int32) : Prop := a = nI n ∧ b = nI n ∧ n ≤ 8 ∧ ∀ c, c < n → cl1 R Q c
def csd (n k : Nat) (a b : Int32) (R Q : Nat → Nat → Int32) : Prop := a = nI (n + 1) ∧ b = nI (n + 1) ∧ n < 8 ∧ k ≤ 4 ∧ cln R Q n k ∧ ∀ c, c < n → cl1 R Q c
theorem cs_done {n k : Nat} {a b : Int32} {R Q : Nat → Nat → Int32} (h : csd n k a b R Q) : cs0 (n + 1) a b R Q := by
  obtain ⟨h1, h2, h3, h4, h5, h6⟩ := h
  refine ⟨h1, h2, h3, fun c hc => ?_⟩
  by_cases e : c = n
  · rw [e]; exact ⟨k, h4, h5⟩
  · exact h6 c (by omega)
def gq (L : Nat) (T S : MS) : Prop := (∃ P, lk L P T S) ∧ tk T S ∧ st T S ∧ (∃ q, q ≤ 15 ∧ T.1 24 = nI q) ∧ S.2.1 37 = -1
def jq (L n k : Nat) (T S : MS) : Prop := gq L T S ∧ csd n k (T.1 80) (S.1 29) T.2.2.1 S.2.2.1
def jq0 (L n : Nat) (T S : MS) : Prop := gq L T S ∧ cs0 n (T.1 80) (S.1 29) T.2.2.1 S.2.2.1
def flt (T S : MS) : Prop := ∃ W, W ≤ 400 ∧ T.1 25 = nI W ∧ S.2.1 37 = (nI W).toInt64
theorem st_flt {T S : MS} (h : st T S) : flt T (mwr S) := by
  obtain ⟨W, a, b, c⟩ := h
  refine ⟨W, a, b, ?_⟩
  show (S.1 38).toInt64 = _
  rw [c]
theorem lk_tr {L P : Nat} {T S : MS} (h : lk L P T S) : trI T 401 := ⟨L, P, h.2.2.1, h.2.2.2.2.1, h.1, h.2.1, by have := h.2.1; omega⟩
theorem nxG {L : Nat} {T S : MS} (h : ∃ P, lk L P T S) (h37 : S.2.1 37 = -1) : gq L (cnx T) (mf_go S) ∧ (cnx T).2 = T.2 ∧ (mf_go S).2 = S.2 ∧ (cnx T).1 80 = T.1 80 ∧ (mf_go S).1 29 = S.1 29 := by
  obtain ⟨P, h⟩ := h
  obtain ⟨P', -, a, b, c⟩ := nx_lk h
  obtain ⟨-, d, e, f⟩ := cnx_sp (lk_tr h)
  obtain ⟨g, i⟩ := gx_go S
  exact ⟨⟨⟨P', a⟩, b, c, f, by rw [g]; exact h37⟩, d, g, e 80 (by decide) (by decide) (by decide) (by decide), i 29 (by decide) (by decide) (by decide) (by decide)⟩
theorem te_keep {R Q R' Q' : Nat → Nat → Int32} {q : Nat} (h : te R Q q) (e1 : R' 83 q = R 83 q) (e2 : R' 84 q = R 84 q) (e3 : R' 85 q = R 85 q) (e4 : Q' 32 q = Q 32 q) (e5 : Q' 33 q = Q 33 q) (e6 : Q' 34 q = Q 34 q) : te R' Q' q := by
  unfold te
  rw [e1, e2, e3, e4, e5, e6]
  exact h
def RR (L n k : Nat) (X Y : Int32 × MS) : Prop := (X.1 = 0 ∧ Y.1 = 0 ∧ flt X.2 Y.2) ∨ (X.1 = 1 ∧ Y.1 = 1 ∧ jq L n k X.2 Y.2)
/-- what a test writes -/
def wrR (R : Nat → Nat → Int32) (A n : Nat) (v g x c : Int32) : Nat → Nat → Int32 := fun q => if q = 82 then upd (R 82) n c else if q = 85 then upd (R 85) A x else if q = 84 then upd (R 84) A g else if q = 83 then upd (R 83) A v else R q
def wrQ (Q : Nat → Nat → Int32) (A n : Nat) (v g x c : Int32) : Nat → Nat → Int32 := fun q => if q = 31 then upd (Q 31) n c else if q = 34 then upd (Q 34) A x else if q = 33 then upd (Q 33) A g else if q = 32 then upd (Q 32) A v else Q q
theorem cs_wr {n k f : Nat} {a b : Int32} {R Q : Nat → Nat → Int32} {g g' x : Int32} (h : csd n k a b R Q) (hk : k < 4) (hf : f < 5) (hg : sgn2 g g') : csd n (k + 1) a b (wrR R (4 * n + k) n (nI f) g x (nI (k + 1))) (wrQ Q (4 * n + k) n (nI f) g' x (nI (k + 1))) := by
  obtain ⟨h1, h2, h3, h4, h5, h6⟩ := h
  have key : ∀ q, q < 4 * n + k → te R Q q → te (wrR R (4 * n + k) n (nI f) g x (nI (k + 1))) (wrQ Q (4 * n + k) n (nI f) g' x (nI (k + 1))) q := fun q hq t => te_keep t (if_neg (by omega)) (if_neg (by omega)) (if_neg (by omega)) (if_neg (by omega)) (if_neg (by omega)) (if_neg (by omega))
  refine ⟨h1, h2, h3, by omega, ⟨h5.1, if_pos rfl, if_pos rfl, fun j hj => ?_⟩, fun c hc => ?_⟩
  · by_cases e : j = k
    · subst e
      refine ⟨⟨f, hf, if_pos rfl, if_pos rfl⟩, ?_, (if_pos rfl : upd (R 85) (4 * n + j) x (4 * n + j) = x).trans (if_pos rfl : upd (Q 34) (4 * n + j) x (4 * n + j) = x).symm⟩
      show sgn2 (upd (R 84) (4 * n + j) g (4 * n + j)) (upd (Q 33) (4 * n + j) g' (4 * n + j))
      rw [updA_at, updA_at]
      exact hg
    · exact key _ (by omega) (h5.2.2.2 j (by omega))
  · obtain ⟨k', hk', c1, c2, c3, c4⟩ := h6 c hc
    exact ⟨k', hk', c1, (if_neg (by omega) : upd (R 82) n (nI (k + 1)) c = R 82 c).trans c2, (if_neg (by omega) : upd (Q 31) n (nI (k + 1)) c = Q 31 c).trans c3, fun j hj => key _ (by omega) (c4 j hj)⟩
theorem cat_wr {n k : Nat} {b : Int32} {T : MS} {Q : Nat → Nat → Int32} (h : csd n k (T.1 80) b T.2.2.1 Q) (hk : k < 4) (v g x : Int32) : (catT T v g x).1 = T.1 ∧ (catT T v g x).2.2.1 = wrR T.2.2.1 (4 * n + k) n v g x (nI (k + 1)) := by
  obtain ⟨h1, h2, h3, h4, ⟨h5, h6, h7, h8⟩, -⟩ := h
  have e1 : T.1 80 - 1 = nI n := by rw [h1, nI_pred]
  have eA : (catA T).toNatClampNeg = 4 * n + k := by
    unfold catA
    rw [e1, nI_clamp (by omega), h6, show (4 : Int32) = nI 4 from by decide, nI_mul, nI_add, nI_clamp (by omega)]
    omega
  unfold catT
  rw [e1, if_neg (show ¬ nI n < 0 from by rw [Int32.lt_iff_toInt_lt, nI_toInt (by omega)]; show ¬ (n : Int) < 0; omega), nI_clamp (by omega), h6, if_pos (show nI k < 4 from by rw [show (4 : Int32) = nI 4 from by decide, nI_ltI (by omega) (by decide)]; exact hk)]
  unfold cat3
  rw [eA]
  refine ⟨rfl, ?_⟩
  funext q
  show (if q = 82 then upd ((sA (sA (sA T 83 (4 * n + k) v) 84 (4 * n + k) g) 85 (4 * n + k) x).2.2.1 82) n ((sA (sA (sA T 83 (4 * n + k) v) 84 (4 * n + k) g) 85 (4 * n + k) x).2.2.1 82 n + 1) else if q = 85 then upd ((sA (sA T 83 (4 * n + k) v) 84 (4 * n + k) g).2.2.1 85) (4 * n + k) x else if q = 84 then upd ((sA T 83 (4 * n + k) v).2.2.1 84) (4 * n + k) g else if q = 83 then upd (T.2.2.1 83) (4 * n + k) v else T.2.2.1 q) = _
  unfold wrR
  have e9 : (sA (sA (sA T 83 (4 * n + k) v) 84 (4 * n + k) g) 85 (4 * n + k) x).2.2.1 82 n + 1 = nI (k + 1) := by
    show T.2.2.1 82 n + 1 = _
    rw [h6, nI_1]
  rw [e9]
  rfl
theorem mt_wr {n k : Nat} {a : Int32} {S : MS} {R : Nat → Nat → Int32} (h : csd n k a (S.1 29) R S.2.2.1) (hk : k < 4) : (mtA S).toNatClampNeg = 4 * n + k := by
  obtain ⟨h1, h2, h3, h4, ⟨h5, h6, h7, h8⟩, -⟩ := h
  unfold mtA
  rw [h2, nI_pred, nI_clamp (by omega), h7, show (4 : Int32) = nI 4 from by decide, nI_mul, nI_add, nI_clamp (by omega)]
theorem sgn_tk {T S : MS} (h : tk T S) : (T.1 24 = 5 ∨ T.1 24 = 6 ∨ T.1 24 = 7) ↔ (S.1 40 = 60 ∨ S.1 40 = 61 ∨ S.1 40 = 62) := by
  obtain ⟨-, -, -, -, -, -, a, b, c, -⟩ := h
  rw [a, b, c]
theorem sgn_of {T S : MS} (h : tk T S) (hc : T.1 24 = 5 ∨ T.1 24 = 6 ∨ T.1 24 = 7) : sgn2 (T.1 24) (S.1 40) := by
  obtain ⟨-, -, -, -, -, -, a, b, c, -⟩ := h
  rcases hc with q | q | q
  · exact Or.inl ⟨q, a.mp q⟩
  · exact Or.inr (Or.inl ⟨q, b.mp q⟩)
  · exact Or.inr (Or.inr ⟨q, c.mp q⟩)
theorem t3_lk {L n k f : Nat} {T S : MS} {g g' : Int32} {R Q : Nat → Nat → Int32} (hk : k < 4) (hf : f < 5) (hg : sgn2 g g') (h : gq L T S) (hc : csd n k (T.1 80) (S.1 29) R Q) (eR : T.2.2.1 = R) (eQ : S.2.2.1 = (sA (sA (S.1, S.2.1, Q, S.2.2.2) 32 (4 * n + k) (nI f)) 33 (4 * n + k) g').2.2.1) : RR L n (k + 1) (crt3 (nI f) g T) (mtT3 (4 * n + k) S) := by
  obtain ⟨hl, ht, hs, hq, h37⟩ := h
  have t7 := ht.2.2.2.2.2.2.2.2.2.2
  have hct : csd n k (T.1 80) (S.1 29) T.2.2.1 Q := by rw [eR]; exact hc
  unfold crt3 mtT3
  by_cases h13 : T.1 24 = 13 ∧ T.1 26 ≤ 999999
  · have h7 := t7.1.mp h13
    have h41 : T.1 26 = S.1 41 := t7.2.1 h7
    rw [if_pos h13.1, if_pos h13.2, if_pos h7]
    obtain ⟨w1, w2⟩ := cat_wr hct hk (nI f) g (T.1 26)
    have e29 : (S.1 29 - 1).toNatClampNeg = n := by rw [hc.2.1, nI_pred, nI_clamp (by have := hc.2.2.1; omega)]
    have w3 : (mtN (4 * n + k) S).2.2.1 = wrQ Q (4 * n + k) n (nI f) g' (T.1 26) (nI (k + 1)) := by
      unfold mtN
      rw [e29]
      have e9 : (sA S 34 (4 * n + k) (S.1 41)).2.2.1 31 n + 1 = nI (k + 1) := by
        show S.2.2.1 31 n + 1 = _
        rw [eQ]
        show Q 31 n + 1 = _
        rw [hc.2.2.2.2.1.2.2.1, nI_1]
      rw [e9, ← h41]
      funext q
      show (if q = 31 then upd ((sA S 34 (4 * n + k) (T.1 26)).2.2.1 31) n (nI (k + 1)) else if q = 34 then upd (S.2.2.1 34) (4 * n + k) (T.1 26) else S.2.2.1 q) = _
      have e31 : (sA S 34 (4 * n + k) (T.1 26)).2.2.1 31 = Q 31 := by
        show S.2.2.1 31 = Q 31
        rw [eQ]
        rfl
      have e34 : S.2.2.1 34 = Q 34 := by
        rw [eQ]
        rfl
      rw [e31, e34, eQ]
      rfl
    have hlk : ∃ P, lk L P (catT T (nI f) g (T.1 26)) (mtN (4 * n + k) S) := by
      obtain ⟨P, p1, p2, p3, p4, p5, p6, p7⟩ := hl
      refine ⟨P, p1, p2, by rw [w1]; exact p3, p4, by rw [w1]; exact p5, p6, fun j hj => ?_⟩
      rw [w2]
      exact p7 j hj
    obtain ⟨x1, x2, x3, x4, x5⟩ := nxG hlk (show (mtN (4 * n + k) S).2.1 37 = -1 from h37)
    generalize cnx (catT T (nI f) g (T.1 26)) = X at x1 x2 x4
    generalize mf_go (mtN (4 * n + k) S) = Y at x1 x3 x5
    refine Or.inr ⟨rfl, rfl, x1, ?_⟩
    show csd n (k + 1) (X.1 80) (Y.1 29) X.2.2.1 Y.2.2.1
    rw [x2, x3, x4, x5, w1, w2, w3]
    exact cs_wr hct hk hf hg
  · rw [if_neg (fun q => h13 (t7.1.mpr q))]
    have hF : RR L n (k + 1) (0, T) (0, mwr S) := Or.inl ⟨rfl, rfl, st_flt hs⟩
    by_cases h1 : T.1 24 = 13
    · rw [if_pos h1, if_neg (fun q => h13 ⟨h1, q⟩)]
      exact hF
    · rw [if_neg h1]
      exact hF
theorem t2_lk {L n k f : Nat} {T S : MS} {R Q : Nat → Nat → Int32} (hk : k < 4) (hf : f < 5) (h : gq L T S) (hc : csd n k (T.1 80) (S.1 29) R Q) (eR : T.2.2.1 = R) (eQ : S.2.2.1 = (sA (S.1, S.2.1, Q, S.2.2.2) 32 (4 * n + k) (nI f)).2.2.1) : RR L n (k + 1) (crt2 (nI f) T) (mtT2 (4 * n + k) S) := by
  obtain ⟨hl, ht, hs, hq, h37⟩ := h
  unfold crt2 mtT2
  by_cases hg : T.1 24 = 5 ∨ T.1 24 = 6 ∨ T.1 24 = 7
  · rw [if_pos hg, if_pos ((sgn_tk ht).mp hg)]
    have hlk : ∃ P, lk L P T (sA S 33 (4 * n + k) (S.1 40)) := hl
    obtain ⟨x1, x2, x3, x4, x5⟩ := nxG hlk (show (sA S 33 (4 * n + k) (S.1 40)).2.1 37 = -1 from h37)
    have hsg := sgn_of ht hg
    generalize T.1 24 = g at hsg
    generalize S.1 40 = g' at *
    generalize cnx T = X at *
    generalize mf_go (sA S 33 (4 * n + k) g') = Y at *
    refine t3_lk hk hf hsg x1 (R := R) (Q := Q) ?_ (by rw [x2]; exact eR) ?_
    · rw [x4, x5]; exact hc
    · rw [x3]
      funext q
      show (if q = 33 then upd (S.2.2.1 33) (4 * n + k) g' else S.2.2.1 q) = _
      rw [eQ]
      rfl
  · rw [if_neg hg, if_neg (fun q => hg ((sgn_tk ht).mpr q))]
    exact Or.inl ⟨rfl, rfl, st_flt hs⟩
theorem t_lk {L n k : Nat} {T S : MS} (hk : k < 4) (h : jq L n k T S) : RR L n (k + 1) (crt T) (mf_test S) := by
  obtain ⟨⟨hl, ht, hs, ⟨q9, hq9, eq9⟩, h37⟩, hc⟩ := h
  obtain ⟨t5, t6⟩ : (T.1 24 < 5 ↔ S.1 40 = 6) ∧ (T.1 24 < 5 → T.1 24 = S.1 41) := ⟨ht.2.2.2.2.1, ht.2.2.2.2.2.1⟩
  have hA := mt_wr hc hk
  unfold crt mf_test
  rw [hA]
  by_cases h5 : T.1 24 < 5
  · rw [if_pos h5, if_pos (t5.mp h5), ← t6 h5]
    have hf : q9 < 5 := by
      rw [eq9, show (5 : Int32) = nI 5 from by decide, nI_ltI (by omega) (by decide)] at h5
      exact h5
    rw [eq9]
    have hlk : ∃ P, lk L P T (sA S 32 (4 * n + k) (nI q9)) := hl
    obtain ⟨x1, x2, x3, x4, x5⟩ := nxG hlk (show (sA S 32 (4 * n + k) (nI q9)).2.1 37 = -1 from h37)
    generalize cnx T = X at *
    generalize mf_go (sA S 32 (4 * n + k) (nI q9)) = Y at *
    refine t2_lk hk hf x1 (R := T.2.2.1) (Q := S.2.2.1) ?_ (by rw [x2]) ?_
    · rw [x4, x5]; exact hc
    · rw [x3]
      rfl
  · rw [if_neg h5, if_neg (fun q => h5 (t5.mpr q))]
    exact Or.inl ⟨rfl, rfl, st_flt hs⟩
/-- a clause: the class looks at its end, the reference later -/
def RC (L n : Nat) (X Y : Int32 × MS) : Prop := (X.1 = 0 ∧ Y.1 = 0 ∧ flt X.2 Y.2) ∨ (X.1 = cend X.2 ∧ Y.1 = 1 ∧ jq0 L (n + 1) X.2 Y.2)
theorem jq_0 {L n k : Nat} {T S : MS} (h : jq L n k T S) : jq0 L (n + 1) T S := ⟨h.1, cs_done h.2⟩
theorem jq_nx {L n k : Nat} {T S : MS} (h : jq L n k T S) : jq L n k (cnx T) (mf_go S) := by
  obtain ⟨x1, x2, x3, x4, x5⟩ := nxG h.1.1 h.1.2.2.2.2
  refine ⟨x1, ?_⟩
  rw [x2, x3, x4, x5]
  exact h.2
theorem cL_lk {L n : Nat} : ∀ (m k : Nat) {T S : MS}, jq L n k T S → k + (m + 1) = 4 → RC L n (crcL (m + 1) T) (mcL (m + 1) (mf_test (mf_go S)))
  | m, k, T, S, h, hm => by
    have hr := t_lk (by omega) (jq_nx h)
    unfold crcL mcL
    generalize crt (cnx T) = X at hr
    generalize mf_test (mf_go S) = Y at hr
    rcases hr with ⟨a, b, c⟩ | ⟨a, b, c⟩
    · rw [if_pos a, if_pos b]
      exact Or.inl ⟨rfl, rfl, c⟩
    · rw [if_neg (show ¬ X.1 = 0 from by rw [a]; decide), if_neg (show ¬ Y.1 = 0 from by rw [b]; decide)]
      have t11 := c.1.2.1.2.2.2.1
      by_cases h11 : X.2.1 24 = 11
      · rw [if_pos h11, if_pos (t11.mp h11)]
        obtain ⟨-, c2, c3, c4, ⟨-, -, c7, -⟩, -⟩ := c.2
        have e31 : Y.2.2.2.1 31 (Y.2.1 29 - 1).toNatClampNeg = nI (k + 1) := by
          rw [c2, nI_pred, nI_clamp (by omega), c7]
        rw [e31]
        match m, hm with
        | 0, hm =>
          rw [if_pos (by rw [show k + 1 = 4 by omega]; decide)]
          exact Or.inl ⟨rfl, rfl, st_flt c.1.2.2.1⟩
        | m + 1, hm =>
          rw [if_neg (show ¬ nI (k + 1) = 4 from by rw [show (4 : Int32) = nI 4 from by decide, nI_eq (by omega) (by decide)]; omega)]
          exact cL_lk m (k + 1) c (by omega)
      · rw [if_neg h11, if_neg (fun q => h11 (t11.mpr q))]
        exact Or.inr ⟨rfl, rfl, jq_0 c⟩
  termination_by m => m
theorem cA_lk {L n : Nat} {T S : MS} (h : jq L n 0 T S) : RC L n (crcA T) (mcB S) := by
  unfold crcA mcB
  have t10 := h.1.2.1.2.2.1
  by_cases h10 : T.1 24 = 10
  · rw [if_pos h10, if_pos (t10.mp h10)]
    exact cL_lk 3 0 h rfl
  · rw [if_neg h10, if_neg (fun q => h10 (t10.mpr q))]
    exact Or.inr ⟨rfl, rfl, jq_0 h⟩
theorem c1_lk {L n : Nat} {T S : MS} (v : Int32) (hn : n < 8) (h : jq0 L n T S) : jq L n 0 (cnx (cac T v)) (mf_go (mc1 S v)) := by
  obtain ⟨⟨hl, ht, hs, hq, h37⟩, h1, h2, h3, h4⟩ := h
  have e1 : cac T v = sI (sA (sA T 81 n (vp_nar .boolean v)) 82 n 0) 80 (nI (n + 1)) := by
    unfold cac
    rw [h1, if_pos (show nI n < 8 from by rw [show (8 : Int32) = nI 8 from by decide, nI_ltI (by omega) (by decide)]; exact hn), nI_clamp (by omega), nI_1]
  have e2 : mc1 S v = sI (sA (sA S 30 n (vp_nar .boolean v)) 31 n 0) 29 (nI (n + 1)) := by
    unfold mc1
    rw [h2, nI_clamp (by omega), nI_1]
  have hlk : ∃ P, lk L P (cac T v) (mc1 S v) := by rw [e1, e2]; exact hl
  have h37' : (mc1 S v).2.1 37 = -1 := by rw [e2]; exact h37
  obtain ⟨x1, x2, x3, x4, x5⟩ := nxG hlk h37'
  refine ⟨x1, ?_⟩
  rw [x2, x3, x4, x5, e1, e2]
  generalize vp_nar .boolean v = v9
  have key : ∀ q, te T.2.2.1 S.2.2.1 q → te (sI (sA (sA T 81 n v9) 82 n 0) 80 (nI (n + 1))).2.2.1 (sI (sA (sA S 30 n v9) 31 n 0) 29 (nI (n + 1))).2.2.1 q := fun q t => t
  refine ⟨rfl, rfl, hn, by decide, ⟨?_, ?_, ?_, fun j hj => absurd hj (Nat.not_lt_zero j)⟩, fun c hc => ?_⟩
  · show upd (T.2.2.1 81) n v9 n = upd (S.2.2.1 30) n v9 n
    rw [updA_at, updA_at]
  · show upd (T.2.2.1 82) n 0 n = nI 0
    rw [updA_at]
    decide
  · show upd (S.2.2.1 31) n 0 n = nI 0
    rw [updA_at]
    decide
  · obtain ⟨k', hk', c1, c2, c3, c4⟩ := h4 c hc
    exact ⟨k', hk', ((if_neg (by omega) : upd (T.2.2.1 81) n v9 c = T.2.2.1 81 c).trans c1).trans (if_neg (by omega) : upd (S.2.2.1 30) n v9 c = S.2.2.1 30 c).symm, (if_neg (by omega) : upd (T.2.2.1 82) n 0 c = T.2.2.1 82 c).trans c2, (if_neg (by omega) : upd (S.2.2.1 31) n 0 c = S.2.2.1 31 c).trans c3, fun j hj => key _ (c4 j hj)⟩
theorem cl_lk {L n : Nat} {T S : MS} (hn : n < 8) (h : jq0 L n T S) : RC L n (crc T) (mf_clause S) := by
  have a1 := cA_lk (c1_lk 1 hn h)
  have a0 := cA_lk (c1_lk 0 hn h)
  obtain ⟨t8, t9, -⟩ := h.1.2.1
  unfold crc mf_clause
  generalize crcA (cnx (cac T 1)) = X1 at a1
  generalize mcB (mf_go (mc1 S 1)) = Y1 at a1
  generalize crcA (cnx (cac T 0)) = X0 at a0
  generalize mcB (mf_go (mc1 S 0)) = Y0 at a0
  by_cases h8 : T.1 24 = 8
  · rw [if_pos h8, if_pos (t8.mp h8)]; exact a1
  · rw [if_neg h8, if_neg (fun q => h8 (t8.mpr q))]
    by_cases h9 : T.1 24 = 9
    · rw [if_pos h9, if_pos (t9.mp h9)]; exact a0
    · rw [if_neg h9, if_neg (fun q => h9 (t9.mpr q))]
      exact Or.inl ⟨rfl, rfl, st_flt h.1.2.2.1⟩
def RT (L : Nat) (X Y : Int32 × MS) : Prop := (X.1 = 0 ∧ Y.1 = 0 ∧ flt X.2 Y.2) ∨ (X.1 = 1 ∧ Y.1 = 1 ∧ ∃ n, jq0 L n X.2 Y.2)
theorem jq0_nx {L n : Nat} {T S : MS} (h : jq0 L n T S) : jq0 L n (cnx T) (mf_go S) := by
  obtain ⟨x1, x2, x3, x4, x5⟩ := nxG h.1.1 h.1.2.2.2.2
  refine ⟨x1, ?_⟩
  rw [x2, x3, x4, x5]
  exact h.2
theorem xL_lk {L : Nat} : ∀ (m c : Nat) {T S : MS}, jq0 L c T S → c + (m + 1) = 8 → RT L (crxL (m + 1) T) (mxL (m + 2) (mf_clause S))
  | m, c, T, S, h, hm => by
    have hr := cl_lk (by omega) h
    unfold crxL mxL
    generalize crc T = X at hr
    generalize mf_clause S = Y at hr
    rcases hr with ⟨a, b, d⟩ | ⟨a, b, d⟩
    · rw [if_pos a, if_pos b]
      exact Or.inl ⟨rfl, rfl, d⟩
    · rw [if_neg (show ¬ Y.1 = 0 from by rw [b]; decide)]
      have t12 := d.1.2.1.2.2.2.2.2.2.2.2.2.1
      have t14 := d.1.2.1.2.2.2.2.2.2.2.2.2.2.2.2
      have hF : RT L (0, X.2) (0, mwr Y.2) := Or.inl ⟨rfl, rfl, st_flt d.1.2.2.1⟩
      by_cases h12 : X.2.1 24 = 12
      · have ec : cend X.2 = 1 := by unfold cend; rw [if_pos h12]
        rw [if_neg (show ¬ X.1 = 0 from by rw [a, ec]; decide), if_neg (show ¬ X.2.1 24 = 14 from by rw [h12]; decide), if_pos (t12.mp h12), d.2.2.1]
        match m, hm with
        | 0, hm =>
          rw [if_pos rfl, if_pos (show nI (c + 1) = 8 from by rw [show c + 1 = 8 by omega]; decide)]
          exact hF
        | m + 1, hm =>
          rw [if_neg (by omega), if_neg (show ¬ nI (c + 1) = 8 from by rw [show (8 : Int32) = nI 8 from by decide, nI_eq (by omega) (by decide)]; omega)]
          exact xL_lk m (c + 1) (jq0_nx d) (by omega)
      · rw [if_neg (fun q => h12 (t12.mpr q))]
        by_cases h14 : X.2.1 24 = 14
        · have ec : cend X.2 = 1 := by unfold cend; rw [if_neg h12, if_pos h14]
          rw [if_neg (show ¬ X.1 = 0 from by rw [a, ec]; decide), if_pos h14, if_pos (t14.mp h14)]
          exact Or.inr ⟨rfl, rfl, c + 1, d⟩
        · have ec : cend X.2 = 0 := by unfold cend; rw [if_neg h12, if_neg h14]
          rw [if_pos (show X.1 = 0 from by rw [a, ec]), if_neg (fun q => h14 (t14.mpr q))]
          exact hF
  termination_by m => m
theorem x_lk {L : Nat} {T S : MS} (h : jq0 L 0 T S) : RT L (crxA T) (mf_text S) := by
  unfold crxA mf_text
  have t14 := h.1.2.1.2.2.2.2.2.2.2.2.2.2.2.2
  by_cases h14 : T.1 24 = 14
  · rw [if_pos h14, if_pos (t14.mp h14)]
    exact Or.inr ⟨rfl, rfl, 0, h⟩
  · rw [if_neg h14, if_neg (fun q => h14 (t14.mpr q))]
    exact xL_lk 7 0 h rfl
/-- text alike -/
def txR (T S : MS) : Prop := ∃ L, L ≤ 400 ∧ T.1 20 = nI L ∧ S.1 36 = nI L ∧ ∀ k, k < L → T.2.2.1 22 k = S.2.2.1 35 k ∧ 0 ≤ (T.2.2.1 22 k).toInt
theorem rd_lk {T S : MS} (h : txR T S) : ∃ L, L ≤ 400 ∧ RT L (crx T) (rdT S) := by
  obtain ⟨L, h1, h2, h3, h4⟩ := h
  have hlk : ∃ P, lk L P (crS T) (rdS S) := ⟨0, Nat.zero_le L, h1, h2, h3, rfl, rfl, h4⟩
  obtain ⟨x1, x2, x3, x4, x5⟩ := nxG hlk (show (rdS S).2.1 37 = -1 from rfl)
  refine ⟨L, h1, ?_⟩
  unfold crx rdT
  refine x_lk ⟨x1, ?_⟩
  rw [x2, x3, x4, x5]
  exact ⟨rfl, rfl, by decide, fun c hc => absurd hc (Nat.not_lt_zero c)⟩
/-! feed -/
theorem by_eq (e : Int64) : ∀ i, i < 8 → cbyte e i = ((e >>> ((8 * nI i).toInt64 &&& 63)) &&& 255).toInt32 := by
  have key : ∀ (s : Nat), s < 64 → s % 8 = 0 → ((e.toBitVec >>> s).setWidth 32 &&& 255#32) = ((e.toBitVec.sshiftRight s) &&& 255#64).setWidth 32 := by
    intro s hs h8
    apply BitVec.eq_of_getLsbD_eq
    intro j hj
    rw [BitVec.getLsbD_and, BitVec.getLsbD_setWidth, BitVec.getLsbD_ushiftRight, BitVec.getLsbD_setWidth, BitVec.getLsbD_and, BitVec.getLsbD_sshiftRight]
    by_cases h : j < 8
    · have a1 : (255#32).getLsbD j = true := by
        rcases (show j = 0 ∨ j = 1 ∨ j = 2 ∨ j = 3 ∨ j = 4 ∨ j = 5 ∨ j = 6 ∨ j = 7 by omega) with rfl | rfl | rfl | rfl | rfl | rfl | rfl | rfl <;> decide
      have a2 : (255#64).getLsbD j = true := by
        rcases (show j = 0 ∨ j = 1 ∨ j = 2 ∨ j = 3 ∨ j = 4 ∨ j = 5 ∨ j = 6 ∨ j = 7 by omega) with rfl | rfl | rfl | rfl | rfl | rfl | rfl | rfl <;> decide
      rw [a1, a2, if_pos (by omega)]
      simp [hj, show j < 64 by omega]
    · have a1 : (255#32).getLsbD j = false := by
        rw [BitVec.getLsbD_ofNat, show (255 : Nat) = 2 ^ 8 - 1 from rfl, Nat.testBit_two_pow_sub_one]
        simp [h]
      have a2 : (255#64).getLsbD j = false := by
        rw [BitVec.getLsbD_ofNat, show (255 : Nat) = 2 ^ 8 - 1 from rfl, Nat.testBit_two_pow_sub_one]
        simp [h]
      rw [a1, a2]
      simp
  have go : ∀ (i s : Nat) (u : UInt64) (v : Int64), (8 * nI i).toInt64.toUInt64 &&& Int64.toUInt64 63 = u → (8 * nI i).toInt64 &&& 63 = v → (u.toBitVec % 64).toNat = s → (v.toBitVec.smod 64).toNat = s → s < 64 → s % 8 = 0 → cbyte e i = ((e >>> ((8 * nI i).toInt64 &&& 63)) &&& 255).toInt32 := by
    intro i s u v e1 e2 e3 e4 hs h8
    unfold cbyte
    rw [e1, e2]
    apply Int32.toBitVec_inj.mp
    rw [Int32.toBitVec_and, Int64.toBitVec_toInt32, Int64.toBitVec_toInt32, Int64.toBitVec_and, Int64.toBitVec_shiftRight, UInt64.toBitVec_toInt64, UInt64.toBitVec_shiftRight, Int64.toBitVec_toUInt64, BitVec.signExtend_eq_setWidth_of_le _ (by decide), BitVec.signExtend_eq_setWidth_of_le _ (by decide), BitVec.ushiftRight_eq', BitVec.sshiftRight_eq', e3, e4]
    exact key s hs h8
  intro i hi
  rcases (show i = 0 ∨ i = 1 ∨ i = 2 ∨ i = 3 ∨ i = 4 ∨ i = 5 ∨ i = 6 ∨ i = 7 by omega) with rfl | rfl | rfl | rfl | rfl | rfl | rfl | rfl
  · exact go 0 0 0 0 (by decide) (by decide) (by decide) (by decide) (by decide) rfl
  · exact go 1 8 8 8 (by decide) (by decide) (by decide) (by decide) (by decide) rfl
  · exact go 2 16 16 16 (by decide) (by decide) (by decide) (by decide) (by decide) rfl
  · exact go 3 24 24 24 (by decide) (by decide) (by decide) (by decide) (by decide) rfl
  · exact go 4 32 32 32 (by decide) (by decide) (by decide) (by decide) (by decide) rfl
  · exact go 5 40 40 40 (by decide) (by decide) (by decide) (by decide) (by decide) rfl
  · exact go 6 48 48 48 (by decide) (by decide) (by decide) (by decide) (by decide) rfl
  · exact go 7 56 56 56 (by decide) (by decide) (by decide) (by decide) (by decide) rfl
theorem by_0 (e : Int64) (i : Nat) : 0 ≤ (cbyte e i).toInt := by
  have h : (cbyte e i).toBitVec.msb = false := by
    unfold cbyte
    rw [Int32.toBitVec_and, BitVec.msb_and]
    rw [show (Int32.toBitVec 255).msb = false from by decide, Bool.and_false]
  show 0 ≤ (cbyte e i).toBitVec.toInt
  rw [BitVec.toInt_eq_msb_cond, h]
  exact Int.natCast_nonneg _
theorem tx_k {T S U V : MS} (h : txR T S) (h1 : U.1 20 = T.1 20) (h2 : U.2.2.1 22 = T.2.2.1 22) (h3 : V.1 36 = S.1 36) (h4 : V.2.2.1 35 = S.2.2.1 35) : txR U V := by
  obtain ⟨L, a, b, c, d⟩ := h
  refine ⟨L, a, h1.trans b, h3.trans c, ?_⟩
  rw [h2, h4]
  exact d
theorem tx_e {T S : MS} (h1 : T.1 20 = 0) (h2 : S.1 36 = 0) : txR T S := ⟨0, by decide, h1.trans (by decide), h2.trans (by decide), fun k hk => absurd hk (Nat.not_lt_zero k)⟩
theorem tx_f {T S : MS} (e : Int64) {L : Nat} (h2 : T.1 20 = nI L) (h3 : S.1 36 = nI L) (h4 : ∀ k, k < L → T.2.2.1 22 k = S.2.2.1 35 k ∧ 0 ≤ (T.2.2.1 22 k).toInt) : ∀ n, n ≤ 8 → L + n ≤ 400 → (apF T e n).1 20 = nI (L + n) ∧ (fdF S e n).1 36 = nI (L + n) ∧ ∀ k, k < L + n → (apF T e n).2.2.1 22 k = (fdF S e n).2.2.1 35 k ∧ 0 ≤ ((apF T e n).2.2.1 22 k).toInt
  | 0, _, _ => ⟨h2, h3, h4⟩
  | n + 1, hn, hl => by
    obtain ⟨a, b, c⟩ := tx_f e h2 h3 h4 n (by omega) (by omega)
    show (apS (apF T e n) e n).1 20 = _ ∧ (sI (sA (fdF S e n) 35 ((fdF S e n).1 36).toNatClampNeg ((e >>> ((8 * nI n).toInt64 &&& 63)) &&& 255).toInt32) 36 ((sA (fdF S e n) 35 ((fdF S e n).1 36).toNatClampNeg ((e >>> ((8 * nI n).toInt64 &&& 63)) &&& 255).toInt32).1 36 + 1)).1 36 = _ ∧ ∀ k, k < L + n + 1 → (apS (apF T e n) e n).2.2.1 22 k = (sI (sA (fdF S e n) 35 ((fdF S e n).1 36).toNatClampNeg ((e >>> ((8 * nI n).toInt64 &&& 63)) &&& 255).toInt32) 36 ((sA (fdF S e n) 35 ((fdF S e n).1 36).toNatClampNeg ((e >>> ((8 * nI n).toInt64 &&& 63)) &&& 255).toInt32).1 36 + 1)).2.2.1 35 k ∧ 0 ≤ ((apS (apF T e n) e n).2.2.1 22 k).toInt
    rw [← by_eq e n (by omega)]
    generalize apF T e n = U at *
    generalize fdF S e n = V at *
    have h0 := by_0 e n
    unfold apS
    generalize cbyte e n = z at *
    rw [a, b, nI_clamp (by omega)]
    refine ⟨?_, ?_, fun k hk => ?_⟩
    · show nI (L + n) + 1 = _
      rw [nI_1]
      rfl
    · show V.1 36 + 1 = _
      rw [b, nI_1]
      rfl
    · show upd (U.2.2.1 22) (L + n) z k = upd (V.2.2.1 35) (L + n) z k ∧ 0 ≤ (upd (U.2.2.1 22) (L + n) z k).toInt
      by_cases ek : k = L + n
      · rw [ek, updA_at, updA_at]
        exact ⟨rfl, h0⟩
      · rw [updA_ne _ _ ek, updA_ne _ _ ek]
        exact c k (by omega)
theorem tx_feed {T S : MS} (h : txR T S) (e : Int64) (n : Int32) : txR (cf_feed T e n).2 (mf_feed S e n).2 := by
  obtain ⟨L, a, b, c, d⟩ := h
  unfold cf_feed mf_feed
  rw [b, c]
  by_cases h1 : 1 ≤ n ∧ n ≤ 8
  · rw [if_pos h1, if_pos h1]
    have hn := inR h1
    rw [show (1 : Int32).toInt = 1 from by decide, show (8 : Int32).toInt = 8 from by decide] at hn
    have hc := clamp_I (x := n) (by omega)
    by_cases h2 : nI L + n ≤ 400
    · rw [if_pos h2, if_pos h2]
      have h2' := h2
      rw [Int32.le_iff_toInt_le, I_add (by rw [nI_toInt (by omega)]; omega) (by rw [nI_toInt (by omega)]; omega), nI_toInt (by omega), show (400 : Int32).toInt = 400 from by decide] at h2'
      exact ⟨L + n.toNatClampNeg, by omega, tx_f e b c d _ (by omega) (by omega)⟩
    · rw [if_neg h2, if_neg h2]
      exact ⟨L, a, b, c, d⟩
  · rw [if_neg h1, if_neg h1]
    exact ⟨L, a, b, c, d⟩
