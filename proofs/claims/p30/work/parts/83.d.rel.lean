/-! read, of the class: what it leaves -/
theorem fcr_j {T : MS} {B : List BL} (hC : cinv T B) {X : Int32 × MS} (eX : X = crx T) : fx jI9 sN jA9 s0 T X.2 ∧ crJ X.2 := by
  rw [eX]
  exact ⟨fc_crx hC.2.2.2.1 hC.2.2.2.2.2.1, (crx_J hC.2.2.2.1 hC.2.2.2.2.2.1).1⟩
theorem fcr_b {T : MS} {B : List BL} (hC : cinv T B) {X : Int32 × MS} (eX : X = crx T) : fx kI9 sN kA9 s0 T (cf_fd (cf_endT X.2 0) 6).2 := fx_fd (fc_endT 0 (fx_jk (fcr_j hC eX).1)) rfl
theorem fcr_ci {T : MS} {B : List BL} (hC : cinv T B) {X : Int32 × MS} (eX : X = crx T) (g : Int32) : cinv (cf_endT X.2 g) B ∧ cinv (swT (cf_endT X.2 g)) B := ci_readX g hC (fcr_j hC eX).2 (fcr_j hC eX).1
theorem fcr_gI {T : MS} {B : List BL} (hC : cinv T B) {X : Int32 × MS} (eX : X = crx T) {j : Nat} (hj : j < 200) (h : ¬ kI9 j) : (swT (cf_endT X.2 1)).1 j = T.1 j := (swT_I _ hj (fun q => h (by omega)) (fun q => h (by omega))).trans ((fc_endT 1 (fx_jk (fcr_j hC eX).1)).1 j h)
theorem fcr_gA {T : MS} {B : List BL} (hC : cinv T B) {X : Int32 × MS} (eX : X = crx T) {j : Nat} (hj : j < 200) (h : ¬ kA9 j) : (swT (cf_endT X.2 1)).2.2.1 j = T.2.2.1 j := (swT_A _ hj (fun q => h (by omega)) (fun q => h (by omega))).trans ((fc_endT 1 (fx_jk (fcr_j hC eX).1)).2.2.1 j h)
abbrev Rel (T : MS) (B : List BL) (S : MS) : Prop := ∀ x t : Nat, x < 10 → t < 5 → T.2.2.1 (120 + t) x = S.2.2.1 18 (5 * x + t) ∧ 0 ≤ (T.2.2.1 (120 + t) x).toInt
/-! the middle vote -/
def rI (f : Nat → Int32) (i : Nat) : Int := (f i).toInt
/-- v is put in its place among the first n of r -/
theorem ins_sp : ∀ (n : Nat) (T : MS) (v : Int32), ∃ p, p ≤ n ∧ (∀ i, i < p → (insR n T v).2.2.1 62 i = T.2.2.1 62 i) ∧ (insR n T v).2.2.1 62 p = v ∧ (∀ i, p ≤ i → i < n → (insR n T v).2.2.1 62 (i + 1) = T.2.2.1 62 i ∧ v.toInt < rI (T.2.2.1 62) i) ∧ (∀ i, i + 1 = p → rI (T.2.2.1 62) i ≤ v.toInt) ∧ (∀ i, n < i → (insR n T v).2.2.1 62 i = T.2.2.1 62 i)
  | 0, T, v => ⟨0, Nat.le_refl 0, fun i hi => absurd hi (Nat.not_lt_zero i), by show (sA T 62 0 v).2.2.1 62 0 = v; rw [sA_at, updA_at], fun i _ hi => absurd hi (Nat.not_lt_zero i), fun i hi => absurd hi (Nat.succ_ne_zero i), fun i hi => by show (sA T 62 0 v).2.2.1 62 i = _; rw [sA_at, updA_ne _ _ (by omega)]⟩
  | n + 1, T, v => by
    by_cases hc : T.2.2.1 62 n ≤ v
    · have e : insR (n + 1) T v = sA T 62 (n + 1) v := if_pos hc
      rw [e]
      refine ⟨n + 1, Nat.le_refl _, fun i hi => ?_, ?_, fun i h1 h2 => absurd h1 (by omega), fun i hi => ?_, fun i hi => ?_⟩
      · rw [sA_at, updA_ne _ _ (by omega)]
      · rw [sA_at, updA_at]
      · have : i = n := by omega
        subst this
        rw [Int32.le_iff_toInt_le] at hc
        exact hc
      · rw [sA_at, updA_ne _ _ (by omega)]
    · have e : insR (n + 1) T v = insR n (sA T 62 (n + 1) (T.2.2.1 62 n)) v := if_neg hc
      rw [e]
      obtain ⟨p, h1, h2, h3, h4, h5, h6⟩ := ins_sp n (sA T 62 (n + 1) (T.2.2.1 62 n)) v
      have hr : ∀ i, i ≤ n → (sA T 62 (n + 1) (T.2.2.1 62 n)).2.2.1 62 i = T.2.2.1 62 i := fun i hi => by rw [sA_at, updA_ne _ _ (by omega)]
      refine ⟨p, by omega, fun i hi => ?_, h3, fun i hi1 hi2 => ?_, fun i hi => ?_, fun i hi => ?_⟩
      · rw [h2 i hi, hr i (by omega)]
      · by_cases en : i = n
        · subst en
          rw [h6 (i + 1) (by omega), sA_at, updA_at]
          rw [Int32.not_le, Int32.lt_iff_toInt_lt] at hc
          exact ⟨rfl, hc⟩
        · obtain ⟨k1, k2⟩ := h4 i hi1 (by omega)
          rw [k1, hr i (by omega)]
          unfold rI at k2 ⊢
          rw [hr i (by omega)] at k2
          exact ⟨rfl, k2⟩
      · have := h5 i hi
        unfold rI at this ⊢
        rw [hr i (by omega)] at this
        exact this
      · rw [h6 i (by omega), sA_at, updA_ne _ _ (by omega)]
/-- how many of the first n hold q -/
def cnt (q : Int → Prop) [DecidablePred q] (r : Nat → Int) (n : Nat) : Int := isum (fun i => if q (r i) then 1 else 0) n
def srt (r : Nat → Int) (n : Nat) : Prop := ∀ i j, i ≤ j → j < n → r i ≤ r j
theorem ins_cnt {r r' : Nat → Int} {v : Int} {n p : Nat} (hp : p ≤ n) (h1 : ∀ i, i < p → r' i = r i) (h2 : r' p = v) (h3 : ∀ i, p ≤ i → i < n → r' (i + 1) = r i) (q : Int → Prop) [DecidablePred q] : cnt q r' (n + 1) = cnt q r n + (if q v then 1 else 0) := by
  unfold cnt
  have e1 := isum_split (fun i => if q (r' i) then (1 : Int) else 0) p (n + 1 - p)
  have e2 := isum_split (fun i => if q (r i) then (1 : Int) else 0) p (n - p)
  have e3 := isum_split (fun k => if q (r' (p + k)) then (1 : Int) else 0) 1 (n - p)
  rw [show p + (n + 1 - p) = n + 1 by omega] at e1
  rw [show p + (n - p) = n by omega] at e2
  rw [show 1 + (n - p) = n + 1 - p by omega] at e3
  have e4 : isum (fun i => if q (r' i) then (1 : Int) else 0) p = isum (fun i => if q (r i) then (1 : Int) else 0) p := isum_congr p (fun i hi => by rw [h1 i hi])
  have e5 : isum (fun k => if q (r' (p + (1 + k))) then (1 : Int) else 0) (n - p) = isum (fun k => if q (r (p + k)) then (1 : Int) else 0) (n - p) := isum_congr (n - p) (fun k hk => by rw [show p + (1 + k) = p + k + 1 by omega, h3 (p + k) (by omega) (by omega)])
  have e6 : isum (fun k => if q (r' (p + k)) then (1 : Int) else 0) 1 = (if q v then 1 else 0) := by
    show 0 + (if q (r' (p + 0)) then (1 : Int) else 0) = _
    rw [Nat.add_zero, h2, Int.zero_add]
  rw [e1, e3, e4, e5, e6, e2]
  omega
theorem ins_srt {r r' : Nat → Int} {v : Int} {n p : Nat} (hp : p ≤ n) (hs : srt r n) (h1 : ∀ i, i < p → r' i = r i) (h2 : r' p = v) (h3 : ∀ i, p ≤ i → i < n → r' (i + 1) = r i ∧ v < r i) (h4 : ∀ i, i + 1 = p → r i ≤ v) : srt r' (n + 1) := by
  intro i j hij hj
  have hlow : ∀ i, i < p → r i ≤ v := fun i hi => by
    have k1 := h4 (p - 1) (by omega)
    have k2 := hs i (p - 1) (by omega) (by omega)
    omega
  by_cases a1 : j < p
  · rw [h1 i (by omega), h1 j a1]; exact hs i j hij (by omega)
  · by_cases a2 : j = p
    · subst a2
      by_cases b1 : i < j
      · rw [h1 i b1, h2]; exact hlow i b1
      · rw [show i = j by omega]; exact Int.le_refl _
    · obtain ⟨k1, k2⟩ := h3 (j - 1) (by omega) (by omega)
      rw [show j - 1 + 1 = j by omega] at k1
      rw [k1]
      by_cases b1 : i < p
      · rw [h1 i b1]; exact hs i (j - 1) (by omega) (by omega)
      · by_cases b2 : i = p
        · rw [b2, h2]; omega
        · obtain ⟨m1, m2⟩ := h3 (i - 1) (by omega) (by omega)
          rw [show i - 1 + 1 = i by omega] at m1
          rw [m1]
          exact hs (i - 1) (j - 1) (by omega) (by omega)
/-- behind i houses: the sorted row, and how its counts go -/
theorem mv_sp (T : MS) (t : Int32) (ht : vp_in t 5) : ∀ n, n ≤ 10 → (mvR T t n).1 ≤ n ∧ srt (rI ((mvR T t n).2.2.2.1 62)) (mvR T t n).1 ∧ (mvR T t n).2.2.2.1 (120 + t.toNatClampNeg) = T.2.2.1 (120 + t.toNatClampNeg) ∧ ((mvR T t n).1 : Int) = isum (fun i => if (T.2.2.1 (120 + t.toNatClampNeg) i).toInt = 0 then 0 else 1) n ∧ ∀ (q : Int → Prop) [DecidablePred q], cnt q (rI ((mvR T t n).2.2.2.1 62)) (mvR T t n).1 = isum (fun i => if (T.2.2.1 (120 + t.toNatClampNeg) i).toInt = 0 then 0 else if q (T.2.2.1 (120 + t.toNatClampNeg) i).toInt then 1 else 0) n
  | 0, _ => ⟨Nat.le_refl 0, fun i j _ hj => absurd hj (Nat.not_lt_zero j), rfl, rfl, fun q _ => rfl⟩
  | n + 1, hn => by
    obtain ⟨h1, h2, h3, h4, h5⟩ := mv_sp T t ht n (by omega)
    have ht' := vcl ht
    have hz : ∀ x : Int32, x = 0 ↔ x.toInt = 0 := fun x => ⟨fun e => by rw [e]; decide, fun e => Int32.toInt_inj.mp (e.trans (by decide))⟩
    by_cases hc : (mvR T t n).2.2.2.1 (120 + t.toNatClampNeg) n = 0
    · have e : mvR T t (n + 1) = mvR T t n := if_pos hc
      rw [e]
      have hc' : (T.2.2.1 (120 + t.toNatClampNeg) n).toInt = 0 := (hz _).mp (by rw [← h3]; exact hc)
      refine ⟨by omega, h2, h3, ?_, fun q _ => ?_⟩
      · show ((mvR T t n).1 : Int) = isum _ n + (if (T.2.2.1 (120 + t.toNatClampNeg) n).toInt = 0 then 0 else 1)
        rw [if_pos hc', h4]
        omega
      · show _ = isum _ n + (if (T.2.2.1 (120 + t.toNatClampNeg) n).toInt = 0 then 0 else _)
        rw [if_pos hc', h5 q]
        omega
    · have e : mvR T t (n + 1) = ((mvR T t n).1 + 1, insR (mvR T t n).1 (mvR T t n).2 ((mvR T t n).2.2.2.1 (120 + t.toNatClampNeg) n)) := if_neg hc
      have hc' : ¬ (T.2.2.1 (120 + t.toNatClampNeg) n).toInt = 0 := fun z => hc (by rw [h3]; exact (hz _).mpr z)
      rw [h3] at e
      obtain ⟨p, k1, k2, k3, k4, k5, k6⟩ := ins_sp (mvR T t n).1 (mvR T t n).2 (T.2.2.1 (120 + t.toNatClampNeg) n)
      have kf := fc_insR (mvR T t n).1 (mvR T t n).2 (mvR T t n).2 (T.2.2.1 (120 + t.toNatClampNeg) n) (fx_rfl _)
      rw [e]
      generalize mvR T t n = Y at h1 h2 h3 h4 h5 k1 k2 k3 k4 k5 k6 kf
      generalize hV : insR Y.1 Y.2 (T.2.2.1 (120 + t.toNatClampNeg) n) = V at k2 k3 k4 k6 kf
      have r1 : ∀ i, i < p → rI (V.2.2.1 62) i = rI (Y.2.2.2.1 62) i := fun i hi => by unfold rI; rw [k2 i hi]
      have r2 : rI (V.2.2.1 62) p = (T.2.2.1 (120 + t.toNatClampNeg) n).toInt := by unfold rI; rw [k3]
      have r3 : ∀ i, p ≤ i → i < Y.1 → rI (V.2.2.1 62) (i + 1) = rI (Y.2.2.2.1 62) i ∧ (T.2.2.1 (120 + t.toNatClampNeg) n).toInt < rI (Y.2.2.2.1 62) i := fun i a b => ⟨by unfold rI; rw [(k4 i a b).1], (k4 i a b).2⟩
      refine ⟨by show Y.1 + 1 ≤ n + 1; omega, ins_srt k1 h2 r1 r2 r3 k5, ?_, ?_, fun q _ => ?_⟩
      · show V.2.2.1 (120 + t.toNatClampNeg) = _
        rw [kf.2.2.1 (120 + t.toNatClampNeg) (fun h9 => by omega), h3]
      · show ((Y.1 + 1 : Nat) : Int) = isum _ n + (if (T.2.2.1 (120 + t.toNatClampNeg) n).toInt = 0 then 0 else 1)
        rw [if_neg hc', ← h4]
        omega
      · show cnt q (rI (V.2.2.1 62)) (Y.1 + 1) = isum _ n + (if (T.2.2.1 (120 + t.toNatClampNeg) n).toInt = 0 then 0 else if q (T.2.2.1 (120 + t.toNatClampNeg) n).toInt then 1 else 0)
        rw [if_neg hc', ins_cnt k1 r1 r2 (fun i a b => (r3 i a b).1) q, h5 q]
theorem isum1_le {P : Nat → Prop} [DecidablePred P] (n : Nat) : 0 ≤ isum (fun k => if P k then (1 : Int) else 0) n ∧ isum (fun k => if P k then (1 : Int) else 0) n ≤ n := by
  induction n with
  | zero => exact ⟨Int.le_refl 0, Int.le_refl 0⟩
  | succ n ih =>
    have e : isum (fun k => if P k then (1 : Int) else 0) (n + 1) = isum (fun k => if P k then (1 : Int) else 0) n + (if P n then 1 else 0) := rfl
    rw [e]
    split <;> omega
/-- the j-th of those that hold P -/
theorem sel_ex {P : Nat → Prop} [DecidablePred P] : ∀ (n : Nat) (j : Int), 0 ≤ j → j < isum (fun k => if P k then (1 : Int) else 0) n → ∃ h, h < n ∧ P h ∧ isum (fun k => if P k then (1 : Int) else 0) h = j
  | 0, j, h0, hj => absurd hj (by show ¬ j < 0; omega)
  | n + 1, j, h0, hj => by
    by_cases h : j < isum (fun k => if P k then (1 : Int) else 0) n
    · obtain ⟨q, a, b, c⟩ := sel_ex n j h0 h
      exact ⟨q, by omega, b, c⟩
    · have e : isum (fun k => if P k then (1 : Int) else 0) (n + 1) = isum (fun k => if P k then (1 : Int) else 0) n + (if P n then 1 else 0) := rfl
      rw [e] at hj
      by_cases hp : P n
      · rw [if_pos hp] at hj
        exact ⟨n, by omega, hp, by omega⟩
      · rw [if_neg hp] at hj
        exact absurd hj (by omega)
theorem isum_cut {f : Nat → Int} {h n : Nat} (hh : h ≤ n) : isum (fun k => if k < h then f k else 0) n = isum f h := by
  have e := isum_split (fun k => if k < h then f k else 0) h (n - h)
  rw [show h + (n - h) = n by omega] at e
  rw [e, isum_congr (g := f) h (fun i hi => if_pos hi), isum_zero (n - h) (fun i _ => if_neg (by omega))]
  omega
section MED
variable {w : Nat → Int} {s : Nat → Int} {n : Nat}
/-- counts over the votes -/
abbrev cL (w : Nat → Int) (v : Int) : Int := isum (fun k => if w k = 0 then 0 else if w k < v then 1 else 0) 10
abbrev cE (w : Nat → Int) (v : Int) : Int := isum (fun k => if w k = 0 then 0 else if w k ≤ v then 1 else 0) 10
abbrev cB (w : Nat → Int) (h : Nat) : Int := isum (fun k => if w k = 0 then 0 else if w k < w h ∨ (w k = w h ∧ k < h) then 1 else 0) 10
theorem srt_lo (hs : srt s n) {r : Nat} (hr : r < n) : cnt (fun x => x < s r) s n ≤ r := by
  unfold cnt
  have e := isum_split (fun i => if s i < s r then (1 : Int) else 0) r (n - r)
  rw [show r + (n - r) = n by omega] at e
  rw [e, isum_zero (n - r) (fun i hi => if_neg (by have := hs r (r + i) (by omega) (by omega); omega))]
  have := (isum1_le (P := fun i => s i < s r) r).2
  omega
theorem srt_hi (hs : srt s n) {r : Nat} (hr : r < n) : (r : Int) < cnt (fun x => x ≤ s r) s n := by
  unfold cnt
  have e := isum_split (fun i => if s i ≤ s r then (1 : Int) else 0) (r + 1) (n - (r + 1))
  rw [show r + 1 + (n - (r + 1)) = n by omega] at e
  have e1 : isum (fun i => if s i ≤ s r then (1 : Int) else 0) (r + 1) = isum (fun _ => 1) (r + 1) := isum_congr (r + 1) (fun i hi => if_pos (hs i r (by omega) hr))
  have e2 : ∀ m, isum (fun _ => 1) m = (m : Int) := by
    intro m
    induction m with
    | zero => rfl
    | succ m ih =>
      show isum (fun _ => 1) m + 1 = _
      rw [ih]
      omega
  have e3 := (isum1_le (P := fun i => s (r + 1 + i) ≤ s r) (n - (r + 1))).1
  rw [e, e1, e2]
  omega
theorem med_uni {v v' r : Int} (h1 : cL w v ≤ r) (h2 : r < cE w v) (h3 : cL w v' ≤ r) (h4 : r < cE w v') : v = v' := by
  apply Classical.byContradiction
  intro hne
  have mono : ∀ a b : Int, a < b → cE w a ≤ cL w b := fun a b hab => isum_le 10 (fun k _ => by
    show (if w k = 0 then 0 else if w k ≤ a then (1 : Int) else 0) ≤ (if w k = 0 then 0 else if w k < b then 1 else 0)
    split
    · omega
    · split
      · rw [if_pos (by omega)]; omega
      · split <;> omega)
  rcases Int.lt_or_lt_of_ne hne with h | h
  · have := mono v v' h; omega
  · have := mono v' v h; omega
theorem cB_b {h : Nat} (hh : h < 10) (hw : w h ≠ 0) : cL w (w h) ≤ cB w h ∧ cB w h + 1 ≤ cE w (w h) := by
  constructor
  · refine isum_le 10 (fun k _ => ?_)
    show (if w k = 0 then 0 else if w k < w h then (1 : Int) else 0) ≤ (if w k = 0 then 0 else if w k < w h ∨ (w k = w h ∧ k < h) then 1 else 0)
    split
    · omega
    · split
      · rw [if_pos (Or.inl (by omega))]; omega
      · split <;> omega
  · have hd : isum (fun k => (if w k = 0 then 0 else if w k ≤ w h then (1 : Int) else 0) - (if w k = 0 then 0 else if w k < w h ∨ (w k = w h ∧ k < h) then 1 else 0)) 10 = cE w (w h) - cB w h := isum_sub _ _ 10
    have ht := isum_term (f := fun k => (if w k = 0 then 0 else if w k ≤ w h then (1 : Int) else 0) - (if w k = 0 then 0 else if w k < w h ∨ (w k = w h ∧ k < h) then 1 else 0)) hh (fun k _ => by
      show 0 ≤ (if w k = 0 then 0 else if w k ≤ w h then (1 : Int) else 0) - (if w k = 0 then 0 else if w k < w h ∨ (w k = w h ∧ k < h) then 1 else 0)
      split
      · omega
      · split
        · split <;> omega
        · rw [if_neg (by omega)]; omega)
    simp only [if_neg hw, if_pos (Int.le_refl (w h)), if_neg (show ¬ (w h < w h ∨ (w h = w h ∧ h < h)) by omega)] at ht
    omega
theorem cB_ex {v r : Int} (h1 : cL w v ≤ r) (h2 : r < cE w v) : ∃ h, h < 10 ∧ w h ≠ 0 ∧ w h = v ∧ cB w h = r := by
  have he : cE w v = cL w v + isum (fun k => if w k ≠ 0 ∧ w k = v then (1 : Int) else 0) 10 := by
    unfold cE cL
    rw [← isum_add]
    refine isum_congr 10 (fun k _ => ?_)
    by_cases a : w k = 0
    · rw [if_pos a, if_pos a, if_neg (fun q => q.1 a)]; rfl
    · rw [if_neg a, if_neg a]
      by_cases b : w k < v
      · rw [if_pos b, if_pos (by omega), if_neg (by omega)]; rfl
      · by_cases c : w k = v
        · rw [if_neg b, if_pos (by omega), if_pos ⟨a, c⟩]; rfl
        · rw [if_neg b, if_neg (by omega), if_neg (fun q => c q.2)]; rfl
  obtain ⟨h, a1, a2, a3⟩ := sel_ex (P := fun k => w k ≠ 0 ∧ w k = v) 10 (r - cL w v) (by omega) (by omega)
  refine ⟨h, a1, a2.1, a2.2, ?_⟩
  have e : cB w h = cL w v + isum (fun k => if k < h then (if w k ≠ 0 ∧ w k = v then (1 : Int) else 0) else 0) 10 := by
    unfold cB cL
    rw [← isum_add, a2.2]
    refine isum_congr 10 (fun k _ => ?_)
    by_cases a : w k = 0
    · rw [if_pos a, if_pos a]
      split
      · rw [if_neg (fun q => q.1 a)]; rfl
      · rfl
    · rw [if_neg a, if_neg a]
      by_cases b : w k < v
      · rw [if_pos (Or.inl b), if_pos b]
        split
        · rw [if_neg (by omega)]; rfl
        · rfl
      · rw [if_neg b]
        by_cases c : w k = v ∧ k < h
        · rw [if_pos (Or.inr c), if_pos c.2, if_pos ⟨a, c.1⟩]; rfl
        · rw [if_neg (by omega)]
          split
          · rw [if_neg (fun q => c ⟨q.2, by assumption⟩)]; rfl
          · rfl
  rw [e, isum_cut (by omega), a3]
  omega
end MED
theorem ix5n {k tt : Nat} (hk : k < 10) (ht : tt < 5) : (5 * nI k + nI tt).toNatClampNeg = 5 * k + tt := by
  rw [show (5 : Int32) = nI 5 from by decide, nI_mul, nI_add, nI_clamp (by omega)]
/-- votes of both sides for a town -/
def vR (T S : MS) (tt : Nat) : Prop := ∀ k, k < 10 → T.2.2.1 (120 + tt) k = S.2.2.1 18 (5 * k + tt) ∧ 0 ≤ (T.2.2.1 (120 + tt) k).toInt
theorem mny_I {T S : MS} {tt : Nat} (ht : tt < 5) (h : vR T S tt) : ∀ n, n ≤ 10 → (mnyT S (nI tt) n).toInt = isum (fun i => if (T.2.2.1 (120 + tt) i).toInt = 0 then 0 else 1) n
  | 0, _ => by show (0 : Int32).toInt = 0; decide
  | n + 1, hn => by
    have ih := mny_I ht h n (by omega)
    obtain ⟨e, h0⟩ := h n (by omega)
    have hb := isum_le (f := fun i => if (T.2.2.1 (120 + tt) i).toInt = 0 then (0 : Int) else 1) (g := fun _ => 1) n (fun i _ => by split <;> decide)
    have hb0 := isum_nn (f := fun i => if (T.2.2.1 (120 + tt) i).toInt = 0 then (0 : Int) else 1) n (fun i _ => by split <;> decide)
    have e2 : ∀ m, isum (fun _ => 1) m = (m : Int) := by
      intro m
      induction m with
      | zero => rfl
      | succ m ih =>
        show isum (fun _ => 1) m + 1 = _
        rw [ih]
        omega
    rw [e2] at hb
    show (mnyT S (nI tt) n + (if S.2.2.1 18 (5 * nI n + nI tt).toNatClampNeg ≤ 0 then 0 else 1)).toInt = isum _ n + (if (T.2.2.1 (120 + tt) n).toInt = 0 then 0 else 1)
    rw [ix5n (by omega) ht, ← e]
    by_cases hz : (T.2.2.1 (120 + tt) n).toInt = 0
    · rw [if_pos hz, if_pos (by rw [Int32.le_iff_toInt_le, hz]; decide), I_add (by rw [ih, show (0 : Int32).toInt = 0 from by decide]; omega) (by rw [ih, show (0 : Int32).toInt = 0 from by decide]; omega), ih]
      rfl
    · rw [if_neg hz, if_neg (by rw [Int32.le_iff_toInt_le, show (0 : Int32).toInt = 0 from by decide]; omega), I_add (by rw [ih, show (1 : Int32).toInt = 1 from by decide]; omega) (by rw [ih, show (1 : Int32).toInt = 1 from by decide]; omega), ih]
      rfl
theorem blw_I {T S : MS} {tt h : Nat} (ht : tt < 5) (hv : vR T S tt) (hh : h < 10) : ∀ n, n ≤ 10 → (blw S (nI tt) h n).toInt = isum (fun k => if (T.2.2.1 (120 + tt) k).toInt = 0 then 0 else if (T.2.2.1 (120 + tt) k).toInt < (T.2.2.1 (120 + tt) h).toInt ∨ ((T.2.2.1 (120 + tt) k).toInt = (T.2.2.1 (120 + tt) h).toInt ∧ k < h) then 1 else 0) n ∧ 0 ≤ (blw S (nI tt) h n).toInt ∧ (blw S (nI tt) h n).toInt ≤ n
  | 0, _ => by
    show (0 : Int32).toInt = 0 ∧ 0 ≤ (0 : Int32).toInt ∧ (0 : Int32).toInt ≤ 0
    decide
  | n + 1, hn => by
    obtain ⟨ih, i1, i2⟩ := blw_I ht hv hh n (by omega)
    obtain ⟨e, h0⟩ := hv n (by omega)
    obtain ⟨eh, hh0⟩ := hv h hh
    have z0 : (0 : Int32).toInt = 0 := by decide
    have z1 : (1 : Int32).toInt = 1 := by decide
    have ec : (blwC S (nI tt) h n).toInt = (if (T.2.2.1 (120 + tt) n).toInt = 0 then 0 else if (T.2.2.1 (120 + tt) n).toInt < (T.2.2.1 (120 + tt) h).toInt ∨ ((T.2.2.1 (120 + tt) n).toInt = (T.2.2.1 (120 + tt) h).toInt ∧ n < h) then 1 else 0) ∧ 0 ≤ (blwC S (nI tt) h n).toInt ∧ (blwC S (nI tt) h n).toInt ≤ 1 := by
      unfold blwC
      rw [ix5n (k := n) (by omega) ht, ix5n hh ht, ← e, ← eh]
      generalize T.2.2.1 (120 + tt) n = a at *
      generalize T.2.2.1 (120 + tt) h = b at *
      by_cases c1 : a.toInt = 0
      · rw [if_pos (by rw [Int32.le_iff_toInt_le, c1, z0]; omega), if_pos c1, z0]
        omega
      · rw [if_neg (by rw [Int32.le_iff_toInt_le, z0]; omega), if_neg c1]
        by_cases c2 : a.toInt < b.toInt
        · rw [if_pos (by rw [Int32.lt_iff_toInt_lt]; exact c2), if_pos (Or.inl c2), z1]
          omega
        · rw [if_neg (by rw [Int32.lt_iff_toInt_lt]; exact c2)]
          by_cases c3 : a = b
          · rw [if_pos c3]
            by_cases c4 : n < h
            · rw [if_neg (by rw [nI_leI (by omega) (by omega)]; omega), if_pos (Or.inr ⟨by rw [c3], c4⟩), z1]
              omega
            · rw [if_pos (by rw [nI_leI (by omega) (by omega)]; omega), if_neg (by omega), z0]
              omega
          · rw [if_neg c3, if_neg (fun q => by rcases q with q | q; exact c2 q; exact c3 (Int32.toInt_inj.mp q.1)), z0]
            omega
    have es : (blw S (nI tt) h (n + 1)).toInt = (blw S (nI tt) h n).toInt + (blwC S (nI tt) h n).toInt := I_add (by omega) (by omega)
    refine ⟨?_, by rw [es]; omega, by rw [es]; omega⟩
    rw [es, ih, ec.1]
    rfl
theorem rt_sp (S : MS) (t : Int32) : ∀ n i, (∃ h, i ≤ h ∧ h < i + n ∧ rtHit S t h ∧ rtR S t n i = ((S.2.2.1 18 (5 * nI h + t).toNatClampNeg).toInt64, S)) ∨ ((∀ h, i ≤ h → h < i + n → ¬ rtHit S t h) ∧ rtR S t n i = mf_finding S (-1000000000002))
  | 0, i => Or.inr ⟨fun h a b => absurd a (by omega), rfl⟩
  | n + 1, i => by
    by_cases hc : rtHit S t i
    · exact Or.inl ⟨i, Nat.le_refl i, by omega, hc, if_pos hc⟩
    · have e : rtR S t (n + 1) i = rtR S t n (i + 1) := if_neg hc
      rcases rt_sp S t n (i + 1) with ⟨h, a, b, c, d⟩ | ⟨a, b⟩
      · exact Or.inl ⟨h, by omega, by omega, c, e.trans d⟩
      · refine Or.inr ⟨fun h x y => ?_, e.trans b⟩
        by_cases q : h = i
        · rw [q]; exact hc
        · exact a h (by omega) (by omega)
theorem rate_eq {T S : MS} (hv : ∀ tt, tt < 5 → vR T S tt) (t : Int32) : (cf_rate T t).1 = (mf_rate S t).1 := by
  by_cases hc : 0 ≤ t ∧ t ≤ 4
  · obtain ⟨tt, ht, rfl⟩ := vp_in_of (vin (n := 5) hc (by decide)) (by decide)
    have h := hv tt ht
    obtain ⟨m1, m2, m3, m4, m5⟩ := mv_sp T (nI tt) (vp_in_nI ht (by decide)) 10 (Nat.le_refl 10)
    rw [nI_clamp (by omega)] at m3 m4 m5
    have hN := mny_I ht h 10 (Nat.le_refl 10)
    have hit : ∀ q, q < 10 → (rtHit S (nI tt) q ↔ (T.2.2.1 (120 + tt) q).toInt ≠ 0 ∧ cB (fun k => (T.2.2.1 (120 + tt) k).toInt) q = (((mvR T (nI tt) 10).1 - 1) / 2 : Nat)) := by
      intro q hq
      obtain ⟨e, h0⟩ := h q hq
      obtain ⟨b1, b2, b3⟩ := blw_I ht h hq 10 (Nat.le_refl 10)
      have z0 : (0 : Int32).toInt = 0 := by decide
      unfold rtHit
      rw [ix5n hq ht, ← e, Int32.le_iff_toInt_le, z0]
      have hpos : (T.2.2.1 (120 + tt) q).toInt ≠ 0 → 1 ≤ (mvR T (nI tt) 10).1 := fun hz => by
        have ht9 := isum_term (f := fun i => if (T.2.2.1 (120 + tt) i).toInt = 0 then (0 : Int) else 1) hq (fun i _ => by split <;> decide)
        simp only [if_neg hz] at ht9
        omega
      have hdiv : 1 ≤ (mvR T (nI tt) 10).1 → ((mnyT S (nI tt) 10 - 1) / 2).toInt = (((mvR T (nI tt) 10).1 - 1) / 2 : Nat) := fun hp => by
        have z1 : (1 : Int32).toInt = 1 := by decide
        have e1 : (mnyT S (nI tt) 10 - 1).toInt = ((mvR T (nI tt) 10).1 : Int) - 1 := by rw [I_sub (by rw [hN, ← m4, z1]; omega) (by rw [hN, ← m4, z1]; omega), hN, ← m4, z1]
        rw [Int32.toInt_div, e1, show (2 : Int32).toInt = 2 from by decide, Int.tdiv_eq_ediv_of_nonneg (by omega), Int.bmod_eq_of_le (by omega) (by omega)]
        omega
      constructor
      · rintro ⟨a1, a2⟩
        have hz : (T.2.2.1 (120 + tt) q).toInt ≠ 0 := by omega
        refine ⟨hz, ?_⟩
        rw [← hdiv (hpos hz), ← a2]
        exact b1.symm
      · rintro ⟨a1, a2⟩
        refine ⟨by omega, Int32.toInt_inj.mp ?_⟩
        rw [hdiv (hpos a1), ← a2]
        exact b1
    unfold cf_rate mf_rate
    rw [if_pos hc, if_pos hc]
    by_cases hn : (mvR T (nI tt) 10).1 = 0
    · have em : cf_mid T (nI tt) = 0 := by unfold cf_mid; rw [if_pos hn]
      rw [if_pos em]
      rcases rt_sp S (nI tt) 10 0 with ⟨q, a, b, c, d⟩ | ⟨a, b⟩
      · exfalso
        have hz := ((hit q (by omega)).mp c).1
        have ht9 := isum_term (f := fun i => if (T.2.2.1 (120 + tt) i).toInt = 0 then (0 : Int) else 1) (i := q) (n := 10) (by omega) (fun i _ => by split <;> decide)
        simp only [if_neg hz] at ht9
        omega
      · rw [b]
        show (-1000000000000 : Int64) - (2 : Int32).toInt64 = -1000000000002
        decide
    · have hr : ((mvR T (nI tt) 10).1 - 1) / 2 < (mvR T (nI tt) 10).1 := by omega
      have em : cf_mid T (nI tt) = (mvR T (nI tt) 10).2.2.2.1 62 (((mvR T (nI tt) 10).1 - 1) / 2) := by unfold cf_mid; rw [if_neg hn]
      generalize mvR T (nI tt) 10 = Y at m1 m2 m3 m4 m5 hit hn hr em
      have lo := srt_lo m2 hr
      have hi := srt_hi m2 hr
      rw [m5 (fun x => x < rI (Y.2.2.2.1 62) ((Y.1 - 1) / 2))] at lo
      rw [m5 (fun x => x ≤ rI (Y.2.2.2.1 62) ((Y.1 - 1) / 2))] at hi
      have emi : (cf_mid T (nI tt)).toInt = rI (Y.2.2.2.1 62) ((Y.1 - 1) / 2) := by rw [em]; rfl
      rcases rt_sp S (nI tt) 10 0 with ⟨q, a, b, c, d⟩ | ⟨a, b⟩
      · obtain ⟨c1, c2⟩ := (hit q (by omega)).mp c
        obtain ⟨g1, g2⟩ := cB_b (w := fun k => (T.2.2.1 (120 + tt) k).toInt) (h := q) (by omega) c1
        have hu := med_uni (w := fun k => (T.2.2.1 (120 + tt) k).toInt) (r := (((Y.1 - 1) / 2 : Nat) : Int)) (v := (T.2.2.1 (120 + tt) q).toInt) (v' := rI (Y.2.2.2.1 62) ((Y.1 - 1) / 2)) (by rw [← c2]; exact g1) (by rw [← c2]; omega) lo hi
        have ev : cf_mid T (nI tt) = T.2.2.1 (120 + tt) q := Int32.toInt_inj.mp (by rw [emi, hu])
        rw [d, if_neg (fun z => c1 (by rw [← ev, z]; decide)), ix5n (by omega) ht, ev, (h q (by omega)).1]
      · exfalso
        obtain ⟨q, q1, q2, q3, q4⟩ := cB_ex (w := fun k => (T.2.2.1 (120 + tt) k).toInt) lo hi
        exact a q (Nat.zero_le q) (by omega) ((hit q q1).mpr ⟨q2, q4⟩)
  · unfold cf_rate mf_rate
    rw [if_neg hc, if_neg hc]
    show (-1000000000000 : Int64) - (1 : Int32).toInt64 = -1000000000001
    decide
theorem ix5 {x t : Int32} {N : Nat} (hN : N ≤ 10) (hx : vp_in x N) (ht : vp_in t 5) : (5 * x + t).toNatClampNeg = 5 * x.toNatClampNeg + t.toNatClampNeg := by
  obtain ⟨i, hi, rfl⟩ := vp_in_of hx (by omega)
  obtain ⟨j, hj, rfl⟩ := vp_in_of ht (by decide)
  rw [show (5 : Int32) = nI 5 from by decide, nI_mul, nI_add, nI_clamp (by omega), nI_clamp (by omega), nI_clamp (by omega)]

theorem rl_days {T : MS} {B : List BL} {S : MS} (hC : cinv T B) (n : Int32)  (h : Rel T B S) : Rel (cf_days T n).2 B (mf_days S n).2 := by
  intro x9 t9 hx9 ht9
  rw [((fc_days T n).2.2.1 (120 + t9) (by intro h9; first | exact h9 | omega)), ((fm_days S n).2.2.1 18 (by decide))]
  exact h x9 t9 hx9 ht9
theorem rl_gain {T : MS} {B : List BL} {S : MS} (hC : cinv T B) (v : Int32)  (h : Rel T B S) : Rel (cf_gain T v).2 B (mf_gain S v).2 := by
  intro x9 t9 hx9 ht9
  rw [((fc_gain T v).2.2.1 (120 + t9) (by intro h9; first | exact h9 | omega)), ((fm_gain S v).2.2.1 18 (by decide))]
  exact h x9 t9 hx9 ht9
theorem rl_road {T : MS} {B : List BL} {S : MS} (hC : cinv T B) (t v : Int32)  (h : Rel T B S) : Rel (cf_road T t v).2 B (mf_road S t v).2 := by
  intro x9 t9 hx9 ht9
  rw [((fc_road T t v).2.2.1 (120 + t9) (by intro h9; first | exact h9 | omega)), ((fm_road S t v).2.2.1 18 (by decide))]
  exact h x9 t9 hx9 ht9
theorem rl_seat {T : MS} {B : List BL} {S : MS} (hC : cinv T B) (x t : Int32)  (h : Rel T B S) : Rel (cf_seat T x t).2 B (mf_seat S x t).2 := by
  intro x9 t9 hx9 ht9
  rw [((fc_seat T x t).2.2.1 (120 + t9) (by intro h9; first | exact h9 | omega)), ((fm_seat S x t).2.2.1 18 (by decide))]
  exact h x9 t9 hx9 ht9
theorem rl_binds {T : MS} {B : List BL} {S : MS} (hC : cinv T B) (la am hp kd rd : Int32)  (h : Rel T B S) : Rel (cf_binds T la am hp kd rd).2 B (mf_binds S la am hp kd rd).2 := by
  intro x9 t9 hx9 ht9
  rw [((fc_binds T la am hp kd rd).2.2.1 (120 + t9) (by intro h9; first | exact h9 | omega)), ((fm_binds S la am hp kd rd).2.2.1 18 (by decide))]
  exact h x9 t9 hx9 ht9
theorem rl_owe {T : MS} {B : List BL} {S : MS} (hC : cinv T B) (x q v : Int32)  (h : Rel T B S) : Rel (cf_owe T x q v).2 B (mf_owe S x q v).2 := by
  intro x9 t9 hx9 ht9
  rw [((fc_owe T x q v).2.2.1 (120 + t9) (by intro h9; first | exact h9 | omega)), ((fm_owe S x q v).2.2.1 18 (by decide))]
  exact h x9 t9 hx9 ht9
theorem rl_owes {T : MS} {B : List BL} {S : MS} (hC : cinv T B) (x q : Int32)  (h : Rel T B S) : Rel (cf_owes T x q).2 B (mf_owes S x q).2 := by
  intro x9 t9 hx9 ht9
  rw [((fc_owes T x q).2.2.1 (120 + t9) (by intro h9; first | exact h9 | omega)), ((fm_owes S x q).2.2.1 18 (by decide))]
  exact h x9 t9 hx9 ht9
theorem rl_net {T : MS} {B : List BL} {S : MS} (hC : cinv T B) (x : Int32)  (h : Rel T B S) : Rel (cf_net T x).2 B (mf_net S x).2 := by
  intro x9 t9 hx9 ht9
  rw [((fc_net T x).2.2.1 (120 + t9) (by intro h9; first | exact h9 | omega)), ((fm_net S x).2.2.1 18 (by decide))]
  exact h x9 t9 hx9 ht9
theorem rl_coin {T : MS} {B : List BL} {S : MS} (hC : cinv T B) (k w f : Int32)  (h : Rel T B S) : Rel (cf_coin T k w f).2 B (mf_coin S k w f).2 := by
  intro x9 t9 hx9 ht9
  rw [((fc_coin T k w f).2.2.1 (120 + t9) (by intro h9; first | exact h9 | omega)), ((fm_coin S k w f).2.2.1 18 (by decide))]
  exact h x9 t9 hx9 ht9
theorem rl_purse {T : MS} {B : List BL} {S : MS} (hC : cinv T B) (x k v : Int32)  (h : Rel T B S) : Rel (cf_purse T x k v).2 B (mf_purse S x k v).2 := by
  intro x9 t9 hx9 ht9
  rw [((fc_purse T x k v).2.2.1 (120 + t9) (by intro h9; first | exact h9 | omega)), ((fm_purse S x k v).2.2.1 18 (by decide))]
  exact h x9 t9 hx9 ht9
theorem rl_has {T : MS} {B : List BL} {S : MS} (hC : cinv T B) (x k : Int32)  (h : Rel T B S) : Rel (cf_has T x k).2 B (mf_has S x k).2 := by
  intro x9 t9 hx9 ht9
  rw [((fc_has T x k).2.2.1 (120 + t9) (by intro h9; first | exact h9 | omega)), ((fm_has S x k).2.2.1 18 (by decide))]
  exact h x9 t9 hx9 ht9
theorem rl_settle {T : MS} {B : List BL} {S : MS} (hC : cinv T B) (x q : Int32)  (h : Rel T B S) : Rel (cf_settle T x q).2 B (mf_settle S x q).2 := by
  intro x9 t9 hx9 ht9
  rw [((fc_settle T x q).2.2.1 (120 + t9) (by intro h9; first | exact h9 | omega)), ((fm_settle S x q).2.2.1 18 (by decide))]
  exact h x9 t9 hx9 ht9
theorem rl_vote {T : MS} {B : List BL} {S : MS} (hC : cinv T B) (x t v : Int32)  (h : Rel T B S) : Rel (cf_vote T x t v).2 B (mf_vote S x t v).2 := by
  unfold cf_vote mf_vote
  split
  · next hc =>
    have hx : vp_in x 10 := vin hc.1 (by decide)
    have ht : vp_in t 5 := vin hc.2.1 (by decide)
    have hx' := vcl hx
    have ht' := vcl ht
    have hv0 : 0 ≤ v.toInt := by
      by_cases e : v = 0
      · rw [e]; decide
      · have := inR (hc.2.2 e)
        rw [show (5000 : Int32).toInt = 5000 from by decide] at this
        omega
    intro x9 t9 hx9 ht9
    show (sA T (120 + t.toNatClampNeg) x.toNatClampNeg v).2.2.1 (120 + t9) x9 = (sA S 18 (5 * x + t).toNatClampNeg v).2.2.1 18 (5 * x9 + t9) ∧ 0 ≤ ((sA T (120 + t.toNatClampNeg) x.toNatClampNeg v).2.2.1 (120 + t9) x9).toInt
    rw [sA_at, ix5 (by decide) hx ht]
    by_cases e1 : t9 = t.toNatClampNeg
    · rw [e1, sA_at]
      by_cases e2 : x9 = x.toNatClampNeg
      · rw [e2, updA_at, updA_at]
        exact ⟨rfl, hv0⟩
      · rw [updA_ne _ _ e2, updA_ne _ _ (by omega)]
        exact h x9 _ hx9 (by omega)
    · rw [sA_ne _ _ _ (by omega), updA_ne _ _ (by omega)]
      exact h x9 t9 hx9 ht9
  · exact h
theorem rl_rate {T : MS} {B : List BL} {S : MS} (hC : cinv T B) (t : Int32)  (h : Rel T B S) : Rel (cf_rate T t).2 B (mf_rate S t).2 := by
  intro x9 t9 hx9 ht9
  rw [((fc_rate T t).2.2.1 (120 + t9) (by intro h9; first | exact h9 | omega)), ((fm_rate S t).2.2.1 18 (by decide))]
  exact h x9 t9 hx9 ht9
theorem rl_offer {T : MS} {B : List BL} {S : MS} (hC : cinv T B) (f t v : Int32)  (h : Rel T B S) : Rel (cf_offer T f t v).2 B (mf_offer S f t v).2 := by
  intro x9 t9 hx9 ht9
  rw [((fc_offer T f t v).2.2.1 (120 + t9) (by intro h9; first | exact h9 | omega)), ((fm_offer S f t v).2.2.1 18 (by decide))]
  exact h x9 t9 hx9 ht9
theorem rl_tell {T : MS} {B : List BL} {S : MS} (hC : cinv T B) (v : Int32)  (h : Rel T B S) : Rel (cf_tell T v).2 B (mf_tell S v).2 := by
  intro x9 t9 hx9 ht9
  rw [((fc_tell T v).2.2.1 (120 + t9) (by intro h9; first | exact h9 | omega)), ((fm_tell S v).2.2.1 18 (by decide))]
  exact h x9 t9 hx9 ht9
theorem rl_count {T : MS} {B : List BL} {S : MS} (hC : cinv T B) (x : Int32)  (h : Rel T B S) : Rel (cf_count T x).2 B (mf_count S x).2 := by
  intro x9 t9 hx9 ht9
  rw [((fc_count T x).2.2.1 (120 + t9) (by intro h9; first | exact h9 | omega)), ((fm_count S x).2.2.1 18 (by decide))]
  exact h x9 t9 hx9 ht9
theorem rl_found {T : MS} {B : List BL} {S : MS} (hC : cinv T B) (x : Int32)  (h : Rel T B S) : Rel (cf_found T x).2 B (mf_found S x).2 := by
  intro x9 t9 hx9 ht9
  rw [((fc_found T x).2.2.1 (120 + t9) (by intro h9; first | exact h9 | omega)), ((fm_found S x).2.2.1 18 (by decide))]
  exact h x9 t9 hx9 ht9
theorem rl_turn {T : MS} {B : List BL} {S : MS} (hC : cinv T B)   (h : Rel T B S) : Rel (cf_turn T).2 B (mf_turn S).2 := by
  intro x9 t9 hx9 ht9
  rw [((fc_turn T).2.2.1 (120 + t9) (by intro h9; first | exact h9 | omega)), ((fm_turn S).2.2.1 18 (by decide))]
  exact h x9 t9 hx9 ht9
theorem rl_feed {T : MS} {B : List BL} {S : MS} (hC : cinv T B) (e : Int64) (n : Int32)  (h : Rel T B S) : Rel (cf_feed T e n).2 B (mf_feed S e n).2 := by
  intro x9 t9 hx9 ht9
  rw [((fc_feed T e n).2.2.1 (120 + t9) (by intro h9; first | exact h9 | omega)), ((fm_feed S e n).2.2.1 18 (by decide))]
  exact h x9 t9 hx9 ht9
theorem rl_pass {T : MS} {B : List BL} {S : MS} (hC : cinv T B) (x y : Int32)  (h : Rel T B S) : Rel (cf_pass T B x y).2.1 (cf_pass T B x y).2.2 (mf_pass S x y).2 := by
  intro x9 t9 hx9 ht9
  rw [((fc_pass T B x y).2.2.1 (120 + t9) (by intro h9; first | exact h9 | omega)), ((fm_pass S x y).2.2.1 18 (by decide))]
  exact h x9 t9 hx9 ht9
theorem rl_take {T : MS} {B : List BL} {S : MS} (hC : cinv T B) (x r : Int32)  (h : Rel T B S) : Rel (cf_take T B x r).2.1 (cf_take T B x r).2.2 (mf_take S x r).2 := by
  intro x9 t9 hx9 ht9
  rw [((fc_take T B x r).2.2.1 (120 + t9) (by intro h9; first | exact h9 | omega)), ((fm_take S x r).2.2.1 18 (by decide))]
  exact h x9 t9 hx9 ht9
theorem rl_protest {T : MS} {B : List BL} {S : MS} (hC : cinv T B) (x : Int32)  (h : Rel T B S) : Rel (cf_protest T B x).2.1 (cf_protest T B x).2.2 (mf_protest S x).2 := by
  intro x9 t9 hx9 ht9
  rw [((fc_protest T B x).2.2.1 (120 + t9) (by intro h9; first | exact h9 | omega)), ((fm_protest S x).2.2.1 18 (by decide))]
  exact h x9 t9 hx9 ht9
theorem rl_pay {T : MS} {B : List BL} {S : MS} (hC : cinv T B) (x : Int32)  (h : Rel T B S) : Rel (cf_pay T B x).2.1 (cf_pay T B x).2.2 (mf_pay S x).2 := by
  intro x9 t9 hx9 ht9
  rw [((fc_pay T B x hC.1 (bokx hC.1)).2.2.1 (120 + t9) (by intro h9; first | exact h9 | omega)), ((fm_pay S x).2.2.1 18 (by decide))]
  exact h x9 t9 hx9 ht9
theorem rl_recourse {T : MS} {B : List BL} {S : MS} (hC : cinv T B) (x j : Int32)  (h : Rel T B S) : Rel (cf_recourse T B x j).2.1 (cf_recourse T B x j).2.2 (mf_recourse S x j).2 := by
  intro x9 t9 hx9 ht9
  rw [((fc_recourse T B x j (bokx hC.1)).2.2.1 (120 + t9) (by intro h9; first | exact h9 | omega)), ((fm_recourse S x j).2.2.1 18 (by decide))]
  exact h x9 t9 hx9 ht9
theorem rl_about {T : MS} {B : List BL} {S : MS} (hC : cinv T B) (x q : Int32)  (h : Rel T B S) : Rel (cf_about T B x q).2.1 (cf_about T B x q).2.2 (mf_about S x q).2 := by
  intro x9 t9 hx9 ht9
  rw [((fc_about T B x q).1.2.2.1 (120 + t9) (by intro h9; first | exact h9 | omega)), ((fm_about S x q).2.2.1 18 (by decide))]
  exact h x9 t9 hx9 ht9
theorem rl_as {T : MS} {B : List BL} {S : MS} (hC : cinv T B) (x k : Int32)  (h : Rel T B S) : Rel (cf_as T B x k).2.1 (cf_as T B x k).2.2 (mf_as S x k).2 := by
  intro x9 t9 hx9 ht9
  rw [((fc_as T B x k).1.2.2.1 (120 + t9) (by intro h9; first | exact h9 | omega)), ((fm_as S x k).2.2.1 18 (by decide))]
  exact h x9 t9 hx9 ht9
theorem rl_knows {T : MS} {B : List BL} {S : MS} (hC : cinv T B) (x y d : Int32)  (h : Rel T B S) : Rel (cf_knows T B x y d).2.1 (cf_knows T B x y d).2.2 (mf_knows S x y d).2 := by
  intro x9 t9 hx9 ht9
  rw [((fc_knows T B x y d).1.2.2.1 (120 + t9) (by intro h9; first | exact h9 | omega)), ((fm_knows S x y d).2.2.1 18 (by decide))]
  exact h x9 t9 hx9 ht9
theorem rl_plan {T : MS} {B : List BL} {S : MS} (hC : cinv T B) (g : Int32) {U : MS} (hF : fr S U) (h : Rel T B S) : Rel (cf_plan T g).2 B (mf_plan U g).2 := by
  intro x9 t9 hx9 ht9
  rw [((fc_plan T g).1.2.2.1 (120 + t9) (by intro h9; first | exact h9 | omega)), ((fm_plan g hF).2.2.1 18 (by decide))]
  exact h x9 t9 hx9 ht9
theorem rl_payment {T : MS} {B : List BL} {S : MS} (hC : cinv T B) (j w : Int32) {U : MS} (hF : fr S U) (h : Rel T B S) : Rel (cf_payment T j w).2 B (mf_payment S U j w).2 := by
  intro x9 t9 hx9 ht9
  rw [((fc_payment T j w).2.2.1 (120 + t9) (by intro h9; first | exact h9 | omega)), ((fm_payment j w hF).2.2.1 18 (by decide))]
  exact h x9 t9 hx9 ht9
theorem rl_clear {T : MS} {B : List BL} {S : MS} (hC : cinv T B)  {U : MS} {N : Nat} (hF : fr S U) (hO : plOk U N) (hp : ∀ j, j < N → 0 ≤ (U.2.2.2 49 j).toInt) (h : Rel T B S) : Rel (cf_clear T).2 B (mf_clear U N).2 := by
  intro x9 t9 hx9 ht9
  rw [((fc_clear hC.2.2.2.2.2.2).2.2.1 (120 + t9) (by intro h9; first | exact h9 | omega)), ((fm_clear hF hO hp).2.2.1 18 (by decide))]
  exact h x9 t9 hx9 ht9
theorem rl_check {T : MS} {B : List BL} {S : MS} (hC : cinv T B)  {U : MS} {N : Nat} (hF : fr (sI S 20 0) U) (h : Rel T B S) : Rel (cf_check T).2 B (mf_check S U N).2 := by
  intro x9 t9 hx9 ht9
  rw [((fc_check T).2.2.1 (120 + t9) (by intro h9; first | exact h9 | omega)), ((fm_check hF).2.2.1 18 (by decide))]
  exact h x9 t9 hx9 ht9
theorem rl_fault {T : MS} {B : List BL} {S : MS} (hC : cinv T B)   (h : Rel T B S) : Rel T B S := by
  intro x9 t9 hx9 ht9
  rw [((fx_rfl (I := sN) (L := sN) (A := sN) (B := s0) T).2.2.1 (120 + t9) (by intro h9; first | exact h9 | omega)), ((fx_rfl (I := sN) (L := sN) (A := sN) (B := s0) S).2.2.1 18 (by decide))]
  exact h x9 t9 hx9 ht9
theorem rl_drawN {T : MS} {B : List BL} {S : MS} (hC : cinv T B) (kd dr de py am : Int32) (hd : ¬ dcnd kd dr de py am) (h : Rel T B S) : Rel (cf_fd T 1).2 B (mf_draw S kd dr de py am).2 := by
  intro x9 t9 hx9 ht9
  rw [((fx_fd (I := sN) (L := sN) (A := sN) (B := s0) (q := 1) (fx_rfl T) rfl).2.2.1 (120 + t9) (by intro h9; first | exact h9 | omega)), ((fm_draw S kd dr de py am).2.2.1 18 (by decide))]
  exact h x9 t9 hx9 ht9
theorem rl_drawK {T : MS} {B : List BL} {S : MS} (hC : cinv T B) (kd dr de py am : Int32) (hd : dcnd kd dr de py am) (hk : dr = py) (h : Rel T B S) : Rel (cf_fd T 5).2 B (mf_draw S kd dr de py am).2 := by
  intro x9 t9 hx9 ht9
  rw [((fx_fd (I := sN) (L := sN) (A := sN) (B := s0) (q := 5) (fx_rfl T) rfl).2.2.1 (120 + t9) (by intro h9; first | exact h9 | omega)), ((fm_draw S kd dr de py am).2.2.1 18 (by decide))]
  exact h x9 t9 hx9 ht9
theorem rl_drawF {T : MS} {B : List BL} {S : MS} (hC : cinv T B) (kd dr de py am : Int32) (hd : dcnd kd dr de py am) (hk : ¬ dr = py) (hf : ¬ T.1 16 < 40) (h : Rel T B S) : Rel (cf_fd T 4).2 B (mf_draw S kd dr de py am).2 := by
  intro x9 t9 hx9 ht9
  rw [((fx_fd (I := sN) (L := sN) (A := sN) (B := s0) (q := 4) (fx_rfl T) rfl).2.2.1 (120 + t9) (by intro h9; first | exact h9 | omega)), ((fm_draw S kd dr de py am).2.2.1 18 (by decide))]
  exact h x9 t9 hx9 ht9
theorem rl_drawY {T : MS} {B : List BL} {S : MS} (hC : cinv T B) (kd dr de py am : Int32) (q9 e9 g9 : Nat) (hd : dcnd kd dr de py am) (hk : ¬ dr = py) (hf : T.1 16 < 40) (h : Rel T B S) : Rel (sI T 16 (T.1 16 + 1)) (B ++ [bnew q9 e9 g9 kd dr de py am (T.1 14)]) (mf_draw S kd dr de py am).2 := by
  intro x9 t9 hx9 ht9
  rw [((fx_sI (I := fun j => j = 16) (L := sN) (A := sN) (B := s0) (v := T.1 16 + 1) (fx_rfl T) rfl).2.2.1 (120 + t9) (by intro h9; first | exact h9 | omega)), ((fm_draw S kd dr de py am).2.2.1 18 (by decide))]
  exact h x9 t9 hx9 ht9
theorem rl_partN {T : MS} {B : List BL} {S : MS} (hC : cinv T B) (x sm cr : Int32)  (h : Rel T B S) : Rel (cf_fd T 1).2 B (mf_part S x sm cr).2 := by
  intro x9 t9 hx9 ht9
  rw [((fx_fd (I := sN) (L := sN) (A := sN) (B := s0) (q := 1) (fx_rfl T) rfl).2.2.1 (120 + t9) (by intro h9; first | exact h9 | omega)), ((fm_part S x sm cr).2.2.1 18 (by decide))]
  exact h x9 t9 hx9 ht9
theorem rl_partY {T : MS} {B : List BL} {S : MS} (hC : cinv T B) (x sm cr : Int32)  (h : Rel T B S) : Rel (cf_parT T B x) B (mf_part S x sm cr).2 := by
  intro x9 t9 hx9 ht9
  rw [((fc_parT T B x).2.2.1 (120 + t9) (by intro h9; first | exact h9 | omega)), ((fm_part S x sm cr).2.2.1 18 (by decide))]
  exact h x9 t9 hx9 ht9
theorem rl_readG {T : MS} {B : List BL} {S : MS} (hC : cinv T B)  {X : Int32 × MS} (eX : X = crx T) (h1 : X.1 = 1) (h : Rel T B S) : Rel (swT (cf_endT X.2 1)) B (mf_read S).2 := by
  intro x9 t9 hx9 ht9
  rw [(fcr_gA hC eX (j := 120 + t9) (by omega) (by intro h9; first | exact h9 | omega)), ((fm_read S).2.2.1 18 (by decide))]
  exact h x9 t9 hx9 ht9
theorem rl_readB {T : MS} {B : List BL} {S : MS} (hC : cinv T B)  {X : Int32 × MS} (eX : X = crx T) (h1 : X.1 = 0) (h : Rel T B S) : Rel (cf_fd (cf_endT X.2 0) 6).2 B (mf_read S).2 := by
  intro x9 t9 hx9 ht9
  rw [((fcr_b hC eX).2.2.1 (120 + t9) (by intro h9; first | exact h9 | omega)), ((fm_read S).2.2.1 18 (by decide))]
  exact h x9 t9 hx9 ht9
theorem pi_days {i : Nat} {T : MS} {B : List BL} {S : MS} (hi : i < 600) (n : Int32)  (hP : PI Rel i T B S) : PI Rel (i + 1) (cf_days T n).2 B (mf_days S n).2 := ⟨(cs_days n hP.1), (ri_up hi (ri_days (Mi_le hi).1 (Mi_le hi).2.1 n hP.2.1)), rl_days hP.1 n  hP.2.2⟩
theorem pi_gain {i : Nat} {T : MS} {B : List BL} {S : MS} (hi : i < 600) (v : Int32)  (hP : PI Rel i T B S) : PI Rel (i + 1) (cf_gain T v).2 B (mf_gain S v).2 := ⟨(cs_gain v hP.1), (ri_up hi (ri_gain v hP.2.1)), rl_gain hP.1 v  hP.2.2⟩
theorem pi_road {i : Nat} {T : MS} {B : List BL} {S : MS} (hi : i < 600) (t v : Int32)  (hP : PI Rel i T B S) : PI Rel (i + 1) (cf_road T t v).2 B (mf_road S t v).2 := ⟨(cs_road t v hP.1), (ri_up hi (ri_road t v hP.2.1)), rl_road hP.1 t v  hP.2.2⟩
theorem pi_seat {i : Nat} {T : MS} {B : List BL} {S : MS} (hi : i < 600) (x t : Int32)  (hP : PI Rel i T B S) : PI Rel (i + 1) (cf_seat T x t).2 B (mf_seat S x t).2 := ⟨(ci_seat x t hP.1), (ri_up hi (ri_seat x t hP.2.1)), rl_seat hP.1 x t  hP.2.2⟩
theorem pi_binds {i : Nat} {T : MS} {B : List BL} {S : MS} (hi : i < 600) (la am hp kd rd : Int32)  (hP : PI Rel i T B S) : PI Rel (i + 1) (cf_binds T la am hp kd rd).2 B (mf_binds S la am hp kd rd).2 := ⟨(cs_binds la am hp kd rd hP.1), (ri_up hi (ri_binds la am hp kd rd hP.2.1)), rl_binds hP.1 la am hp kd rd  hP.2.2⟩
theorem pi_owe {i : Nat} {T : MS} {B : List BL} {S : MS} (hi : i < 600) (x q v : Int32)  (hP : PI Rel i T B S) : PI Rel (i + 1) (cf_owe T x q v).2 B (mf_owe S x q v).2 := ⟨(cs_owe x q v hP.1), (Mi_s i ▸ ri_owe (Mi_le hi).1 x q v hP.2.1), rl_owe hP.1 x q v  hP.2.2⟩
theorem pi_owes {i : Nat} {T : MS} {B : List BL} {S : MS} (hi : i < 600) (x q : Int32)  (hP : PI Rel i T B S) : PI Rel (i + 1) (cf_owes T x q).2 B (mf_owes S x q).2 := ⟨(cs_owes x q hP.1), (ri_up hi (ri_owes x q hP.2.1)), rl_owes hP.1 x q  hP.2.2⟩
theorem pi_net {i : Nat} {T : MS} {B : List BL} {S : MS} (hi : i < 600) (x : Int32)  (hP : PI Rel i T B S) : PI Rel (i + 1) (cf_net T x).2 B (mf_net S x).2 := ⟨(cs_net x hP.1), (ri_up hi (ri_net x hP.2.1)), rl_net hP.1 x  hP.2.2⟩
theorem pi_coin {i : Nat} {T : MS} {B : List BL} {S : MS} (hi : i < 600) (k w f : Int32)  (hP : PI Rel i T B S) : PI Rel (i + 1) (cf_coin T k w f).2 B (mf_coin S k w f).2 := ⟨(cs_coin k w f hP.1), (ri_up hi (ri_coin k w f hP.2.1)), rl_coin hP.1 k w f  hP.2.2⟩
theorem pi_purse {i : Nat} {T : MS} {B : List BL} {S : MS} (hi : i < 600) (x k v : Int32)  (hP : PI Rel i T B S) : PI Rel (i + 1) (cf_purse T x k v).2 B (mf_purse S x k v).2 := ⟨(cs_purse x k v hP.1), (ri_up hi (ri_purse x k v hP.2.1)), rl_purse hP.1 x k v  hP.2.2⟩
theorem pi_has {i : Nat} {T : MS} {B : List BL} {S : MS} (hi : i < 600) (x k : Int32)  (hP : PI Rel i T B S) : PI Rel (i + 1) (cf_has T x k).2 B (mf_has S x k).2 := ⟨(cs_has x k hP.1), (ri_up hi (ri_has x k hP.2.1)), rl_has hP.1 x k  hP.2.2⟩
theorem pi_settle {i : Nat} {T : MS} {B : List BL} {S : MS} (hi : i < 600) (x q : Int32)  (hP : PI Rel i T B S) : PI Rel (i + 1) (cf_settle T x q).2 B (mf_settle S x q).2 := ⟨(cs_settle x q hP.1), (ri_up hi (ri_settle (Mi_le hi).1 x q hP.2.1)), rl_settle hP.1 x q  hP.2.2⟩
theorem pi_vote {i : Nat} {T : MS} {B : List BL} {S : MS} (hi : i < 600) (x t v : Int32)  (hP : PI Rel i T B S) : PI Rel (i + 1) (cf_vote T x t v).2 B (mf_vote S x t v).2 := ⟨(cs_vote x t v hP.1), (ri_up hi (ri_vote x t v hP.2.1)), rl_vote hP.1 x t v  hP.2.2⟩
theorem pi_rate {i : Nat} {T : MS} {B : List BL} {S : MS} (hi : i < 600) (t : Int32)  (hP : PI Rel i T B S) : PI Rel (i + 1) (cf_rate T t).2 B (mf_rate S t).2 := ⟨(cs_rate t hP.1), (ri_up hi (ri_rate t hP.2.1)), rl_rate hP.1 t  hP.2.2⟩
theorem pi_offer {i : Nat} {T : MS} {B : List BL} {S : MS} (hi : i < 600) (f t v : Int32)  (hP : PI Rel i T B S) : PI Rel (i + 1) (cf_offer T f t v).2 B (mf_offer S f t v).2 := ⟨(cs_offer f t v hP.1), (ri_up hi (ri_offer f t v hP.2.1)), rl_offer hP.1 f t v  hP.2.2⟩
theorem pi_tell {i : Nat} {T : MS} {B : List BL} {S : MS} (hi : i < 600) (v : Int32)  (hP : PI Rel i T B S) : PI Rel (i + 1) (cf_tell T v).2 B (mf_tell S v).2 := ⟨(ci_tell v hP.1), (ri_up hi (ri_tell v hP.2.1)), rl_tell hP.1 v  hP.2.2⟩
theorem pi_count {i : Nat} {T : MS} {B : List BL} {S : MS} (hi : i < 600) (x : Int32)  (hP : PI Rel i T B S) : PI Rel (i + 1) (cf_count T x).2 B (mf_count S x).2 := ⟨(cs_count x hP.1), (ri_up hi (ri_count x hP.2.1)), rl_count hP.1 x  hP.2.2⟩
theorem pi_found {i : Nat} {T : MS} {B : List BL} {S : MS} (hi : i < 600) (x : Int32)  (hP : PI Rel i T B S) : PI Rel (i + 1) (cf_found T x).2 B (mf_found S x).2 := ⟨(cs_found x hP.1), (ri_up hi (ri_found x hP.2.1)), rl_found hP.1 x  hP.2.2⟩
theorem pi_turn {i : Nat} {T : MS} {B : List BL} {S : MS} (hi : i < 600)   (hP : PI Rel i T B S) : PI Rel (i + 1) (cf_turn T).2 B (mf_turn S).2 := ⟨(cs_turn hP.1), (ri_up hi (ri_turn hP.2.1)), rl_turn hP.1   hP.2.2⟩
theorem pi_feed {i : Nat} {T : MS} {B : List BL} {S : MS} (hi : i < 600) (e : Int64) (n : Int32)  (hP : PI Rel i T B S) : PI Rel (i + 1) (cf_feed T e n).2 B (mf_feed S e n).2 := ⟨(ci_feed e n hP.1), (ri_up hi (ri_feed e n hP.2.1)), rl_feed hP.1 e n  hP.2.2⟩
theorem pi_pass {i : Nat} {T : MS} {B : List BL} {S : MS} (hi : i < 600) (x y : Int32)  (hP : PI Rel i T B S) : PI Rel (i + 1) (cf_pass T B x y).2.1 (cf_pass T B x y).2.2 (mf_pass S x y).2 := ⟨(ci_pass x y hP.1), (ri_up hi (ri_pass x y hP.2.1)), rl_pass hP.1 x y  hP.2.2⟩
theorem pi_take {i : Nat} {T : MS} {B : List BL} {S : MS} (hi : i < 600) (x r : Int32)  (hP : PI Rel i T B S) : PI Rel (i + 1) (cf_take T B x r).2.1 (cf_take T B x r).2.2 (mf_take S x r).2 := ⟨(ci_take x r hP.1), (ri_up hi (ri_take x r hP.2.1)), rl_take hP.1 x r  hP.2.2⟩
theorem pi_protest {i : Nat} {T : MS} {B : List BL} {S : MS} (hi : i < 600) (x : Int32)  (hP : PI Rel i T B S) : PI Rel (i + 1) (cf_protest T B x).2.1 (cf_protest T B x).2.2 (mf_protest S x).2 := ⟨(ci_protest x hP.1), (ri_up hi (ri_protest x hP.2.1)), rl_protest hP.1 x  hP.2.2⟩
theorem pi_pay {i : Nat} {T : MS} {B : List BL} {S : MS} (hi : i < 600) (x : Int32)  (hP : PI Rel i T B S) : PI Rel (i + 1) (cf_pay T B x).2.1 (cf_pay T B x).2.2 (mf_pay S x).2 := ⟨(ci_pay x hP.1), (Mi_s i ▸ ri_pay (Mi_le hi).1 x hP.2.1), rl_pay hP.1 x  hP.2.2⟩
theorem pi_recourse {i : Nat} {T : MS} {B : List BL} {S : MS} (hi : i < 600) (x j : Int32)  (hP : PI Rel i T B S) : PI Rel (i + 1) (cf_recourse T B x j).2.1 (cf_recourse T B x j).2.2 (mf_recourse S x j).2 := ⟨(ci_recourse x j hP.1), (Mi_s i ▸ ri_recourse (Mi_le hi).1 x j hP.2.1), rl_recourse hP.1 x j  hP.2.2⟩
theorem pi_about {i : Nat} {T : MS} {B : List BL} {S : MS} (hi : i < 600) (x q : Int32)  (hP : PI Rel i T B S) : PI Rel (i + 1) (cf_about T B x q).2.1 (cf_about T B x q).2.2 (mf_about S x q).2 := ⟨(cs_about x q hP.1), (ri_up hi (ri_about x q hP.2.1)), rl_about hP.1 x q  hP.2.2⟩
theorem pi_as {i : Nat} {T : MS} {B : List BL} {S : MS} (hi : i < 600) (x k : Int32)  (hP : PI Rel i T B S) : PI Rel (i + 1) (cf_as T B x k).2.1 (cf_as T B x k).2.2 (mf_as S x k).2 := ⟨(cs_as x k hP.1), (ri_up hi (ri_as x k hP.2.1)), rl_as hP.1 x k  hP.2.2⟩
theorem pi_knows {i : Nat} {T : MS} {B : List BL} {S : MS} (hi : i < 600) (x y d : Int32)  (hP : PI Rel i T B S) : PI Rel (i + 1) (cf_knows T B x y d).2.1 (cf_knows T B x y d).2.2 (mf_knows S x y d).2 := ⟨(cs_knows x y d hP.1), (ri_up hi (ri_knows x y d hP.2.1)), rl_knows hP.1 x y d  hP.2.2⟩
theorem pi_plan {i : Nat} {T : MS} {B : List BL} {S : MS} (hi : i < 600) (g : Int32) {U : MS} (hF : fr S U) (hP : PI Rel i T B S) : PI Rel (i + 1) (cf_plan T g).2 B (mf_plan U g).2 := ⟨(ci_plan g hP.1), (ri_up hi (ri_plan g (ri_fr hF hP.2.1))), rl_plan hP.1 g hF hP.2.2⟩
theorem pi_payment {i : Nat} {T : MS} {B : List BL} {S : MS} (hi : i < 600) (j w : Int32) {U : MS} (hF : fr S U) (hP : PI Rel i T B S) : PI Rel (i + 1) (cf_payment T j w).2 B (mf_payment S U j w).2 := ⟨(ci_payment j w hP.1), (ri_up hi (ri_payment j w hP.2.1 (ri_fr hF hP.2.1))), rl_payment hP.1 j w hF hP.2.2⟩
theorem pi_clear {i : Nat} {T : MS} {B : List BL} {S : MS} (hi : i < 600)  {U : MS} {N : Nat} (hF : fr S U) (hO : plOk U N) (hp : ∀ j, j < N → 0 ≤ (U.2.2.2 49 j).toInt) (hs : isum (fun j => (U.2.2.2 49 j).toInt) N ≤ Mi i) (hP : PI Rel i T B S) : PI Rel (i + 1) (cf_clear T).2 B (mf_clear U N).2 := ⟨(ci_clear hP.1), (ri_up hi (ri_clear (ri_fr hF hP.2.1) hO hp hs)), rl_clear hP.1  hF hO hp hP.2.2⟩
theorem pi_check {i : Nat} {T : MS} {B : List BL} {S : MS} (hi : i < 600)  {U : MS} {N : Nat} (hF : fr (sI S 20 0) U) (hP : PI Rel i T B S) : PI Rel (i + 1) (cf_check T).2 B (mf_check S U N).2 := ⟨(ci_check hP.1), (ri_up hi (ri_fr hF (ri_20 hP.2.1))), rl_check hP.1  hF hP.2.2⟩
theorem pi_fault {i : Nat} {T : MS} {B : List BL} {S : MS} (hi : i < 600)   (hP : PI Rel i T B S) : PI Rel (i + 1) T B S := ⟨hP.1, (ri_up hi hP.2.1), rl_fault hP.1   hP.2.2⟩
theorem pi_drawN {i : Nat} {T : MS} {B : List BL} {S : MS} (hi : i < 600) (kd dr de py am : Int32) (hd : ¬ dcnd kd dr de py am) (hP : PI Rel i T B S) : PI Rel (i + 1) (cf_fd T 1).2 B (mf_draw S kd dr de py am).2 := ⟨hP.1, (ri_up hi (ri_draw kd dr de py am hP.2.1)), rl_drawN hP.1 kd dr de py am hd hP.2.2⟩
theorem pi_drawK {i : Nat} {T : MS} {B : List BL} {S : MS} (hi : i < 600) (kd dr de py am : Int32) (hd : dcnd kd dr de py am) (hk : dr = py) (hP : PI Rel i T B S) : PI Rel (i + 1) (cf_fd T 5).2 B (mf_draw S kd dr de py am).2 := ⟨hP.1, (ri_up hi (ri_draw kd dr de py am hP.2.1)), rl_drawK hP.1 kd dr de py am hd hk hP.2.2⟩
theorem pi_drawF {i : Nat} {T : MS} {B : List BL} {S : MS} (hi : i < 600) (kd dr de py am : Int32) (hd : dcnd kd dr de py am) (hk : ¬ dr = py) (hf : ¬ T.1 16 < 40) (hP : PI Rel i T B S) : PI Rel (i + 1) (cf_fd T 4).2 B (mf_draw S kd dr de py am).2 := ⟨hP.1, (ri_up hi (ri_draw kd dr de py am hP.2.1)), rl_drawF hP.1 kd dr de py am hd hk hf hP.2.2⟩
theorem pi_drawY {i : Nat} {T : MS} {B : List BL} {S : MS} (hi : i < 600) (kd dr de py am : Int32) (q9 e9 g9 : Nat) (hd : dcnd kd dr de py am) (hk : ¬ dr = py) (hf : T.1 16 < 40) (hP : PI Rel i T B S) : PI Rel (i + 1) (sI T 16 (T.1 16 + 1)) (B ++ [bnew q9 e9 g9 kd dr de py am (T.1 14)]) (mf_draw S kd dr de py am).2 := ⟨(ci_draw hP.1 hd hf), (ri_up hi (ri_draw kd dr de py am hP.2.1)), rl_drawY hP.1 kd dr de py am q9 e9 g9 hd hk hf hP.2.2⟩
theorem pi_partN {i : Nat} {T : MS} {B : List BL} {S : MS} (hi : i < 600) (x sm cr : Int32)  (hP : PI Rel i T B S) : PI Rel (i + 1) (cf_fd T 1).2 B (mf_part S x sm cr).2 := ⟨hP.1, (ri_up hi (ri_part x sm cr hP.2.1)), rl_partN hP.1 x sm cr  hP.2.2⟩
theorem pi_partY {i : Nat} {T : MS} {B : List BL} {S : MS} (hi : i < 600) (x sm cr : Int32)  (hP : PI Rel i T B S) : PI Rel (i + 1) (cf_parT T B x) B (mf_part S x sm cr).2 := ⟨(cs_part x hP.1), (ri_up hi (ri_part x sm cr hP.2.1)), rl_partY hP.1 x sm cr  hP.2.2⟩
theorem pi_readG {i : Nat} {T : MS} {B : List BL} {S : MS} (hi : i < 600)  {X : Int32 × MS} (eX : X = crx T) (h1 : X.1 = 1) (hP : PI Rel i T B S) : PI Rel (i + 1) (swT (cf_endT X.2 1)) B (mf_read S).2 := ⟨(fcr_ci hP.1 eX 1).2, (ri_up hi (ri_read hP.2.1)), rl_readG hP.1  eX h1 hP.2.2⟩
theorem pi_readB {i : Nat} {T : MS} {B : List BL} {S : MS} (hi : i < 600)  {X : Int32 × MS} (eX : X = crx T) (h1 : X.1 = 0) (hP : PI Rel i T B S) : PI Rel (i + 1) (cf_fd (cf_endT X.2 0) 6).2 B (mf_read S).2 := ⟨(fcr_ci hP.1 eX 0).1, (ri_up hi (ri_read hP.2.1)), rl_readB hP.1  eX h1 hP.2.2⟩
theorem eq_m {T : MS} {B : List BL} {S : MS} (hC : cinv T B) (hR : Rel T B S) (t : Int32) : (cf_rate T t).1 = (mf_rate S t).1 := rate_eq (fun tt ht k hk => hR k tt hk ht) t
theorem rel0 : Rel T0 [] S0 := fun _ _ _ _ => ⟨rfl, by show 0 ≤ (0 : Int32).toInt; decide⟩
