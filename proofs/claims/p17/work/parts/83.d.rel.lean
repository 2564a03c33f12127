/-! read, of the class: what it leaves -/
theorem fcr_j {T : MS} {B : List BL} (hC : cinv T B) {X : Int32 × MS} (eX : X = crx T) : fx jI9 sN jA9 s0 T X.2 ∧ crJ X.2 := by
  rw [eX]
  exact ⟨fc_crx hC.2.2.2.1 hC.2.2.2.2.2.1, (crx_J hC.2.2.2.1 hC.2.2.2.2.2.1).1⟩
theorem fcr_b {T : MS} {B : List BL} (hC : cinv T B) {X : Int32 × MS} (eX : X = crx T) : fx kI9 sN kA9 s0 T (cf_fd (cf_endT X.2 0) 6).2 := fx_fd (fc_endT 0 (fx_jk (fcr_j hC eX).1)) rfl
theorem fcr_ci {T : MS} {B : List BL} (hC : cinv T B) {X : Int32 × MS} (eX : X = crx T) (g : Int32) : cinv (cf_endT X.2 g) B ∧ cinv (swT (cf_endT X.2 g)) B := ci_readX g hC (fcr_j hC eX).2 (fcr_j hC eX).1
theorem fcr_gI {T : MS} {B : List BL} (hC : cinv T B) {X : Int32 × MS} (eX : X = crx T) {j : Nat} (hj : j < 200) (h : ¬ kI9 j) : (swT (cf_endT X.2 1)).1 j = T.1 j := (swT_I _ hj (fun q => h (by omega)) (fun q => h (by omega))).trans ((fc_endT 1 (fx_jk (fcr_j hC eX).1)).1 j h)
theorem fcr_gA {T : MS} {B : List BL} (hC : cinv T B) {X : Int32 × MS} (eX : X = crx T) {j : Nat} (hj : j < 200) (h : ¬ kA9 j) : (swT (cf_endT X.2 1)).2.2.1 j = T.2.2.1 j := (swT_A _ hj (fun q => h (by omega)) (fun q => h (by omega))).trans ((fc_endT 1 (fx_jk (fcr_j hC eX).1)).2.2.1 j h)
abbrev Rel (T : MS) (B : List BL) (S : MS) : Prop := (∃ L, L ≤ 400 ∧ T.1 20 = nI L ∧ S.1 36 = nI L ∧ ∀ k, k < L → T.2.2.1 22 k = S.2.2.1 35 k ∧ 0 ≤ (T.2.2.1 22 k).toInt) ∧ (T.1 21).toInt64 = S.2.1 37
/-! both readers, step by step -/
theorem sI_sI (T : MS) (j : Nat) (a b : Int32) : sI (sI T j a) j b = sI T j b := by
  show (fun i => if i = j then b else if i = j then a else T.1 i, T.2) = (fun i => if i = j then b else T.1 i, T.2)
  congr 1
  funext i
  split <;> rfl
theorem sI_self (T : MS) {j : Nat} {a : Int32} (h : T.1 j = a) : T = sI T j a := by
  show T = (fun i => if i = j then a else T.1 i, T.2)
  have : (fun i => if i = j then a else T.1 i) = T.1 := by
    funext i
    split
    · next e => rw [e, h]
    · rfl
  rw [this]
theorem sI_comm (T : MS) {i j : Nat} (h : i ≠ j) (a b : Int32) : sI (sI T i a) j b = sI (sI T j b) i a := by
  show (fun k => if k = j then b else if k = i then a else T.1 k, T.2) = (fun k => if k = i then a else if k = j then b else T.1 k, T.2)
  congr 1
  funext k
  by_cases h1 : k = j
  · rw [if_pos h1, if_neg (by omega), if_pos h1]
  · rw [if_neg h1, if_neg h1]
/-- text and place alike -/
def lk (L P : Nat) (T S : MS) : Prop := P ≤ L ∧ L ≤ 400 ∧ T.1 20 = nI L ∧ S.1 36 = nI L ∧ T.1 23 = nI P ∧ S.1 39 = nI P ∧ ∀ k, k < L → T.2.2.1 22 k = S.2.2.1 35 k ∧ 0 ≤ (T.2.2.1 22 k).toInt
theorem lk_e {L P : Nat} {T S : MS} (h : lk L P T S) (hP : ¬ P < L) : cat T = -1 ∧ mat S (S.1 39) = -1 := by
  obtain ⟨h1, h2, h3, h4, h5, h6, h7⟩ := h
  unfold cat mat
  rw [h3, h4, h5, h6, if_pos ((nI_leI (by omega) (by omega)).mpr (by omega)), if_pos ((nI_leI (by omega) (by omega)).mpr (by omega))]
  exact ⟨rfl, rfl⟩
theorem lk_c {L P : Nat} {T S : MS} (h : lk L P T S) (hP : P < L) : cat T = T.2.2.1 22 P ∧ mat S (S.1 39) = T.2.2.1 22 P := by
  obtain ⟨h1, h2, h3, h4, h5, h6, h7⟩ := h
  unfold cat mat
  rw [h3, h4, h5, h6, if_neg (fun q => absurd ((nI_leI (by omega) (by omega)).mp q) (by omega)), if_neg (fun q => absurd ((nI_leI (by omega) (by omega)).mp q) (by omega)), nI_clamp (by omega), ← (h7 P hP).1]
  exact ⟨rfl, rfl⟩
theorem lk_at {L P : Nat} {T S : MS} (h : lk L P T S) : cat T = mat S (S.1 39) := by
  by_cases hP : P < L
  · rw [(lk_c h hP).1, (lk_c h hP).2]
  · rw [(lk_e h hP).1, (lk_e h hP).2]
theorem lk_st {L P : Nat} {T S : MS} (h : lk L P T S) (hP : P < L) : lk L (P + 1) (sI T 23 (T.1 23 + 1)) (sI S 39 (S.1 39 + 1)) := by
  obtain ⟨h1, h2, h3, h4, h5, h6, h7⟩ := h
  refine ⟨hP, h2, h3, h4, ?_, ?_, h7⟩
  · show T.1 23 + 1 = _
    rw [h5, nI_1]
  · show S.1 39 + 1 = _
    rw [h6, nI_1]
theorem lk_in {L P : Nat} {T S : MS} (h : lk L P T S) (hc : ¬ cat T = -1) : P < L := Classical.not_not.mp (fun q => hc (lk_e h q).1)
/-- spaces -/
theorem sk_lk {L : Nat} : ∀ (f : Nat) {T S : MS} {P : Nat}, lk L P T S → L - P < f → ∃ Q, P ≤ Q ∧ Q ≤ L ∧ cskR f T = sI T 23 (nI Q) ∧ skR f S = sI S 39 (nI Q)
  | 0, _, _, _, _, hf => absurd hf (Nat.not_lt_zero _)
  | f + 1, T, S, P, h, hf => by
    unfold cskR skR
    rw [← lk_at h]
    by_cases hc : cat T = 32
    · have hP := lk_in h (by rw [hc]; decide)
      obtain ⟨Q, q1, q2, q3, q4⟩ := sk_lk f (lk_st h hP) (by omega)
      rw [if_pos hc, if_pos hc]
      exact ⟨Q, by omega, q2, q3.trans (sI_sI _ _ _ _), q4.trans (sI_sI _ _ _ _)⟩
    · rw [if_neg hc, if_neg hc]
      exact ⟨P, Nat.le_refl P, h.1, sI_self _ h.2.2.2.2.1, sI_self _ h.2.2.2.2.2.1⟩
/-- a word's number -/
def wc (t : Nat → Int32) (W : Nat) : Nat → Int
  | 0 => 0
  | n + 1 => wc t W n * 27 + ((t (W + n)).toInt - 96)
abbrev let1 (c : Int32) : Prop := 97 ≤ c.toInt ∧ c.toInt ≤ 122
theorem wc_b {t : Nat → Int32} {W : Nat} : ∀ n, (∀ k, k < n → let1 (t (W + k))) → 0 ≤ wc t W n ∧ wc t W n < 27 ^ n
  | 0, _ => ⟨Int.le_refl _, by show (0 : Int) < 27 ^ 0; decide⟩
  | n + 1, h => by
    obtain ⟨a, b⟩ := wc_b n (fun k hk => h k (by omega))
    obtain ⟨c, d⟩ := h n (by omega)
    show 0 ≤ wc t W n * 27 + _ ∧ wc t W n * 27 + _ < 27 ^ (n + 1)
    rw [Int.pow_succ]
    generalize (27 : Int) ^ n = p at *
    omega
theorem wc_inj {t u : Nat → Int32} {W V : Nat} : ∀ n m, (∀ k, k < n → let1 (t (W + k))) → (∀ k, k < m → let1 (u (V + k))) → wc t W n = wc u V m → n = m ∧ ∀ k, k < n → t (W + k) = u (V + k)
  | 0, 0, _, _, _ => ⟨rfl, fun k hk => absurd hk (Nat.not_lt_zero k)⟩
  | 0, m + 1, _, hu, e => by
    have := (wc_b m (fun k hk => hu k (by omega))).1
    have := hu m (by omega)
    have e' : (0 : Int) = wc u V m * 27 + ((u (V + m)).toInt - 96) := e
    omega
  | n + 1, 0, ht, _, e => by
    have := (wc_b n (fun k hk => ht k (by omega))).1
    have := ht n (by omega)
    have e' : wc t W n * 27 + ((t (W + n)).toInt - 96) = (0 : Int) := e
    omega
  | n + 1, m + 1, ht, hu, e => by
    have h1 := ht n (by omega)
    have h2 := hu m (by omega)
    have e' : wc t W n * 27 + ((t (W + n)).toInt - 96) = wc u V m * 27 + ((u (V + m)).toInt - 96) := e
    obtain ⟨a, b⟩ := wc_inj n m (fun k hk => ht k (by omega)) (fun k hk => hu k (by omega)) (by omega)
    subst a
    refine ⟨rfl, fun k hk => ?_⟩
    by_cases hkn : k = n
    · subst hkn
      exact Int32.toInt_inj.mp (by omega)
    · exact b k (by omega)
theorem isLet_c {c : Int32} : (97 ≤ c ∧ c ≤ 122) ↔ let1 c := by
  rw [Int32.le_iff_toInt_le, Int32.le_iff_toInt_le, show (97 : Int32).toInt = 97 from by decide, show (122 : Int32).toInt = 122 from by decide]
theorem lt_v {T S : MS} {L P W n : Nat} {c : Int64} (h : lk L P T S) (hP : P < L) (h38 : S.1 38 = nI W) (hn : P = W + n) (hl : ∀ k, k < n → let1 (T.2.2.1 22 (W + k))) (hc : let1 (cat T)) (e : n ≤ 12 → c.toInt = wc (T.2.2.1 22) W n) : n + 1 ≤ 12 → (lt2 S c).toInt = wc (T.2.2.1 22) W (n + 1) := by
  intro h12
  have e1 := e (by omega)
  have hL := h.2.1
  have h39 := h.2.2.2.2.2.1
  obtain ⟨b1, b2⟩ := wc_b n hl
  have b3 : (27 : Int) ^ n ≤ 27 ^ 11 := by
    exact_mod_cast Nat.pow_le_pow_right (by decide : 0 < 27) (by omega : n ≤ 11)
  have b4 : (27 : Int) ^ 11 = 5559060566555523 := by decide
  unfold lt2 lt1
  rw [h39, h38, pk_sub (by omega), hn, Nat.add_sub_cancel_left]
  rw [if_pos (by rw [show (12 : Int32) = nI 12 from by decide, nI_ltI (by omega) (by decide)]; omega), if_neg (fun q : (12 : Int32) ≤ nI n => absurd ((nI_leI (a := 12) (b := n) (by decide) (by omega)).mp q) (by omega))]
  rw [← hn, ← h39, ← lk_at h]
  rw [(lk_c h hP).1] at hc ⊢
  have e27 : (27 : Int64).toInt = 27 := by decide
  have e96 : (96 : Int64).toInt = 96 := by decide
  have m1 : (c * 27).toInt = c.toInt * 27 := by rw [L_mul (by rw [e27]; omega) (by rw [e27]; omega), e27]
  have m2 : (c * 27 + (T.2.2.1 22 P).toInt64).toInt = c.toInt * 27 + (T.2.2.1 22 P).toInt := by
    rw [L_add (by rw [m1, Int32.toInt_toInt64]; omega) (by rw [m1, Int32.toInt_toInt64]; omega), m1, Int32.toInt_toInt64]
  rw [L_sub (by rw [m2, e96]; omega) (by rw [m2, e96]; omega), m2, e96, e1]
  show _ = wc (T.2.2.1 22) W n * 27 + ((T.2.2.1 22 (W + n)).toInt - 96)
  rw [← hn]
  omega
theorem lt_lk {L W : Nat} : ∀ (f : Nat) {T S : MS} {P n : Nat} {c : Int64}, lk L P T S → L - P < f → S.1 38 = nI W → P = W + n → (∀ k, k < n → let1 (T.2.2.1 22 (W + k))) → (n ≤ 12 → c.toInt = wc (T.2.2.1 22) W n) → ∃ m c', n ≤ m ∧ W + m ≤ L ∧ cltR f T = sI T 23 (nI (W + m)) ∧ ltR f c S = (c', sI S 39 (nI (W + m))) ∧ (m ≤ 12 → c'.toInt = wc (T.2.2.1 22) W m) ∧ ∀ k, k < m → let1 (T.2.2.1 22 (W + k))
  | 0, _, _, _, _, _, _, hf, _, _, _, _ => absurd hf (Nat.not_lt_zero _)
  | f + 1, T, S, P, n, c, h, hf, h38, hn, hl, he => by
    unfold cltR ltR
    have ha : isLet S ↔ cLet T := by
      show (97 ≤ mat S (S.1 39) ∧ mat S (S.1 39) ≤ 122) ↔ (97 ≤ cat T ∧ cat T ≤ 122)
      rw [lk_at h]
    by_cases hc : cLet T
    · have hl1 : let1 (cat T) := isLet_c.mp hc
      have hP := lk_in h (fun q => by rw [q] at hl1; exact absurd hl1 (by decide))
      have hv := lt_v h hP h38 hn hl hl1 he
      rw [(lk_c h hP).1] at hl1
      obtain ⟨m, c', q1, q2, q3, q4, q5, q6⟩ := lt_lk (W := W) f (n := n + 1) (c := lt2 S c) (lk_st h hP) (by omega) h38 (by omega) (fun k hk => by
        by_cases hkn : k = n
        · subst hkn
          rw [← hn]
          exact hl1
        · exact hl k (by omega)) hv
      rw [if_pos hc, if_pos (ha.mpr hc)]
      exact ⟨m, c', by omega, q2, q3.trans (sI_sI _ _ _ _), q4.trans (by rw [sI_sI]), q5, q6⟩
    · rw [if_neg hc, if_neg (fun q => hc (ha.mp q))]
      subst hn
      exact ⟨n, c, Nat.le_refl n, h.1, sI_self _ h.2.2.2.2.1, by rw [← sI_self _ h.2.2.2.2.2.1], he, hl⟩
/-- figures -/
def nvR (v w : Int32) : Prop := (0 ≤ w.toInt ∧ w.toInt ≤ 999999 ∧ v = w) ∨ (999999 < w.toInt ∧ 999999 < v.toInt ∧ v.toInt ≤ 1000000)
theorem isFig_c {c : Int32} : (48 ≤ c ∧ c ≤ 57) ↔ (48 ≤ c.toInt ∧ c.toInt ≤ 57) := by
  rw [Int32.le_iff_toInt_le, Int32.le_iff_toInt_le, show (48 : Int32).toInt = 48 from by decide, show (57 : Int32).toInt = 57 from by decide]
theorem nu_v {d v w : Int32} (hd : 48 ≤ d.toInt ∧ d.toInt ≤ 57) (h : nvR v w) : nvR (if 1000000 < v * 10 + (d - 48) then 1000000 else v * 10 + (d - 48)) (if w ≤ 999999 then 10 * w + d - 48 else w) := by
  have e10 : (10 : Int32).toInt = 10 := by decide
  have e48 : (48 : Int32).toInt = 48 := by decide
  have e9 : (999999 : Int32).toInt = 999999 := by decide
  have e6 : (1000000 : Int32).toInt = 1000000 := by decide
  have d1 : (d - 48).toInt = d.toInt - 48 := by rw [I_sub (by rw [e48]; omega) (by rw [e48]; omega), e48]
  have hv : 0 ≤ v.toInt ∧ v.toInt ≤ 1000000 := by
    rcases h with ⟨a, b, rfl⟩ | ⟨a, b, c⟩ <;> omega
  have v1 : (v * 10).toInt = v.toInt * 10 := by rw [I_mul (by rw [e10]; omega) (by rw [e10]; omega), e10]
  have v2 : (v * 10 + (d - 48)).toInt = v.toInt * 10 + (d.toInt - 48) := by rw [I_add (by rw [v1, d1]; omega) (by rw [v1, d1]; omega), v1, d1]
  rcases h with ⟨a, b, rfl⟩ | ⟨a, b, c⟩
  · have w2 : 10 * v + d - 48 = v * 10 + (d - 48) := by
      rw [Int32.mul_comm, Int32.sub_eq_add_neg, Int32.add_assoc, ← Int32.sub_eq_add_neg]
    rw [if_pos (show v ≤ 999999 from by rw [Int32.le_iff_toInt_le, e9]; omega), w2]
    by_cases hc : 1000000 < v * 10 + (d - 48)
    · have hc' := hc
      rw [Int32.lt_iff_toInt_lt, e6, v2] at hc'
      rw [if_pos hc]
      exact Or.inr ⟨by rw [v2]; omega, by rw [e6]; decide, by rw [e6]; decide⟩
    · have hc' := hc
      rw [Int32.lt_iff_toInt_lt, e6, v2] at hc'
      rw [if_neg hc]
      by_cases h9 : v.toInt * 10 + (d.toInt - 48) ≤ 999999
      · exact Or.inl ⟨by rw [v2]; omega, by rw [v2]; omega, rfl⟩
      · exact Or.inr ⟨by rw [v2]; omega, by rw [v2]; omega, by rw [v2]; omega⟩
  · rw [if_neg (show ¬ w ≤ 999999 from by rw [Int32.le_iff_toInt_le, e9]; omega), if_pos (show 1000000 < v * 10 + (d - 48) from by rw [Int32.lt_iff_toInt_lt, e6, v2]; omega)]
    exact Or.inr ⟨a, by rw [e6]; decide, by rw [e6]; decide⟩
theorem sI4 (S : MS) (a b c d : Int32) : sI (sI (sI (sI S 41 a) 39 b) 41 c) 39 d = sI (sI S 41 c) 39 d := by
  rw [sI_comm (sI S 41 a) (by decide) b c, sI_sI, sI_sI]
theorem nu_lk {L : Nat} : ∀ (f : Nat) {T S : MS} {P : Nat} {v : Int32}, lk L P T S → L - P < f → nvR v (S.1 41) → ∃ Q v' w', P ≤ Q ∧ Q ≤ L ∧ cnuR f v T = (v', sI T 23 (nI Q)) ∧ fgR f S = sI (sI S 41 w') 39 (nI Q) ∧ nvR v' w'
  | 0, _, _, _, _, _, hf, _ => absurd hf (Nat.not_lt_zero _)
  | f + 1, T, S, P, v, h, hf, hv => by
    unfold cnuR fgR
    have ha : isFig S ↔ cFig T := by
      show (48 ≤ mat S (S.1 39) ∧ mat S (S.1 39) ≤ 57) ↔ (48 ≤ cat T ∧ cat T ≤ 57)
      rw [lk_at h]
    by_cases hc : cFig T
    · have hl1 := isFig_c.mp hc
      have hP := lk_in h (fun q => by rw [q] at hl1; exact absurd hl1 (by decide))
      have h23 := h.2.2.2.2.1
      have hL := h.2.1
      have e1 : cnv T v = (if 1000000 < v * 10 + (cat T - 48) then 1000000 else v * 10 + (cat T - 48)) := by
        unfold cnv
        rw [h23, nI_clamp (by omega), (lk_c h hP).1]
      have e2 : fgv S = (if S.1 41 ≤ 999999 then 10 * S.1 41 + cat T - 48 else S.1 41) := by
        unfold fgv
        rw [lk_at h]
      have hn := nu_v hl1 hv
      rw [← e1, ← e2] at hn
      have hk := lk_st h hP
      have hk' : lk L (P + 1) (sI T 23 (T.1 23 + 1)) (fgN S) := hk
      obtain ⟨Q, v', w', q1, q2, q3, q4, q5⟩ := nu_lk f hk' (by omega) (v := cnv T v) hn
      rw [if_pos hc, if_pos (ha.mpr hc)]
      refine ⟨Q, v', w', by omega, q2, q3.trans (by rw [sI_sI]), q4.trans ?_, q5⟩
      unfold fgN
      exact sI4 S _ _ _ _
    · rw [if_neg hc, if_neg (fun q => hc (ha.mp q))]
      exact ⟨P, v, S.1 41, Nat.le_refl P, h.1, by rw [← sI_self _ h.2.2.2.2.1], by rw [← sI_self S rfl, ← sI_self _ h.2.2.2.2.2.1], hv⟩
/-- words -/
def tkP (a n b w : Int32) : Prop := (a = 8 ↔ b = 2) ∧ (a = 9 ↔ b = 3) ∧ (a = 10 ↔ b = 4) ∧ (a = 11 ↔ b = 5) ∧ (a < 5 ↔ b = 6) ∧ (a < 5 → a = w) ∧ (a = 5 ↔ b = 60) ∧ (a = 6 ↔ b = 61) ∧ (a = 7 ↔ b = 62) ∧ (a = 12 ↔ b = 59) ∧ ((a = 13 ∧ n ≤ 999999) ↔ b = 7) ∧ (b = 7 → n = w) ∧ (a = 14 ↔ b = 0)
def tkN (a b : Int32) : Bool := decide ((a = 8 ↔ b = 2) ∧ (a = 9 ↔ b = 3) ∧ (a = 10 ↔ b = 4) ∧ (a = 11 ↔ b = 5) ∧ (a < 5 ↔ b = 6) ∧ (a = 5 ↔ b = 60) ∧ (a = 6 ↔ b = 61) ∧ (a = 7 ↔ b = 62) ∧ (a = 12 ↔ b = 59) ∧ ¬ a = 13 ∧ ¬ b = 7 ∧ (a = 14 ↔ b = 0))
theorem tk_N {a b n w : Int32} (h : tkN a b = true) (hw : a < 5 → a = w) : tkP a n b w := by
  obtain ⟨a1, a2, a3, a4, a5, a6, a7, a8, a9, b1, b2, b3⟩ := of_decide_eq_true h
  exact ⟨a1, a2, a3, a4, a5, hw, a6, a7, a8, a9, ⟨fun q => absurd q.1 b1, fun q => absurd q b2⟩, fun q => absurd q b2, b3⟩
theorem tk_13 {v w : Int32} (h : nvR v w) : tkP 13 v (if w ≤ 999999 then 7 else 1) w := by
  have e9 : (999999 : Int32).toInt = 999999 := by decide
  rcases h with ⟨a, b, rfl⟩ | ⟨a, b, c⟩
  · have hw : v ≤ 999999 := by rw [Int32.le_iff_toInt_le, e9]; omega
    rw [if_pos hw]
    exact ⟨by decide, by decide, by decide, by decide, by decide, fun q => absurd q (by decide), by decide, by decide, by decide, by decide, ⟨fun _ => rfl, fun _ => ⟨rfl, hw⟩⟩, fun _ => rfl, by decide⟩
  · have hw : ¬ w ≤ 999999 := by rw [Int32.le_iff_toInt_le, e9]; omega
    have hv : ¬ v ≤ 999999 := by rw [Int32.le_iff_toInt_le, e9]; omega
    rw [if_neg hw]
    exact ⟨by decide, by decide, by decide, by decide, by decide, fun q => absurd q (by decide), by decide, by decide, by decide, by decide, ⟨fun q => absurd q.2 hv, fun q => absurd q (by decide)⟩, fun q => absurd q (by decide), by decide⟩
theorem wc_cg {t u : Nat → Int32} {W V : Nat} : ∀ n, (∀ k, k < n → t (W + k) = u (V + k)) → wc t W n = wc u V n
  | 0, _ => rfl
  | n + 1, h => by
    show wc t W n * 27 + _ = wc u V n * 27 + _
    rw [wc_cg n (fun k hk => h k (by omega)), h n (by omega)]
theorem sCh_let : ∀ i, i < 9 → ∀ k, k < sLen.getD i 0 → let1 (sCh i (0 + k)) := by decide +kernel
theorem sLen_le : ∀ i, i < 9 → sLen.getD i 0 ≤ 6 := by decide
theorem csp_iff {T : MS} {W m i : Nat} (h23 : T.1 23 = nI (W + m)) (h25 : T.1 25 = nI W) (hm : W + m ≤ 400) (hl : ∀ k, k < m → let1 (T.2.2.1 22 (W + k))) (hi : i < 9) : csp T i ↔ wc (T.2.2.1 22) W m = wc (sCh i) 0 (sLen.getD i 0) := by
  have h6 := sLen_le i hi
  unfold csp
  rw [h23, h25, pk_sub (by omega), Nat.add_sub_cancel_left, nI_clamp (by omega), nI_eq (by omega) (by omega)]
  constructor
  · rintro ⟨rfl, q⟩
    exact wc_cg _ (fun k hk => by rw [q k hk, Nat.zero_add])
  · intro e
    obtain ⟨a, b⟩ := wc_inj _ _ hl (sCh_let i hi) e
    exact ⟨a, fun k hk => by rw [b k (by omega), Nat.zero_add]⟩
def wK (i : Nat) : Int64 := [46309, 131360, 249, 1111, 237470, 21568592, 168850, 223456, 365260].getD i 0
theorem wK_eq : ∀ i, i < 9 → wc (sCh i) 0 (sLen.getD i 0) = (wK i).toInt := by decide +kernel
theorem csp_K {T : MS} {W m i : Nat} {c : Int64} (h23 : T.1 23 = nI (W + m)) (h25 : T.1 25 = nI W) (hm : W + m ≤ 400) (hl : ∀ k, k < m → let1 (T.2.2.1 22 (W + k))) (hc : c.toInt = wc (T.2.2.1 22) W m) (hi : i < 9) : csp T i ↔ c = wK i := by
  rw [csp_iff h23 h25 hm hl hi, wK_eq i hi, ← hc]
  exact Int64.toInt_inj
theorem csp_no {T : MS} {W m i : Nat} (h23 : T.1 23 = nI (W + m)) (h25 : T.1 25 = nI W) (hm : W + m ≤ 400) (h12 : 12 < m) (hi : i < 9) : ¬ csp T i := by
  have h6 := sLen_le i hi
  unfold csp
  rw [h23, h25, pk_sub (by omega), Nat.add_sub_cancel_left, nI_eq (by omega) (by omega)]
  intro q
  omega
theorem cwd_no {T : MS} (h : ∀ i, i < 9 → ¬ csp T i) : cwd T = 15 := by
  unfold cwd
  rw [if_neg (h 0 (by decide)), if_neg (h 1 (by decide)), if_neg (h 2 (by decide)), if_neg (h 3 (by decide)), if_neg (h 4 (by decide)), if_neg (h 5 (by decide)), if_neg (h 6 (by decide)), if_neg (h 7 (by decide)), if_neg (h 8 (by decide))]
theorem wd_lk {T S : MS} {c : Int64} {n : Int32} (h : ∀ i, i < 9 → (csp T i ↔ c = wK i)) : ∃ a b w, cwd T = a ∧ (mwd S c).1 = b ∧ ((mwd S c).2 = S ∧ w = S.1 41 ∨ (mwd S c).2 = sI S 41 w) ∧ tkP a n b w := by
  unfold cwd mwd
  have z0 : csp T 0 ↔ c = 46309 := h 0 (by decide)
  have z1 : csp T 1 ↔ c = 131360 := h 1 (by decide)
  have z2 : csp T 2 ↔ c = 249 := h 2 (by decide)
  have z3 : csp T 3 ↔ c = 1111 := h 3 (by decide)
  have z4 : csp T 4 ↔ c = 237470 := h 4 (by decide)
  have z5 : csp T 5 ↔ c = 21568592 := h 5 (by decide)
  have z6 : csp T 6 ↔ c = 168850 := h 6 (by decide)
  have z7 : csp T 7 ↔ c = 223456 := h 7 (by decide)
  have z8 : csp T 8 ↔ c = 365260 := h 8 (by decide)
  by_cases h0 : csp T 0
  · rw [if_pos h0, if_pos (z0.mp h0)]
    exact ⟨8, 2, _, rfl, rfl, Or.inl ⟨rfl, rfl⟩, tk_N (by decide) (fun q => absurd q (by decide))⟩
  · rw [if_neg h0, if_neg (fun q => h0 (z0.mpr q))]
    by_cases h1 : csp T 1
    · rw [if_pos h1, if_pos (z1.mp h1)]
      exact ⟨9, 3, _, rfl, rfl, Or.inl ⟨rfl, rfl⟩, tk_N (by decide) (fun q => absurd q (by decide))⟩
    · rw [if_neg h1, if_neg (fun q => h1 (z1.mpr q))]
      by_cases h2 : csp T 2
      · rw [if_pos h2, if_pos (z2.mp h2)]
        exact ⟨10, 4, _, rfl, rfl, Or.inl ⟨rfl, rfl⟩, tk_N (by decide) (fun q => absurd q (by decide))⟩
      · rw [if_neg h2, if_neg (fun q => h2 (z2.mpr q))]
        by_cases h3 : csp T 3
        · rw [if_pos h3, if_pos (z3.mp h3)]
          exact ⟨11, 5, _, rfl, rfl, Or.inl ⟨rfl, rfl⟩, tk_N (by decide) (fun q => absurd q (by decide))⟩
        · rw [if_neg h3, if_neg (fun q => h3 (z3.mpr q))]
          by_cases h4 : csp T 4
          · rw [if_pos h4, if_pos (z4.mp h4)]
            exact ⟨0, 6, 0, rfl, rfl, Or.inr rfl, tk_N (by decide) (fun q => rfl)⟩
          · rw [if_neg h4, if_neg (fun q => h4 (z4.mpr q))]
            by_cases h5 : csp T 5
            · rw [if_pos h5, if_pos (z5.mp h5)]
              exact ⟨1, 6, 1, rfl, rfl, Or.inr rfl, tk_N (by decide) (fun q => rfl)⟩
            · rw [if_neg h5, if_neg (fun q => h5 (z5.mpr q))]
              by_cases h6 : csp T 6
              · rw [if_pos h6, if_pos (z6.mp h6)]
                exact ⟨2, 6, 2, rfl, rfl, Or.inr rfl, tk_N (by decide) (fun q => rfl)⟩
              · rw [if_neg h6, if_neg (fun q => h6 (z6.mpr q))]
                by_cases h7 : csp T 7
                · rw [if_pos h7, if_pos (z7.mp h7)]
                  exact ⟨3, 6, 3, rfl, rfl, Or.inr rfl, tk_N (by decide) (fun q => rfl)⟩
                · rw [if_neg h7, if_neg (fun q => h7 (z7.mpr q))]
                  by_cases h8 : csp T 8
                  · rw [if_pos h8, if_pos (z8.mp h8)]
                    exact ⟨4, 6, 4, rfl, rfl, Or.inr rfl, tk_N (by decide) (fun q => rfl)⟩
                  · rw [if_neg h8, if_neg (fun q => h8 (z8.mpr q))]
                    exact ⟨15, 1, _, rfl, rfl, Or.inl ⟨rfl, rfl⟩, tk_N (by decide) (fun q => absurd q (by decide))⟩
/-- both stand at the same word -/
def tk (T S : MS) : Prop := tkP (T.1 24) (T.1 26) (S.1 40) (S.1 41)
def st (T S : MS) : Prop := ∃ W, W ≤ 400 ∧ T.1 25 = nI W ∧ S.1 38 = nI W
theorem sg_lk : ∀ c n w, tkP (csg c) n (sgW c) w := by
  intro c n w
  unfold csg sgW
  by_cases h0 : c = 60
  · rw [if_pos h0, if_pos h0, h0]; exact tk_N (by decide) (fun q => absurd q (by decide))
  · rw [if_neg h0, if_neg h0]
    by_cases h1 : c = 61
    · rw [if_pos h1, if_pos h1, h1]; exact tk_N (by decide) (fun q => absurd q (by decide))
    · rw [if_neg h1, if_neg h1]
      by_cases h2 : c = 62
      · rw [if_pos h2, if_pos h2, h2]; exact tk_N (by decide) (fun q => absurd q (by decide))
      · rw [if_neg h2, if_neg h2]
        by_cases h3 : c = 59
        · rw [if_pos h3, if_pos h3, h3]; exact tk_N (by decide) (fun q => absurd q (by decide))
        · rw [if_neg h3, if_neg h3]; exact tk_N (by decide) (fun q => absurd q (by decide))
theorem nx_w {L P : Nat} {T S : MS} (h : lk L P T S) (h25 : T.1 25 = nI P) (h38 : S.1 38 = nI P) : ∃ P', P ≤ P' ∧ lk L P' (sI (cltR 401 T) 24 (cwd (cltR 401 T))) (mf_letters S) ∧ tk (sI (cltR 401 T) 24 (cwd (cltR 401 T))) (mf_letters S) ∧ st (sI (cltR 401 T) 24 (cwd (cltR 401 T))) (mf_letters S) := by
  have hL := h.2.1
  obtain ⟨m, c', q1, q2, q3, q4, q5, q6⟩ := lt_lk (W := P) 401 (n := 0) (c := 0) h (by omega) h38 rfl (fun k hk => absurd hk (Nat.not_lt_zero k)) (fun _ => rfl)
  unfold mf_letters
  rw [q3, q4]
  unfold ltE
  have e23 : (sI T 23 (nI (P + m))).1 23 = nI (P + m) := rfl
  have e25 : (sI T 23 (nI (P + m))).1 25 = nI P := h25
  have e39 : ((c', sI S 39 (nI (P + m))) : Int64 × MS).2.1 39 - ((c', sI S 39 (nI (P + m))) : Int64 × MS).2.1 38 = nI m := by
    show nI (P + m) - S.1 38 = nI m
    rw [h38, pk_sub (by omega), Nat.add_sub_cancel_left]
  rw [e39]
  have lkx : ∀ (a b : Int32) (X : MS), (X = sI S 39 (nI (P + m)) ∨ ∃ w, X = sI (sI S 39 (nI (P + m))) 41 w) → lk L (P + m) (sI (sI T 23 (nI (P + m))) 24 a) (sI X 40 b) ∧ st (sI (sI T 23 (nI (P + m))) 24 a) (sI X 40 b) := by
    intro a b X hX
    rcases hX with rfl | ⟨w, rfl⟩
    · exact ⟨⟨q2, h.2.1, h.2.2.1, h.2.2.2.1, rfl, rfl, h.2.2.2.2.2.2⟩, ⟨P, by omega, h25, h38⟩⟩
    · exact ⟨⟨q2, h.2.1, h.2.2.1, h.2.2.2.1, rfl, rfl, h.2.2.2.2.2.2⟩, ⟨P, by omega, h25, h38⟩⟩
  by_cases h12 : m ≤ 12
  · rw [if_pos (show nI m ≤ (12 : Int32) from (nI_leI (a := m) (b := 12) (by omega) (by decide)).mpr h12)]
    obtain ⟨a, b, w, w1, w2, w3, w4⟩ := wd_lk (T := sI T 23 (nI (P + m))) (S := sI S 39 (nI (P + m))) (c := c') (n := T.1 26) (fun i hi => csp_K e23 e25 (by omega) q6 (q5 h12) hi)
    show ∃ P', P ≤ P' ∧ lk L P' (sI (sI T 23 (nI (P + m))) 24 (cwd (sI T 23 (nI (P + m))))) (sI (mwd (sI S 39 (nI (P + m))) c').2 40 (mwd (sI S 39 (nI (P + m))) c').1) ∧ tk (sI (sI T 23 (nI (P + m))) 24 (cwd (sI T 23 (nI (P + m))))) (sI (mwd (sI S 39 (nI (P + m))) c').2 40 (mwd (sI S 39 (nI (P + m))) c').1) ∧ st (sI (sI T 23 (nI (P + m))) 24 (cwd (sI T 23 (nI (P + m))))) (sI (mwd (sI S 39 (nI (P + m))) c').2 40 (mwd (sI S 39 (nI (P + m))) c').1)
    rw [w1, w2]
    generalize (mwd (sI S 39 (nI (P + m))) c').2 = X at w3
    have hX : X = sI S 39 (nI (P + m)) ∨ ∃ w, X = sI (sI S 39 (nI (P + m))) 41 w := by
      rcases w3 with ⟨a, -⟩ | a
      · exact Or.inl a
      · exact Or.inr ⟨w, a⟩
    have hw : (sI X 40 b).1 41 = w := by
      rcases w3 with ⟨rfl, e⟩ | rfl
      · exact e.symm
      · rfl
    refine ⟨P + m, by omega, (lkx a b X hX).1, ?_, (lkx a b X hX).2⟩
    show tkP a (T.1 26) b ((sI X 40 b).1 41)
    rw [hw]
    exact w4
  · rw [if_neg (fun q : nI m ≤ (12 : Int32) => h12 ((nI_leI (a := m) (b := 12) (by omega) (by decide)).mp q)), cwd_no (fun i hi => csp_no e23 e25 (by omega) (by omega) hi)]
    refine ⟨P + m, by omega, (lkx 15 1 _ (Or.inl rfl)).1, ?_, (lkx 15 1 _ (Or.inl rfl)).2⟩
    exact tk_N (a := 15) (b := 1) (by decide) (fun q => absurd q (by decide))
theorem nx_f {L P : Nat} {T S : MS} (h : lk L P T S) (h24 : T.1 24 = 13) (h25 : T.1 25 = nI P) (h38 : S.1 38 = nI P) (h41 : S.1 41 = 0) : ∃ P', P ≤ P' ∧ lk L P' (cnE (cnuR 401 0 T)) (fgE (fgR 401 S)) ∧ tk (cnE (cnuR 401 0 T)) (fgE (fgR 401 S)) ∧ st (cnE (cnuR 401 0 T)) (fgE (fgR 401 S)) := by
  have hL := h.2.1
  obtain ⟨Q, v', w', q1, q2, q3, q4, q5⟩ := nu_lk 401 h (by omega) (v := 0) (Or.inl ⟨by rw [h41]; decide, by rw [h41]; decide, h41.symm⟩)
  rw [q3, q4]
  refine ⟨Q, q1, ⟨q2, h.2.1, h.2.2.1, h.2.2.2.1, rfl, rfl, h.2.2.2.2.2.2⟩, ?_, ⟨P, by omega, h25, h38⟩⟩
  have := tk_13 q5
  rw [← h24] at this
  exact this
theorem nx_s {L P : Nat} {T S : MS} (h : lk L P T S) (hP : P < L) (h25 : T.1 25 = nI P) (h38 : S.1 38 = nI P) : ∃ P', P ≤ P' ∧ lk L P' (csE T) (sgE S) ∧ tk (csE T) (sgE S) ∧ st (csE T) (sgE S) := by
  have hL := h.2.1
  refine ⟨P + 1, by omega, lk_st h hP, ?_, ⟨P, by omega, h25, h38⟩⟩
  show tkP (csg (cat T)) (T.1 26) (sgW (mat S (S.1 39))) (S.1 41)
  rw [← lk_at h]
  exact sg_lk _ _ _
theorem nx_b {L P : Nat} {T S : MS} (h : lk L P T S) : ∃ P', P ≤ P' ∧ lk L P' (cnB T) (goB S) ∧ tk (cnB T) (goB S) ∧ st (cnB T) (goB S) := by
  have h' : lk L P (sI T 25 (T.1 23)) (goI S) := h
  have h'' : lk L P (sI (sI T 25 (T.1 23)) 24 13) (goI S) := h
  have e25 : (sI T 25 (T.1 23)).1 25 = nI P := h.2.2.2.2.1
  have e38 : (goI S).1 38 = nI P := h.2.2.2.2.2.1
  have hg : goc S = cat T := (lk_at h').symm
  have hPL := h.1
  have hL := h.2.1
  unfold cnB goB
  rw [hg]
  by_cases hP : P < L
  · have hz := (h.2.2.2.2.2.2 P hP).2
    rw [if_neg (show ¬ T.1 20 ≤ T.1 23 from by rw [h.2.2.1, h.2.2.2.2.1]; exact fun q => absurd ((nI_leI (by omega) (by omega)).mp q) (by omega))]
    rw [if_pos (show 0 ≤ cat T from by rw [(lk_c h hP).1, Int32.le_iff_toInt_le]; exact hz)]
    by_cases hl : cLet T
    · rw [if_pos hl, if_pos hl]
      exact nx_w h' e25 e38
    · rw [if_neg hl, if_neg hl]
      by_cases hf : cFig T
      · rw [if_pos hf, if_pos hf]
        exact nx_f h'' rfl e25 e38 rfl
      · rw [if_neg hf, if_neg hf]
        exact nx_s h' hP e25 e38
  · rw [if_pos (show T.1 20 ≤ T.1 23 from by rw [h.2.2.1, h.2.2.2.2.1]; exact (nI_leI (by omega) (by omega)).mpr (by omega))]
    rw [if_neg (show ¬ 0 ≤ cat T from by rw [(lk_e h hP).1]; decide)]
    exact ⟨P, Nat.le_refl P, h, tk_N (a := 14) (b := 0) (by decide) (fun q => absurd q (by decide)), ⟨P, by omega, e25, e38⟩⟩
theorem nx_lk {L P : Nat} {T S : MS} (h : lk L P T S) : ∃ P', P ≤ P' ∧ lk L P' (cnx T) (mf_go S) ∧ tk (cnx T) (mf_go S) ∧ st (cnx T) (mf_go S) := by
  have hL := h.2.1
  obtain ⟨Q, q1, q2, q3, q4⟩ := sk_lk 401 h (by omega)
  unfold cnx mf_go
  rw [q3, q4]
  have h' : lk L Q (sI T 23 (nI Q)) (sI S 39 (nI Q)) := ⟨q2, h.2.1, h.2.2.1, h.2.2.2.1, rfl, rfl, h.2.2.2.2.2.2⟩
  obtain ⟨P', p1, p2⟩ := nx_b h'
  exact ⟨P', by omega, p2⟩
/-! both parsers, step by step -/
def sgn2 (a b : Int32) : Prop := (a = 5 ∧ b = 60) ∨ (a = 6 ∧ b = 61) ∨ (a = 7 ∧ b = 62)
def te (R Q : Nat → Nat → Int32) (q : Nat) : Prop := (∃ f, f < 5 ∧ R 83 q = nI f ∧ Q 32 q = nI f) ∧ sgn2 (R 84 q) (Q 33 q) ∧ R 85 q = Q 34 q
def cln (R Q : Nat → Nat → Int32) (c k : Nat) : Prop := R 81 c = Q 30 c ∧ R 82 c = nI k ∧ Q 31 c = nI k ∧ ∀ j, j < k → te R Q (4 * c + j)
def cl1 (R Q : Nat → Nat → Int32) (c : Nat) : Prop := ∃ k, k ≤ 4 ∧ cln R Q c k
def cs0 (n : Nat) (a b : Int32) (R Q : Nat → Nat → Int32) : Prop := a = nI n ∧ b = nI n ∧ n ≤ 8 ∧ ∀ c, c < n → cl1 R Q c
def csd (n k : Nat) (a b : Int32) (R Q : Nat → Nat → Int32) : Prop := a = nI (n + 1) ∧ b = nI (n + 1) ∧ n < 8 ∧ k ≤ 4 ∧ cln R Q n k ∧ ∀ c, c < n → cl1 R Q c
theorem cs_done {n k : Nat} {a b : Int32} {R Q : Nat → Nat → Int32} (h : csd n k a b R Q) : cs0 (n + 1) a b R Q := by
  obtain ⟨h1, h2, h3, h4, h5, h6⟩ := h
  refine ⟨h1, h2, h3, fun c hc => ?_⟩
  by_cases e : c = n
  · rw [e]; exact ⟨k, h4, h5⟩
  · exact h6 c (by omega)
def gq (L : Nat) (T S : MS) : Prop := (∃ P, lk L P T S) ∧ tk T S ∧ st T S ∧ (∃ q, q ≤ 15 ∧ T.1 24 = nI q) ∧ S.2.1 37 = -1
def jq (L n k : Nat) (T S : MS) : Prop := gq L T S ∧ csd n k (T.1 80) (S.1 29) T.2.2.1 S.2.2.1
def jq0 (L n : Nat) (T S : MS) : Prop := gq L T S ∧ cs0 n (T.1 80) (S.1 29) T.2.2.1 S.2.2.1
def flt (T S : MS) : Prop := ∃ W, W ≤ 400 ∧ T.1 25 = nI W ∧ S.2.1 37 = (nI W).toInt64
theorem st_flt {T S : MS} (h : st T S) : flt T (mwr S) := by
  obtain ⟨W, a, b, c⟩ := h
  refine ⟨W, a, b, ?_⟩
  show (S.1 38).toInt64 = _
  rw [c]
theorem lk_tr {L P : Nat} {T S : MS} (h : lk L P T S) : trI T 401 := ⟨L, P, h.2.2.1, h.2.2.2.2.1, h.1, h.2.1, by have := h.2.1; omega⟩
theorem nxG {L : Nat} {T S : MS} (h : ∃ P, lk L P T S) (h37 : S.2.1 37 = -1) : gq L (cnx T) (mf_go S) ∧ (cnx T).2 = T.2 ∧ (mf_go S).2 = S.2 ∧ (cnx T).1 80 = T.1 80 ∧ (mf_go S).1 29 = S.1 29 := by
  obtain ⟨P, h⟩ := h
  obtain ⟨P', -, a, b, c⟩ := nx_lk h
  obtain ⟨-, d, e, f⟩ := cnx_sp (lk_tr h)
  obtain ⟨g, i⟩ := gx_go S
  exact ⟨⟨⟨P', a⟩, b, c, f, by rw [g]; exact h37⟩, d, g, e 80 (by decide) (by decide) (by decide) (by decide), i 29 (by decide) (by decide) (by decide) (by decide)⟩
theorem te_keep {R Q R' Q' : Nat → Nat → Int32} {q : Nat} (h : te R Q q) (e1 : R' 83 q = R 83 q) (e2 : R' 84 q = R 84 q) (e3 : R' 85 q = R 85 q) (e4 : Q' 32 q = Q 32 q) (e5 : Q' 33 q = Q 33 q) (e6 : Q' 34 q = Q 34 q) : te R' Q' q := by
  unfold te
  rw [e1, e2, e3, e4, e5, e6]
  exact h
def RR (L n k : Nat) (X Y : Int32 × MS) : Prop := (X.1 = 0 ∧ Y.1 = 0 ∧ flt X.2 Y.2) ∨ (X.1 = 1 ∧ Y.1 = 1 ∧ jq L n k X.2 Y.2)
/-- what a test writes -/
def wrR (R : Nat → Nat → Int32) (A n : Nat) (v g x c : Int32) : Nat → Nat → Int32 := fun q => if q = 82 then upd (R 82) n c else if q = 85 then upd (R 85) A x else if q = 84 then upd (R 84) A g else if q = 83 then upd (R 83) A v else R q
def wrQ (Q : Nat → Nat → Int32) (A n : Nat) (v g x c : Int32) : Nat → Nat → Int32 := fun q => if q = 31 then upd (Q 31) n c else if q = 34 then upd (Q 34) A x else if q = 33 then upd (Q 33) A g else if q = 32 then upd (Q 32) A v else Q q
theorem cs_wr {n k f : Nat} {a b : Int32} {R Q : Nat → Nat → Int32} {g g' x : Int32} (h : csd n k a b R Q) (hk : k < 4) (hf : f < 5) (hg : sgn2 g g') : csd n (k + 1) a b (wrR R (4 * n + k) n (nI f) g x (nI (k + 1))) (wrQ Q (4 * n + k) n (nI f) g' x (nI (k + 1))) := by
  obtain ⟨h1, h2, h3, h4, h5, h6⟩ := h
  have key : ∀ q, q < 4 * n + k → te R Q q → te (wrR R (4 * n + k) n (nI f) g x (nI (k + 1))) (wrQ Q (4 * n + k) n (nI f) g' x (nI (k + 1))) q := fun q hq t => te_keep t (if_neg (by omega)) (if_neg (by omega)) (if_neg (by omega)) (if_neg (by omega)) (if_neg (by omega)) (if_neg (by omega))
  refine ⟨h1, h2, h3, by omega, ⟨h5.1, if_pos rfl, if_pos rfl, fun j hj => ?_⟩, fun c hc => ?_⟩
  · by_cases e : j = k
    · subst e
      refine ⟨⟨f, hf, if_pos rfl, if_pos rfl⟩, ?_, (if_pos rfl : upd (R 85) (4 * n + j) x (4 * n + j) = x).trans (if_pos rfl : upd (Q 34) (4 * n + j) x (4 * n + j) = x).symm⟩
      show sgn2 (upd (R 84) (4 * n + j) g (4 * n + j)) (upd (Q 33) (4 * n + j) g' (4 * n + j))
      rw [updA_at, updA_at]
      exact hg
    · exact key _ (by omega) (h5.2.2.2 j (by omega))
  · obtain ⟨k', hk', c1, c2, c3, c4⟩ := h6 c hc
    exact ⟨k', hk', c1, (if_neg (by omega) : upd (R 82) n (nI (k + 1)) c = R 82 c).trans c2, (if_neg (by omega) : upd (Q 31) n (nI (k + 1)) c = Q 31 c).trans c3, fun j hj => key _ (by omega) (c4 j hj)⟩
theorem cat_wr {n k : Nat} {b : Int32} {T : MS} {Q : Nat → Nat → Int32} (h : csd n k (T.1 80) b T.2.2.1 Q) (hk : k < 4) (v g x : Int32) : (catT T v g x).1 = T.1 ∧ (catT T v g x).2.2.1 = wrR T.2.2.1 (4 * n + k) n v g x (nI (k + 1)) := by
  obtain ⟨h1, h2, h3, h4, ⟨h5, h6, h7, h8⟩, -⟩ := h
  have e1 : T.1 80 - 1 = nI n := by rw [h1, nI_pred]
  have eA : (catA T).toNatClampNeg = 4 * n + k := by
    unfold catA
    rw [e1, nI_clamp (by omega), h6, show (4 : Int32) = nI 4 from by decide, nI_mul, nI_add, nI_clamp (by omega)]
    omega
  unfold catT
  rw [e1, if_neg (show ¬ nI n < 0 from by rw [Int32.lt_iff_toInt_lt, nI_toInt (by omega)]; show ¬ (n : Int) < 0; omega), nI_clamp (by omega), h6, if_pos (show nI k < 4 from by rw [show (4 : Int32) = nI 4 from by decide, nI_ltI (by omega) (by decide)]; exact hk)]
  unfold cat3
  rw [eA]
  refine ⟨rfl, ?_⟩
  funext q
  show (if q = 82 then upd ((sA (sA (sA T 83 (4 * n + k) v) 84 (4 * n + k) g) 85 (4 * n + k) x).2.2.1 82) n ((sA (sA (sA T 83 (4 * n + k) v) 84 (4 * n + k) g) 85 (4 * n + k) x).2.2.1 82 n + 1) else if q = 85 then upd ((sA (sA T 83 (4 * n + k) v) 84 (4 * n + k) g).2.2.1 85) (4 * n + k) x else if q = 84 then upd ((sA T 83 (4 * n + k) v).2.2.1 84) (4 * n + k) g else if q = 83 then upd (T.2.2.1 83) (4 * n + k) v else T.2.2.1 q) = _
  unfold wrR
  have e9 : (sA (sA (sA T 83 (4 * n + k) v) 84 (4 * n + k) g) 85 (4 * n + k) x).2.2.1 82 n + 1 = nI (k + 1) := by
    show T.2.2.1 82 n + 1 = _
    rw [h6, nI_1]
  rw [e9]
  rfl
theorem mt_wr {n k : Nat} {a : Int32} {S : MS} {R : Nat → Nat → Int32} (h : csd n k a (S.1 29) R S.2.2.1) (hk : k < 4) : (mtA S).toNatClampNeg = 4 * n + k := by
  obtain ⟨h1, h2, h3, h4, ⟨h5, h6, h7, h8⟩, -⟩ := h
  unfold mtA
  rw [h2, nI_pred, nI_clamp (by omega), h7, show (4 : Int32) = nI 4 from by decide, nI_mul, nI_add, nI_clamp (by omega)]
theorem sgn_tk {T S : MS} (h : tk T S) : (T.1 24 = 5 ∨ T.1 24 = 6 ∨ T.1 24 = 7) ↔ (S.1 40 = 60 ∨ S.1 40 = 61 ∨ S.1 40 = 62) := by
  obtain ⟨-, -, -, -, -, -, a, b, c, -⟩ := h
  rw [a, b, c]
theorem sgn_of {T S : MS} (h : tk T S) (hc : T.1 24 = 5 ∨ T.1 24 = 6 ∨ T.1 24 = 7) : sgn2 (T.1 24) (S.1 40) := by
  obtain ⟨-, -, -, -, -, -, a, b, c, -⟩ := h
  rcases hc with q | q | q
  · exact Or.inl ⟨q, a.mp q⟩
  · exact Or.inr (Or.inl ⟨q, b.mp q⟩)
  · exact Or.inr (Or.inr ⟨q, c.mp q⟩)
theorem t3_lk {L n k f : Nat} {T S : MS} {g g' : Int32} {R Q : Nat → Nat → Int32} (hk : k < 4) (hf : f < 5) (hg : sgn2 g g') (h : gq L T S) (hc : csd n k (T.1 80) (S.1 29) R Q) (eR : T.2.2.1 = R) (eQ : S.2.2.1 = (sA (sA (S.1, S.2.1, Q, S.2.2.2) 32 (4 * n + k) (nI f)) 33 (4 * n + k) g').2.2.1) : RR L n (k + 1) (crt3 (nI f) g T) (mtT3 (4 * n + k) S) := by
  obtain ⟨hl, ht, hs, hq, h37⟩ := h
  have t7 := ht.2.2.2.2.2.2.2.2.2.2
  have hct : csd n k (T.1 80) (S.1 29) T.2.2.1 Q := by rw [eR]; exact hc
  unfold crt3 mtT3
  by_cases h13 : T.1 24 = 13 ∧ T.1 26 ≤ 999999
  · have h7 := t7.1.mp h13
    have h41 : T.1 26 = S.1 41 := t7.2.1 h7
    rw [if_pos h13.1, if_pos h13.2, if_pos h7]
    obtain ⟨w1, w2⟩ := cat_wr hct hk (nI f) g (T.1 26)
    have e29 : (S.1 29 - 1).toNatClampNeg = n := by rw [hc.2.1, nI_pred, nI_clamp (by have := hc.2.2.1; omega)]
    have w3 : (mtN (4 * n + k) S).2.2.1 = wrQ Q (4 * n + k) n (nI f) g' (T.1 26) (nI (k + 1)) := by
      unfold mtN
      rw [e29]
      have e9 : (sA S 34 (4 * n + k) (S.1 41)).2.2.1 31 n + 1 = nI (k + 1) := by
        show S.2.2.1 31 n + 1 = _
        rw [eQ]
        show Q 31 n + 1 = _
        rw [hc.2.2.2.2.1.2.2.1, nI_1]
      rw [e9, ← h41]
      funext q
      show (if q = 31 then upd ((sA S 34 (4 * n + k) (T.1 26)).2.2.1 31) n (nI (k + 1)) else if q = 34 then upd (S.2.2.1 34) (4 * n + k) (T.1 26) else S.2.2.1 q) = _
      have e31 : (sA S 34 (4 * n + k) (T.1 26)).2.2.1 31 = Q 31 := by
        show S.2.2.1 31 = Q 31
        rw [eQ]
        rfl
      have e34 : S.2.2.1 34 = Q 34 := by
        rw [eQ]
        rfl
      rw [e31, e34, eQ]
      rfl
    have hlk : ∃ P, lk L P (catT T (nI f) g (T.1 26)) (mtN (4 * n + k) S) := by
      obtain ⟨P, p1, p2, p3, p4, p5, p6, p7⟩ := hl
      refine ⟨P, p1, p2, by rw [w1]; exact p3, p4, by rw [w1]; exact p5, p6, fun j hj => ?_⟩
      rw [w2]
      exact p7 j hj
    obtain ⟨x1, x2, x3, x4, x5⟩ := nxG hlk (show (mtN (4 * n + k) S).2.1 37 = -1 from h37)
    generalize cnx (catT T (nI f) g (T.1 26)) = X at x1 x2 x4
    generalize mf_go (mtN (4 * n + k) S) = Y at x1 x3 x5
    refine Or.inr ⟨rfl, rfl, x1, ?_⟩
    show csd n (k + 1) (X.1 80) (Y.1 29) X.2.2.1 Y.2.2.1
    rw [x2, x3, x4, x5, w1, w2, w3]
    exact cs_wr hct hk hf hg
  · rw [if_neg (fun q => h13 (t7.1.mpr q))]
    have hF : RR L n (k + 1) (0, T) (0, mwr S) := Or.inl ⟨rfl, rfl, st_flt hs⟩
    by_cases h1 : T.1 24 = 13
    · rw [if_pos h1, if_neg (fun q => h13 ⟨h1, q⟩)]
      exact hF
    · rw [if_neg h1]
      exact hF
theorem t2_lk {L n k f : Nat} {T S : MS} {R Q : Nat → Nat → Int32} (hk : k < 4) (hf : f < 5) (h : gq L T S) (hc : csd n k (T.1 80) (S.1 29) R Q) (eR : T.2.2.1 = R) (eQ : S.2.2.1 = (sA (S.1, S.2.1, Q, S.2.2.2) 32 (4 * n + k) (nI f)).2.2.1) : RR L n (k + 1) (crt2 (nI f) T) (mtT2 (4 * n + k) S) := by
  obtain ⟨hl, ht, hs, hq, h37⟩ := h
  unfold crt2 mtT2
  by_cases hg : T.1 24 = 5 ∨ T.1 24 = 6 ∨ T.1 24 = 7
  · rw [if_pos hg, if_pos ((sgn_tk ht).mp hg)]
    have hlk : ∃ P, lk L P T (sA S 33 (4 * n + k) (S.1 40)) := hl
    obtain ⟨x1, x2, x3, x4, x5⟩ := nxG hlk (show (sA S 33 (4 * n + k) (S.1 40)).2.1 37 = -1 from h37)
    have hsg := sgn_of ht hg
    generalize T.1 24 = g at hsg
    generalize S.1 40 = g' at *
    generalize cnx T = X at *
    generalize mf_go (sA S 33 (4 * n + k) g') = Y at *
    refine t3_lk hk hf hsg x1 (R := R) (Q := Q) ?_ (by rw [x2]; exact eR) ?_
    · rw [x4, x5]; exact hc
    · rw [x3]
      funext q
      show (if q = 33 then upd (S.2.2.1 33) (4 * n + k) g' else S.2.2.1 q) = _
      rw [eQ]
      rfl
  · rw [if_neg hg, if_neg (fun q => hg ((sgn_tk ht).mpr q))]
    exact Or.inl ⟨rfl, rfl, st_flt hs⟩
theorem t_lk {L n k : Nat} {T S : MS} (hk : k < 4) (h : jq L n k T S) : RR L n (k + 1) (crt T) (mf_test S) := by
  obtain ⟨⟨hl, ht, hs, ⟨q9, hq9, eq9⟩, h37⟩, hc⟩ := h
  obtain ⟨t5, t6⟩ : (T.1 24 < 5 ↔ S.1 40 = 6) ∧ (T.1 24 < 5 → T.1 24 = S.1 41) := ⟨ht.2.2.2.2.1, ht.2.2.2.2.2.1⟩
  have hA := mt_wr hc hk
  unfold crt mf_test
  rw [hA]
  by_cases h5 : T.1 24 < 5
  · rw [if_pos h5, if_pos (t5.mp h5), ← t6 h5]
    have hf : q9 < 5 := by
      rw [eq9, show (5 : Int32) = nI 5 from by decide, nI_ltI (by omega) (by decide)] at h5
      exact h5
    rw [eq9]
    have hlk : ∃ P, lk L P T (sA S 32 (4 * n + k) (nI q9)) := hl
    obtain ⟨x1, x2, x3, x4, x5⟩ := nxG hlk (show (sA S 32 (4 * n + k) (nI q9)).2.1 37 = -1 from h37)
    generalize cnx T = X at *
    generalize mf_go (sA S 32 (4 * n + k) (nI q9)) = Y at *
    refine t2_lk hk hf x1 (R := T.2.2.1) (Q := S.2.2.1) ?_ (by rw [x2]) ?_
    · rw [x4, x5]; exact hc
    · rw [x3]
      rfl
  · rw [if_neg h5, if_neg (fun q => h5 (t5.mpr q))]
    exact Or.inl ⟨rfl, rfl, st_flt hs⟩
/-- a clause: the class looks at its end, the reference later -/
def RC (L n : Nat) (X Y : Int32 × MS) : Prop := (X.1 = 0 ∧ Y.1 = 0 ∧ flt X.2 Y.2) ∨ (X.1 = cend X.2 ∧ Y.1 = 1 ∧ jq0 L (n + 1) X.2 Y.2)
theorem jq_0 {L n k : Nat} {T S : MS} (h : jq L n k T S) : jq0 L (n + 1) T S := ⟨h.1, cs_done h.2⟩
theorem jq_nx {L n k : Nat} {T S : MS} (h : jq L n k T S) : jq L n k (cnx T) (mf_go S) := by
  obtain ⟨x1, x2, x3, x4, x5⟩ := nxG h.1.1 h.1.2.2.2.2
  refine ⟨x1, ?_⟩
  rw [x2, x3, x4, x5]
  exact h.2
theorem cL_lk {L n : Nat} : ∀ (m k : Nat) {T S : MS}, jq L n k T S → k + (m + 1) = 4 → RC L n (crcL (m + 1) T) (mcL (m + 1) (mf_test (mf_go S)))
  | m, k, T, S, h, hm => by
    have hr := t_lk (by omega) (jq_nx h)
    unfold crcL mcL
    generalize crt (cnx T) = X at hr
    generalize mf_test (mf_go S) = Y at hr
    rcases hr with ⟨a, b, c⟩ | ⟨a, b, c⟩
    · rw [if_pos a, if_pos b]
      exact Or.inl ⟨rfl, rfl, c⟩
    · rw [if_neg (show ¬ X.1 = 0 from by rw [a]; decide), if_neg (show ¬ Y.1 = 0 from by rw [b]; decide)]
      have t11 := c.1.2.1.2.2.2.1
      by_cases h11 : X.2.1 24 = 11
      · rw [if_pos h11, if_pos (t11.mp h11)]
        obtain ⟨-, c2, c3, c4, ⟨-, -, c7, -⟩, -⟩ := c.2
        have e31 : Y.2.2.2.1 31 (Y.2.1 29 - 1).toNatClampNeg = nI (k + 1) := by
          rw [c2, nI_pred, nI_clamp (by omega), c7]
        rw [e31]
        match m, hm with
        | 0, hm =>
          rw [if_pos (by rw [show k + 1 = 4 by omega]; decide)]
          exact Or.inl ⟨rfl, rfl, st_flt c.1.2.2.1⟩
        | m + 1, hm =>
          rw [if_neg (show ¬ nI (k + 1) = 4 from by rw [show (4 : Int32) = nI 4 from by decide, nI_eq (by omega) (by decide)]; omega)]
          exact cL_lk m (k + 1) c (by omega)
      · rw [if_neg h11, if_neg (fun q => h11 (t11.mpr q))]
        exact Or.inr ⟨rfl, rfl, jq_0 c⟩
  termination_by m => m
theorem cA_lk {L n : Nat} {T S : MS} (h : jq L n 0 T S) : RC L n (crcA T) (mcB S) := by
  unfold crcA mcB
  have t10 := h.1.2.1.2.2.1
  by_cases h10 : T.1 24 = 10
  · rw [if_pos h10, if_pos (t10.mp h10)]
    exact cL_lk 3 0 h rfl
  · rw [if_neg h10, if_neg (fun q => h10 (t10.mpr q))]
    exact Or.inr ⟨rfl, rfl, jq_0 h⟩
theorem c1_lk {L n : Nat} {T S : MS} (v : Int32) (hn : n < 8) (h : jq0 L n T S) : jq L n 0 (cnx (cac T v)) (mf_go (mc1 S v)) := by
  obtain ⟨⟨hl, ht, hs, hq, h37⟩, h1, h2, h3, h4⟩ := h
  have e1 : cac T v = sI (sA (sA T 81 n (vp_nar .boolean v)) 82 n 0) 80 (nI (n + 1)) := by
    unfold cac
    rw [h1, if_pos (show nI n < 8 from by rw [show (8 : Int32) = nI 8 from by decide, nI_ltI (by omega) (by decide)]; exact hn), nI_clamp (by omega), nI_1]
  have e2 : mc1 S v = sI (sA (sA S 30 n (vp_nar .boolean v)) 31 n 0) 29 (nI (n + 1)) := by
    unfold mc1
    rw [h2, nI_clamp (by omega), nI_1]
  have hlk : ∃ P, lk L P (cac T v) (mc1 S v) := by rw [e1, e2]; exact hl
  have h37' : (mc1 S v).2.1 37 = -1 := by rw [e2]; exact h37
  obtain ⟨x1, x2, x3, x4, x5⟩ := nxG hlk h37'
  refine ⟨x1, ?_⟩
  rw [x2, x3, x4, x5, e1, e2]
  generalize vp_nar .boolean v = v9
  have key : ∀ q, te T.2.2.1 S.2.2.1 q → te (sI (sA (sA T 81 n v9) 82 n 0) 80 (nI (n + 1))).2.2.1 (sI (sA (sA S 30 n v9) 31 n 0) 29 (nI (n + 1))).2.2.1 q := fun q t => t
  refine ⟨rfl, rfl, hn, by decide, ⟨?_, ?_, ?_, fun j hj => absurd hj (Nat.not_lt_zero j)⟩, fun c hc => ?_⟩
  · show upd (T.2.2.1 81) n v9 n = upd (S.2.2.1 30) n v9 n
    rw [updA_at, updA_at]
  · show upd (T.2.2.1 82) n 0 n = nI 0
    rw [updA_at]
    decide
  · show upd (S.2.2.1 31) n 0 n = nI 0
    rw [updA_at]
    decide
  · obtain ⟨k', hk', c1, c2, c3, c4⟩ := h4 c hc
    exact ⟨k', hk', ((if_neg (by omega) : upd (T.2.2.1 81) n v9 c = T.2.2.1 81 c).trans c1).trans (if_neg (by omega) : upd (S.2.2.1 30) n v9 c = S.2.2.1 30 c).symm, (if_neg (by omega) : upd (T.2.2.1 82) n 0 c = T.2.2.1 82 c).trans c2, (if_neg (by omega) : upd (S.2.2.1 31) n 0 c = S.2.2.1 31 c).trans c3, fun j hj => key _ (c4 j hj)⟩
theorem cl_lk {L n : Nat} {T S : MS} (hn : n < 8) (h : jq0 L n T S) : RC L n (crc T) (mf_clause S) := by
  have a1 := cA_lk (c1_lk 1 hn h)
  have a0 := cA_lk (c1_lk 0 hn h)
  obtain ⟨t8, t9, -⟩ := h.1.2.1
  unfold crc mf_clause
  generalize crcA (cnx (cac T 1)) = X1 at a1
  generalize mcB (mf_go (mc1 S 1)) = Y1 at a1
  generalize crcA (cnx (cac T 0)) = X0 at a0
  generalize mcB (mf_go (mc1 S 0)) = Y0 at a0
  by_cases h8 : T.1 24 = 8
  · rw [if_pos h8, if_pos (t8.mp h8)]; exact a1
  · rw [if_neg h8, if_neg (fun q => h8 (t8.mpr q))]
    by_cases h9 : T.1 24 = 9
    · rw [if_pos h9, if_pos (t9.mp h9)]; exact a0
    · rw [if_neg h9, if_neg (fun q => h9 (t9.mpr q))]
      exact Or.inl ⟨rfl, rfl, st_flt h.1.2.2.1⟩
def RT (L : Nat) (X Y : Int32 × MS) : Prop := (X.1 = 0 ∧ Y.1 = 0 ∧ flt X.2 Y.2) ∨ (X.1 = 1 ∧ Y.1 = 1 ∧ ∃ n, jq0 L n X.2 Y.2)
theorem jq0_nx {L n : Nat} {T S : MS} (h : jq0 L n T S) : jq0 L n (cnx T) (mf_go S) := by
  obtain ⟨x1, x2, x3, x4, x5⟩ := nxG h.1.1 h.1.2.2.2.2
  refine ⟨x1, ?_⟩
  rw [x2, x3, x4, x5]
  exact h.2
theorem xL_lk {L : Nat} : ∀ (m c : Nat) {T S : MS}, jq0 L c T S → c + (m + 1) = 8 → RT L (crxL (m + 1) T) (mxL (m + 2) (mf_clause S))
  | m, c, T, S, h, hm => by
    have hr := cl_lk (by omega) h
    unfold crxL mxL
    generalize crc T = X at hr
    generalize mf_clause S = Y at hr
    rcases hr with ⟨a, b, d⟩ | ⟨a, b, d⟩
    · rw [if_pos a, if_pos b]
      exact Or.inl ⟨rfl, rfl, d⟩
    · rw [if_neg (show ¬ Y.1 = 0 from by rw [b]; decide)]
      have t12 := d.1.2.1.2.2.2.2.2.2.2.2.2.1
      have t14 := d.1.2.1.2.2.2.2.2.2.2.2.2.2.2.2
      have hF : RT L (0, X.2) (0, mwr Y.2) := Or.inl ⟨rfl, rfl, st_flt d.1.2.2.1⟩
      by_cases h12 : X.2.1 24 = 12
      · have ec : cend X.2 = 1 := by unfold cend; rw [if_pos h12]
        rw [if_neg (show ¬ X.1 = 0 from by rw [a, ec]; decide), if_neg (show ¬ X.2.1 24 = 14 from by rw [h12]; decide), if_pos (t12.mp h12), d.2.2.1]
        match m, hm with
        | 0, hm =>
          rw [if_pos rfl, if_pos (show nI (c + 1) = 8 from by rw [show c + 1 = 8 by omega]; decide)]
          exact hF
        | m + 1, hm =>
          rw [if_neg (by omega), if_neg (show ¬ nI (c + 1) = 8 from by rw [show (8 : Int32) = nI 8 from by decide, nI_eq (by omega) (by decide)]; omega)]
          exact xL_lk m (c + 1) (jq0_nx d) (by omega)
      · rw [if_neg (fun q => h12 (t12.mpr q))]
        by_cases h14 : X.2.1 24 = 14
        · have ec : cend X.2 = 1 := by unfold cend; rw [if_neg h12, if_pos h14]
          rw [if_neg (show ¬ X.1 = 0 from by rw [a, ec]; decide), if_pos h14, if_pos (t14.mp h14)]
          exact Or.inr ⟨rfl, rfl, c + 1, d⟩
        · have ec : cend X.2 = 0 := by unfold cend; rw [if_neg h12, if_neg h14]
          rw [if_pos (show X.1 = 0 from by rw [a, ec]), if_neg (fun q => h14 (t14.mpr q))]
          exact hF
  termination_by m => m
theorem x_lk {L : Nat} {T S : MS} (h : jq0 L 0 T S) : RT L (crxA T) (mf_text S) := by
  unfold crxA mf_text
  have t14 := h.1.2.1.2.2.2.2.2.2.2.2.2.2.2.2
  by_cases h14 : T.1 24 = 14
  · rw [if_pos h14, if_pos (t14.mp h14)]
    exact Or.inr ⟨rfl, rfl, 0, h⟩
  · rw [if_neg h14, if_neg (fun q => h14 (t14.mpr q))]
    exact xL_lk 7 0 h rfl
/-- text alike -/
def txR (T S : MS) : Prop := ∃ L, L ≤ 400 ∧ T.1 20 = nI L ∧ S.1 36 = nI L ∧ ∀ k, k < L → T.2.2.1 22 k = S.2.2.1 35 k ∧ 0 ≤ (T.2.2.1 22 k).toInt
theorem rd_lk {T S : MS} (h : txR T S) : ∃ L, L ≤ 400 ∧ RT L (crx T) (rdT S) := by
  obtain ⟨L, h1, h2, h3, h4⟩ := h
  have hlk : ∃ P, lk L P (crS T) (rdS S) := ⟨0, Nat.zero_le L, h1, h2, h3, rfl, rfl, h4⟩
  obtain ⟨x1, x2, x3, x4, x5⟩ := nxG hlk (show (rdS S).2.1 37 = -1 from rfl)
  refine ⟨L, h1, ?_⟩
  unfold crx rdT
  refine x_lk ⟨x1, ?_⟩
  rw [x2, x3, x4, x5]
  exact ⟨rfl, rfl, by decide, fun c hc => absurd hc (Nat.not_lt_zero c)⟩
/-! feed -/
theorem by_eq (e : Int64) : ∀ i, i < 8 → cbyte e i = ((e >>> ((8 * nI i).toInt64 &&& 63)) &&& 255).toInt32 := by
  have key : ∀ (s : Nat), s < 64 → s % 8 = 0 → ((e.toBitVec >>> s).setWidth 32 &&& 255#32) = ((e.toBitVec.sshiftRight s) &&& 255#64).setWidth 32 := by
    intro s hs h8
    apply BitVec.eq_of_getLsbD_eq
    intro j hj
    rw [BitVec.getLsbD_and, BitVec.getLsbD_setWidth, BitVec.getLsbD_ushiftRight, BitVec.getLsbD_setWidth, BitVec.getLsbD_and, BitVec.getLsbD_sshiftRight]
    by_cases h : j < 8
    · have a1 : (255#32).getLsbD j = true := by
        rcases (show j = 0 ∨ j = 1 ∨ j = 2 ∨ j = 3 ∨ j = 4 ∨ j = 5 ∨ j = 6 ∨ j = 7 by omega) with rfl | rfl | rfl | rfl | rfl | rfl | rfl | rfl <;> decide
      have a2 : (255#64).getLsbD j = true := by
        rcases (show j = 0 ∨ j = 1 ∨ j = 2 ∨ j = 3 ∨ j = 4 ∨ j = 5 ∨ j = 6 ∨ j = 7 by omega) with rfl | rfl | rfl | rfl | rfl | rfl | rfl | rfl <;> decide
      rw [a1, a2, if_pos (by omega)]
      simp [hj, show j < 64 by omega]
    · have a1 : (255#32).getLsbD j = false := by
        rw [BitVec.getLsbD_ofNat, show (255 : Nat) = 2 ^ 8 - 1 from rfl, Nat.testBit_two_pow_sub_one]
        simp [h]
      have a2 : (255#64).getLsbD j = false := by
        rw [BitVec.getLsbD_ofNat, show (255 : Nat) = 2 ^ 8 - 1 from rfl, Nat.testBit_two_pow_sub_one]
        simp [h]
      rw [a1, a2]
      simp
  have go : ∀ (i s : Nat) (u : UInt64) (v : Int64), (8 * nI i).toInt64.toUInt64 &&& Int64.toUInt64 63 = u → (8 * nI i).toInt64 &&& 63 = v → (u.toBitVec % 64).toNat = s → (v.toBitVec.smod 64).toNat = s → s < 64 → s % 8 = 0 → cbyte e i = ((e >>> ((8 * nI i).toInt64 &&& 63)) &&& 255).toInt32 := by
    intro i s u v e1 e2 e3 e4 hs h8
    unfold cbyte
    rw [e1, e2]
    apply Int32.toBitVec_inj.mp
    rw [Int32.toBitVec_and, Int64.toBitVec_toInt32, Int64.toBitVec_toInt32, Int64.toBitVec_and, Int64.toBitVec_shiftRight, UInt64.toBitVec_toInt64, UInt64.toBitVec_shiftRight, Int64.toBitVec_toUInt64, BitVec.signExtend_eq_setWidth_of_le _ (by decide), BitVec.signExtend_eq_setWidth_of_le _ (by decide), BitVec.ushiftRight_eq', BitVec.sshiftRight_eq', e3, e4]
    exact key s hs h8
  intro i hi
  rcases (show i = 0 ∨ i = 1 ∨ i = 2 ∨ i = 3 ∨ i = 4 ∨ i = 5 ∨ i = 6 ∨ i = 7 by omega) with rfl | rfl | rfl | rfl | rfl | rfl | rfl | rfl
  · exact go 0 0 0 0 (by decide) (by decide) (by decide) (by decide) (by decide) rfl
  · exact go 1 8 8 8 (by decide) (by decide) (by decide) (by decide) (by decide) rfl
  · exact go 2 16 16 16 (by decide) (by decide) (by decide) (by decide) (by decide) rfl
  · exact go 3 24 24 24 (by decide) (by decide) (by decide) (by decide) (by decide) rfl
  · exact go 4 32 32 32 (by decide) (by decide) (by decide) (by decide) (by decide) rfl
  · exact go 5 40 40 40 (by decide) (by decide) (by decide) (by decide) (by decide) rfl
  · exact go 6 48 48 48 (by decide) (by decide) (by decide) (by decide) (by decide) rfl
  · exact go 7 56 56 56 (by decide) (by decide) (by decide) (by decide) (by decide) rfl
theorem by_0 (e : Int64) (i : Nat) : 0 ≤ (cbyte e i).toInt := by
  have h : (cbyte e i).toBitVec.msb = false := by
    unfold cbyte
    rw [Int32.toBitVec_and, BitVec.msb_and]
    rw [show (Int32.toBitVec 255).msb = false from by decide, Bool.and_false]
  show 0 ≤ (cbyte e i).toBitVec.toInt
  rw [BitVec.toInt_eq_msb_cond, h]
  exact Int.natCast_nonneg _
theorem tx_k {T S U V : MS} (h : txR T S) (h1 : U.1 20 = T.1 20) (h2 : U.2.2.1 22 = T.2.2.1 22) (h3 : V.1 36 = S.1 36) (h4 : V.2.2.1 35 = S.2.2.1 35) : txR U V := by
  obtain ⟨L, a, b, c, d⟩ := h
  refine ⟨L, a, h1.trans b, h3.trans c, ?_⟩
  rw [h2, h4]
  exact d
theorem tx_e {T S : MS} (h1 : T.1 20 = 0) (h2 : S.1 36 = 0) : txR T S := ⟨0, by decide, h1.trans (by decide), h2.trans (by decide), fun k hk => absurd hk (Nat.not_lt_zero k)⟩
theorem tx_f {T S : MS} (e : Int64) {L : Nat} (h2 : T.1 20 = nI L) (h3 : S.1 36 = nI L) (h4 : ∀ k, k < L → T.2.2.1 22 k = S.2.2.1 35 k ∧ 0 ≤ (T.2.2.1 22 k).toInt) : ∀ n, n ≤ 8 → L + n ≤ 400 → (apF T e n).1 20 = nI (L + n) ∧ (fdF S e n).1 36 = nI (L + n) ∧ ∀ k, k < L + n → (apF T e n).2.2.1 22 k = (fdF S e n).2.2.1 35 k ∧ 0 ≤ ((apF T e n).2.2.1 22 k).toInt
  | 0, _, _ => ⟨h2, h3, h4⟩
  | n + 1, hn, hl => by
    obtain ⟨a, b, c⟩ := tx_f e h2 h3 h4 n (by omega) (by omega)
    show (apS (apF T e n) e n).1 20 = _ ∧ (sI (sA (fdF S e n) 35 ((fdF S e n).1 36).toNatClampNeg ((e >>> ((8 * nI n).toInt64 &&& 63)) &&& 255).toInt32) 36 ((sA (fdF S e n) 35 ((fdF S e n).1 36).toNatClampNeg ((e >>> ((8 * nI n).toInt64 &&& 63)) &&& 255).toInt32).1 36 + 1)).1 36 = _ ∧ ∀ k, k < L + n + 1 → (apS (apF T e n) e n).2.2.1 22 k = (sI (sA (fdF S e n) 35 ((fdF S e n).1 36).toNatClampNeg ((e >>> ((8 * nI n).toInt64 &&& 63)) &&& 255).toInt32) 36 ((sA (fdF S e n) 35 ((fdF S e n).1 36).toNatClampNeg ((e >>> ((8 * nI n).toInt64 &&& 63)) &&& 255).toInt32).1 36 + 1)).2.2.1 35 k ∧ 0 ≤ ((apS (apF T e n) e n).2.2.1 22 k).toInt
    rw [← by_eq e n (by omega)]
    generalize apF T e n = U at *
    generalize fdF S e n = V at *
    have h0 := by_0 e n
    unfold apS
    generalize cbyte e n = z at *
    rw [a, b, nI_clamp (by omega)]
    refine ⟨?_, ?_, fun k hk => ?_⟩
    · show nI (L + n) + 1 = _
      rw [nI_1]
      rfl
    · show V.1 36 + 1 = _
      rw [b, nI_1]
      rfl
    · show upd (U.2.2.1 22) (L + n) z k = upd (V.2.2.1 35) (L + n) z k ∧ 0 ≤ (upd (U.2.2.1 22) (L + n) z k).toInt
      by_cases ek : k = L + n
      · rw [ek, updA_at, updA_at]
        exact ⟨rfl, h0⟩
      · rw [updA_ne _ _ ek, updA_ne _ _ ek]
        exact c k (by omega)
theorem tx_feed {T S : MS} (h : txR T S) (e : Int64) (n : Int32) : txR (cf_feed T e n).2 (mf_feed S e n).2 := by
  obtain ⟨L, a, b, c, d⟩ := h
  unfold cf_feed mf_feed
  rw [b, c]
  by_cases h1 : 1 ≤ n ∧ n ≤ 8
  · rw [if_pos h1, if_pos h1]
    have hn := inR h1
    rw [show (1 : Int32).toInt = 1 from by decide, show (8 : Int32).toInt = 8 from by decide] at hn
    have hc := clamp_I (x := n) (by omega)
    by_cases h2 : nI L + n ≤ 400
    · rw [if_pos h2, if_pos h2]
      have h2' := h2
      rw [Int32.le_iff_toInt_le, I_add (by rw [nI_toInt (by omega)]; omega) (by rw [nI_toInt (by omega)]; omega), nI_toInt (by omega), show (400 : Int32).toInt = 400 from by decide] at h2'
      exact ⟨L + n.toNatClampNeg, by omega, tx_f e b c d _ (by omega) (by omega)⟩
    · rw [if_neg h2, if_neg h2]
      exact ⟨L, a, b, c, d⟩
  · rw [if_neg h1, if_neg h1]
    exact ⟨L, a, b, c, d⟩
theorem rd36 (S : MS) : (mf_read S).2.1 36 = 0 := by
  unfold mf_read rdC rdE
  generalize rdT S = X
  split
  · rfl
  · obtain ⟨q1, -⟩ := cp32_sp (cp8 (sI (sI X.2 36 0) 23 ((sI X.2 36 0).1 29)) 8) 32
    obtain ⟨p1, -⟩ := cp8_sp (sI (sI X.2 36 0) 23 ((sI X.2 36 0).1 29)) 8
    generalize cp8 (sI (sI X.2 36 0) 23 ((sI X.2 36 0).1 29)) 8 = V at q1 p1
    generalize cp32 V 32 = Z at q1
    show Z.1 36 = 0
    rw [q1, p1]
    rfl
theorem ft_k {T S U V : MS} (h : (T.1 21).toInt64 = S.2.1 37) (h1 : U.1 21 = T.1 21) (h2 : V.2.1 37 = S.2.1 37) : (U.1 21).toInt64 = V.2.1 37 := by rw [h1, h2, h]
theorem cp8_L (U : MS) : ∀ n, (cp8 U n).2.1 = U.2.1
  | 0 => rfl
  | n + 1 => cp8_L U n
theorem cp32_L (U : MS) : ∀ n, (cp32 U n).2.1 = U.2.1
  | 0 => rfl
  | n + 1 => cp32_L U n
theorem cp37 {S : MS} : (mf_read S).2.2.1 37 = (rdT S).2.2.1 37 := by
  unfold mf_read rdC rdE
  generalize rdT S = X
  split
  · rfl
  · have q1 := cp32_L (cp8 (sI (sI X.2 36 0) 23 ((sI X.2 36 0).1 29)) 8) 32
    have p1 := cp8_L (sI (sI X.2 36 0) 23 ((sI X.2 36 0).1 29)) 8
    generalize cp8 (sI (sI X.2 36 0) 23 ((sI X.2 36 0).1 29)) 8 = V at q1 p1
    generalize cp32 V 32 = Z at q1
    show Z.2.1 37 = X.2.2.1 37
    rw [q1, p1]
    rfl
theorem ft_G {T S : MS} {X : Int32 × MS} (h : txR T S) (eX : X = crx T) (h1 : X.1 = 1) : (-1 : Int32).toInt64 = (mf_read S).2.2.1 37 := by
  obtain ⟨L, hL, hr⟩ := rd_lk h
  rw [← eX] at hr
  rcases hr with ⟨a, -⟩ | ⟨-, b, n, c⟩
  · rw [h1] at a; exact absurd a (by decide)
  · rw [cp37, c.1.2.2.2.2]
    decide
theorem ft_B {T S : MS} {X : Int32 × MS} (h : txR T S) (eX : X = crx T) (h1 : X.1 = 0) : (X.2.1 25).toInt64 = (mf_read S).2.2.1 37 := by
  obtain ⟨L, hL, hr⟩ := rd_lk h
  rw [← eX] at hr
  rcases hr with ⟨-, b, W, w1, w2, w3⟩ | ⟨a, -⟩
  · rw [cp37, w2, w3]
  · rw [h1] at a; exact absurd a (by decide)

theorem rl_days {T : MS} {B : List BL} {S : MS} (hC : cinv T B) (n : Int32)  (h : Rel T B S) : Rel (cf_days T n).2 B (mf_days S n).2 := ⟨tx_k h.1 ((fc_days T n).1 20 (by decide)) ((fc_days T n).2.2.1 22 (by decide)) ((fm_days S n).1 36 (by decide)) ((fm_days S n).2.2.1 35 (by decide)), ft_k h.2 ((fc_days T n).1 21 (by decide)) ((fm_days S n).2.1 37 (by decide))⟩
theorem rl_gain {T : MS} {B : List BL} {S : MS} (hC : cinv T B) (v : Int32)  (h : Rel T B S) : Rel (cf_gain T v).2 B (mf_gain S v).2 := ⟨tx_k h.1 ((fc_gain T v).1 20 (by decide)) ((fc_gain T v).2.2.1 22 (by decide)) ((fm_gain S v).1 36 (by decide)) ((fm_gain S v).2.2.1 35 (by decide)), ft_k h.2 ((fc_gain T v).1 21 (by decide)) ((fm_gain S v).2.1 37 (by decide))⟩
theorem rl_road {T : MS} {B : List BL} {S : MS} (hC : cinv T B) (t v : Int32)  (h : Rel T B S) : Rel (cf_road T t v).2 B (mf_road S t v).2 := ⟨tx_k h.1 ((fc_road T t v).1 20 (by decide)) ((fc_road T t v).2.2.1 22 (by decide)) ((fm_road S t v).1 36 (by decide)) ((fm_road S t v).2.2.1 35 (by decide)), ft_k h.2 ((fc_road T t v).1 21 (by decide)) ((fm_road S t v).2.1 37 (by decide))⟩
theorem rl_seat {T : MS} {B : List BL} {S : MS} (hC : cinv T B) (x t : Int32)  (h : Rel T B S) : Rel (cf_seat T x t).2 B (mf_seat S x t).2 := ⟨tx_k h.1 ((fc_seat T x t).1 20 (by decide)) ((fc_seat T x t).2.2.1 22 (by decide)) ((fm_seat S x t).1 36 (by decide)) ((fm_seat S x t).2.2.1 35 (by decide)), ft_k h.2 ((fc_seat T x t).1 21 (by decide)) ((fm_seat S x t).2.1 37 (by decide))⟩
theorem rl_binds {T : MS} {B : List BL} {S : MS} (hC : cinv T B) (la am hp kd rd : Int32)  (h : Rel T B S) : Rel (cf_binds T la am hp kd rd).2 B (mf_binds S la am hp kd rd).2 := ⟨tx_k h.1 ((fc_binds T la am hp kd rd).1 20 (by decide)) ((fc_binds T la am hp kd rd).2.2.1 22 (by decide)) ((fm_binds S la am hp kd rd).1 36 (by decide)) ((fm_binds S la am hp kd rd).2.2.1 35 (by decide)), ft_k h.2 ((fc_binds T la am hp kd rd).1 21 (by decide)) ((fm_binds S la am hp kd rd).2.1 37 (by decide))⟩
theorem rl_owe {T : MS} {B : List BL} {S : MS} (hC : cinv T B) (x q v : Int32)  (h : Rel T B S) : Rel (cf_owe T x q v).2 B (mf_owe S x q v).2 := ⟨tx_k h.1 ((fc_owe T x q v).1 20 (by decide)) ((fc_owe T x q v).2.2.1 22 (by decide)) ((fm_owe S x q v).1 36 (by decide)) ((fm_owe S x q v).2.2.1 35 (by decide)), ft_k h.2 ((fc_owe T x q v).1 21 (by decide)) ((fm_owe S x q v).2.1 37 (by decide))⟩
theorem rl_owes {T : MS} {B : List BL} {S : MS} (hC : cinv T B) (x q : Int32)  (h : Rel T B S) : Rel (cf_owes T x q).2 B (mf_owes S x q).2 := ⟨tx_k h.1 ((fc_owes T x q).1 20 (by decide)) ((fc_owes T x q).2.2.1 22 (by decide)) ((fm_owes S x q).1 36 (by decide)) ((fm_owes S x q).2.2.1 35 (by decide)), ft_k h.2 ((fc_owes T x q).1 21 (by decide)) ((fm_owes S x q).2.1 37 (by decide))⟩
theorem rl_net {T : MS} {B : List BL} {S : MS} (hC : cinv T B) (x : Int32)  (h : Rel T B S) : Rel (cf_net T x).2 B (mf_net S x).2 := ⟨tx_k h.1 ((fc_net T x).1 20 (by decide)) ((fc_net T x).2.2.1 22 (by decide)) ((fm_net S x).1 36 (by decide)) ((fm_net S x).2.2.1 35 (by decide)), ft_k h.2 ((fc_net T x).1 21 (by decide)) ((fm_net S x).2.1 37 (by decide))⟩
theorem rl_coin {T : MS} {B : List BL} {S : MS} (hC : cinv T B) (k w f : Int32)  (h : Rel T B S) : Rel (cf_coin T k w f).2 B (mf_coin S k w f).2 := ⟨tx_k h.1 ((fc_coin T k w f).1 20 (by decide)) ((fc_coin T k w f).2.2.1 22 (by decide)) ((fm_coin S k w f).1 36 (by decide)) ((fm_coin S k w f).2.2.1 35 (by decide)), ft_k h.2 ((fc_coin T k w f).1 21 (by decide)) ((fm_coin S k w f).2.1 37 (by decide))⟩
theorem rl_purse {T : MS} {B : List BL} {S : MS} (hC : cinv T B) (x k v : Int32)  (h : Rel T B S) : Rel (cf_purse T x k v).2 B (mf_purse S x k v).2 := ⟨tx_k h.1 ((fc_purse T x k v).1 20 (by decide)) ((fc_purse T x k v).2.2.1 22 (by decide)) ((fm_purse S x k v).1 36 (by decide)) ((fm_purse S x k v).2.2.1 35 (by decide)), ft_k h.2 ((fc_purse T x k v).1 21 (by decide)) ((fm_purse S x k v).2.1 37 (by decide))⟩
theorem rl_has {T : MS} {B : List BL} {S : MS} (hC : cinv T B) (x k : Int32)  (h : Rel T B S) : Rel (cf_has T x k).2 B (mf_has S x k).2 := ⟨tx_k h.1 ((fc_has T x k).1 20 (by decide)) ((fc_has T x k).2.2.1 22 (by decide)) ((fm_has S x k).1 36 (by decide)) ((fm_has S x k).2.2.1 35 (by decide)), ft_k h.2 ((fc_has T x k).1 21 (by decide)) ((fm_has S x k).2.1 37 (by decide))⟩
theorem rl_settle {T : MS} {B : List BL} {S : MS} (hC : cinv T B) (x q : Int32)  (h : Rel T B S) : Rel (cf_settle T x q).2 B (mf_settle S x q).2 := ⟨tx_k h.1 ((fc_settle T x q).1 20 (by decide)) ((fc_settle T x q).2.2.1 22 (by decide)) ((fm_settle S x q).1 36 (by decide)) ((fm_settle S x q).2.2.1 35 (by decide)), ft_k h.2 ((fc_settle T x q).1 21 (by decide)) ((fm_settle S x q).2.1 37 (by decide))⟩
theorem rl_vote {T : MS} {B : List BL} {S : MS} (hC : cinv T B) (x t v : Int32)  (h : Rel T B S) : Rel (cf_vote T x t v).2 B (mf_vote S x t v).2 := ⟨tx_k h.1 ((fc_vote T x t v).1 20 (by decide)) ((fc_vote T x t v).2.2.1 22 (by decide)) ((fm_vote S x t v).1 36 (by decide)) ((fm_vote S x t v).2.2.1 35 (by decide)), ft_k h.2 ((fc_vote T x t v).1 21 (by decide)) ((fm_vote S x t v).2.1 37 (by decide))⟩
theorem rl_rate {T : MS} {B : List BL} {S : MS} (hC : cinv T B) (t : Int32)  (h : Rel T B S) : Rel (cf_rate T t).2 B (mf_rate S t).2 := ⟨tx_k h.1 ((fc_rate T t).1 20 (by decide)) ((fc_rate T t).2.2.1 22 (by decide)) ((fm_rate S t).1 36 (by decide)) ((fm_rate S t).2.2.1 35 (by decide)), ft_k h.2 ((fc_rate T t).1 21 (by decide)) ((fm_rate S t).2.1 37 (by decide))⟩
theorem rl_offer {T : MS} {B : List BL} {S : MS} (hC : cinv T B) (f t v : Int32)  (h : Rel T B S) : Rel (cf_offer T f t v).2 B (mf_offer S f t v).2 := ⟨tx_k h.1 ((fc_offer T f t v).1 20 (by decide)) ((fc_offer T f t v).2.2.1 22 (by decide)) ((fm_offer S f t v).1 36 (by decide)) ((fm_offer S f t v).2.2.1 35 (by decide)), ft_k h.2 ((fc_offer T f t v).1 21 (by decide)) ((fm_offer S f t v).2.1 37 (by decide))⟩
theorem rl_tell {T : MS} {B : List BL} {S : MS} (hC : cinv T B) (v : Int32)  (h : Rel T B S) : Rel (cf_tell T v).2 B (mf_tell S v).2 := ⟨tx_k h.1 ((fc_tell T v).1 20 (by decide)) ((fc_tell T v).2.2.1 22 (by decide)) ((fm_tell S v).1 36 (by decide)) ((fm_tell S v).2.2.1 35 (by decide)), ft_k h.2 ((fc_tell T v).1 21 (by decide)) ((fm_tell S v).2.1 37 (by decide))⟩
theorem rl_count {T : MS} {B : List BL} {S : MS} (hC : cinv T B) (x : Int32)  (h : Rel T B S) : Rel (cf_count T x).2 B (mf_count S x).2 := ⟨tx_k h.1 ((fc_count T x).1 20 (by decide)) ((fc_count T x).2.2.1 22 (by decide)) ((fm_count S x).1 36 (by decide)) ((fm_count S x).2.2.1 35 (by decide)), ft_k h.2 ((fc_count T x).1 21 (by decide)) ((fm_count S x).2.1 37 (by decide))⟩
theorem rl_found {T : MS} {B : List BL} {S : MS} (hC : cinv T B) (x : Int32)  (h : Rel T B S) : Rel (cf_found T x).2 B (mf_found S x).2 := ⟨tx_k h.1 ((fc_found T x).1 20 (by decide)) ((fc_found T x).2.2.1 22 (by decide)) ((fm_found S x).1 36 (by decide)) ((fm_found S x).2.2.1 35 (by decide)), ft_k h.2 ((fc_found T x).1 21 (by decide)) ((fm_found S x).2.1 37 (by decide))⟩
theorem rl_turn {T : MS} {B : List BL} {S : MS} (hC : cinv T B)   (h : Rel T B S) : Rel (cf_turn T).2 B (mf_turn S).2 := ⟨tx_k h.1 ((fc_turn T).1 20 (by decide)) ((fc_turn T).2.2.1 22 (by decide)) ((fm_turn S).1 36 (by decide)) ((fm_turn S).2.2.1 35 (by decide)), ft_k h.2 ((fc_turn T).1 21 (by decide)) ((fm_turn S).2.1 37 (by decide))⟩
theorem rl_feed {T : MS} {B : List BL} {S : MS} (hC : cinv T B) (e : Int64) (n : Int32)  (h : Rel T B S) : Rel (cf_feed T e n).2 B (mf_feed S e n).2 := ⟨tx_feed h.1 e n, ft_k h.2 ((fc_feed T e n).1 21 (by decide)) ((fm_feed S e n).2.1 37 (by decide))⟩
theorem rl_pass {T : MS} {B : List BL} {S : MS} (hC : cinv T B) (x y : Int32)  (h : Rel T B S) : Rel (cf_pass T B x y).2.1 (cf_pass T B x y).2.2 (mf_pass S x y).2 := ⟨tx_k h.1 ((fc_pass T B x y).1 20 (by decide)) ((fc_pass T B x y).2.2.1 22 (by decide)) ((fm_pass S x y).1 36 (by decide)) ((fm_pass S x y).2.2.1 35 (by decide)), ft_k h.2 ((fc_pass T B x y).1 21 (by decide)) ((fm_pass S x y).2.1 37 (by decide))⟩
theorem rl_take {T : MS} {B : List BL} {S : MS} (hC : cinv T B) (x r : Int32)  (h : Rel T B S) : Rel (cf_take T B x r).2.1 (cf_take T B x r).2.2 (mf_take S x r).2 := ⟨tx_k h.1 ((fc_take T B x r).1 20 (by decide)) ((fc_take T B x r).2.2.1 22 (by decide)) ((fm_take S x r).1 36 (by decide)) ((fm_take S x r).2.2.1 35 (by decide)), ft_k h.2 ((fc_take T B x r).1 21 (by decide)) ((fm_take S x r).2.1 37 (by decide))⟩
theorem rl_protest {T : MS} {B : List BL} {S : MS} (hC : cinv T B) (x : Int32)  (h : Rel T B S) : Rel (cf_protest T B x).2.1 (cf_protest T B x).2.2 (mf_protest S x).2 := ⟨tx_k h.1 ((fc_protest T B x).1 20 (by decide)) ((fc_protest T B x).2.2.1 22 (by decide)) ((fm_protest S x).1 36 (by decide)) ((fm_protest S x).2.2.1 35 (by decide)), ft_k h.2 ((fc_protest T B x).1 21 (by decide)) ((fm_protest S x).2.1 37 (by decide))⟩
theorem rl_pay {T : MS} {B : List BL} {S : MS} (hC : cinv T B) (x : Int32)  (h : Rel T B S) : Rel (cf_pay T B x).2.1 (cf_pay T B x).2.2 (mf_pay S x).2 := ⟨tx_k h.1 ((fc_pay T B x hC.1 (bokx hC.1)).1 20 (by decide)) ((fc_pay T B x hC.1 (bokx hC.1)).2.2.1 22 (by decide)) ((fm_pay S x).1 36 (by decide)) ((fm_pay S x).2.2.1 35 (by decide)), ft_k h.2 ((fc_pay T B x hC.1 (bokx hC.1)).1 21 (by decide)) ((fm_pay S x).2.1 37 (by decide))⟩
theorem rl_recourse {T : MS} {B : List BL} {S : MS} (hC : cinv T B) (x j : Int32)  (h : Rel T B S) : Rel (cf_recourse T B x j).2.1 (cf_recourse T B x j).2.2 (mf_recourse S x j).2 := ⟨tx_k h.1 ((fc_recourse T B x j (bokx hC.1)).1 20 (by decide)) ((fc_recourse T B x j (bokx hC.1)).2.2.1 22 (by decide)) ((fm_recourse S x j).1 36 (by decide)) ((fm_recourse S x j).2.2.1 35 (by decide)), ft_k h.2 ((fc_recourse T B x j (bokx hC.1)).1 21 (by decide)) ((fm_recourse S x j).2.1 37 (by decide))⟩
theorem rl_about {T : MS} {B : List BL} {S : MS} (hC : cinv T B) (x q : Int32)  (h : Rel T B S) : Rel (cf_about T B x q).2.1 (cf_about T B x q).2.2 (mf_about S x q).2 := ⟨tx_k h.1 ((fc_about T B x q).1.1 20 (by decide)) ((fc_about T B x q).1.2.2.1 22 (by decide)) ((fm_about S x q).1 36 (by decide)) ((fm_about S x q).2.2.1 35 (by decide)), ft_k h.2 ((fc_about T B x q).1.1 21 (by decide)) ((fm_about S x q).2.1 37 (by decide))⟩
theorem rl_as {T : MS} {B : List BL} {S : MS} (hC : cinv T B) (x k : Int32)  (h : Rel T B S) : Rel (cf_as T B x k).2.1 (cf_as T B x k).2.2 (mf_as S x k).2 := ⟨tx_k h.1 ((fc_as T B x k).1.1 20 (by decide)) ((fc_as T B x k).1.2.2.1 22 (by decide)) ((fm_as S x k).1 36 (by decide)) ((fm_as S x k).2.2.1 35 (by decide)), ft_k h.2 ((fc_as T B x k).1.1 21 (by decide)) ((fm_as S x k).2.1 37 (by decide))⟩
theorem rl_knows {T : MS} {B : List BL} {S : MS} (hC : cinv T B) (x y d : Int32)  (h : Rel T B S) : Rel (cf_knows T B x y d).2.1 (cf_knows T B x y d).2.2 (mf_knows S x y d).2 := ⟨tx_k h.1 ((fc_knows T B x y d).1.1 20 (by decide)) ((fc_knows T B x y d).1.2.2.1 22 (by decide)) ((fm_knows S x y d).1 36 (by decide)) ((fm_knows S x y d).2.2.1 35 (by decide)), ft_k h.2 ((fc_knows T B x y d).1.1 21 (by decide)) ((fm_knows S x y d).2.1 37 (by decide))⟩
theorem rl_plan {T : MS} {B : List BL} {S : MS} (hC : cinv T B) (g : Int32) {U : MS} (hF : fr S U) (h : Rel T B S) : Rel (cf_plan T g).2 B (mf_plan U g).2 := ⟨tx_k h.1 ((fc_plan T g).1.1 20 (by decide)) ((fc_plan T g).1.2.2.1 22 (by decide)) ((fm_plan g hF).1 36 (by decide)) ((fm_plan g hF).2.2.1 35 (by decide)), ft_k h.2 ((fc_plan T g).1.1 21 (by decide)) ((fm_plan g hF).2.1 37 (by decide))⟩
theorem rl_payment {T : MS} {B : List BL} {S : MS} (hC : cinv T B) (j w : Int32) {U : MS} (hF : fr S U) (h : Rel T B S) : Rel (cf_payment T j w).2 B (mf_payment S U j w).2 := ⟨tx_k h.1 ((fc_payment T j w).1 20 (by decide)) ((fc_payment T j w).2.2.1 22 (by decide)) ((fm_payment j w hF).1 36 (by decide)) ((fm_payment j w hF).2.2.1 35 (by decide)), ft_k h.2 ((fc_payment T j w).1 21 (by decide)) ((fm_payment j w hF).2.1 37 (by decide))⟩
theorem rl_clear {T : MS} {B : List BL} {S : MS} (hC : cinv T B)  {U : MS} {N : Nat} (hF : fr S U) (hO : plOk U N) (hp : ∀ j, j < N → 0 ≤ (U.2.2.2 49 j).toInt) (h : Rel T B S) : Rel (cf_clear T).2 B (mf_clear U N).2 := ⟨tx_k h.1 ((fc_clear hC.2.2.2.2.2.2).1 20 (by decide)) ((fc_clear hC.2.2.2.2.2.2).2.2.1 22 (by decide)) ((fm_clear hF hO hp).1 36 (by decide)) ((fm_clear hF hO hp).2.2.1 35 (by decide)), ft_k h.2 ((fc_clear hC.2.2.2.2.2.2).1 21 (by decide)) ((fm_clear hF hO hp).2.1 37 (by decide))⟩
theorem rl_check {T : MS} {B : List BL} {S : MS} (hC : cinv T B)  {U : MS} {N : Nat} (hF : fr (sI S 20 0) U) (h : Rel T B S) : Rel (cf_check T).2 B (mf_check S U N).2 := ⟨tx_k h.1 ((fc_check T).1 20 (by decide)) ((fc_check T).2.2.1 22 (by decide)) ((fm_check hF).1 36 (by decide)) ((fm_check hF).2.2.1 35 (by decide)), ft_k h.2 ((fc_check T).1 21 (by decide)) ((fm_check hF).2.1 37 (by decide))⟩
theorem rl_fault {T : MS} {B : List BL} {S : MS} (hC : cinv T B)   (h : Rel T B S) : Rel T B S := ⟨tx_k h.1 ((fx_rfl (I := sN) (L := sN) (A := sN) (B := s0) T).1 20 (by decide)) ((fx_rfl (I := sN) (L := sN) (A := sN) (B := s0) T).2.2.1 22 (by decide)) ((fx_rfl (I := sN) (L := sN) (A := sN) (B := s0) S).1 36 (by decide)) ((fx_rfl (I := sN) (L := sN) (A := sN) (B := s0) S).2.2.1 35 (by decide)), ft_k h.2 ((fx_rfl (I := sN) (L := sN) (A := sN) (B := s0) T).1 21 (by decide)) ((fx_rfl (I := sN) (L := sN) (A := sN) (B := s0) S).2.1 37 (by decide))⟩
theorem rl_drawN {T : MS} {B : List BL} {S : MS} (hC : cinv T B) (kd dr de py am : Int32) (hd : ¬ dcnd kd dr de py am) (h : Rel T B S) : Rel (cf_fd T 1).2 B (mf_draw S kd dr de py am).2 := ⟨tx_k h.1 ((fx_fd (I := sN) (L := sN) (A := sN) (B := s0) (q := 1) (fx_rfl T) rfl).1 20 (by decide)) ((fx_fd (I := sN) (L := sN) (A := sN) (B := s0) (q := 1) (fx_rfl T) rfl).2.2.1 22 (by decide)) ((fm_draw S kd dr de py am).1 36 (by decide)) ((fm_draw S kd dr de py am).2.2.1 35 (by decide)), ft_k h.2 ((fx_fd (I := sN) (L := sN) (A := sN) (B := s0) (q := 1) (fx_rfl T) rfl).1 21 (by decide)) ((fm_draw S kd dr de py am).2.1 37 (by decide))⟩
theorem rl_drawK {T : MS} {B : List BL} {S : MS} (hC : cinv T B) (kd dr de py am : Int32) (hd : dcnd kd dr de py am) (hk : dr = py) (h : Rel T B S) : Rel (cf_fd T 5).2 B (mf_draw S kd dr de py am).2 := ⟨tx_k h.1 ((fx_fd (I := sN) (L := sN) (A := sN) (B := s0) (q := 5) (fx_rfl T) rfl).1 20 (by decide)) ((fx_fd (I := sN) (L := sN) (A := sN) (B := s0) (q := 5) (fx_rfl T) rfl).2.2.1 22 (by decide)) ((fm_draw S kd dr de py am).1 36 (by decide)) ((fm_draw S kd dr de py am).2.2.1 35 (by decide)), ft_k h.2 ((fx_fd (I := sN) (L := sN) (A := sN) (B := s0) (q := 5) (fx_rfl T) rfl).1 21 (by decide)) ((fm_draw S kd dr de py am).2.1 37 (by decide))⟩
theorem rl_drawF {T : MS} {B : List BL} {S : MS} (hC : cinv T B) (kd dr de py am : Int32) (hd : dcnd kd dr de py am) (hk : ¬ dr = py) (hf : ¬ T.1 16 < 40) (h : Rel T B S) : Rel (cf_fd T 4).2 B (mf_draw S kd dr de py am).2 := ⟨tx_k h.1 ((fx_fd (I := sN) (L := sN) (A := sN) (B := s0) (q := 4) (fx_rfl T) rfl).1 20 (by decide)) ((fx_fd (I := sN) (L := sN) (A := sN) (B := s0) (q := 4) (fx_rfl T) rfl).2.2.1 22 (by decide)) ((fm_draw S kd dr de py am).1 36 (by decide)) ((fm_draw S kd dr de py am).2.2.1 35 (by decide)), ft_k h.2 ((fx_fd (I := sN) (L := sN) (A := sN) (B := s0) (q := 4) (fx_rfl T) rfl).1 21 (by decide)) ((fm_draw S kd dr de py am).2.1 37 (by decide))⟩
theorem rl_drawY {T : MS} {B : List BL} {S : MS} (hC : cinv T B) (kd dr de py am : Int32) (q9 e9 g9 : Nat) (hd : dcnd kd dr de py am) (hk : ¬ dr = py) (hf : T.1 16 < 40) (h : Rel T B S) : Rel (sI T 16 (T.1 16 + 1)) (B ++ [bnew q9 e9 g9 kd dr de py am (T.1 14)]) (mf_draw S kd dr de py am).2 := ⟨tx_k h.1 ((fx_sI (I := fun j => j = 16) (L := sN) (A := sN) (B := s0) (v := T.1 16 + 1) (fx_rfl T) rfl).1 20 (by decide)) ((fx_sI (I := fun j => j = 16) (L := sN) (A := sN) (B := s0) (v := T.1 16 + 1) (fx_rfl T) rfl).2.2.1 22 (by decide)) ((fm_draw S kd dr de py am).1 36 (by decide)) ((fm_draw S kd dr de py am).2.2.1 35 (by decide)), ft_k h.2 ((fx_sI (I := fun j => j = 16) (L := sN) (A := sN) (B := s0) (v := T.1 16 + 1) (fx_rfl T) rfl).1 21 (by decide)) ((fm_draw S kd dr de py am).2.1 37 (by decide))⟩
theorem rl_partN {T : MS} {B : List BL} {S : MS} (hC : cinv T B) (x sm cr : Int32)  (h : Rel T B S) : Rel (cf_fd T 1).2 B (mf_part S x sm cr).2 := ⟨tx_k h.1 ((fx_fd (I := sN) (L := sN) (A := sN) (B := s0) (q := 1) (fx_rfl T) rfl).1 20 (by decide)) ((fx_fd (I := sN) (L := sN) (A := sN) (B := s0) (q := 1) (fx_rfl T) rfl).2.2.1 22 (by decide)) ((fm_part S x sm cr).1 36 (by decide)) ((fm_part S x sm cr).2.2.1 35 (by decide)), ft_k h.2 ((fx_fd (I := sN) (L := sN) (A := sN) (B := s0) (q := 1) (fx_rfl T) rfl).1 21 (by decide)) ((fm_part S x sm cr).2.1 37 (by decide))⟩
theorem rl_partY {T : MS} {B : List BL} {S : MS} (hC : cinv T B) (x sm cr : Int32)  (h : Rel T B S) : Rel (cf_parT T B x) B (mf_part S x sm cr).2 := ⟨tx_k h.1 ((fc_parT T B x).1 20 (by decide)) ((fc_parT T B x).2.2.1 22 (by decide)) ((fm_part S x sm cr).1 36 (by decide)) ((fm_part S x sm cr).2.2.1 35 (by decide)), ft_k h.2 ((fc_parT T B x).1 21 (by decide)) ((fm_part S x sm cr).2.1 37 (by decide))⟩
theorem rl_readG {T : MS} {B : List BL} {S : MS} (hC : cinv T B)  {X : Int32 × MS} (eX : X = crx T) (h1 : X.1 = 1) (h : Rel T B S) : Rel (swT (cf_endT X.2 1)) B (mf_read S).2 := ⟨tx_e rfl (rd36 S), ft_G h.1 eX h1⟩
theorem rl_readB {T : MS} {B : List BL} {S : MS} (hC : cinv T B)  {X : Int32 × MS} (eX : X = crx T) (h1 : X.1 = 0) (h : Rel T B S) : Rel (cf_fd (cf_endT X.2 0) 6).2 B (mf_read S).2 := ⟨tx_e rfl (rd36 S), ft_B h.1 eX h1⟩
theorem pi_days {i : Nat} {T : MS} {B : List BL} {S : MS} (hi : i < 600) (n : Int32)  (hP : PI Rel i T B S) : PI Rel (i + 1) (cf_days T n).2 B (mf_days S n).2 := ⟨(cs_days n hP.1), (ri_up hi (ri_days (Mi_le hi).1 (Mi_le hi).2.1 n hP.2.1)), rl_days hP.1 n  hP.2.2⟩
theorem pi_gain {i : Nat} {T : MS} {B : List BL} {S : MS} (hi : i < 600) (v : Int32)  (hP : PI Rel i T B S) : PI Rel (i + 1) (cf_gain T v).2 B (mf_gain S v).2 := ⟨(cs_gain v hP.1), (ri_up hi (ri_gain v hP.2.1)), rl_gain hP.1 v  hP.2.2⟩
theorem pi_road {i : Nat} {T : MS} {B : List BL} {S : MS} (hi : i < 600) (t v : Int32)  (hP : PI Rel i T B S) : PI Rel (i + 1) (cf_road T t v).2 B (mf_road S t v).2 := ⟨(cs_road t v hP.1), (ri_up hi (ri_road t v hP.2.1)), rl_road hP.1 t v  hP.2.2⟩
theorem pi_seat {i : Nat} {T : MS} {B : List BL} {S : MS} (hi : i < 600) (x t : Int32)  (hP : PI Rel i T B S) : PI Rel (i + 1) (cf_seat T x t).2 B (mf_seat S x t).2 := ⟨(ci_seat x t hP.1), (ri_up hi (ri_seat x t hP.2.1)), rl_seat hP.1 x t  hP.2.2⟩
theorem pi_binds {i : Nat} {T : MS} {B : List BL} {S : MS} (hi : i < 600) (la am hp kd rd : Int32)  (hP : PI Rel i T B S) : PI Rel (i + 1) (cf_binds T la am hp kd rd).2 B (mf_binds S la am hp kd rd).2 := ⟨(cs_binds la am hp kd rd hP.1), (ri_up hi (ri_binds la am hp kd rd hP.2.1)), rl_binds hP.1 la am hp kd rd  hP.2.2⟩
theorem pi_owe {i : Nat} {T : MS} {B : List BL} {S : MS} (hi : i < 600) (x q v : Int32)  (hP : PI Rel i T B S) : PI Rel (i + 1) (cf_owe T x q v).2 B (mf_owe S x q v).2 := ⟨(cs_owe x q v hP.1), (Mi_s i ▸ ri_owe (Mi_le hi).1 x q v hP.2.1), rl_owe hP.1 x q v  hP.2.2⟩
theorem pi_owes {i : Nat} {T : MS} {B : List BL} {S : MS} (hi : i < 600) (x q : Int32)  (hP : PI Rel i T B S) : PI Rel (i + 1) (cf_owes T x q).2 B (mf_owes S x q).2 := ⟨(cs_owes x q hP.1), (ri_up hi (ri_owes x q hP.2.1)), rl_owes hP.1 x q  hP.2.2⟩
theorem pi_net {i : Nat} {T : MS} {B : List BL} {S : MS} (hi : i < 600) (x : Int32)  (hP : PI Rel i T B S) : PI Rel (i + 1) (cf_net T x).2 B (mf_net S x).2 := ⟨(cs_net x hP.1), (ri_up hi (ri_net x hP.2.1)), rl_net hP.1 x  hP.2.2⟩
theorem pi_coin {i : Nat} {T : MS} {B : List BL} {S : MS} (hi : i < 600) (k w f : Int32)  (hP : PI Rel i T B S) : PI Rel (i + 1) (cf_coin T k w f).2 B (mf_coin S k w f).2 := ⟨(cs_coin k w f hP.1), (ri_up hi (ri_coin k w f hP.2.1)), rl_coin hP.1 k w f  hP.2.2⟩
theorem pi_purse {i : Nat} {T : MS} {B : List BL} {S : MS} (hi : i < 600) (x k v : Int32)  (hP : PI Rel i T B S) : PI Rel (i + 1) (cf_purse T x k v).2 B (mf_purse S x k v).2 := ⟨(cs_purse x k v hP.1), (ri_up hi (ri_purse x k v hP.2.1)), rl_purse hP.1 x k v  hP.2.2⟩
theorem pi_has {i : Nat} {T : MS} {B : List BL} {S : MS} (hi : i < 600) (x k : Int32)  (hP : PI Rel i T B S) : PI Rel (i + 1) (cf_has T x k).2 B (mf_has S x k).2 := ⟨(cs_has x k hP.1), (ri_up hi (ri_has x k hP.2.1)), rl_has hP.1 x k  hP.2.2⟩
theorem pi_settle {i : Nat} {T : MS} {B : List BL} {S : MS} (hi : i < 600) (x q : Int32)  (hP : PI Rel i T B S) : PI Rel (i + 1) (cf_settle T x q).2 B (mf_settle S x q).2 := ⟨(cs_settle x q hP.1), (ri_up hi (ri_settle (Mi_le hi).1 x q hP.2.1)), rl_settle hP.1 x q  hP.2.2⟩
theorem pi_vote {i : Nat} {T : MS} {B : List BL} {S : MS} (hi : i < 600) (x t v : Int32)  (hP : PI Rel i T B S) : PI Rel (i + 1) (cf_vote T x t v).2 B (mf_vote S x t v).2 := ⟨(cs_vote x t v hP.1), (ri_up hi (ri_vote x t v hP.2.1)), rl_vote hP.1 x t v  hP.2.2⟩
theorem pi_rate {i : Nat} {T : MS} {B : List BL} {S : MS} (hi : i < 600) (t : Int32)  (hP : PI Rel i T B S) : PI Rel (i + 1) (cf_rate T t).2 B (mf_rate S t).2 := ⟨(cs_rate t hP.1), (ri_up hi (ri_rate t hP.2.1)), rl_rate hP.1 t  hP.2.2⟩
theorem pi_offer {i : Nat} {T : MS} {B : List BL} {S : MS} (hi : i < 600) (f t v : Int32)  (hP : PI Rel i T B S) : PI Rel (i + 1) (cf_offer T f t v).2 B (mf_offer S f t v).2 := ⟨(cs_offer f t v hP.1), (ri_up hi (ri_offer f t v hP.2.1)), rl_offer hP.1 f t v  hP.2.2⟩
theorem pi_tell {i : Nat} {T : MS} {B : List BL} {S : MS} (hi : i < 600) (v : Int32)  (hP : PI Rel i T B S) : PI Rel (i + 1) (cf_tell T v).2 B (mf_tell S v).2 := ⟨(ci_tell v hP.1), (ri_up hi (ri_tell v hP.2.1)), rl_tell hP.1 v  hP.2.2⟩
theorem pi_count {i : Nat} {T : MS} {B : List BL} {S : MS} (hi : i < 600) (x : Int32)  (hP : PI Rel i T B S) : PI Rel (i + 1) (cf_count T x).2 B (mf_count S x).2 := ⟨(cs_count x hP.1), (ri_up hi (ri_count x hP.2.1)), rl_count hP.1 x  hP.2.2⟩
theorem pi_found {i : Nat} {T : MS} {B : List BL} {S : MS} (hi : i < 600) (x : Int32)  (hP : PI Rel i T B S) : PI Rel (i + 1) (cf_found T x).2 B (mf_found S x).2 := ⟨(cs_found x hP.1), (ri_up hi (ri_found x hP.2.1)), rl_found hP.1 x  hP.2.2⟩
theorem pi_turn {i : Nat} {T : MS} {B : List BL} {S : MS} (hi : i < 600)   (hP : PI Rel i T B S) : PI Rel (i + 1) (cf_turn T).2 B (mf_turn S).2 := ⟨(cs_turn hP.1), (ri_up hi (ri_turn hP.2.1)), rl_turn hP.1   hP.2.2⟩
theorem pi_feed {i : Nat} {T : MS} {B : List BL} {S : MS} (hi : i < 600) (e : Int64) (n : Int32)  (hP : PI Rel i T B S) : PI Rel (i + 1) (cf_feed T e n).2 B (mf_feed S e n).2 := ⟨(ci_feed e n hP.1), (ri_up hi (ri_feed e n hP.2.1)), rl_feed hP.1 e n  hP.2.2⟩
theorem pi_pass {i : Nat} {T : MS} {B : List BL} {S : MS} (hi : i < 600) (x y : Int32)  (hP : PI Rel i T B S) : PI Rel (i + 1) (cf_pass T B x y).2.1 (cf_pass T B x y).2.2 (mf_pass S x y).2 := ⟨(ci_pass x y hP.1), (ri_up hi (ri_pass x y hP.2.1)), rl_pass hP.1 x y  hP.2.2⟩
theorem pi_take {i : Nat} {T : MS} {B : List BL} {S : MS} (hi : i < 600) (x r : Int32)  (hP : PI Rel i T B S) : PI Rel (i + 1) (cf_take T B x r).2.1 (cf_take T B x r).2.2 (mf_take S x r).2 := ⟨(ci_take x r hP.1), (ri_up hi (ri_take x r hP.2.1)), rl_take hP.1 x r  hP.2.2⟩
theorem pi_protest {i : Nat} {T : MS} {B : List BL} {S : MS} (hi : i < 600) (x : Int32)  (hP : PI Rel i T B S) : PI Rel (i + 1) (cf_protest T B x).2.1 (cf_protest T B x).2.2 (mf_protest S x).2 := ⟨(ci_protest x hP.1), (ri_up hi (ri_protest x hP.2.1)), rl_protest hP.1 x  hP.2.2⟩
theorem pi_pay {i : Nat} {T : MS} {B : List BL} {S : MS} (hi : i < 600) (x : Int32)  (hP : PI Rel i T B S) : PI Rel (i + 1) (cf_pay T B x).2.1 (cf_pay T B x).2.2 (mf_pay S x).2 := ⟨(ci_pay x hP.1), (Mi_s i ▸ ri_pay (Mi_le hi).1 x hP.2.1), rl_pay hP.1 x  hP.2.2⟩
theorem pi_recourse {i : Nat} {T : MS} {B : List BL} {S : MS} (hi : i < 600) (x j : Int32)  (hP : PI Rel i T B S) : PI Rel (i + 1) (cf_recourse T B x j).2.1 (cf_recourse T B x j).2.2 (mf_recourse S x j).2 := ⟨(ci_recourse x j hP.1), (Mi_s i ▸ ri_recourse (Mi_le hi).1 x j hP.2.1), rl_recourse hP.1 x j  hP.2.2⟩
theorem pi_about {i : Nat} {T : MS} {B : List BL} {S : MS} (hi : i < 600) (x q : Int32)  (hP : PI Rel i T B S) : PI Rel (i + 1) (cf_about T B x q).2.1 (cf_about T B x q).2.2 (mf_about S x q).2 := ⟨(cs_about x q hP.1), (ri_up hi (ri_about x q hP.2.1)), rl_about hP.1 x q  hP.2.2⟩
theorem pi_as {i : Nat} {T : MS} {B : List BL} {S : MS} (hi : i < 600) (x k : Int32)  (hP : PI Rel i T B S) : PI Rel (i + 1) (cf_as T B x k).2.1 (cf_as T B x k).2.2 (mf_as S x k).2 := ⟨(cs_as x k hP.1), (ri_up hi (ri_as x k hP.2.1)), rl_as hP.1 x k  hP.2.2⟩
theorem pi_knows {i : Nat} {T : MS} {B : List BL} {S : MS} (hi : i < 600) (x y d : Int32)  (hP : PI Rel i T B S) : PI Rel (i + 1) (cf_knows T B x y d).2.1 (cf_knows T B x y d).2.2 (mf_knows S x y d).2 := ⟨(cs_knows x y d hP.1), (ri_up hi (ri_knows x y d hP.2.1)), rl_knows hP.1 x y d  hP.2.2⟩
theorem pi_plan {i : Nat} {T : MS} {B : List BL} {S : MS} (hi : i < 600) (g : Int32) {U : MS} (hF : fr S U) (hP : PI Rel i T B S) : PI Rel (i + 1) (cf_plan T g).2 B (mf_plan U g).2 := ⟨(ci_plan g hP.1), (ri_up hi (ri_plan g (ri_fr hF hP.2.1))), rl_plan hP.1 g hF hP.2.2⟩
theorem pi_payment {i : Nat} {T : MS} {B : List BL} {S : MS} (hi : i < 600) (j w : Int32) {U : MS} (hF : fr S U) (hP : PI Rel i T B S) : PI Rel (i + 1) (cf_payment T j w).2 B (mf_payment S U j w).2 := ⟨(ci_payment j w hP.1), (ri_up hi (ri_payment j w hP.2.1 (ri_fr hF hP.2.1))), rl_payment hP.1 j w hF hP.2.2⟩
theorem pi_clear {i : Nat} {T : MS} {B : List BL} {S : MS} (hi : i < 600)  {U : MS} {N : Nat} (hF : fr S U) (hO : plOk U N) (hp : ∀ j, j < N → 0 ≤ (U.2.2.2 49 j).toInt) (hs : isum (fun j => (U.2.2.2 49 j).toInt) N ≤ Mi i) (hP : PI Rel i T B S) : PI Rel (i + 1) (cf_clear T).2 B (mf_clear U N).2 := ⟨(ci_clear hP.1), (ri_up hi (ri_clear (ri_fr hF hP.2.1) hO hp hs)), rl_clear hP.1  hF hO hp hP.2.2⟩
theorem pi_check {i : Nat} {T : MS} {B : List BL} {S : MS} (hi : i < 600)  {U : MS} {N : Nat} (hF : fr (sI S 20 0) U) (hP : PI Rel i T B S) : PI Rel (i + 1) (cf_check T).2 B (mf_check S U N).2 := ⟨(ci_check hP.1), (ri_up hi (ri_fr hF (ri_20 hP.2.1))), rl_check hP.1  hF hP.2.2⟩
theorem pi_fault {i : Nat} {T : MS} {B : List BL} {S : MS} (hi : i < 600)   (hP : PI Rel i T B S) : PI Rel (i + 1) T B S := ⟨hP.1, (ri_up hi hP.2.1), rl_fault hP.1   hP.2.2⟩
theorem pi_drawN {i : Nat} {T : MS} {B : List BL} {S : MS} (hi : i < 600) (kd dr de py am : Int32) (hd : ¬ dcnd kd dr de py am) (hP : PI Rel i T B S) : PI Rel (i + 1) (cf_fd T 1).2 B (mf_draw S kd dr de py am).2 := ⟨hP.1, (ri_up hi (ri_draw kd dr de py am hP.2.1)), rl_drawN hP.1 kd dr de py am hd hP.2.2⟩
theorem pi_drawK {i : Nat} {T : MS} {B : List BL} {S : MS} (hi : i < 600) (kd dr de py am : Int32) (hd : dcnd kd dr de py am) (hk : dr = py) (hP : PI Rel i T B S) : PI Rel (i + 1) (cf_fd T 5).2 B (mf_draw S kd dr de py am).2 := ⟨hP.1, (ri_up hi (ri_draw kd dr de py am hP.2.1)), rl_drawK hP.1 kd dr de py am hd hk hP.2.2⟩
theorem pi_drawF {i : Nat} {T : MS} {B : List BL} {S : MS} (hi : i < 600) (kd dr de py am : Int32) (hd : dcnd kd dr de py am) (hk : ¬ dr = py) (hf : ¬ T.1 16 < 40) (hP : PI Rel i T B S) : PI Rel (i + 1) (cf_fd T 4).2 B (mf_draw S kd dr de py am).2 := ⟨hP.1, (ri_up hi (ri_draw kd dr de py am hP.2.1)), rl_drawF hP.1 kd dr de py am hd hk hf hP.2.2⟩
theorem pi_drawY {i : Nat} {T : MS} {B : List BL} {S : MS} (hi : i < 600) (kd dr de py am : Int32) (q9 e9 g9 : Nat) (hd : dcnd kd dr de py am) (hk : ¬ dr = py) (hf : T.1 16 < 40) (hP : PI Rel i T B S) : PI Rel (i + 1) (sI T 16 (T.1 16 + 1)) (B ++ [bnew q9 e9 g9 kd dr de py am (T.1 14)]) (mf_draw S kd dr de py am).2 := ⟨(ci_draw hP.1 hd hf), (ri_up hi (ri_draw kd dr de py am hP.2.1)), rl_drawY hP.1 kd dr de py am q9 e9 g9 hd hk hf hP.2.2⟩
theorem pi_partN {i : Nat} {T : MS} {B : List BL} {S : MS} (hi : i < 600) (x sm cr : Int32)  (hP : PI Rel i T B S) : PI Rel (i + 1) (cf_fd T 1).2 B (mf_part S x sm cr).2 := ⟨hP.1, (ri_up hi (ri_part x sm cr hP.2.1)), rl_partN hP.1 x sm cr  hP.2.2⟩
theorem pi_partY {i : Nat} {T : MS} {B : List BL} {S : MS} (hi : i < 600) (x sm cr : Int32)  (hP : PI Rel i T B S) : PI Rel (i + 1) (cf_parT T B x) B (mf_part S x sm cr).2 := ⟨(cs_part x hP.1), (ri_up hi (ri_part x sm cr hP.2.1)), rl_partY hP.1 x sm cr  hP.2.2⟩
theorem pi_readG {i : Nat} {T : MS} {B : List BL} {S : MS} (hi : i < 600)  {X : Int32 × MS} (eX : X = crx T) (h1 : X.1 = 1) (hP : PI Rel i T B S) : PI Rel (i + 1) (swT (cf_endT X.2 1)) B (mf_read S).2 := ⟨(fcr_ci hP.1 eX 1).2, (ri_up hi (ri_read hP.2.1)), rl_readG hP.1  eX h1 hP.2.2⟩
theorem pi_readB {i : Nat} {T : MS} {B : List BL} {S : MS} (hi : i < 600)  {X : Int32 × MS} (eX : X = crx T) (h1 : X.1 = 0) (hP : PI Rel i T B S) : PI Rel (i + 1) (cf_fd (cf_endT X.2 0) 6).2 B (mf_read S).2 := ⟨(fcr_ci hP.1 eX 0).1, (ri_up hi (ri_read hP.2.1)), rl_readB hP.1  eX h1 hP.2.2⟩
theorem eq_m {T : MS} {B : List BL} {S : MS} (hC : cinv T B) (hR : Rel T B S) : (T.1 21).toInt64 = S.2.1 37 := hR.2
theorem rel0 : Rel T0 [] S0 := ⟨tx_e rfl rfl, by show (-1 : Int32).toInt64 = (-1 : Int64); decide⟩
