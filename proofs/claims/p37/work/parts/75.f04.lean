/-! read, of the class -/
abbrev kI9 : Nat → Prop := fun j => (20 ≤ j ∧ j < 27) ∨ (70 ≤ j ∧ j < 76) ∨ (80 ≤ j ∧ j < 86)
abbrev kA9 : Nat → Prop := fun q => (70 ≤ q ∧ q < 76) ∨ (80 ≤ q ∧ q < 86)
/-- what the reader itself changes -/
abbrev jI9 : Nat → Prop := fun j => (23 ≤ j ∧ j < 27) ∨ j = 80
abbrev jA9 : Nat → Prop := fun q => 81 ≤ q ∧ q < 86
theorem fc_nx {S T : MS} (h : trI T 401) (k : fx jI9 sN jA9 s0 S T) : fx jI9 sN jA9 s0 S (cnx T) := by
  obtain ⟨-, g1, g2, -⟩ := cnx_sp h
  exact fx_tr k ⟨fun j a => g2 j (fun e => a (by omega)) (fun e => a (by omega)) (fun e => a (by omega)) (fun e => a (by omega)), fun j _ => by rw [g1], fun q _ => by rw [g1], fun q _ => by rw [g1]⟩
theorem fc_cat {S T : MS} {v g n : Int32} (k : fx jI9 sN jA9 s0 S T) : fx jI9 sN jA9 s0 S (catT T v g n) := by
  unfold catT cat3
  repeat' split
  · exact k
  · exact fx_sA (fx_sA (fx_sA (fx_sA k (by decide)) (by decide)) (by decide)) (by decide)
  · exact k
theorem fc_cac {S T : MS} {v : Int32} (k : fx jI9 sN jA9 s0 S T) : fx jI9 sN jA9 s0 S (cac T v) := by
  unfold cac
  split
  · exact fx_sI (fx_sA (fx_sA k (by decide)) (by decide)) (by decide)
  · exact k
theorem fc_crt {S T : MS} (h : crJ T) (k : fx jI9 sN jA9 s0 S T) : fx jI9 sN jA9 s0 S (crt T).2 := by
  unfold crt
  split
  · next h5 =>
    have hv := wd5 h h5
    have h1 := crJ_nx h
    have k1 := fc_nx h.1 k
    generalize cnx T = X1 at h1 k1
    unfold crt2
    split
    · have h2 := crJ_nx h1
      have k2 := fc_nx h1.1 k1
      generalize cnx X1 = X2 at h2 k2
      unfold crt3
      split
      · split
        · have k3 := fc_nx (crJ_cat (g := X1.1 24) (n := X2.1 26) h2 hv).1 (fc_cat k2)
          generalize cnx (catT X2 (T.1 24) (X1.1 24) (X2.1 26)) = Q at k3
          exact k3
        · exact k2
      · exact k2
    · exact k1
  · exact k
theorem fc_crcL {S : MS} : ∀ (n : Nat) (T : MS), crJ T → fx jI9 sN jA9 s0 S T → fx jI9 sN jA9 s0 S (crcL n T).2
  | 0, T, h, k => k
  | n + 1, T, h, k => by
    have hq := crt_J (crJ_nx h)
    have kq := fc_crt (S := S) (crJ_nx h) (fc_nx h.1 k)
    unfold crcL
    generalize crt (cnx T) = Y at hq kq
    repeat' split
    · exact kq
    · exact fc_crcL n Y.2 hq.1 kq
    · exact kq
theorem fc_crcA {S X : MS} (h : crJ X) (k : fx jI9 sN jA9 s0 S X) : fx jI9 sN jA9 s0 S (crcA X).2 := by
  unfold crcA
  split
  · exact fc_crcL 4 X h k
  · exact k
theorem fc_crc {S T : MS} (h : crJ T) (k : fx jI9 sN jA9 s0 S T) : fx jI9 sN jA9 s0 S (crc T).2 := by
  have h1 := crJ_cac (v := 1) h (Or.inr wn1)
  have h0 := crJ_cac (v := 0) h (Or.inl wn0)
  have k1 := fc_crcA (crJ_nx h1) (fc_nx h1.1 (fc_cac (v := 1) k))
  have k0 := fc_crcA (crJ_nx h0) (fc_nx h0.1 (fc_cac (v := 0) k))
  unfold crc
  generalize crcA (cnx (cac T 1)) = A1 at k1
  generalize crcA (cnx (cac T 0)) = A0 at k0
  repeat' split
  · exact k1
  · exact k0
  · exact k
theorem fc_crxL {S : MS} : ∀ (n : Nat) (T : MS), crJ T → fx jI9 sN jA9 s0 S T → fx jI9 sN jA9 s0 S (crxL n T).2
  | 0, T, h, k => k
  | n + 1, T, h, k => by
    have hq := crc_J h
    have kq := fc_crc (S := S) h k
    unfold crxL
    generalize crc T = Y at hq kq
    repeat' split
    · exact kq
    · exact kq
    · exact kq
    · exact fc_crxL n (cnx Y.2) (crJ_nx hq.1) (fc_nx hq.1.1 kq)
theorem fc_crx {T : MS} (hL : ciL T) (hC : ciC T 80) : fx jI9 sN jA9 s0 T (crx T).2 := by
  have h := crS_J hL hC
  have k0 : fx jI9 sN jA9 s0 T (crS T) := by unfold crS; exact fx_sI (fx_sI (fx_rfl T) (by decide)) (by decide)
  have k := fc_nx (crS_tr hL) k0
  unfold crx
  generalize cnx (crS T) = X at h k
  unfold crxA
  split
  · exact k
  · exact fc_crxL 8 X h k
theorem fx_jk {S T : MS} (k : fx jI9 sN jA9 s0 S T) : fx kI9 sN kA9 s0 S T := fx_mono k (fun j h => by omega) (fun j h => h) (fun j h => by omega) (fun j h => h)
theorem fc_endT {S T : MS} (g : Int32) (k : fx kI9 sN kA9 s0 S T) : fx kI9 sN kA9 s0 S (cf_endT T g) := by
  unfold cf_endT
  exact fx_sI (fx_sI k (by decide)) (by decide)
theorem swp_o {n : Nat} (h : ¬ (70 ≤ n ∧ n < 76)) (h2 : ¬ (80 ≤ n ∧ n < 86)) (h3 : n ≠ 202) (h4 : n ≠ 212) : swp n = n := by
  unfold swp
  rw [if_neg h, if_neg h2, if_neg h3, if_neg h4]
theorem fx_swT {S T : MS} (k : fx kI9 sN kA9 s0 S T) (h202 : ∀ j, 200 ≤ j → True) : ∀ j, j < 200 → ¬ kI9 j → (swT T).1 j = S.1 j := by
  intro j hj a
  show T.1 (swp j) = S.1 j
  rw [swp_o (fun h => a (by omega)) (fun h => a (by omega)) (by omega) (by omega)]
  exact k.1 j a
/-- the class behind a good text -/
theorem swT_I (T : MS) {j : Nat} (hj : j < 200) (h : ¬ (70 ≤ j ∧ j < 76)) (h2 : ¬ (80 ≤ j ∧ j < 86)) : (swT T).1 j = T.1 j := by
  show T.1 (swp j) = T.1 j
  rw [swp_o h h2 (by omega) (by omega)]
theorem swT_A (T : MS) {j : Nat} (hj : j < 200) (h : ¬ (70 ≤ j ∧ j < 76)) (h2 : ¬ (80 ≤ j ∧ j < 86)) : (swT T).2.2.1 j = T.2.2.1 j := by
  show T.2.2.1 (swp j) = T.2.2.1 j
  rw [swp_o h h2 (by omega) (by omega)]
theorem swT_70 (T : MS) (h : ciC T 80) : ciC (swT T) 70 := h
theorem swT_80 (T : MS) (h : ciC T 70) : ciC (swT T) 80 := h
/-! what every run of the class keeps -/
theorem ci_fx {T U : MS} {B : List BL} {I L A D : Nat → Prop} (k : fx I L A D T U) (h : cinv T B) (hI : ¬ I 16 ∧ ¬ I 17 ∧ ¬ I 20 ∧ ¬ I 70 ∧ ¬ I 80 ∧ ¬ I 41) (hA : ¬ A 2 ∧ ¬ A 71 ∧ ¬ A 72 ∧ ¬ A 73 ∧ ¬ A 81 ∧ ¬ A 82 ∧ ¬ A 83 ∧ ¬ A 46 ∧ ¬ A 47) : cinv U B := by
  obtain ⟨⟨b1, b2, b3⟩, c2, ⟨n3, h3, e3⟩, ⟨n4, h4, e4⟩, ⟨⟨n5, h5, e5⟩, c51, c52, c53⟩, ⟨⟨n6, h6, e6⟩, c61, c62, c63⟩, ⟨n7, h7, e7⟩, c7⟩ := h
  obtain ⟨i1, i2, i3, i4, i5, i6⟩ := hI
  obtain ⟨a1, a2, a3, a4, a5, a6, a7, a8, a9⟩ := hA
  refine ⟨⟨(k.1 16 i1).trans b1, b2, b3⟩, ?_, ⟨n3, h3, (k.1 17 i2).trans e3⟩, ⟨n4, h4, (k.1 20 i3).trans e4⟩, ⟨⟨n5, h5, (k.1 70 i4).trans e5⟩, ?_, ?_, ?_⟩, ⟨⟨n6, h6, (k.1 80 i5).trans e6⟩, ?_, ?_, ?_⟩, ⟨n7, h7, (k.1 41 i6).trans e7⟩, ?_⟩
  · intro q hq; rw [k.2.2.1 2 a1]; exact c2 q hq
  · rw [k.2.2.1 72 a3]; exact c51
  · rw [k.2.2.1 73 a4]; exact c52
  · rw [k.2.2.1 71 a2]; exact c53
  · rw [k.2.2.1 82 a6]; exact c61
  · rw [k.2.2.1 83 a7]; exact c62
  · rw [k.2.2.1 81 a5]; exact c63
  · rw [k.2.2.1 46 a8, k.2.2.1 47 a9]; exact c7
theorem ci_B {T : MS} {B B' : List BL} (h : cinv T B) (hl : B'.length = B.length) (hb : ∀ b ∈ B', bok b) : cinv T B' := by
  obtain ⟨⟨b1, b2, b3⟩, c⟩ := h
  exact ⟨⟨by rw [hl]; exact b1, by rw [hl]; exact b2, hb⟩, c⟩
theorem ci_set {T : MS} {B : List BL} {i : Nat} {b : BL} (h : cinv T B) (hb : bok b) : cinv T (B.set i b) := by
  refine ci_B h (by rw [List.length_set]) (fun c hc => ?_)
  rcases List.mem_or_eq_of_mem_set hc with hc | rfl
  · exact h.1.2.2 c hc
  · exact hb
theorem bok_bec {b : BL} {t d : Int32} (h : bok b) (ht : vp_in t 5) : bok (bf_become b t d) := by
  obtain ⟨a1, a2, a3, a4, a5, a6⟩ := h
  exact ⟨a1, a2, a3, ht, a5, a6⟩
theorem bok_mv {b : BL} {x : Int32} (h : bok b) (hx : vp_in x 10) : bok (bf_move b x) := by
  obtain ⟨a1, a2, a3, a4, a5, a6⟩ := h
  have key : bok (b.1, (bf_move0 b x).2) := by
    unfold bf_move0
    split
    · next hc =>
      refine ⟨a1, a2, hx, a4, ?_, ?_⟩
      · show 0 ≤ b.2.1 6 + 1 ∧ b.2.1 6 + 1 ≤ 4
        have h6 := a5
        have h7 := hc.2
        have e1 : (1 : Int32).toInt = 1 := by decide
        have e4 : (4 : Int32).toInt = 4 := by decide
        have e0 : (0 : Int32).toInt = 0 := by decide
        rw [Int32.le_iff_toInt_le, Int32.le_iff_toInt_le] at h6
        rw [Int32.lt_iff_toInt_lt] at h7
        have ea : (b.2.1 6 + 1).toInt = (b.2.1 6).toInt + 1 := by rw [I_add (by rw [e1]; omega) (by rw [e1]; omega), e1]
        rw [Int32.le_iff_toInt_le, Int32.le_iff_toInt_le, ea]
        omega
      · exact upd_all (P := fun z => vp_in z 10) a6 a3
    · exact ⟨a1, a2, hx, a4, a5, a6⟩
  exact key
theorem bok_ret {b : BL} {i : Int32} (h : bok b) : bok (bf_ret b i) := by
  have key : bok (b.1, (bf_ret0 b i).2) := by
    obtain ⟨a1, a2, a3, a4, a5, a6⟩ := h
    unfold bf_ret0
    split
    · next hc =>
      have h6 := a5
      have h1 := hc.1
      have h2 := hc.2
      have e4 : (4 : Int32).toInt = 4 := by decide
      have e0 : (0 : Int32).toInt = 0 := by decide
      rw [Int32.le_iff_toInt_le, Int32.le_iff_toInt_le] at h6
      rw [Int32.le_iff_toInt_le] at h1
      rw [Int32.lt_iff_toInt_lt] at h2
      refine ⟨a1, a2, a6 _ (vcl (vp_in_iff.mpr ⟨by omega, by omega⟩)), a4, ?_, a6⟩
      show 0 ≤ i ∧ i ≤ 4
      rw [Int32.le_iff_toInt_le, Int32.le_iff_toInt_le]
      omega
    · exact ⟨a1, a2, a3, a4, a5, a6⟩
  exact key
theorem bok_I7 {b : BL} {v : Int32} (h : bok b) : bok (bI b 7 v) := h
theorem ci_pass {T : MS} {B : List BL} (x y : Int32) (h : cinv T B) : cinv (cf_pass T B x y).2.1 (cf_pass T B x y).2.2 := by
  have hf := ci_fx (fc_pass T B x y) h (by decide) (by decide)
  generalize e : cf_pass T B x y = P at hf
  have hB : ∀ c ∈ P.2.2, bok c := by
    rw [← e]
    unfold cf_pass
    split
    · next hc =>
      have hk := bokx h.1 hc.1
      repeat' split
      all_goals first
        | exact h.1.2.2
        | exact (ci_set h (bok_mv hk (vin hc.2 (by decide)))).1.2.2
    · exact h.1.2.2
  have hl : P.2.2.length = B.length := by
    rw [← e]
    unfold cf_pass
    repeat' split
    all_goals first | rfl | exact List.length_set
  exact ci_B hf hl hB
theorem ci_take {T : MS} {B : List BL} (x y : Int32) (h : cinv T B) : cinv (cf_take T B x y).2.1 (cf_take T B x y).2.2 := by
  have hf := ci_fx (fc_take T B x y) h (by decide) (by decide)
  generalize e : cf_take T B x y = P at hf
  have hB : ∀ c ∈ P.2.2, bok c := by
    rw [← e]
    unfold cf_take
    split
    · next hc =>
      have hk := bokx h.1 hc
      repeat' split
      all_goals first
        | exact h.1.2.2
        | exact (ci_set h (bok_bec hk (by unfold vp_in; decide))).1.2.2
    · exact h.1.2.2
  have hl : P.2.2.length = B.length := by
    rw [← e]
    unfold cf_take
    repeat' split
    all_goals first | rfl | exact List.length_set
  exact ci_B hf hl hB
theorem ci_protest {T : MS} {B : List BL} (x : Int32) (h : cinv T B) : cinv (cf_protest T B x).2.1 (cf_protest T B x).2.2 := by
  have hf := ci_fx (fc_protest T B x) h (by decide) (by decide)
  generalize e : cf_protest T B x = P at hf
  have hB : ∀ c ∈ P.2.2, bok c := by
    rw [← e]
    unfold cf_protest
    split
    · next hc =>
      have hk := bokx h.1 hc
      repeat' split
      all_goals first
        | exact h.1.2.2
        | exact (ci_set h (bok_bec hk (by unfold vp_in; decide))).1.2.2
    · exact h.1.2.2
  have hl : P.2.2.length = B.length := by
    rw [← e]
    unfold cf_protest
    repeat' split
    all_goals first | rfl | exact List.length_set
  exact ci_B hf hl hB
theorem ci_pay {T : MS} {B : List BL} (x : Int32) (h : cinv T B) : cinv (cf_pay T B x).2.1 (cf_pay T B x).2.2 := by
  have hf := ci_fx (fc_pay T B x h.1 (bokx h.1)) h (by decide) (by decide)
  generalize e : cf_pay T B x = P at hf
  have hB : ∀ c ∈ P.2.2, bok c := by
    rw [← e]
    unfold cf_pay
    split
    · next hc =>
      have hk := bokx h.1 hc
      repeat' split
      all_goals first
        | exact h.1.2.2
        | exact (ci_set h (bok_I7 (bok_bec hk (by unfold vp_in; decide)))).1.2.2
    · exact h.1.2.2
  have hl : P.2.2.length = B.length := by
    rw [← e]
    unfold cf_pay
    repeat' split
    all_goals first | rfl | exact List.length_set
  exact ci_B hf hl hB
theorem ci_recourse {T : MS} {B : List BL} (x i : Int32) (h : cinv T B) : cinv (cf_recourse T B x i).2.1 (cf_recourse T B x i).2.2 := by
  have hf := ci_fx (fc_recourse T B x i (bokx h.1)) h (by decide) (by decide)
  have hr : ∀ T1 d, bok (bat B x) → (∀ c ∈ (cf_rcE T T1 B x i d).2.2, bok c) ∧ (cf_rcE T T1 B x i d).2.2.length = B.length := by
    intro T1 d hk
    unfold cf_rcE
    split
    · exact ⟨h.1.2.2, rfl⟩
    · refine ⟨(ci_set h ?_).1.2.2, List.length_set⟩
      split
      · exact bok_bec hk (by unfold vp_in; decide)
      · exact bok_ret hk
  have key : (∀ c ∈ (cf_recourse T B x i).2.2, bok c) ∧ (cf_recourse T B x i).2.2.length = B.length := by
    unfold cf_recourse
    split
    · next hc =>
      have hk := bokx h.1 hc
      repeat' split
      all_goals first
        | exact ⟨h.1.2.2, rfl⟩
        | exact hr _ _ hk
    · exact ⟨h.1.2.2, rfl⟩
  exact ci_B hf key.2 key.1
theorem ci_seat {T : MS} {B : List BL} (x t : Int32) (h : cinv T B) : cinv (cf_seat T x t).2 B := by
  unfold cf_seat
  split
  · next hc =>
    obtain ⟨c1, c2, c3⟩ := h
    exact ⟨c1, upd_all (P := fun z => vp_in z 5) c2 (vin hc.2 (by decide)), c3⟩
  · exact h
theorem ci_tell {T : MS} {B : List BL} (v : Int32) (h : cinv T B) : cinv (cf_tell T v).2 B := by
  unfold cf_tell
  split
  · next hc =>
    obtain ⟨c1, c2, ⟨n, hn, e⟩, c4⟩ := h
    refine ⟨c1, c2, ⟨n + 1, ?_, ?_⟩, c4⟩
    · rw [e, show (30 : Int32) = nI 30 from by decide, nI_ltI (by omega) (by decide)] at hc
      omega
    · show T.1 17 + 1 = nI (n + 1)
      rw [e, nI_1]
  · exact h
theorem ci_17 {T : MS} {B : List BL} (h : cinv T B) : cinv (sI T 17 0) B := by
  obtain ⟨c1, c2, c3, c4⟩ := h
  exact ⟨c1, c2, ⟨0, by decide, by show (0 : Int32) = nI 0; decide⟩, c4⟩
theorem apF_L {T : MS} {L : Nat} (e : Int64) (hL : T.1 20 = nI L) : ∀ n, (apF T e n).1 20 = nI (L + n)
  | 0 => hL
  | n + 1 => by
    show (apF T e n).1 20 + 1 = nI (L + n + 1)
    rw [apF_L e hL n, nI_1]
theorem ci_20 {T U : MS} {B : List BL} {I L A D : Nat → Prop} (k : fx I L A D T U) (h : cinv T B) (hn : ∃ n, n ≤ 400 ∧ U.1 20 = nI n) (hI : ¬ I 16 ∧ ¬ I 17 ∧ ¬ I 70 ∧ ¬ I 80 ∧ ¬ I 41) (hA : ¬ A 2 ∧ ¬ A 71 ∧ ¬ A 72 ∧ ¬ A 73 ∧ ¬ A 81 ∧ ¬ A 82 ∧ ¬ A 83 ∧ ¬ A 46 ∧ ¬ A 47) : cinv U B := by
  obtain ⟨⟨b1, b2, b3⟩, c2, ⟨n3, h3, e3⟩, -, ⟨⟨n5, h5, e5⟩, c51, c52, c53⟩, ⟨⟨n6, h6, e6⟩, c61, c62, c63⟩, ⟨n7, h7, e7⟩, c7⟩ := h
  obtain ⟨i1, i2, i4, i5, i6⟩ := hI
  obtain ⟨a1, a2, a3, a4, a5, a6, a7, a8, a9⟩ := hA
  refine ⟨⟨(k.1 16 i1).trans b1, b2, b3⟩, ?_, ⟨n3, h3, (k.1 17 i2).trans e3⟩, hn, ⟨⟨n5, h5, (k.1 70 i4).trans e5⟩, ?_, ?_, ?_⟩, ⟨⟨n6, h6, (k.1 80 i5).trans e6⟩, ?_, ?_, ?_⟩, ⟨n7, h7, (k.1 41 i6).trans e7⟩, ?_⟩
  · intro q hq; rw [k.2.2.1 2 a1]; exact c2 q hq
  · rw [k.2.2.1 72 a3]; exact c51
  · rw [k.2.2.1 73 a4]; exact c52
  · rw [k.2.2.1 71 a2]; exact c53
  · rw [k.2.2.1 82 a6]; exact c61
  · rw [k.2.2.1 83 a7]; exact c62
  · rw [k.2.2.1 81 a5]; exact c63
  · rw [k.2.2.1 46 a8, k.2.2.1 47 a9]; exact c7
theorem ci_feed {T : MS} {B : List BL} (e : Int64) (n : Int32) (h : cinv T B) : cinv (cf_feed T e n).2 B := by
  refine ci_20 (fc_feed T e n) h ?_ (by decide) (by decide)
  obtain ⟨L, hL, eL⟩ := h.2.2.2.1
  unfold cf_feed
  split
  · next hn =>
    split
    · next hle =>
      have hn' := inR hn
      rw [show (1 : Int32).toInt = 1 from by decide, show (8 : Int32).toInt = 8 from by decide] at hn'
      have hc := clamp_I (x := n) (by omega)
      refine ⟨L + n.toNatClampNeg, ?_, apF_L e eL _⟩
      rw [eL, Int32.le_iff_toInt_le, I_add (by rw [nI_toInt (by omega)]; omega) (by rw [nI_toInt (by omega)]; omega), nI_toInt (by omega), show (400 : Int32).toInt = 400 from by decide] at hle
      omega
    · exact ⟨L, hL, eL⟩
  · exact ⟨L, hL, eL⟩
/-- read -/
theorem ci_readX {T X : MS} {B : List BL} (g : Int32) (h : cinv T B) (hJ : crJ X) (k : fx jI9 sN jA9 s0 T X) : cinv (cf_endT X g) B ∧ cinv (swT (cf_endT X g)) B := by
  obtain ⟨⟨b1, b2, b3⟩, c2, ⟨n3, h3, e3⟩, c4, ⟨⟨n5, h5, e5⟩, c51, c52, c53⟩, c6, ⟨n7, h7, e7⟩, c7⟩ := h
  have c70 : ciC X 70 := ⟨⟨n5, h5, (k.1 70 (by decide)).trans e5⟩, by rw [k.2.2.1 72 (by decide)]; exact c51, by rw [k.2.2.1 73 (by decide)]; exact c52, by rw [k.2.2.1 71 (by decide)]; exact c53⟩
  have c80 := hJ.2.1
  have x16 : X.1 16 = T.1 16 := k.1 16 (by decide)
  have x17 : X.1 17 = T.1 17 := k.1 17 (by decide)
  have x41 : X.1 41 = T.1 41 := k.1 41 (by decide)
  have x2 : X.2.2.1 2 = T.2.2.1 2 := k.2.2.1 2 (by decide)
  have x46 : X.2.2.1 46 = T.2.2.1 46 := k.2.2.1 46 (by decide)
  have x47 : X.2.2.1 47 = T.2.2.1 47 := k.2.2.1 47 (by decide)
  have hS : ∀ q, q < 10 → vp_in (X.2.2.1 2 q) 5 := by rw [x2]; exact c2
  have hP : ∀ i, i < 10 → vp_in (X.2.2.1 46 i) 10 ∧ vp_in (X.2.2.1 47 i) 10 := by rw [x46, x47]; exact c7
  constructor
  · exact ⟨⟨x16.trans b1, b2, b3⟩, hS, ⟨n3, h3, x17.trans e3⟩, ⟨0, by decide, by show (0 : Int32) = nI 0; decide⟩, c70, c80, ⟨n7, h7, x41.trans e7⟩, hP⟩
  · exact ⟨⟨x16.trans b1, b2, b3⟩, hS, ⟨n3, h3, x17.trans e3⟩, ⟨0, by decide, by show (0 : Int32) = nI 0; decide⟩, c80, c70, ⟨n7, h7, x41.trans e7⟩, hP⟩
theorem ci_fd {T : MS} {B : List BL} {q : Int32} (h : cinv T B) : cinv (cf_fd T q).2 B := h
/-! the plan -/
theorem ci_P {T U : MS} {B : List BL} {I L A D : Nat → Prop} (k : fx I L A D T U) (h : cinv T B) (hP : ciP U) (hI : ¬ I 16 ∧ ¬ I 17 ∧ ¬ I 20 ∧ ¬ I 70 ∧ ¬ I 80) (hA : ¬ A 2 ∧ ¬ A 71 ∧ ¬ A 72 ∧ ¬ A 73 ∧ ¬ A 81 ∧ ¬ A 82 ∧ ¬ A 83) : cinv U B := by
  obtain ⟨⟨b1, b2, b3⟩, c2, ⟨n3, h3, e3⟩, ⟨n4, h4, e4⟩, ⟨⟨n5, h5, e5⟩, c51, c52, c53⟩, ⟨⟨n6, h6, e6⟩, c61, c62, c63⟩, -⟩ := h
  obtain ⟨i1, i2, i3, i4, i5⟩ := hI
  obtain ⟨a1, a2, a3, a4, a5, a6, a7⟩ := hA
  refine ⟨⟨(k.1 16 i1).trans b1, b2, b3⟩, ?_, ⟨n3, h3, (k.1 17 i2).trans e3⟩, ⟨n4, h4, (k.1 20 i3).trans e4⟩, ⟨⟨n5, h5, (k.1 70 i4).trans e5⟩, ?_, ?_, ?_⟩, ⟨⟨n6, h6, (k.1 80 i5).trans e6⟩, ?_, ?_, ?_⟩, hP⟩
  · intro q hq; rw [k.2.2.1 2 a1]; exact c2 q hq
  · rw [k.2.2.1 72 a3]; exact c51
  · rw [k.2.2.1 73 a4]; exact c52
  · rw [k.2.2.1 71 a2]; exact c53
  · rw [k.2.2.1 82 a6]; exact c61
  · rw [k.2.2.1 83 a7]; exact c62
  · rw [k.2.2.1 81 a5]; exact c63
theorem ci_ref {T : MS} {B : List BL} (h : cinv T B) : cinv (cf_ref T) B := ci_P (fc_ref T) h (ref_P h.2.2.2.2.2.2) (by decide) (by decide)
theorem fc_ccl {U : MS} (h : ciP U) {N : Nat} (hN : N ≤ 10) (eN : U.1 41 = nI N) : ∀ n, n ≤ N → fx sN (fun j => j = 30) sN sD U (ccl U n)
  | 0, _ => by
    show fx _ _ _ _ U (cf_wipe U)
    unfold cf_wipe
    exact fx_sL (fx_gF (fx_rfl U)) rfl
  | n + 1, hn => by
    have k := fc_ccl h hN eN n (by omega)
    have hp := ccl_P h n
    have e41 : (ccl U n).1 41 = nI N := (k.1 41 (fun f => f)).trans eN
    obtain ⟨f1, f2⟩ := fig_in hp (i := n) (c := N) (by omega) hN e41
    show fx _ _ _ _ U (clS (ccl U n) n)
    unfold clS
    exact fx_charge k f1 f2
theorem fc_clear {T : MS} (h : ciP T) : fx qI (fun j => j = 50 ∨ j = 30) qA (fun q => qB q ∨ sD q) T (cf_clear T).2 := by
  have hp := ref_P h
  obtain ⟨N, hN, eN⟩ := hp.1
  have k0 := fc_ref T
  unfold cf_clear
  generalize cf_ref T = U at hp eN k0
  have k := fc_ccl hp hN eN N (Nat.le_refl N)
  rw [eN, nI_clamp (by omega)]
  exact fx_tr (fx_mono k0 (fun _ h => h) (fun _ h => Or.inl h) (fun _ h => h) (fun _ h => Or.inl h)) (fx_mono k (fun _ h => absurd h id) (fun _ h => Or.inr h) (fun _ h => absurd h id) (fun _ h => Or.inr h))
theorem ci_clear {T : MS} {B : List BL} (h : cinv T B) : cinv (cf_clear T).2 B := by
  refine ci_P (fc_clear h.2.2.2.2.2.2) h ?_ (by decide) (by decide)
  have hp := ref_P h.2.2.2.2.2.2
  unfold cf_clear
  generalize cf_ref T = U at hp
  exact ccl_P hp _
theorem fc_plan (T : MS) (g : Int32) : fx qI qL qA qB T (cf_plan T g).2 ∧ (cf_plan T g).2 = cf_ref T := by
  have k := fc_ref T
  unfold cf_plan
  generalize cf_ref T = U at k
  split <;> exact ⟨k, rfl⟩
theorem ci_plan {T : MS} {B : List BL} (g : Int32) (h : cinv T B) : cinv (cf_plan T g).2 B := by
  rw [(fc_plan T g).2]
  exact ci_ref h
abbrev q0 : Nat → Prop := fun q => q = 42 ∨ q = 43 ∨ q = 48 ∨ q = 0
theorem fc_payment (T : MS) (i w : Int32) : fx qI qL qA q0 T (cf_payment T i w).2 := by
  have k := fc_ref T
  have k' : fx qI qL qA q0 T (cf_ref T) := fx_mono k (fun _ h => h) (fun _ h => h) (fun _ h => h) (fun q h => by omega)
  unfold cf_payment
  generalize cf_ref T = U at k'
  repeat' split
  · exact k'
  · exact fx_fd k' (by decide)
  · exact fx_fd (fx_rfl T) (by decide)
theorem ci_payment {T : MS} {B : List BL} (i w : Int32) (h : cinv T B) : cinv (cf_payment T i w).2 B := by
  have hr := ci_ref h
  unfold cf_payment
  generalize cf_ref T = U at hr
  repeat' split
  · exact hr
  · exact hr
  · exact h
theorem fc_check (T : MS) : fx (fun j => qI j ∨ j = 17) qL qA qB T (cf_check T).2 := by
  have k := fc_ref T
  unfold cf_check
  generalize cf_ref T = U at k
  exact fx_sI (fx_mono k (fun _ h => Or.inl h) (fun _ h => h) (fun _ h => h) (fun _ h => h)) (Or.inr rfl)
theorem ci_check {T : MS} {B : List BL} (h : cinv T B) : cinv (cf_check T).2 B := by
  have hr := ci_ref h
  unfold cf_check
  generalize cf_ref T = U at hr
  exact ci_17 hr
theorem ci_draw {T : MS} {B : List BL} {q e g : Nat} {kd dr de py am d : Int32} (h : cinv T B) (hc : dcnd kd dr de py am) (hf : T.1 16 < 40) : cinv (sI T 16 (T.1 16 + 1)) (B ++ [bnew q e g kd dr de py am d]) := by
  obtain ⟨⟨b1, b2, b3⟩, c⟩ := h
  have hl : B.length < 40 := by
    rw [b1, show (40 : Int32) = nI 40 from by decide, nI_ltI (by omega) (by decide)] at hf
    exact hf
  refine ⟨⟨?_, ?_, ?_⟩, c⟩
  · show T.1 16 + 1 = nI (B ++ [bnew q e g kd dr de py am d]).length
    rw [b1, nI_1, List.length_append]
    rfl
  · rw [List.length_append]
    show B.length + 1 ≤ 40
    omega
  · intro b hb
    rcases List.mem_append.mp hb with hb | hb
    · exact b3 b hb
    · rw [List.mem_singleton.mp hb]
      exact ⟨vin hc.2.1 (by decide), vin hc.2.2.1 (by decide), vin hc.2.2.2.1 (by decide), by show vp_in 0 5; unfold vp_in; decide, by show (0 : Int32) ≤ 0 ∧ (0 : Int32) ≤ 4; decide, fun i hi => by show vp_in 0 10; unfold vp_in; decide⟩
