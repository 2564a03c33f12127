/-! what every run of the reference keeps -/
theorem I_add {x y : Int32} (h1 : -2147483648 ≤ x.toInt + y.toInt) (h2 : x.toInt + y.toInt < 2147483648) : (x + y).toInt = x.toInt + y.toInt := by
  rw [Int32.toInt_add]
  exact Int.bmod_eq_of_le (by omega) (by omega)
theorem I_sub {x y : Int32} (h1 : -2147483648 ≤ x.toInt - y.toInt) (h2 : x.toInt - y.toInt < 2147483648) : (x - y).toInt = x.toInt - y.toInt := by
  rw [Int32.toInt_sub]
  exact Int.bmod_eq_of_le (by omega) (by omega)
theorem I_mul {x y : Int32} (h1 : -2147483648 ≤ x.toInt * y.toInt) (h2 : x.toInt * y.toInt < 2147483648) : (x * y).toInt = x.toInt * y.toInt := by
  rw [Int32.toInt_mul]
  exact Int.bmod_eq_of_le (by omega) (by omega)
def rinv (M : Int) (S : MS) : Prop := minv S ∧ ninv S ∧ (0 ≤ (S.1 1).toInt ∧ (S.1 1).toInt ≤ 200) ∧ dnv M (S.2.2.2 15) ∧ (∀ k, k < 40 → 0 ≤ (S.2.2.1 17 k).toInt ∧ (S.2.2.1 17 k).toInt ≤ 1000) ∧ (∀ b, b < 40 → 0 ≤ (S.2.2.1 9 b).toInt ∧ (S.2.2.1 9 b).toInt ≤ 100000)
theorem dnv_mono {M N : Int} (h : M ≤ N) {f : Nat → Int64} (k : dnv M f) : dnv N f := ⟨k.1, Int.le_trans k.2 h⟩
theorem ri_mono {M N : Int} (h : M ≤ N) {S : MS} (k : rinv M S) : rinv N S := ⟨k.1, k.2.1, k.2.2.1, dnv_mono h k.2.2.2.1, k.2.2.2.2⟩
theorem inR {x lo hi : Int32} (h : lo ≤ x ∧ x ≤ hi) : lo.toInt ≤ x.toInt ∧ x.toInt ≤ hi.toInt := by
  rw [Int32.le_iff_toInt_le, Int32.le_iff_toInt_le] at h
  exact h
theorem vin {x : Int32} {hi : Int32} {n : Nat} (h : 0 ≤ x ∧ x ≤ hi) (hn : hi.toInt < n) : vp_in x n := by
  have := inR h
  rw [show (0 : Int32).toInt = 0 from by decide] at this
  exact vp_in_iff.mpr ⟨this.1, by omega⟩
theorem vcl {x : Int32} {n : Nat} (h : vp_in x n) : x.toNatClampNeg < n := by
  unfold vp_in at h
  omega
theorem upd_all {P : Int32 → Prop} {f : Nat → Int32} {n i : Nat} {v : Int32} (h : ∀ b, b < n → P (f b)) (hv : P v) : ∀ b, b < n → P (upd f i v b) := by
  intro b hb
  unfold upd
  split
  · exact hv
  · exact h b hb
theorem ri_fd {M : Int} {S : MS} {q : Int64} (h : rinv M S) : rinv M (mf_finding S q).2 := h
theorem ri_gain {M : Int} {S : MS} (v : Int32) (h : rinv M S) : rinv M (mf_gain S v).2 := by
  unfold mf_gain
  split
  · next hv => exact ⟨h.1, h.2.1, by show 0 ≤ v.toInt ∧ v.toInt ≤ 200; have := inR hv; simpa using this, h.2.2.2⟩
  · exact h
theorem ri_road {M : Int} {S : MS} (t v : Int32) (h : rinv M S) : rinv M (mf_road S t v).2 := by
  unfold mf_road
  split
  · exact h
  · exact h
theorem ri_seat {M : Int} {S : MS} (x t : Int32) (h : rinv M S) : rinv M (mf_seat S x t).2 := by
  unfold mf_seat
  split
  · next hv =>
    obtain ⟨⟨a1, a2, a3, a4, a5, a6, a7, a8, a9⟩, b⟩ := h
    exact ⟨⟨a1, a2, a3, a4, a5, a6, a7, upd_all (P := fun z => vp_in z 5) a8 (vin hv.2 (by decide)), a9⟩, b⟩
  · exact h
theorem ri_bec {M : Int} {S : MS} {b t : Int32} (ht : vp_in t 5) (h : rinv M S) : rinv M (mf_becomes S b t) := by
  obtain ⟨⟨a1, a2, a3, a4, a5, a6, a7, a8, a9⟩, b⟩ := h
  exact ⟨⟨a1, a2, a3, a4, a5, fun q hq => ⟨(a6 q hq).1, (a6 q hq).2.1, (a6 q hq).2.2.1, upd_all (P := fun z => vp_in z 5) (fun r hr => (a6 r hr).2.2.2) ht q hq⟩, a7, a8, a9⟩, b⟩
theorem ri_4 {M : Int} {S : MS} (h : rinv M S) : 0 ≤ (S.1 4).toInt ∧ (S.1 4).toInt ≤ 40 := h.1.1
theorem bl_in {M : Int} {S : MS} (h : rinv M S) {b : Int32} (hb : 0 ≤ b ∧ b ≤ S.1 4 - 1) : b.toNatClampNeg < 40 ∧ vp_in b 40 := by
  have h4 := ri_4 h
  have h1 : (S.1 4 - 1).toInt = (S.1 4).toInt - 1 := I_sub (by rw [show (1 : Int32).toInt = 1 from by decide]; omega) (by rw [show (1 : Int32).toInt = 1 from by decide]; omega)
  have := inR hb
  rw [h1, show (0 : Int32).toInt = 0 from by decide] at this
  have hv : vp_in b 40 := vp_in_iff.mpr ⟨this.1, by omega⟩
  exact ⟨vcl hv, hv⟩
theorem ri_draw {M : Int} {S : MS} (kd dr de py am : Int32) (h : rinv M S) : rinv M (mf_draw S kd dr de py am).2 := by
  unfold mf_draw
  split
  · next hv =>
    obtain ⟨v1, v2, v3, v4, v5⟩ := hv
    split
    · exact h
    · split
      · exact h
      · next h40 =>
        obtain ⟨⟨a1, a2, a3, a4, a5, a6, a7, a8, a9⟩, b1, b2, b3, b4, b5⟩ := h
        refine ⟨⟨?_, a2, a3, a4, ?_, ?_, a7, a8, a9⟩, b1, b2, b3, b4, ?_⟩
        · show 0 ≤ (S.1 4 + 1).toInt ∧ (S.1 4 + 1).toInt ≤ 40
          have e1 : (1 : Int32).toInt = 1 := by decide
          have hne : (S.1 4).toInt ≠ 40 := fun h => h40 (Int32.toInt_inj.mp (h.trans (by decide)))
          rw [I_add (by rw [e1]; omega) (by rw [e1]; omega), e1]
          omega
        · exact upd_all (P := fun z => 0 ≤ z.toInt ∧ z.toInt ≤ 4) a5 (by decide)
        · intro q hq
          exact ⟨upd_all (P := fun z => vp_in z 10) (fun r hr => (a6 r hr).1) (vin v2 (by decide)) q hq, upd_all (P := fun z => vp_in z 10) (fun r hr => (a6 r hr).2.1) (vin v3 (by decide)) q hq, upd_all (P := fun z => vp_in z 10) (fun r hr => (a6 r hr).2.2.1) (vin v4 (by decide)) q hq, upd_all (P := fun z => vp_in z 5) (fun r hr => (a6 r hr).2.2.2) (by unfold vp_in; decide) q hq⟩
        · refine upd_all (P := fun z => 0 ≤ z.toInt ∧ z.toInt ≤ 100000) b5 ?_
          have := inR v5
          rw [show (1 : Int32).toInt = 1 from by decide, show (100000 : Int32).toInt = 100000 from by decide] at this
          omega
  · exact h
theorem ri_8 {M : Int} {S : MS} {i : Nat} {v : Int32} (hv : vp_in v 10) (h : rinv M S) : rinv M (sA S 8 i v) := by
  obtain ⟨⟨a1, a2, a3, a4, a5, a6, a7, a8, a9⟩, b⟩ := h
  exact ⟨⟨a1, a2, a3, a4, a5, fun q hq => ⟨(a6 q hq).1, (a6 q hq).2.1, upd_all (P := fun z => vp_in z 10) (fun r hr => (a6 r hr).2.2.1) hv q hq, (a6 q hq).2.2.2⟩, a7, a8, a9⟩, b⟩
theorem ri_11 {M : Int} {S : MS} {i : Nat} {v : Int32} (hv : 0 ≤ v.toInt ∧ v.toInt ≤ 4) (h : rinv M S) : rinv M (sA S 11 i v) := by
  obtain ⟨⟨a1, a2, a3, a4, a5, a6, a7, a8, a9⟩, b⟩ := h
  exact ⟨⟨a1, a2, a3, a4, upd_all (P := fun z => 0 ≤ z.toInt ∧ z.toInt ≤ 4) a5 hv, a6, a7, a8, a9⟩, b⟩
theorem ri_12 {M : Int} {S : MS} {i : Nat} {v : Int32} (hv : vp_in v 10) (h : rinv M S) : rinv M (sA S 12 i v) := by
  obtain ⟨⟨a1, a2, a3, a4, a5, a6, a7, a8, a9⟩, b⟩ := h
  exact ⟨⟨a1, a2, a3, a4, a5, a6, upd_all (P := fun z => vp_in z 10) a7 hv, a8, a9⟩, b⟩
theorem ri_14 {M : Int} {S : MS} {i : Nat} {v : Int32} (h : rinv M S) : rinv M (sA S 14 i v) := h
theorem ri_pass {M : Int} {S : MS} (b x : Int32) (h : rinv M S) : rinv M (mf_pass S b x).2 := by
  unfold mf_pass
  split
  · next hv =>
    obtain ⟨hb, -⟩ := bl_in h hv.1
    have hx : vp_in x 10 := vin hv.2 (by decide)
    repeat' split
    all_goals first
      | exact h
      | exact ri_8 hx h
      | skip
    all_goals
      refine ri_8 hx ?_
      unfold mf_pass2
      have e11 := h.1.2.2.2.2.1 _ hb
      refine ri_11 ?_ (ri_12 (h.1.2.2.2.2.2.1 _ hb).2.2.1 h)
      show 0 ≤ (S.2.2.1 11 b.toNatClampNeg + 1).toInt ∧ (S.2.2.1 11 b.toNatClampNeg + 1).toInt ≤ 4
      have e1 : (1 : Int32).toInt = 1 := by decide
      have hne : (S.2.2.1 11 b.toNatClampNeg).toInt ≠ 4 := fun h9 => absurd (Int32.toInt_inj.mp (h9.trans (show (4 : Int) = (4 : Int32).toInt by decide))) (by assumption)
      rw [I_add (by rw [e1]; omega) (by rw [e1]; omega), e1]
      omega
  · exact h
theorem ri_take {M : Int} {S : MS} (b r : Int32) (h : rinv M S) : rinv M (mf_take S b r).2 := by
  unfold mf_take
  repeat' split
  all_goals first
    | exact h
    | (refine ri_bec ?_ h; unfold vp_in; decide)
    | skip
theorem ri_protest {M : Int} {S : MS} (b : Int32) (h : rinv M S) : rinv M (mf_protest S b).2 := by
  unfold mf_protest
  repeat' split
  all_goals first
    | exact h
    | (refine ri_bec ?_ h; unfold vp_in; decide)
