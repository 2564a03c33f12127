theorem minv0 : minv S0 := by
  refine ⟨by decide, by decide, by decide, by decide, fun b _ => by show 0 ≤ (0 : Int32).toInt ∧ (0 : Int32).toInt ≤ 4; decide, fun b _ => ?_, fun b _ => by show vp_in 0 10; unfold vp_in; decide, fun b _ => by show vp_in 0 5; unfold vp_in; decide, fun c _ => by show 0 ≤ (0 : Int32).toInt ∧ (0 : Int32).toInt ≤ 4 ∧ ((0 : Int32) = 0 ∨ (0 : Int32) = 1); decide⟩
  show vp_in 0 10 ∧ vp_in 0 10 ∧ vp_in 0 10 ∧ vp_in 0 5
  unfold vp_in
  decide
theorem ciC00 (q : Nat) (h : T0.1 q = 0) : ciC T0 q := ⟨⟨0, by decide, h.trans (by decide)⟩, fun c _ => ⟨0, by decide, by show (0 : Int32) = nI 0; decide⟩, fun k _ => by show vp_in 0 5; unfold vp_in; decide, fun c _ => Or.inl rfl⟩
theorem cinv0 : cinv T0 [] := ⟨⟨by show (0 : Int32) = nI 0; decide, by decide, fun b hb => absurd hb List.not_mem_nil⟩, fun h _ => by show vp_in 0 5; unfold vp_in; decide, ⟨0, by decide, by show (0 : Int32) = nI 0; decide⟩, ⟨0, by decide, by show (0 : Int32) = nI 0; decide⟩, ciC00 70 rfl, ciC00 80 rfl, ⟨0, by decide, by show (0 : Int32) = nI 0; decide⟩, fun i _ => by show vp_in 0 10 ∧ vp_in 0 10; unfold vp_in; decide⟩
theorem rinv0 : rinv (Mi 0) S0 := by
  refine ⟨minv0, fun c _ => ⟨⟨0, by decide, by show (0 : Int32) = nI 0; decide⟩, Or.inl rfl⟩, by show 0 ≤ (20 : Int32).toInt ∧ (20 : Int32).toInt ≤ 200; decide, ⟨fun k _ => by show 0 ≤ (0 : Int64).toInt; decide, ?_⟩, fun k _ => by show 0 ≤ (0 : Int32).toInt ∧ (0 : Int32).toInt ≤ 1000; decide, fun k _ => by show 0 ≤ (0 : Int32).toInt ∧ (0 : Int32).toInt ≤ 100000; decide⟩
  rw [isum_zero 100 (fun j _ => by show (0 : Int64).toInt = 0; decide)]
  show (0 : Int) ≤ 100000000000 + 1000000 * (0 : Int)
  decide
