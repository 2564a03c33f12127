theorem tp_mono {T : MS} {f g : Nat} (h : tpI T f) (hf : f ≤ g) : tpI T g := ⟨h.1, h.2.1, h.2.2.1, by have := h.2.2.2; omega⟩
theorem tp_skR : ∀ (f : Nat) (T : MS), tpI T f → tpI (skR f T) f
  | 0, _, h => h
  | f + 1, T, h => by
    show tpI (if mat T (T.1 39) = 32 then skR f (sI T 39 (T.1 39 + 1)) else T) (f + 1)
    split
    · next hc => exact tp_mono (tp_skR f _ (tp_step h (mat_lt (lo := 32) (by decide) (by rw [hc] <;> decide)))) (Nat.le_succ f)
    · exact h
theorem tp_ltR : ∀ (f : Nat) (c : Int64) (T : MS), tpI T f → tpI (ltR f c T).2 f
  | 0, _, _, h => h
  | f + 1, c, T, h => by
    show tpI (if isLet T then ltR f (lt2 T c) (sI T 39 (T.1 39 + 1)) else (c, T)).2 (f + 1)
    split
    · next hc => exact tp_mono (tp_ltR f _ _ (tp_step h (mat_lt (lo := 97) (by decide) hc.1))) (Nat.le_succ f)
    · exact h
theorem tp_fgR : ∀ (f : Nat) (T : MS), tpI T f → tpI (fgR f T) f
  | 0, _, h => h
  | f + 1, T, h => by
    show tpI (if isFig T then fgR f (fgN T) else T) (f + 1)
    split
    · next hc => exact tp_mono (tp_fgR f _ (tp_fg h (mat_lt (lo := 48) (by decide) hc.1))) (Nat.le_succ f)
    · exact h
theorem tp_mwd {T : MS} {c : Int64} {f : Nat} (h : tpI T f) : tpI (mwd T c).2 f := by
  unfold mwd
  repeat' split
  all_goals exact h
theorem tp_set {T : MS} {f : Nat} {v : Int32} (h : tpI T f) : tpI (sI T 40 v) f := h
theorem tp_let {S : MS} (h : tpI S 401) : tpI (mf_letters S) 401 := by
  unfold mf_letters
  have h2 := tp_ltR 401 0 S h
  generalize ltR 401 0 S = X at h2 ⊢
  unfold ltE
  split
  · exact tp_set (tp_mwd h2)
  · exact tp_set h2
theorem tp_sg {T : MS} (h : tpI T 401) (hc : 0 ≤ mat T (T.1 39)) : tpI (sgE T) 401 := by
  unfold sgE
  exact tp_mono (tp_step (f := 400) (T := sI T 40 (sgW (mat T (T.1 39)))) h (mat_lt (lo := 0) (by decide) hc)) (by decide)
/-- the next word leaves the place on the tape -/
theorem tp_mfgo {S : MS} (h : tpI S 401) : tpI (mf_go S) 401 := by
  unfold mf_go
  have h2 := tp_skR 401 S h
  generalize skR 401 S = T at h2 ⊢
  unfold goB
  split
  · next hc =>
    split
    · exact tp_let (tp_go h2)
    · split
      · have h3 := tp_fgR 401 (goI T) (tp_go h2)
        generalize fgR 401 (goI T) = U at h3 ⊢
        exact tp_set h3
      · exact tp_sg (tp_go h2) hc
  · exact tp_set (tp_go h2)
