/-! the plan of every book can be found -/
theorem nz_le (F : Nat → Int) : nz F ≤ 10 := by
  have h := isum_le (f := fun h => if F h = 0 then (0 : Int) else 1) (g := fun _ => 1) 10 (fun i _ => by split <;> decide)
  exact Int.le_trans h (by decide)
theorem sm0 {B : Int} {f : Nat → Int64} (hB : B ≤ 100000000000000000) (hf : ∀ j, j < 10 → -B ≤ (f j).toInt ∧ (f j).toInt ≤ B) {s : Nat} (hs : s < 1024) : sgL f s 10 = 0 ↔ sgI (fun j => (f j).toInt) s = 0 := by
  rw [← sgL_s hB hf hs]
  constructor
  · intro h; rw [h]; decide
  · intro h; exact Int64.toInt_inj.mp (h.trans (by decide))
theorem pp_sp {A B : Int} (hB : B ≤ 1000000000000) {X : MS} {N : Nat} {G : Nat → Nat} (hN : ∀ j, j < N → X.2.2.1 45 j = nI (G j) ∧ G j < 1024) (hd : ∀ j k, j < k → k < N → G j &&& G k = 0) (h0 : poI A B X 0) (hs : ∀ k, k < N → sgI (nF X) (G k) = 0) : ∀ n, n ≤ N → (∀ j, j < n → poOk ((ppF X j).2.2.1 45 j) 10 (ppF X j)) ∧ ∃ c, poI A B (ppF X n) c ∧ fr X (ppF X n) ∧ (ppF X n).2.2.1 45 = X.2.2.1 45 ∧ (ppF X n).1 44 = X.1 44 ∧ ∀ k, n ≤ k → k < N → sgI (nF (ppF X n)) (G k) = 0
  | 0, _ => ⟨fun j hj => absurd hj (by omega), 0, h0, fr_rfl X, rfl, rfl, fun k _ hk => hs k hk⟩
  | n + 1, hn => by
    obtain ⟨a1, c, a2, a3, a4, a5, a6⟩ := pp_sp hB hN hd h0 hs n (by omega)
    have e45 : (ppF X n).2.2.1 45 n = nI (G n) := by rw [a4]; exact (hN n (by omega)).1
    obtain ⟨b1, c', b2, b3, b4, b5, b6⟩ := po_ok hB (hN n (by omega)).2 10 (ppF X n) c a2 (a6 n (Nat.le_refl n) (by omega)) (nz_le _)
    have e : ppF X (n + 1) = poR (nI (G n)) 10 (ppF X n) := by show poR ((ppF X n).2.2.1 45 n) 10 (ppF X n) = _; rw [e45]
    rw [e]
    refine ⟨fun j hj => ?_, c', b2, fr_tr a3 b3, b4.trans a4, b5.trans a5, fun k h1 h2 => ?_⟩
    · by_cases ej : j = n
      · rw [ej, e45]; exact b1
      · exact a1 j (by omega)
    · rw [b6 (G k) (hd n k (by omega) h2)]
      exact a6 k (by omega) h2
theorem pl_ex0 {M : Int} (hM : M ≤ 1000000000000) {S W V U : MS} (h : dnv M (S.2.2.2 15)) (n1 : fr S W) (n6 : ∀ j, W.2.2.2 50 j = if j < 10 then mnetT S (nI j) 10 else S.2.2.2 50 j) (s1 : fr W V) (s4 : V.2.2.2 50 = W.2.2.2 50) (s5 : ∀ s, V.2.2.2 42 s = if s < 1024 then sgL (W.2.2.2 50) s 10 else W.2.2.2 42 s) (m1 : fr V U) (m3 : U.2.2.2 = V.2.2.2) (m5 : ∀ a, 0 < a → a ≤ 1023 → moA (V.2.2.2 42) (U.2.2.1 43) a (U.2.2.1 43 a) ∧ (V.2.2.2 42 a = 0 → 1 ≤ U.2.2.1 43 a)) (e0 : mpl0 S = sI (sI U 44 0) 46 0) : ∃ (T : MS) (N : Nat), plRun S T ∧ plOk T N ∧ fr S T ∧ (∀ j, j < N → 0 ≤ (T.2.2.2 49 j).toInt) ∧ isum (fun j => (T.2.2.2 49 j).toInt) N ≤ M := by
  have hM0 : 0 ≤ M := by have h1 := isum_nn (f := dI (S.2.2.2 15)) 100 h.1; have h2 := h.2; omega
  have eN : ∀ j, j < 10 → (W).2.2.2 50 j = mnetT S (nI j) 10 := fun j hj => by rw [n6, if_pos hj]
  have hb : ∀ j, j < 10 → ((W).2.2.2 50 j).toInt = ntI (S.2.2.2 15) j 10 := fun j hj => by rw [eN j hj, mnet_I hM h hj (Nat.le_refl 10)]
  have hB : ∀ j, j < 10 → -M ≤ ((W).2.2.2 50 j).toInt ∧ ((W).2.2.2 50 j).toInt ≤ M := fun j hj => by rw [hb j hj]; exact ntI_b h hj
  obtain ⟨sm, esm⟩ : ∃ sm, sm = V.2.2.2 42 := ⟨_, rfl⟩
  have hsm : ∀ s, s < 1024 → sm s = sgL ((W).2.2.2 50) s 10 := fun s hs => by rw [esm, s5, if_pos hs]
  have hz : ∀ s, s < 1024 → (sm s = 0 ↔ sgI (fun j => ((W).2.2.2 50 j).toInt) s = 0) := fun s hs => by rw [hsm s hs]; exact sm0 (by omega) hB hs
  have hxl : ∀ a g, a < 1024 → g &&& a = g → a ^^^ g < 1024 := fun a g ha hg => by
    have h2 : a ^^^ g ≤ a := by rw [← sub_xor hg]; exact Nat.and_le_right
    omega
  obtain ⟨m, em⟩ : ∃ m, m = U.2.2.1 43 := ⟨_, rfl⟩
  have hadd : ∀ a g, a < 1024 → g &&& a = g → sm a = 0 → sm g = 0 → sm (a ^^^ g) = 0 := fun a g ha hg h1 h2 => by
    have hgl : g < 1024 := by have := sub_le hg; omega
    rw [hz a ha] at h1
    rw [hz g hgl] at h2
    rw [hz _ (hxl a g ha hg)]
    have := sgI_xor (fun j => ((W).2.2.2 50 j).toInt) hg
    omega
  have hmo : ∀ a, 0 < a → a < 1024 → sm a = 0 → ∃ g, 1 ≤ g ∧ g &&& a = g ∧ ¬ (nI g &&& (nI a &&& -nI a)) = 0 ∧ sm g = 0 ∧ m (a ^^^ g) + 1 = m a := fun a h0 ha hs => by
    obtain ⟨k1, k2⟩ := m5 a h0 (by omega)
    rw [← em, ← esm] at k1 k2
    obtain ⟨g, g1, g2, g3, g4, g5, g6⟩ := k1 (Int32.le_trans (by decide) (k2 hs))
    exact ⟨g, g1, g2, g3, g4, g6⟩
  have eA := npA_eq S 10 (Nat.le_refl 10)
  obtain ⟨A, hA⟩ : ∃ A, A = anN (fun j => mnetT S (nI j) 10) 10 := ⟨_, rfl⟩
  have hAl : A < 1024 := by rw [hA]; exact anN_lt _ 10
  have hA0 : sm A = 0 := by
    rw [hz A hAl]
    have e : sgI (fun j => ((W).2.2.2 50 j).toInt) A = isum (fun j => ntI (S.2.2.2 15) j 10) 10 := by
      refine isum_congr 10 (fun j hj => ?_)
      rw [hA, anN_bit, decide_eq_true hj, Bool.true_and]
      by_cases hc : mnetT S (nI j) 10 = 0
      · rw [if_neg (by simp [hc]), ← hb j hj, eN j hj, hc]
        decide
      · rw [if_pos (by simp [hc])]
        exact hb j hj
    rw [e]
    exact ntI_sum _
  rw [← hA] at eA
  have f0 : fr S (mpl0 S) := by
    rw [e0]
    exact fr_tr (fr_tr (fr_tr (fr_tr n1 s1) m1) (fr_sI (Or.inl rfl))) (fr_sI (Or.inr rfl))
  obtain ⟨X, N, G, x1, x2, x3, x4, x5, x6, x7, x8, x9, x10, x11⟩ := fg_ex hadd hmo 10 A 0 (mpl0 S) hAl hA0 (pc_le A) (by omega) (fun s _ => by rw [e0]; show U.2.2.2 42 s = sm s; rw [m3, esm]) (fun s _ => by rw [e0]; show U.2.2.1 43 s = m s; rw [em]) (by rw [e0]; rfl)
  have e50 : ∀ j, X.2.2.2 50 j = (W).2.2.2 50 j := fun j => by
    rw [x7, e0]
    show U.2.2.2 50 j = _
    rw [m3, s4]
  have hnF : ∀ j, j < 10 → nF X j = ntI (S.2.2.2 15) j 10 := fun j hj => by unfold nF; rw [e50, hb j hj]
  have hP0 : poI (ab (nF X)) M X 0 := by
    refine ⟨x6.trans (by rw [e0]; rfl), ?_, fun j hj => absurd hj (by omega), ?_, fun j hj => by unfold nF; rw [e50]; exact hB j hj⟩
    · have := nz_le (nF X)
      omega
    · show 2 * 0 + ab (nF X) = ab (nF X)
      omega
  have hsg : ∀ k, k < N → sgI (nF X) (G k) = 0 := fun k hk => by
    obtain ⟨k1, k2, k3, k4⟩ := x9 k (by omega) hk
    rw [hz _ k2] at k4
    rw [← k4]
    unfold sgI
    refine isum_congr 10 (fun j _ => ?_)
    unfold nF
    rw [e50]
  obtain ⟨y1, c, y2, y3, y4, y5, y6⟩ := pp_sp hM (fun j hj => ⟨(x9 j (by omega) hj).1, (x9 j (by omega) hj).2.1⟩) (fun j k h1 h2 => x11 j k (by omega) h1 h2) hP0 hsg N (Nat.le_refl N)
  obtain ⟨z1, z2, z3, z4, z5⟩ := y2
  have hc10 : c ≤ 10 := by have := nz_nn (nF (ppF X N)); omega
  refine ⟨ppF X N, c, ⟨X, N, by omega, ?_, x4, y1, rfl⟩, ⟨hc10, z1, fun j hj => ⟨(z3 j hj).1, (z3 j hj).2.1⟩⟩, fr_tr f0 (fr_tr x5 y3), fun j hj => (z3 j hj).2.2, ?_⟩
  · rw [eA]; exact x1
  · have ha : ab (nF X) ≤ 2 * M := by
      have := ntI_abs h
      have e : ab (nF X) = isum (fun j => ((ntI (S.2.2.2 15) j 10).natAbs : Int)) 10 := isum_congr 10 (fun j hj => by rw [hnF j hj])
      omega
    have hab : 0 ≤ ab (nF (ppF X N)) := isum_nn 10 (fun i _ => by omega)
    omega
theorem pl_ex {M : Int} (hM : M ≤ 1000000000000) {S : MS} (h : dnv M (S.2.2.2 15)) : ∃ (T : MS) (N : Nat), plRun S T ∧ plOk T N ∧ fr S T ∧ (∀ j, j < N → 0 ≤ (T.2.2.2 49 j).toInt) ∧ isum (fun j => (T.2.2.2 49 j).toInt) N ≤ M := by
  have n := npF_sp S 10
  have s := smO_sp (npF S 10) 1024
  have m := moO_sp (smO (npF S 10) 1024) 1023 (by decide)
  exact pl_ex0 hM h n.1 n.2.2.2.2.2 s.1 s.2.2.2.1 s.2.2.2.2 m.1 m.2.2.1 m.2.2.2.2.2 (mpl0.eq_1 S)
