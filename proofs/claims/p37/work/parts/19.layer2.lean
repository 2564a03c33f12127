section GLOOP
variable {Γ : gT} {R : Room} {cc : ByteArray} {own : String} {Ts : List Cond} {nL : Nat} {D : va_G} {cl : List vw_C} {tys : List (ClassId × FieldType)} {mc ms : Nat} {post : Option Value → va_W → Prop} {k n : Nat} {ws : va_W} {pc : Nat} {lv : List (Nat × Value)} {st : List Value}
theorem g_to (ws2 : va_W) (lv2 : List (Nat × Value)) (h : G Γ R cc own Ts nL D cl tys mc ms post k n ws2 pc lv2 st) (hw : ws = ws2) (hlv : gSub lv lv2) : G Γ R cc own Ts nL D cl tys mc ms post k n ws pc lv st := by
  subst hw
  exact g_nrm lv2 hlv h
theorem g_whl {σ : Type} (μ : σ → Nat) (I : σ → Prop) (Wf : σ → va_W) (L : σ → List (Nat × Value)) (s0 : σ) (h0 : I s0) (hw : ws = Wf s0) (hlv : gSub lv (L s0)) (hs : ∀ x, I x → (∀ y, I y → μ y < μ x → G Γ R cc own Ts nL D cl tys mc ms post k n (Wf y) pc (L y) st) → G Γ R cc own Ts nL D cl tys mc ms post k n (Wf x) pc (L x) st) : G Γ R cc own Ts nL D cl tys mc ms post k n ws pc lv st := by
  have key : ∀ (b : Nat) (x : σ), μ x < b → I x → G Γ R cc own Ts nL D cl tys mc ms post k n (Wf x) pc (L x) st := by
    intro b
    induction b with
    | zero => intro x h _; exact absurd h (Nat.not_lt_zero _)
    | succ b ih => intro x h hx; exact hs x hx (fun y hy hlt => ih y (by omega) hy)
  exact g_to (Wf s0) (L s0) (key (μ s0 + 1) s0 (Nat.lt_succ_self _) h0) hw hlv
theorem g_cnt (N : Nat) (I : Nat → Prop) (Wf : Nat → va_W) (L : Nat → List (Nat × Value)) (i0 : Nat) (hi0 : i0 ≤ N) (h0 : I i0) (hw : ws = Wf i0) (hlv : gSub lv (L i0)) (hx : I N → G Γ R cc own Ts nL D cl tys mc ms post k n (Wf N) pc (L N) st) (hs : ∀ i, i < N → I i → (I (i + 1) → G Γ R cc own Ts nL D cl tys mc ms post k n (Wf (i + 1)) pc (L (i + 1)) st) → G Γ R cc own Ts nL D cl tys mc ms post k n (Wf i) pc (L i) st) : G Γ R cc own Ts nL D cl tys mc ms post k n ws pc lv st := by
  have key : ∀ (j i : Nat), i + j = N → I i → G Γ R cc own Ts nL D cl tys mc ms post k n (Wf i) pc (L i) st := by
    intro j
    induction j with
    | zero => intro i h hi; have e : i = N := by omega
              subst e; exact hx hi
    | succ j ih => intro i h hi; exact hs i (by omega) hi (fun h2 => ih (i + 1) (by omega) h2)
  exact g_to (Wf i0) (L i0) (key (N - i0) i0 (by omega) h0) hw hlv
theorem g_cut (pc2 : Nat) (st2 : List Value) (h1 : G Γ R cc own Ts nL D cl tys mc ms post k n ws pc2 lv st2) (h2 : G Γ R cc own Ts nL D cl tys mc ms post k n ws pc2 lv st2 → G Γ R cc own Ts nL D cl tys mc ms post k n ws pc lv st) : G Γ R cc own Ts nL D cl tys mc ms post k n ws pc lv st := h2 h1
theorem g_ste {st2 : List Value} (h : G Γ R cc own Ts nL D cl tys mc ms post k n ws pc lv st2) (e : st = st2) : G Γ R cc own Ts nL D cl tys mc ms post k n ws pc lv st := e ▸ h
theorem g_seq (h : G Γ R cc own Ts nL D cl tys mc ms post k n ws pc lv st) : G Γ R cc own Ts nL D cl tys mc ms post k n ws pc lv st := h
theorem g_mmin {x y : Int32} {ix : Nat} (hlink : Cond.methodLink own ix Lib.Math.min.name ∈ Ts) (hstat : Cond.static Lib.Math.min.name ∈ Ts) (hini : Cond.initialized "java/lang/Math" ∈ Ts) (hcode : Cond.code Lib.Math.min.name Lib.Math.min.code 2 (some .int) ∈ Ts) (hfr : 1 ≤ R.frames) (hlo : (st.map fun v => v.category).sum + 13 ≤ R.locals) (hc : k ≤ R.cells) (hs2 : n ≤ R.slots) (hd : decode cc pc = .ok (.invokestatic ix, 3)) (kk : G Γ R cc own Ts nL D cl tys mc ms post k n ws (pc + 3) lv (.int (if y < x then y else x) :: st)) : G Γ R cc own Ts nL D cl tys mc ms post k n ws pc lv (.int y :: .int x :: st) := by
  intro hok H locs ls hS hl
  have h9 := kk hok H locs ls hS hl
  obtain ⟨p, l, e, s, m, args, below, meth, c, Q, A, H0⟩ := Γ
  obtain ⟨hx, hb, hml, hown, hts, hK, hA, hin, hret⟩ := hok
  exact va_mmin hx hb (hml.trans hl.1.symm) hown (hts _ hlink) (hts _ hstat) (hts _ hini) (hts _ hcode) hfr hlo hc hs2 hd h9
theorem g_mminL {x y : Int64} {ix : Nat} (hlink : Cond.methodLink own ix Lib.MathLoose.min_long.x ∈ Ts) (hstat : Cond.static Lib.MathLoose.min_long.x ∈ Ts) (hini : Cond.initialized "java/lang/Math" ∈ Ts) (hcode : Cond.code Lib.MathLoose.min_long.x Lib.MathLoose.min_long.code 4 (some .long) ∈ Ts) (hfr : 1 ≤ R.frames) (hlo : (st.map fun v => v.category).sum + 15 ≤ R.locals) (hc : k ≤ R.cells) (hs2 : n ≤ R.slots) (hd : decode cc pc = .ok (.invokestatic ix, 3)) (kk : G Γ R cc own Ts nL D cl tys mc ms post k n ws (pc + 3) lv (.long (if y < x then y else x) :: st)) : G Γ R cc own Ts nL D cl tys mc ms post k n ws pc lv (.long y :: .long x :: st) := by
  intro hok H locs ls hS hl
  have h9 := kk hok H locs ls hS hl
  obtain ⟨p, l, e, s, m, args, below, meth, c, Q, A, H0⟩ := Γ
  obtain ⟨hx, hb, hml, hown, hts, hK, hA, hin, hret⟩ := hok
  exact va_mmin_long hx hb (hml.trans hl.1.symm) hown (hts _ hlink) (hts _ hstat) (hts _ hini) (hts _ hcode) hfr hlo hc hs2 hd h9
end GLOOP
section MODELN
variable {Γ : gT} {R : Room} {cc : ByteArray} {own : String} {Ts : List Cond} {nL : Nat} {D : va_G} {cy : Nat → ClassId} {mc ms : Nat} {post : Option Value → va_W → Prop} {k n : Nat} {a : Nat → Nat} {S : MS} {pc : Nat} {lv : List (Nat × Value)} {st : List Value}
theorem m_ialdN {i : Nat} (j q N : Nat) (hd : decode cc pc = .ok (.iaload, 1)) (ha : (MW cy a S)[q]? = some (a j, .inl (cy 0, N, .inl (S.2.2.1 j)))) (hi : i < N) (hN : N < 2 ^ 31) (kk : G Γ R cc own Ts nL D clx (tyx cy) mc ms post k n (MW cy a S) (pc + 1) lv (.int (S.2.2.1 j i) :: st)) : G Γ R cc own Ts nL D clx (tyx cy) mc ms post k n (MW cy a S) pc lv (.int (nI i) :: .ref (a j) :: st) := by
  refine m_iald j q N hd ha (vp_in_nI hi hN) ?_
  rw [nI_clamp (by omega)]
  exact kk
theorem m_zaldN {i : Nat} (j q N : Nat) (hd : decode cc pc = .ok (.baload, 1)) (ha : (MW cy a S)[q]? = some (a j, .inl (cy 2, N, .inl (S.2.2.1 j)))) (hi : i < N) (hN : N < 2 ^ 31) (kk : G Γ R cc own Ts nL D clx (tyx cy) mc ms post k n (MW cy a S) (pc + 1) lv (.int (S.2.2.1 j i) :: st)) : G Γ R cc own Ts nL D clx (tyx cy) mc ms post k n (MW cy a S) pc lv (.int (nI i) :: .ref (a j) :: st) := by
  refine m_zald j q N hd ha (vp_in_nI hi hN) ?_
  rw [nI_clamp (by omega)]
  exact kk
theorem m_laldN {i : Nat} (j q N : Nat) (hd : decode cc pc = .ok (.laload, 1)) (ha : (MW cy a S)[q]? = some (a j, .inl (cy 1, N, .inr (.inl (S.2.2.2 j))))) (hi : i < N) (hN : N < 2 ^ 31) (kk : G Γ R cc own Ts nL D clx (tyx cy) mc ms post k n (MW cy a S) (pc + 1) lv (.long (S.2.2.2 j i) :: st)) : G Γ R cc own Ts nL D clx (tyx cy) mc ms post k n (MW cy a S) pc lv (.int (nI i) :: .ref (a j) :: st) := by
  refine m_lald j q N hd ha (vp_in_nI hi hN) ?_
  rw [nI_clamp (by omega)]
  exact kk
theorem m_iastN {i : Nat} {x : Int32} (j q N : Nat) (hd : decode cc pc = .ok (.iastore, 1)) (ha : (MW cy a S)[q]? = some (a j, .inl (cy 0, N, .inl (S.2.2.1 j)))) (hi : i < N) (hN : N < 2 ^ 31) (hws : (MW cy a S).set q (a j, .inl (cy 0, N, .inl (upd (S.2.2.1 j) i x))) = MW cy a (sA S j i x)) (kk : G Γ R cc own Ts nL D clx (tyx cy) mc ms post k n (MW cy a (sA S j i x)) (pc + 1) lv st) : G Γ R cc own Ts nL D clx (tyx cy) mc ms post k n (MW cy a S) pc lv (.int x :: .int (nI i) :: .ref (a j) :: st) := by
  have e : (nI i).toNatClampNeg = i := nI_clamp (by omega)
  refine m_iast j q N hd ha (vp_in_nI hi hN) (by rw [e]; exact hws) ?_
  rw [e]
  exact kk
theorem m_zastN {i : Nat} {x : Int32} (j q N : Nat) (hd : decode cc pc = .ok (.bastore, 1)) (ha : (MW cy a S)[q]? = some (a j, .inl (cy 2, N, .inl (S.2.2.1 j)))) (hi : i < N) (hN : N < 2 ^ 31) (hws : (MW cy a S).set q (a j, .inl (cy 2, N, .inl (upd (S.2.2.1 j) i (vp_nar .boolean x)))) = MW cy a (sA S j i (vp_nar .boolean x))) (kk : G Γ R cc own Ts nL D clx (tyx cy) mc ms post k n (MW cy a (sA S j i (vp_nar .boolean x))) (pc + 1) lv st) : G Γ R cc own Ts nL D clx (tyx cy) mc ms post k n (MW cy a S) pc lv (.int x :: .int (nI i) :: .ref (a j) :: st) := by
  have e : (nI i).toNatClampNeg = i := nI_clamp (by omega)
  refine m_zast j q N hd ha (vp_in_nI hi hN) (by rw [e]; exact hws) ?_
  rw [e]
  exact kk
theorem m_lastN {i : Nat} {x : Int64} (j q N : Nat) (hd : decode cc pc = .ok (.lastore, 1)) (ha : (MW cy a S)[q]? = some (a j, .inl (cy 1, N, .inr (.inl (S.2.2.2 j))))) (hi : i < N) (hN : N < 2 ^ 31) (hws : (MW cy a S).set q (a j, .inl (cy 1, N, .inr (.inl (vp_updL (S.2.2.2 j) i x)))) = MW cy a (sB S j i x)) (kk : G Γ R cc own Ts nL D clx (tyx cy) mc ms post k n (MW cy a (sB S j i x)) (pc + 1) lv st) : G Γ R cc own Ts nL D clx (tyx cy) mc ms post k n (MW cy a S) pc lv (.long x :: .int (nI i) :: .ref (a j) :: st) := by
  have e : (nI i).toNatClampNeg = i := nI_clamp (by omega)
  refine m_last j q N hd ha (vp_in_nI hi hN) (by rw [e]; exact hws) ?_
  rw [e]
  exact kk
end MODELN
theorem wsI_0 (cy : Nat → ClassId) (a : Nat → Nat) (S : MS) (v : Int64) : (MW cy a S).set 0 (a 0, .inr (9, (MO a S).set 0 (.long v))) = MW cy a (sL S 0 v) := rfl
theorem wsI_1 (cy : Nat → ClassId) (a : Nat → Nat) (S : MS) (v : Int32) : (MW cy a S).set 0 (a 0, .inr (9, (MO a S).set 1 (.int v))) = MW cy a (sI S 1 v) := rfl
theorem wsA_2 (cy : Nat → ClassId) (a : Nat → Nat) (S : MS) (i : Nat) (v : Int32) : (MW cy a S).set 1 (a 2, .inl (cy 0, 5, .inl (upd (S.2.2.1 2) i v))) = MW cy a (sA S 2 i v) := rfl
theorem wsA_3 (cy : Nat → ClassId) (a : Nat → Nat) (S : MS) (i : Nat) (v : Int32) : (MW cy a S).set 2 (a 3, .inl (cy 0, 10, .inl (upd (S.2.2.1 3) i v))) = MW cy a (sA S 3 i v) := rfl
theorem wsI_4 (cy : Nat → ClassId) (a : Nat → Nat) (S : MS) (v : Int32) : (MW cy a S).set 0 (a 0, .inr (9, (MO a S).set 4 (.int v))) = MW cy a (sI S 4 v) := rfl
theorem wsA_5 (cy : Nat → ClassId) (a : Nat → Nat) (S : MS) (i : Nat) (v : Int32) : (MW cy a S).set 3 (a 5, .inl (cy 0, 40, .inl (upd (S.2.2.1 5) i v))) = MW cy a (sA S 5 i v) := rfl
theorem wsA_6 (cy : Nat → ClassId) (a : Nat → Nat) (S : MS) (i : Nat) (v : Int32) : (MW cy a S).set 4 (a 6, .inl (cy 0, 40, .inl (upd (S.2.2.1 6) i v))) = MW cy a (sA S 6 i v) := rfl
theorem wsA_7 (cy : Nat → ClassId) (a : Nat → Nat) (S : MS) (i : Nat) (v : Int32) : (MW cy a S).set 5 (a 7, .inl (cy 0, 40, .inl (upd (S.2.2.1 7) i v))) = MW cy a (sA S 7 i v) := rfl
theorem wsA_8 (cy : Nat → ClassId) (a : Nat → Nat) (S : MS) (i : Nat) (v : Int32) : (MW cy a S).set 6 (a 8, .inl (cy 0, 40, .inl (upd (S.2.2.1 8) i v))) = MW cy a (sA S 8 i v) := rfl
theorem wsA_9 (cy : Nat → ClassId) (a : Nat → Nat) (S : MS) (i : Nat) (v : Int32) : (MW cy a S).set 7 (a 9, .inl (cy 0, 40, .inl (upd (S.2.2.1 9) i v))) = MW cy a (sA S 9 i v) := rfl
theorem wsA_10 (cy : Nat → ClassId) (a : Nat → Nat) (S : MS) (i : Nat) (v : Int32) : (MW cy a S).set 8 (a 10, .inl (cy 0, 40, .inl (upd (S.2.2.1 10) i v))) = MW cy a (sA S 10 i v) := rfl
theorem wsA_11 (cy : Nat → ClassId) (a : Nat → Nat) (S : MS) (i : Nat) (v : Int32) : (MW cy a S).set 9 (a 11, .inl (cy 0, 40, .inl (upd (S.2.2.1 11) i v))) = MW cy a (sA S 11 i v) := rfl
theorem wsA_12 (cy : Nat → ClassId) (a : Nat → Nat) (S : MS) (i : Nat) (v : Int32) : (MW cy a S).set 10 (a 12, .inl (cy 0, 160, .inl (upd (S.2.2.1 12) i v))) = MW cy a (sA S 12 i v) := rfl
theorem wsA_13 (cy : Nat → ClassId) (a : Nat → Nat) (S : MS) (i : Nat) (v : Int64) : (MW cy a S).set 11 (a 13, .inl (cy 1, 200, .inr (.inl (vp_updL (S.2.2.2 13) i v)))) = MW cy a (sB S 13 i v) := rfl
theorem wsA_14 (cy : Nat → ClassId) (a : Nat → Nat) (S : MS) (i : Nat) (v : Int32) : (MW cy a S).set 12 (a 14, .inl (cy 2, 40, .inl (upd (S.2.2.1 14) i v))) = MW cy a (sA S 14 i v) := rfl
theorem wsA_15 (cy : Nat → ClassId) (a : Nat → Nat) (S : MS) (i : Nat) (v : Int64) : (MW cy a S).set 13 (a 15, .inl (cy 1, 100, .inr (.inl (vp_updL (S.2.2.2 15) i v)))) = MW cy a (sB S 15 i v) := rfl
theorem wsA_16 (cy : Nat → ClassId) (a : Nat → Nat) (S : MS) (i : Nat) (v : Int32) : (MW cy a S).set 14 (a 16, .inl (cy 0, 4, .inl (upd (S.2.2.1 16) i v))) = MW cy a (sA S 16 i v) := rfl
theorem wsA_17 (cy : Nat → ClassId) (a : Nat → Nat) (S : MS) (i : Nat) (v : Int32) : (MW cy a S).set 15 (a 17, .inl (cy 0, 40, .inl (upd (S.2.2.1 17) i v))) = MW cy a (sA S 17 i v) := rfl
theorem wsA_18 (cy : Nat → ClassId) (a : Nat → Nat) (S : MS) (i : Nat) (v : Int32) : (MW cy a S).set 16 (a 18, .inl (cy 0, 50, .inl (upd (S.2.2.1 18) i v))) = MW cy a (sA S 18 i v) := rfl
theorem wsA_19 (cy : Nat → ClassId) (a : Nat → Nat) (S : MS) (i : Nat) (v : Int32) : (MW cy a S).set 17 (a 19, .inl (cy 0, 25, .inl (upd (S.2.2.1 19) i v))) = MW cy a (sA S 19 i v) := rfl
theorem wsI_20 (cy : Nat → ClassId) (a : Nat → Nat) (S : MS) (v : Int32) : (MW cy a S).set 0 (a 0, .inr (9, (MO a S).set 20 (.int v))) = MW cy a (sI S 20 v) := rfl
theorem wsA_21 (cy : Nat → ClassId) (a : Nat → Nat) (S : MS) (i : Nat) (v : Int32) : (MW cy a S).set 18 (a 21, .inl (cy 0, 30, .inl (upd (S.2.2.1 21) i v))) = MW cy a (sA S 21 i v) := rfl
theorem wsA_22 (cy : Nat → ClassId) (a : Nat → Nat) (S : MS) (i : Nat) (v : Int64) : (MW cy a S).set 19 (a 22, .inl (cy 1, 8, .inr (.inl (vp_updL (S.2.2.2 22) i v)))) = MW cy a (sB S 22 i v) := rfl
theorem wsI_23 (cy : Nat → ClassId) (a : Nat → Nat) (S : MS) (v : Int32) : (MW cy a S).set 0 (a 0, .inr (9, (MO a S).set 23 (.int v))) = MW cy a (sI S 23 v) := rfl
theorem wsA_24 (cy : Nat → ClassId) (a : Nat → Nat) (S : MS) (i : Nat) (v : Int32) : (MW cy a S).set 20 (a 24, .inl (cy 2, 8, .inl (upd (S.2.2.1 24) i v))) = MW cy a (sA S 24 i v) := rfl
theorem wsA_25 (cy : Nat → ClassId) (a : Nat → Nat) (S : MS) (i : Nat) (v : Int32) : (MW cy a S).set 21 (a 25, .inl (cy 0, 8, .inl (upd (S.2.2.1 25) i v))) = MW cy a (sA S 25 i v) := rfl
theorem wsA_26 (cy : Nat → ClassId) (a : Nat → Nat) (S : MS) (i : Nat) (v : Int32) : (MW cy a S).set 22 (a 26, .inl (cy 0, 32, .inl (upd (S.2.2.1 26) i v))) = MW cy a (sA S 26 i v) := rfl
theorem wsA_27 (cy : Nat → ClassId) (a : Nat → Nat) (S : MS) (i : Nat) (v : Int32) : (MW cy a S).set 23 (a 27, .inl (cy 0, 32, .inl (upd (S.2.2.1 27) i v))) = MW cy a (sA S 27 i v) := rfl
theorem wsA_28 (cy : Nat → ClassId) (a : Nat → Nat) (S : MS) (i : Nat) (v : Int32) : (MW cy a S).set 24 (a 28, .inl (cy 0, 32, .inl (upd (S.2.2.1 28) i v))) = MW cy a (sA S 28 i v) := rfl
theorem wsI_29 (cy : Nat → ClassId) (a : Nat → Nat) (S : MS) (v : Int32) : (MW cy a S).set 0 (a 0, .inr (9, (MO a S).set 29 (.int v))) = MW cy a (sI S 29 v) := rfl
theorem wsA_30 (cy : Nat → ClassId) (a : Nat → Nat) (S : MS) (i : Nat) (v : Int32) : (MW cy a S).set 25 (a 30, .inl (cy 2, 8, .inl (upd (S.2.2.1 30) i v))) = MW cy a (sA S 30 i v) := rfl
theorem wsA_31 (cy : Nat → ClassId) (a : Nat → Nat) (S : MS) (i : Nat) (v : Int32) : (MW cy a S).set 26 (a 31, .inl (cy 0, 8, .inl (upd (S.2.2.1 31) i v))) = MW cy a (sA S 31 i v) := rfl
theorem wsA_32 (cy : Nat → ClassId) (a : Nat → Nat) (S : MS) (i : Nat) (v : Int32) : (MW cy a S).set 27 (a 32, .inl (cy 0, 32, .inl (upd (S.2.2.1 32) i v))) = MW cy a (sA S 32 i v) := rfl
theorem wsA_33 (cy : Nat → ClassId) (a : Nat → Nat) (S : MS) (i : Nat) (v : Int32) : (MW cy a S).set 28 (a 33, .inl (cy 0, 32, .inl (upd (S.2.2.1 33) i v))) = MW cy a (sA S 33 i v) := rfl
theorem wsA_34 (cy : Nat → ClassId) (a : Nat → Nat) (S : MS) (i : Nat) (v : Int32) : (MW cy a S).set 29 (a 34, .inl (cy 0, 32, .inl (upd (S.2.2.1 34) i v))) = MW cy a (sA S 34 i v) := rfl
theorem wsA_35 (cy : Nat → ClassId) (a : Nat → Nat) (S : MS) (i : Nat) (v : Int32) : (MW cy a S).set 30 (a 35, .inl (cy 0, 400, .inl (upd (S.2.2.1 35) i v))) = MW cy a (sA S 35 i v) := rfl
theorem wsI_36 (cy : Nat → ClassId) (a : Nat → Nat) (S : MS) (v : Int32) : (MW cy a S).set 0 (a 0, .inr (9, (MO a S).set 36 (.int v))) = MW cy a (sI S 36 v) := rfl
theorem wsI_37 (cy : Nat → ClassId) (a : Nat → Nat) (S : MS) (v : Int64) : (MW cy a S).set 0 (a 0, .inr (9, (MO a S).set 37 (.long v))) = MW cy a (sL S 37 v) := rfl
theorem wsI_38 (cy : Nat → ClassId) (a : Nat → Nat) (S : MS) (v : Int32) : (MW cy a S).set 0 (a 0, .inr (9, (MO a S).set 38 (.int v))) = MW cy a (sI S 38 v) := rfl
theorem wsI_39 (cy : Nat → ClassId) (a : Nat → Nat) (S : MS) (v : Int32) : (MW cy a S).set 0 (a 0, .inr (9, (MO a S).set 39 (.int v))) = MW cy a (sI S 39 v) := rfl
theorem wsI_40 (cy : Nat → ClassId) (a : Nat → Nat) (S : MS) (v : Int32) : (MW cy a S).set 0 (a 0, .inr (9, (MO a S).set 40 (.int v))) = MW cy a (sI S 40 v) := rfl
theorem wsI_41 (cy : Nat → ClassId) (a : Nat → Nat) (S : MS) (v : Int32) : (MW cy a S).set 0 (a 0, .inr (9, (MO a S).set 41 (.int v))) = MW cy a (sI S 41 v) := rfl
theorem wsA_42 (cy : Nat → ClassId) (a : Nat → Nat) (S : MS) (i : Nat) (v : Int64) : (MW cy a S).set 31 (a 42, .inl (cy 1, 1024, .inr (.inl (vp_updL (S.2.2.2 42) i v)))) = MW cy a (sB S 42 i v) := rfl
theorem wsA_43 (cy : Nat → ClassId) (a : Nat → Nat) (S : MS) (i : Nat) (v : Int32) : (MW cy a S).set 32 (a 43, .inl (cy 0, 1024, .inl (upd (S.2.2.1 43) i v))) = MW cy a (sA S 43 i v) := rfl
theorem wsI_44 (cy : Nat → ClassId) (a : Nat → Nat) (S : MS) (v : Int32) : (MW cy a S).set 0 (a 0, .inr (9, (MO a S).set 44 (.int v))) = MW cy a (sI S 44 v) := rfl
theorem wsA_45 (cy : Nat → ClassId) (a : Nat → Nat) (S : MS) (i : Nat) (v : Int32) : (MW cy a S).set 33 (a 45, .inl (cy 0, 10, .inl (upd (S.2.2.1 45) i v))) = MW cy a (sA S 45 i v) := rfl
theorem wsI_46 (cy : Nat → ClassId) (a : Nat → Nat) (S : MS) (v : Int32) : (MW cy a S).set 0 (a 0, .inr (9, (MO a S).set 46 (.int v))) = MW cy a (sI S 46 v) := rfl
theorem wsA_47 (cy : Nat → ClassId) (a : Nat → Nat) (S : MS) (i : Nat) (v : Int32) : (MW cy a S).set 34 (a 47, .inl (cy 0, 10, .inl (upd (S.2.2.1 47) i v))) = MW cy a (sA S 47 i v) := rfl
theorem wsA_48 (cy : Nat → ClassId) (a : Nat → Nat) (S : MS) (i : Nat) (v : Int32) : (MW cy a S).set 35 (a 48, .inl (cy 0, 10, .inl (upd (S.2.2.1 48) i v))) = MW cy a (sA S 48 i v) := rfl
theorem wsA_49 (cy : Nat → ClassId) (a : Nat → Nat) (S : MS) (i : Nat) (v : Int64) : (MW cy a S).set 36 (a 49, .inl (cy 1, 10, .inr (.inl (vp_updL (S.2.2.2 49) i v)))) = MW cy a (sB S 49 i v) := rfl
theorem wsA_50 (cy : Nat → ClassId) (a : Nat → Nat) (S : MS) (i : Nat) (v : Int64) : (MW cy a S).set 37 (a 50, .inl (cy 1, 10, .inr (.inl (vp_updL (S.2.2.2 50) i v)))) = MW cy a (sB S 50 i v) := rfl
theorem wsI_51 (cy : Nat → ClassId) (a : Nat → Nat) (S : MS) (v : Int64) : (MW cy a S).set 0 (a 0, .inr (9, (MO a S).set 51 (.long v))) = MW cy a (sL S 51 v) := rfl
theorem wsI_52 (cy : Nat → ClassId) (a : Nat → Nat) (S : MS) (v : Int64) : (MW cy a S).set 0 (a 0, .inr (9, (MO a S).set 52 (.long v))) = MW cy a (sL S 52 v) := rfl
theorem wsA_53 (cy : Nat → ClassId) (a : Nat → Nat) (S : MS) (i : Nat) (v : Int64) : (MW cy a S).set 38 (a 53, .inl (cy 1, 10, .inr (.inl (vp_updL (S.2.2.2 53) i v)))) = MW cy a (sB S 53 i v) := rfl
theorem wsA_54 (cy : Nat → ClassId) (a : Nat → Nat) (S : MS) (i : Nat) (v : Int64) : (MW cy a S).set 39 (a 54, .inl (cy 1, 10, .inr (.inl (vp_updL (S.2.2.2 54) i v)))) = MW cy a (sB S 54 i v) := rfl
