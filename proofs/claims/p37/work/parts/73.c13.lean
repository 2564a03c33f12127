set_option maxHeartbeats 4000000 in
set_option maxRecDepth 100000 in
/-- isLetter -/
theorem K_isLetter (l : Launch) (D : va_G) (cy : Nat → ClassId) (a : Nat → Nat) (T : MS) (B : List BL) (x : Int32) : Ct l D clx (tyx cy) yX3_isLetter wsX3_isLetter (rmC 0) 0 0 [.int x] (CW cy a T B) (fun r9 w9 => (r9 = some (.int 1) ∧ (97 ≤ x ∧ x ≤ 122) ∧ w9 = CW cy a T B) ∨ (r9 = some (.int 0) ∧ ¬ (97 ≤ x ∧ x ≤ 122) ∧ w9 = CW cy a T B)) := by
  refine g_start (cc := cX3_isLetter) (maxL := 1) (ret := (some .boolean)) (by decide) rfl (Nat.le_of_ble_eq_true rfl) (fun v w1 h => by rcases h with ⟨rfl, -, -⟩ | ⟨rfl, -, -⟩ <;> exact ⟨.boolean, rfl, rfl⟩) (fun Γ hlΓ => ?_)
  subst hlΓ
  refine g_iload_n (i := 0) dX3_isLetter_0 rfl rfl ?_
  refine g_bipush (97) rfl dX3_isLetter_1 ?_
  refine g_icmp_lt 16 dX3_isLetter_3 (by decide) (fun c_1 => ?_) (fun c_1 => ?_)
  · skip
    refine g_iconst (0) rfl dX3_isLetter_16 ?_
    refine g_iret dX3_isLetter_17 ?_
    first | exact Or.inl ⟨rfl, ⟨Int32.not_lt.mp c_1, Int32.not_lt.mp c_2⟩, rfl⟩ | exact Or.inr ⟨rfl, fun h => absurd h.2 (Int32.not_le.mpr c_2), rfl⟩ | exact Or.inr ⟨rfl, fun h => absurd h.1 (Int32.not_le.mpr c_1), rfl⟩
  · skip
    refine g_iload_n (i := 0) dX3_isLetter_6 rfl rfl ?_
    refine g_bipush (122) rfl dX3_isLetter_7 ?_
    refine g_icmp_gt 16 dX3_isLetter_9 (by decide) (fun c_2 => ?_) (fun c_2 => ?_)
    · skip
      refine g_iconst (0) rfl dX3_isLetter_16 ?_
      refine g_iret dX3_isLetter_17 ?_
      first | exact Or.inl ⟨rfl, ⟨Int32.not_lt.mp c_1, Int32.not_lt.mp c_2⟩, rfl⟩ | exact Or.inr ⟨rfl, fun h => absurd h.2 (Int32.not_le.mpr c_2), rfl⟩ | exact Or.inr ⟨rfl, fun h => absurd h.1 (Int32.not_le.mpr c_1), rfl⟩
    · skip
      refine g_iconst (1) rfl dX3_isLetter_12 ?_
      refine g_goto 17 dX3_isLetter_13 (by decide) ?_
      refine g_iret dX3_isLetter_17 ?_
      first | exact Or.inl ⟨rfl, ⟨Int32.not_lt.mp c_1, Int32.not_lt.mp c_2⟩, rfl⟩ | exact Or.inr ⟨rfl, fun h => absurd h.2 (Int32.not_le.mpr c_2), rfl⟩ | exact Or.inr ⟨rfl, fun h => absurd h.1 (Int32.not_le.mpr c_1), rfl⟩

set_option maxHeartbeats 4000000 in
set_option maxRecDepth 100000 in
/-- isFigure -/
theorem K_isFigure (l : Launch) (D : va_G) (cy : Nat → ClassId) (a : Nat → Nat) (T : MS) (B : List BL) (x : Int32) : Ct l D clx (tyx cy) yX3_isFigure wsX3_isFigure (rmC 0) 0 0 [.int x] (CW cy a T B) (fun r9 w9 => (r9 = some (.int 1) ∧ (48 ≤ x ∧ x ≤ 57) ∧ w9 = CW cy a T B) ∨ (r9 = some (.int 0) ∧ ¬ (48 ≤ x ∧ x ≤ 57) ∧ w9 = CW cy a T B)) := by
  refine g_start (cc := cX3_isFigure) (maxL := 1) (ret := (some .boolean)) (by decide) rfl (Nat.le_of_ble_eq_true rfl) (fun v w1 h => by rcases h with ⟨rfl, -, -⟩ | ⟨rfl, -, -⟩ <;> exact ⟨.boolean, rfl, rfl⟩) (fun Γ hlΓ => ?_)
  subst hlΓ
  refine g_iload_n (i := 0) dX3_isFigure_0 rfl rfl ?_
  refine g_bipush (48) rfl dX3_isFigure_1 ?_
  refine g_icmp_lt 16 dX3_isFigure_3 (by decide) (fun c_1 => ?_) (fun c_1 => ?_)
  · skip
    refine g_iconst (0) rfl dX3_isFigure_16 ?_
    refine g_iret dX3_isFigure_17 ?_
    first | exact Or.inl ⟨rfl, ⟨Int32.not_lt.mp c_1, Int32.not_lt.mp c_2⟩, rfl⟩ | exact Or.inr ⟨rfl, fun h => absurd h.2 (Int32.not_le.mpr c_2), rfl⟩ | exact Or.inr ⟨rfl, fun h => absurd h.1 (Int32.not_le.mpr c_1), rfl⟩
  · skip
    refine g_iload_n (i := 0) dX3_isFigure_6 rfl rfl ?_
    refine g_bipush (57) rfl dX3_isFigure_7 ?_
    refine g_icmp_gt 16 dX3_isFigure_9 (by decide) (fun c_2 => ?_) (fun c_2 => ?_)
    · skip
      refine g_iconst (0) rfl dX3_isFigure_16 ?_
      refine g_iret dX3_isFigure_17 ?_
      first | exact Or.inl ⟨rfl, ⟨Int32.not_lt.mp c_1, Int32.not_lt.mp c_2⟩, rfl⟩ | exact Or.inr ⟨rfl, fun h => absurd h.2 (Int32.not_le.mpr c_2), rfl⟩ | exact Or.inr ⟨rfl, fun h => absurd h.1 (Int32.not_le.mpr c_1), rfl⟩
    · skip
      refine g_iconst (1) rfl dX3_isFigure_12 ?_
      refine g_goto 17 dX3_isFigure_13 (by decide) ?_
      refine g_iret dX3_isFigure_17 ?_
      first | exact Or.inl ⟨rfl, ⟨Int32.not_lt.mp c_1, Int32.not_lt.mp c_2⟩, rfl⟩ | exact Or.inr ⟨rfl, fun h => absurd h.2 (Int32.not_le.mpr c_2), rfl⟩ | exact Or.inr ⟨rfl, fun h => absurd h.1 (Int32.not_le.mpr c_1), rfl⟩

def csg (c : Int32) : Int32 := if c = 60 then 5 else if c = 61 then 6 else if c = 62 then 7 else if c = 59 then 12 else 15
theorem csg_b (c : Int32) : csg c = 5 ∨ csg c = 6 ∨ csg c = 7 ∨ csg c = 12 ∨ csg c = 15 := by
  unfold csg
  repeat' split
  · exact Or.inl rfl
  · exact Or.inr (Or.inl rfl)
  · exact Or.inr (Or.inr (Or.inl rfl))
  · exact Or.inr (Or.inr (Or.inr (Or.inl rfl)))
  · exact Or.inr (Or.inr (Or.inr (Or.inr rfl)))
theorem csg_o {x : Int32} (h : x.toInt < 59 ∨ 62 < x.toInt) : csg x = 15 := by
  have k : ∀ y : Int32, (59 ≤ y.toInt ∧ y.toInt ≤ 62) → ¬ x = y := fun y hy e => by rw [e] at h; omega
  unfold csg
  rw [if_neg (k 60 (by decide)), if_neg (k 61 (by decide)), if_neg (k 62 (by decide)), if_neg (k 59 (by decide))]
theorem sw59 (x : Int32) : x = 59 ∨ x = 60 ∨ x = 61 ∨ x = 62 ∨ (x.toInt < 59 ∨ 62 < x.toInt) := by
  by_cases h : x.toInt < 59 ∨ 62 < x.toInt
  · exact Or.inr (Or.inr (Or.inr (Or.inr h)))
  · have e : x.toInt = 59 ∨ x.toInt = 60 ∨ x.toInt = 61 ∨ x.toInt = 62 := by omega
    rcases e with e | e | e | e
    · exact Or.inl (Int32.toInt_inj.mp (e.trans (by decide)))
    · exact Or.inr (Or.inl (Int32.toInt_inj.mp (e.trans (by decide))))
    · exact Or.inr (Or.inr (Or.inl (Int32.toInt_inj.mp (e.trans (by decide)))))
    · exact Or.inr (Or.inr (Or.inr (Or.inl (Int32.toInt_inj.mp (e.trans (by decide))))))
set_option maxHeartbeats 4000000 in
set_option maxRecDepth 100000 in
/-- signWord -/
theorem K_signWord (l : Launch) (D : va_G) (cy : Nat → ClassId) (a : Nat → Nat) (T : MS) (B : List BL) (x : Int32) : Ct l D clx (tyx cy) yX3_signWord wsX3_signWord (rmC 0) 0 0 [.int x] (CW cy a T B) (fun r9 w9 => r9 = some (.int (csg x)) ∧ w9 = CW cy a T B) := by
  refine g_start (cc := cX3_signWord) (maxL := 1) (ret := (some .int)) (by decide) rfl (Nat.le_of_ble_eq_true rfl) (fun v w1 h => by obtain ⟨rfl, -⟩ := h; exact ⟨.int, rfl, rfl⟩) (fun Γ hlΓ => ?_)
  subst hlΓ
  refine g_iload_n (i := 0) dX3_signWord_0 rfl rfl ?_
  rcases sw59 x with rfl | rfl | rfl | rfl | h9
  · refine g_tabIn 40 dX3_signWord_1 (by decide) (by decide) rfl (by decide) ?_
    refine g_bipush (12) rfl dX3_signWord_40 ?_
    refine g_iret dX3_signWord_42 ?_
    first | exact ⟨rfl, rfl⟩ | exact ⟨by rw [csg_o h9], rfl⟩
  · refine g_tabIn 32 dX3_signWord_1 (by decide) (by decide) rfl (by decide) ?_
    refine g_iconst (5) rfl dX3_signWord_32 ?_
    refine g_iret dX3_signWord_33 ?_
    first | exact ⟨rfl, rfl⟩ | exact ⟨by rw [csg_o h9], rfl⟩
  · refine g_tabIn 34 dX3_signWord_1 (by decide) (by decide) rfl (by decide) ?_
    refine g_bipush (6) rfl dX3_signWord_34 ?_
    refine g_iret dX3_signWord_36 ?_
    first | exact ⟨rfl, rfl⟩ | exact ⟨by rw [csg_o h9], rfl⟩
  · refine g_tabIn 37 dX3_signWord_1 (by decide) (by decide) rfl (by decide) ?_
    refine g_bipush (7) rfl dX3_signWord_37 ?_
    refine g_iret dX3_signWord_39 ?_
    first | exact ⟨rfl, rfl⟩ | exact ⟨by rw [csg_o h9], rfl⟩
  · refine g_tabOut 43 dX3_signWord_1 h9 (by decide) ?_
    refine g_bipush (15) rfl dX3_signWord_43 ?_
    refine g_iret dX3_signWord_45 ?_
    first | exact ⟨rfl, rfl⟩ | exact ⟨by rw [csg_o h9], rfl⟩

/-- the byte at the place, -1 at the tape's end -/
def cat (T : MS) : Int32 := if T.1 20 ≤ T.1 23 then -1 else T.2.2.1 22 (T.1 23).toNatClampNeg
theorem cat0 {T : MS} (h : T.1 20 ≤ T.1 23) : cat T = -1 := if_pos h
theorem cat1 {T : MS} (h : ¬ T.1 20 ≤ T.1 23) : cat T = T.2.2.1 22 (T.1 23).toNatClampNeg := if_neg h
/-- the place is on the tape; fewer than f bytes are left -/
def trI (T : MS) (f : Nat) : Prop := ∃ L P : Nat, T.1 20 = nI L ∧ T.1 23 = nI P ∧ P ≤ L ∧ L ≤ 400 ∧ L - P < f
theorem tr_pos {T : MS} {f : Nat} (h : trI T f) : ∃ k, f = k + 1 := by
  obtain ⟨L, P, -, -, h1, h2, h3⟩ := h
  exact ⟨f - 1, by omega⟩
theorem tr_in {T : MS} {f : Nat} (h : trI T f) (hn : ¬ T.1 20 ≤ T.1 23) : vp_in (T.1 23) 400 := by
  obtain ⟨L, P, e1, e2, h1, h2, h3⟩ := h
  rw [e1, e2, nI_leI (by omega) (by omega)] at hn
  rw [e2]
  exact vp_in_nI (by omega) (by decide)
theorem tr_step {T : MS} {f : Nat} (h : trI T (f + 1)) (hn : ¬ T.1 20 ≤ T.1 23) : trI (sI T 23 (T.1 23 + 1)) f := by
  obtain ⟨L, P, e1, e2, h1, h2, h3⟩ := h
  rw [e1, e2, nI_leI (by omega) (by omega)] at hn
  exact ⟨L, P + 1, e1, by show T.1 23 + 1 = nI (P + 1); rw [e2, nI_1], by omega, h2, by omega⟩
theorem tr_mono {T : MS} {f g : Nat} (h : trI T f) (hf : f ≤ g) : trI T g := by
  obtain ⟨L, P, e1, e2, h1, h2, h3⟩ := h
  exact ⟨L, P, e1, e2, h1, h2, by omega⟩
theorem tr_of {T U : MS} {f : Nat} (h : trI T f) (e20 : U.1 20 = T.1 20) (e23 : U.1 23 = T.1 23) : trI U f := by
  obtain ⟨L, P, e1, e2, h1, h2, h3⟩ := h
  exact ⟨L, P, e20.trans e1, e23.trans e2, h1, h2, h3⟩
theorem tr_401 {T : MS} {f : Nat} (h : trI T f) : trI T 401 := by
  obtain ⟨L, P, e1, e2, h1, h2, h3⟩ := h
  exact ⟨L, P, e1, e2, h1, h2, by omega⟩
abbrev cLet (T : MS) : Prop := 97 ≤ cat T ∧ cat T ≤ 122
abbrev cFig (T : MS) : Prop := 48 ≤ cat T ∧ cat T ≤ 57
theorem cLet_n {T : MS} (h : T.1 20 ≤ T.1 23) : ¬ cLet T := by
  intro h9
  have := h9.1
  rw [cat0 h] at this
  exact absurd this (by decide)
theorem cFig_n {T : MS} (h : T.1 20 ≤ T.1 23) : ¬ cFig T := by
  intro h9
  have := h9.1
  rw [cat0 h] at this
  exact absurd this (by decide)
theorem c32_n {T : MS} (h : T.1 20 ≤ T.1 23) : ¬ cat T = 32 := by
  rw [cat0 h]
  decide
theorem cLet_lt {T : MS} (h : cLet T) : ¬ T.1 20 ≤ T.1 23 := fun h9 => cLet_n h9 h
theorem cFig_lt {T : MS} (h : cFig T) : ¬ T.1 20 ≤ T.1 23 := fun h9 => cFig_n h9 h
/-- figures: the number, held just above the limit -/
def cnv (T : MS) (v : Int32) : Int32 := if 1000000 < v * 10 + (T.2.2.1 22 (T.1 23).toNatClampNeg - 48) then 1000000 else v * 10 + (T.2.2.1 22 (T.1 23).toNatClampNeg - 48)
def cnuR : Nat → Int32 → MS → Int32 × MS
  | 0, v, T => (v, T)
  | f + 1, v, T => if cFig T then cnuR f (cnv T v) (sI T 23 (T.1 23 + 1)) else (v, T)
theorem cnuR0 {f : Nat} {v : Int32} {T : MS} {X : Int32 × MS} (h : ¬ cFig T) (e : cnuR f v T = X) : (v, T) = X := by
  cases f with
  | zero => exact e
  | succ f => exact (if_neg h).symm.trans e
theorem cnuR1 {f : Nat} {v : Int32} {T : MS} {X : Int32 × MS} (h : cFig T) (e : cnuR (f + 1) v T = X) : cnuR f (cnv T v) (sI T 23 (T.1 23 + 1)) = X := (if_pos h).symm.trans e
/-- letters are passed over -/
def cltR : Nat → MS → MS
  | 0, T => T
  | f + 1, T => if cLet T then cltR f (sI T 23 (T.1 23 + 1)) else T
theorem cltR0 {f : Nat} {T X : MS} (h : ¬ cLet T) (e : cltR f T = X) : T = X := by
  cases f with
  | zero => exact e
  | succ f => exact (if_neg h).symm.trans e
theorem cltR1 {f : Nat} {T X : MS} (h : cLet T) (e : cltR (f + 1) T = X) : cltR f (sI T 23 (T.1 23 + 1)) = X := (if_pos h).symm.trans e
/-- blanks are passed over -/
def cskR : Nat → MS → MS
  | 0, T => T
  | f + 1, T => if cat T = 32 then cskR f (sI T 23 (T.1 23 + 1)) else T
theorem cskR0 {f : Nat} {T X : MS} (h : ¬ cat T = 32) (e : cskR f T = X) : T = X := by
  cases f with
  | zero => exact e
  | succ f => exact (if_neg h).symm.trans e
theorem cskR1 {f : Nat} {T X : MS} (h : cat T = 32) (e : cskR (f + 1) T = X) : cskR f (sI T 23 (T.1 23 + 1)) = X := (if_pos h).symm.trans e
theorem tr_lt : ∀ (f : Nat) (T : MS), trI T f → trI (cltR f T) f ∧ (cltR f T).2 = T.2 ∧ ∀ j, j ≠ 23 → (cltR f T).1 j = T.1 j
  | 0, T, h => ⟨h, rfl, fun _ _ => rfl⟩
  | f + 1, T, h => by
    by_cases hc : cLet T
    · have e : cltR (f + 1) T = cltR f (sI T 23 (T.1 23 + 1)) := if_pos hc
      obtain ⟨k1, k2, k3⟩ := tr_lt f _ (tr_step h (cLet_lt hc))
      rw [e]
      exact ⟨tr_mono k1 (Nat.le_succ f), k2, fun j hj => (k3 j hj).trans (if_neg hj)⟩
    · have e : cltR (f + 1) T = T := if_neg hc
      rw [e]
      exact ⟨h, rfl, fun _ _ => rfl⟩
theorem tr_sk : ∀ (f : Nat) (T : MS), trI T f → trI (cskR f T) f ∧ (cskR f T).2 = T.2 ∧ ∀ j, j ≠ 23 → (cskR f T).1 j = T.1 j
  | 0, T, h => ⟨h, rfl, fun _ _ => rfl⟩
  | f + 1, T, h => by
    by_cases hc : cat T = 32
    · have e : cskR (f + 1) T = cskR f (sI T 23 (T.1 23 + 1)) := if_pos hc
      obtain ⟨k1, k2, k3⟩ := tr_sk f _ (tr_step h (fun h9 => c32_n h9 hc))
      rw [e]
      exact ⟨tr_mono k1 (Nat.le_succ f), k2, fun j hj => (k3 j hj).trans (if_neg hj)⟩
    · have e : cskR (f + 1) T = T := if_neg hc
      rw [e]
      exact ⟨h, rfl, fun _ _ => rfl⟩
theorem tr_nu : ∀ (f : Nat) (v : Int32) (T : MS), trI T f → trI (cnuR f v T).2 f ∧ (cnuR f v T).2.2 = T.2 ∧ ∀ j, j ≠ 23 → (cnuR f v T).2.1 j = T.1 j
  | 0, v, T, h => ⟨h, rfl, fun _ _ => rfl⟩
  | f + 1, v, T, h => by
    by_cases hc : cFig T
    · have e : cnuR (f + 1) v T = cnuR f (cnv T v) (sI T 23 (T.1 23 + 1)) := if_pos hc
      obtain ⟨k1, k2, k3⟩ := tr_nu f (cnv T v) _ (tr_step h (cFig_lt hc))
      rw [e]
      exact ⟨tr_mono k1 (Nat.le_succ f), k2, fun j hj => (k3 j hj).trans (if_neg hj)⟩
    · have e : cnuR (f + 1) v T = (v, T) := if_neg hc
      rw [e]
      exact ⟨h, rfl, fun _ _ => rfl⟩

set_option maxHeartbeats 4000000 in
set_option maxRecDepth 100000 in
/-- numberWord -/
theorem K_numberX (l : Launch) (D : va_G) (cy : Nat → ClassId) (a : Nat → Nat) (T : MS) (B : List BL) (X : Int32 × MS) (hT : trI T 401) (eX : X = cnuR 401 0 T) : Ct l D clx (tyx cy) yX3_numberWord wsX3_numberWord (rmC 1) 0 0 [.ref (a 203)] (CW cy a T B) (fun r9 w9 => r9 = some (.int X.1) ∧ w9 = CW cy a X.2 B) := by
  refine g_start (cc := cX3_numberWord) (maxL := 2) (ret := (some .int)) (by decide) rfl (Nat.le_of_ble_eq_true rfl) (fun v w1 h => by obtain ⟨rfl, -⟩ := h; exact ⟨.int, rfl, rfl⟩) (fun Γ hlΓ => ?_)
  subst hlΓ
  refine g_iconst (0) rfl dX3_numberWord_0 ?_
  refine g_istore_n (i := 1) dX3_numberWord_1 rfl (by decide) ?_
  refine g_whl (σ := Nat × Int32 × MS) (fun x => x.1) (fun x => trI x.2.2 x.1 ∧ cnuR x.1 x.2.1 x.2.2 = X) (fun x => CW cy a x.2.2 B) (fun x => [(0, .ref (a 203)), (1, .int x.2.1)]) (401, 0, T) ⟨hT, eX.symm⟩ rfl ⟨rfl, rfl, trivial⟩ (fun x gx ih => ?_)
  obtain ⟨f, v, U⟩ := x
  obtain ⟨hk, gx⟩ := gx
  replace hk : trI U f := hk
  replace gx : cnuR f v U = X := gx
  refine g_nrm [(0, .ref (a 203)), (1, .int v)] ⟨rfl, rfl, trivial⟩ ?_
  refine g_aload_n (i := 0) dX3_numberWord_2 rfl rfl ?_
  refine g_get 7 3 dX3_numberWord_3 (List.mem_of_getElem? (i := 1) rfl) (fun w h => List.mem_cons_of_mem _ (List.mem_append_right _ h)) (cO_reader _ _ _ _) rfl (by decide) rfl ?_
  refine g_aload_n (i := 0) dX3_numberWord_6 rfl rfl ?_
  refine g_get 7 0 dX3_numberWord_7 (List.mem_of_getElem? (i := 2) rfl) (fun w h => List.mem_cons_of_mem _ (List.mem_append_right _ h)) (cO_reader _ _ _ _) rfl (by decide) rfl ?_
  refine g_icmp_ge 64 dX3_numberWord_10 (by decide) (fun c_2 => ?_) (fun c_2 => ?_)
  · skip
    have hle : U.1 20 ≤ U.1 23 := c_2
    have hnf := cFig_n hle
    refine g_iload_n (i := 1) dX3_numberWord_64 rfl rfl ?_
    refine g_iret dX3_numberWord_65 ?_
    rw [← cnuR0 hnf gx]; exact ⟨rfl, rfl⟩
  · skip
    have hnl : ¬ U.1 20 ≤ U.1 23 := c_2
    have hin := tr_in hk hnl
    refine g_aload_n (i := 0) dX3_numberWord_13 rfl rfl ?_
    refine g_get 7 2 dX3_numberWord_14 (List.mem_of_getElem? (i := 3) rfl) (fun w h => List.mem_cons_of_mem _ (List.mem_append_right _ h)) (cO_reader _ _ _ _) rfl (by decide) rfl ?_
    refine g_aload_n (i := 0) dX3_numberWord_17 rfl rfl ?_
    refine g_get 7 3 dX3_numberWord_18 (List.mem_of_getElem? (i := 1) rfl) (fun w h => List.mem_cons_of_mem _ (List.mem_append_right _ h)) (cO_reader _ _ _ _) rfl (by decide) rfl ?_
    refine c_ald_22 dX3_numberWord_21 hin ?_
    refine g_callSf 1 gX3_numberWord_X3_isFigure rfl rfl rfl ⟨Nat.le_of_ble_eq_true rfl, Nat.le_of_ble_eq_true rfl⟩ ⟨Nat.le_of_ble_eq_true rfl, Nat.le_of_ble_eq_true rfl⟩ (by exact Nat.le_of_ble_eq_true rfl) (by decide +kernel) rfl dX3_numberWord_22 (K_isFigure _ D cy a _ _ _) rfl (fun vu_3 wu_3 hu_3 => ?_)
    rcases hu_3 with ⟨rfl, hu_3, rfl⟩ | ⟨rfl, hu_3, rfl⟩
    · skip
      have hfig : cFig U := (by unfold cFig; rw [cat1 hnl]; exact hu_3)
      refine g_if_eq 64 dX3_numberWord_25 (by decide) (fun h9 => absurd h9 (by decide)) (fun _ => ?_)
      refine g_iload_n (i := 1) dX3_numberWord_28 rfl rfl ?_
      refine g_bipush (10) rfl dX3_numberWord_29 ?_
      refine g_imul dX3_numberWord_31 ?_
      refine g_aload_n (i := 0) dX3_numberWord_32 rfl rfl ?_
      refine g_get 7 2 dX3_numberWord_33 (List.mem_of_getElem? (i := 3) rfl) (fun w h => List.mem_cons_of_mem _ (List.mem_append_right _ h)) (cO_reader _ _ _ _) rfl (by decide) rfl ?_
      refine g_aload_n (i := 0) dX3_numberWord_36 rfl rfl ?_
      refine g_get 7 3 dX3_numberWord_37 (List.mem_of_getElem? (i := 1) rfl) (fun w h => List.mem_cons_of_mem _ (List.mem_append_right _ h)) (cO_reader _ _ _ _) rfl (by decide) rfl ?_
      refine c_ald_22 dX3_numberWord_40 hin ?_
      refine g_bipush (48) rfl dX3_numberWord_41 ?_
      refine g_isub dX3_numberWord_43 ?_
      refine g_iadd dX3_numberWord_44 ?_
      refine g_ldc (1000000) (List.mem_of_getElem? (i := 4) rfl) dX3_numberWord_45 ?_
      refine g_mmin (List.mem_of_getElem? (i := 5) rfl) (List.mem_of_getElem? (i := 6) rfl) (List.mem_of_getElem? (i := 7) rfl) (List.mem_of_getElem? (i := 8) rfl) (Nat.le_of_ble_eq_true rfl) (by exact Nat.le_of_ble_eq_true rfl) (Nat.le_of_ble_eq_true rfl) (Nat.le_of_ble_eq_true rfl) dX3_numberWord_47 ?_
      refine g_istore_n (i := 1) dX3_numberWord_50 rfl (by decide) ?_
      refine g_aload_n (i := 0) dX3_numberWord_51 rfl rfl ?_
      refine g_dup rfl dX3_numberWord_52 ?_
      refine g_get 7 3 dX3_numberWord_53 (List.mem_of_getElem? (i := 1) rfl) (fun w h => List.mem_cons_of_mem _ (List.mem_append_right _ h)) (cO_reader _ _ _ _) rfl (by decide) rfl ?_
      refine g_iconst (1) rfl dX3_numberWord_56 ?_
      refine g_iadd dX3_numberWord_57 ?_
      refine g_put 7 3 _ tyX3 tyX3_ok nmX3 dX3_numberWord_58 (List.mem_of_getElem? (i := 1) rfl) (fun w h => List.mem_cons_of_mem _ (List.mem_append_right _ h)) (cO_reader _ _ _ _) rfl (by decide) rfl (tyX3_ok 3 (by decide)) rfl rfl (Nat.le_of_ble_eq_true rfl) (cwI_23 _ _ _ _ _) ?_
      refine g_goto 2 dX3_numberWord_61 (by decide) ?_
      obtain ⟨f, rfl⟩ := tr_pos hk
      exact g_to _ _ (ih (f, cnv U v, sI U 23 (U.1 23 + 1)) ⟨tr_step hk hnl, cnuR1 hfig gx⟩ (Nat.lt_succ_self f)) rfl ⟨rfl, rfl, trivial⟩
    · skip
      have hnf : ¬ cFig U := (by unfold cFig; rw [cat1 hnl]; exact hu_3)
      refine g_if_eq 64 dX3_numberWord_25 (by decide) (fun _ => ?_) (fun h9 => absurd h9 (by decide))
      refine g_iload_n (i := 1) dX3_numberWord_64 rfl rfl ?_
      refine g_iret dX3_numberWord_65 ?_
      rw [← cnuR0 hnf gx]; exact ⟨rfl, rfl⟩

/-- the word spells the text i -/
abbrev csp (T : MS) (i : Nat) : Prop := T.1 23 - T.1 25 = nI (sLen.getD i 0) ∧ ∀ k, k < sLen.getD i 0 → T.2.2.1 22 ((T.1 25).toNatClampNeg + k) = sCh i k
theorem sp_in {T : MS} {P W L k : Nat} (eP : T.1 23 = nI P) (eW : T.1 25 = nI W) (hW : W ≤ P) (hP : P ≤ 400) (hL : T.1 23 - T.1 25 = nI L) (hL6 : L ≤ 6) (hk : k < L) : vp_in (T.1 25 + nI k) 400 ∧ (T.1 25 + nI k).toNatClampNeg = (T.1 25).toNatClampNeg + k := by
  rw [eP, eW, pk_sub hW, nI_eq (by omega) (by omega)] at hL
  rw [eW, nI_add, nI_clamp (by omega), nI_clamp (by omega)]
  exact ⟨vp_in_nI (by omega) (by decide), rfl⟩
set_option maxHeartbeats 4000000 in
set_option maxRecDepth 100000 in
/-- spells -/
theorem K_spells (l : Launch) (D : va_G) (adK adV : Nat → Nat) (cy : Nat → ClassId) (a : Nat → Nat) (T : MS) (B : List BL) (i : Nat) (hi : i < 9) (P W : Nat) (eP : T.1 23 = nI P) (eW : T.1 25 = nI W) (hW : W ≤ P) (hP : P ≤ 400) : CtS (sE adK adV) l D clx (tyx cy) yX3_spells wsX3_spells (rmC 4) 0 0 [.ref (a 203), .ref (adK i)] (CW cy a T B) (fun r9 w9 => (r9 = some (.int 1) ∧ (csp T i) ∧ w9 = CW cy a T B) ∨ (r9 = some (.int 0) ∧ ¬ (csp T i) ∧ w9 = CW cy a T B)) := by
  refine g_startS (cc := cX3_spells) (maxL := 3) (ret := (some .boolean)) (by decide) rfl (Nat.le_of_ble_eq_true rfl) (fun v w1 h => by rcases h with ⟨rfl, -, -⟩ | ⟨rfl, -, -⟩ <;> exact ⟨.boolean, rfl, rfl⟩) (fun Γ hlΓ hE9 => ?_)
  subst hlΓ
  refine g_aload_n (i := 0) dX3_spells_0 rfl rfl ?_
  refine g_get 7 3 dX3_spells_1 (List.mem_of_getElem? (i := 1) rfl) (fun w h => List.mem_cons_of_mem _ (List.mem_append_right _ h)) (cO_reader _ _ _ _) rfl (by decide) rfl ?_
  refine g_aload_n (i := 0) dX3_spells_4 rfl rfl ?_
  refine g_get 7 5 dX3_spells_5 (List.mem_of_getElem? (i := 2) rfl) (fun w h => List.mem_cons_of_mem _ (List.mem_append_right _ h)) (cO_reader _ _ _ _) rfl (by decide) rfl ?_
  refine g_isub dX3_spells_8 ?_
  refine g_aload_n (i := 1) dX3_spells_9 rfl rfl ?_
  refine g_callJ 0 (sE_keep adK adV) hE9 gX3_spells_J0_length_8abf5 rfl rfl rfl ⟨Nat.le_of_ble_eq_true rfl, Nat.le_of_ble_eq_true rfl⟩ ⟨Nat.le_of_ble_eq_true rfl, Nat.le_of_ble_eq_true rfl⟩ (by exact Nat.le_of_ble_eq_true rfl) (by decide +kernel) rfl (sE_rec hE9 hi) dX3_spells_10 (J_length i hi) rfl ?_
  refine g_icmp_eq 18 dX3_spells_13 (by decide) (fun c_1 => ?_) (fun c_1 => ?_)
  · skip
    have hlen : T.1 23 - T.1 25 = nI (sLen.getD i 0) := c_1
    refine g_iconst (0) rfl dX3_spells_18 ?_
    refine g_istore_n (i := 2) dX3_spells_19 rfl (by decide) ?_
    refine g_cnt (sLen.getD i 0) (fun j => ∀ k, k < j → T.2.2.1 22 ((T.1 25).toNatClampNeg + k) = sCh i k) (fun j => CW cy a T B) (fun j => [(0, .ref (a 203)), (1, .ref (adK i)), (2, .int (nI j))]) 0 (Nat.zero_le _) (fun k h9 => absurd h9 (Nat.not_lt_zero k)) rfl ⟨rfl, rfl, rfl, trivial⟩ ?_ (fun j hj gj ihj => ?_)
    · intro gN
      refine g_iload_n (i := 2) dX3_spells_20 rfl rfl ?_
      refine g_aload_n (i := 1) dX3_spells_21 rfl rfl ?_
      refine g_callJ 0 (sE_keep adK adV) hE9 gX3_spells_J0_length_8abf5 rfl rfl rfl ⟨Nat.le_of_ble_eq_true rfl, Nat.le_of_ble_eq_true rfl⟩ ⟨Nat.le_of_ble_eq_true rfl, Nat.le_of_ble_eq_true rfl⟩ (by exact Nat.le_of_ble_eq_true rfl) (by decide +kernel) rfl (sE_rec hE9 hi) dX3_spells_22 (J_length i hi) rfl ?_
      refine g_icmp_ge 55 dX3_spells_25 (by decide) (fun c_3 => ?_) (fun c_3 => ?_)
      · skip
        refine g_iconst (1) rfl dX3_spells_55 ?_
        refine g_iret dX3_spells_56 ?_
        exact Or.inl ⟨rfl, ⟨hlen, gN⟩, rfl⟩
      · skip
        exact absurd (nI_le (Nat.le_refl _) (by have := (sLen_b i hi).1; omega)) c_3
    · obtain ⟨hi1, hi2⟩ := sp_in eP eW hW hP hlen (sLen_b i hi).1 hj
      refine g_iload_n (i := 2) dX3_spells_20 rfl rfl ?_
      refine g_aload_n (i := 1) dX3_spells_21 rfl rfl ?_
      refine g_callJ 0 (sE_keep adK adV) hE9 gX3_spells_J0_length_8abf5 rfl rfl rfl ⟨Nat.le_of_ble_eq_true rfl, Nat.le_of_ble_eq_true rfl⟩ ⟨Nat.le_of_ble_eq_true rfl, Nat.le_of_ble_eq_true rfl⟩ (by exact Nat.le_of_ble_eq_true rfl) (by decide +kernel) rfl (sE_rec hE9 hi) dX3_spells_22 (J_length i hi) rfl ?_
      refine g_icmp_ge 55 dX3_spells_25 (by decide) (fun c_4 => ?_) (fun c_4 => ?_)
      · skip
        exact absurd c_4 (nI_ge hj (by have := (sLen_b i hi).1; omega))
      · skip
        refine g_aload_n (i := 0) dX3_spells_28 rfl rfl ?_
        refine g_get 7 2 dX3_spells_29 (List.mem_of_getElem? (i := 3) rfl) (fun w h => List.mem_cons_of_mem _ (List.mem_append_right _ h)) (cO_reader _ _ _ _) rfl (by decide) rfl ?_
        refine g_aload_n (i := 0) dX3_spells_32 rfl rfl ?_
        refine g_get 7 5 dX3_spells_33 (List.mem_of_getElem? (i := 2) rfl) (fun w h => List.mem_cons_of_mem _ (List.mem_append_right _ h)) (cO_reader _ _ _ _) rfl (by decide) rfl ?_
        refine g_iload_n (i := 2) dX3_spells_36 rfl rfl ?_
        refine g_iadd dX3_spells_37 ?_
        refine c_ald_22 dX3_spells_38 hi1 ?_
        refine g_aload_n (i := 1) dX3_spells_39 rfl rfl ?_
        refine g_iload_n (i := 2) dX3_spells_40 rfl rfl ?_
        refine g_callJ 1 (sE_keep adK adV) hE9 gX3_spells_J0_charAt_5068e rfl rfl rfl ⟨Nat.le_of_ble_eq_true rfl, Nat.le_of_ble_eq_true rfl⟩ ⟨Nat.le_of_ble_eq_true rfl, Nat.le_of_ble_eq_true rfl⟩ (by exact Nat.le_of_ble_eq_true rfl) (by decide +kernel) rfl (sE_rec hE9 hi) dX3_spells_41 (J_charAt i j hi hj) rfl ?_
        refine g_icmp_eq 49 dX3_spells_44 (by decide) (fun c_5 => ?_) (fun c_5 => ?_)
        · skip
          have hch : T.2.2.1 22 (T.1 25 + nI j).toNatClampNeg = sCh i j := c_5
          refine g_iinc (1) dX3_spells_49 rfl rfl (by decide) ?_
          refine g_goto 20 dX3_spells_52 (by decide) ?_
          refine g_to _ _ (ihj (fun k hk => ?_)) rfl ⟨rfl, rfl, (by rw [← nI_1]; rfl), trivial⟩
          by_cases ek : k = j
          · rw [ek, ← hi2]; exact hch
          · exact gj k (by omega)
        · skip
          have hnch : ¬ T.2.2.1 22 (T.1 25 + nI j).toNatClampNeg = sCh i j := c_5
          refine g_iconst (0) rfl dX3_spells_47 ?_
          refine g_iret dX3_spells_48 ?_
          exact Or.inr ⟨rfl, fun h9 => hnch (by rw [hi2]; exact h9.2 j hj), rfl⟩
  · skip
    refine g_iconst (0) rfl dX3_spells_16 ?_
    refine g_iret dX3_spells_17 ?_
    exact Or.inr ⟨rfl, fun h9 => absurd h9.1 (by assumption), rfl⟩

/-- the word of the letters -/
def cwd (T : MS) : Int32 := if csp T 0 then 8 else if csp T 1 then 9 else if csp T 2 then 10 else if csp T 3 then 11 else if csp T 4 then 0 else if csp T 5 then 1 else if csp T 6 then 2 else if csp T 7 then 3 else if csp T 8 then 4 else 15
theorem cwd_b (T : MS) : ∃ k, k ≤ 15 ∧ cwd T = nI k := by
  unfold cwd
  repeat' split
  · exact ⟨8, by decide, by decide⟩
  · exact ⟨9, by decide, by decide⟩
  · exact ⟨10, by decide, by decide⟩
  · exact ⟨11, by decide, by decide⟩
  · exact ⟨0, by decide, by decide⟩
  · exact ⟨1, by decide, by decide⟩
  · exact ⟨2, by decide, by decide⟩
  · exact ⟨3, by decide, by decide⟩
  · exact ⟨4, by decide, by decide⟩
  · exact ⟨15, by decide, by decide⟩
theorem lt_ge : ∀ (f : Nat) (T : MS) (P : Nat), P ≤ 400 → T.1 23 = nI P → trI T f → ∃ Q, P ≤ Q ∧ Q ≤ 400 ∧ (cltR f T).1 23 = nI Q
  | 0, T, P, hP, e, h => ⟨P, Nat.le_refl P, hP, e⟩
  | f + 1, T, P, hP, e, h => by
    by_cases hc : cLet T
    · have e9 : cltR (f + 1) T = cltR f (sI T 23 (T.1 23 + 1)) := if_pos hc
      have hlt := cLet_lt hc
      have hst := tr_step h hlt
      obtain ⟨L, P', e1, e2, h1, h2, h3⟩ := h
      rw [e1, e, nI_leI (by omega) (by omega)] at hlt
      obtain ⟨Q, q1, q2, q3⟩ := lt_ge f (sI T 23 (T.1 23 + 1)) (P + 1) (by omega) (by show T.1 23 + 1 = nI (P + 1); rw [e, nI_1]) hst
      rw [e9]
      exact ⟨Q, by omega, q2, q3⟩
    · have e9 : cltR (f + 1) T = T := if_neg hc
      rw [e9]
      exact ⟨P, Nat.le_refl P, hP, e⟩

set_option maxHeartbeats 4000000 in
set_option maxRecDepth 100000 in
/-- letterWord -/
theorem K_letterX (l : Launch) (D : va_G) (adK adV : Nat → Nat) (cy : Nat → ClassId) (a : Nat → Nat) (T : MS) (B : List BL) (X : MS) (hT : trI T 401) (eX : X = cltR 401 T) (P W : Nat) (eP : T.1 23 = nI P) (eW : T.1 25 = nI W) (hW : W ≤ P) (hP : P ≤ 400) : CtS (sE adK adV) l D clx (tyx cy) yX3_letterWord wsX3_letterWord (rmC 5) 0 0 [.ref (a 203)] (CW cy a T B) (fun r9 w9 => r9 = some (.int (cwd X)) ∧ w9 = CW cy a X B) := by
  refine g_startS (cc := cX3_letterWord) (maxL := 1) (ret := (some .int)) (by decide) rfl (Nat.le_of_ble_eq_true rfl) (fun v w1 h => by obtain ⟨rfl, -⟩ := h; exact ⟨.int, rfl, rfl⟩) (fun Γ hlΓ hE9 => ?_)
  subst hlΓ
  have hQQ : ∃ Q, P ≤ Q ∧ Q ≤ 400 ∧ X.1 23 = nI Q := by rw [eX]; exact lt_ge 401 T P hP eP hT
  have eW9 : X.1 25 = nI W := by rw [eX]; exact ((tr_lt 401 T hT).2.2 25 (by decide)).trans eW
  refine g_whl (σ := Nat × MS) (fun x => x.1) (fun x => trI x.2 x.1 ∧ cltR x.1 x.2 = X) (fun x => CW cy a x.2 B) (fun x => [(0, .ref (a 203))]) (401, T) ⟨hT, eX.symm⟩ rfl ⟨rfl, trivial⟩ (fun x gx ih => ?_)
  obtain ⟨f, U⟩ := x
  obtain ⟨hk, gx⟩ := gx
  replace hk : trI U f := hk
  replace gx : cltR f U = X := gx
  refine g_nrm [(0, .ref (a 203))] ⟨rfl, trivial⟩ ?_
  skip
  refine g_aload_n (i := 0) dX3_letterWord_0 rfl rfl ?_
  refine g_get 7 3 dX3_letterWord_1 (List.mem_of_getElem? (i := 1) rfl) (fun w h => List.mem_cons_of_mem _ (List.mem_append_right _ h)) (cO_reader _ _ _ _) rfl (by decide) rfl ?_
  refine g_aload_n (i := 0) dX3_letterWord_4 rfl rfl ?_
  refine g_get 7 0 dX3_letterWord_5 (List.mem_of_getElem? (i := 2) rfl) (fun w h => List.mem_cons_of_mem _ (List.mem_append_right _ h)) (cO_reader _ _ _ _) rfl (by decide) rfl ?_
  refine g_icmp_ge 39 dX3_letterWord_8 (by decide) (fun c_2 => ?_) (fun c_2 => ?_)
  · skip
    have hnf := cLet_n (T := U) c_2
    obtain rfl := cltR0 hnf gx
    obtain ⟨Q9, hPQ, hQ9, eQ9⟩ := hQQ
    have hWQ : W ≤ Q9 := Nat.le_trans hW hPQ
    refine g_aload_n (i := 0) dX3_letterWord_39 rfl rfl ?_
    refine g_ldcS (tx := sTx.getD 0 "") (hE9.1.2.1 0 (by decide)) dX3_letterWord_40 ?_
    refine g_callVEf 1 7 (sE_keep adK adV) hE9 gX3_letterWord_X3_spells rfl rfl rfl ⟨Nat.le_of_ble_eq_true rfl, Nat.le_of_ble_eq_true rfl⟩ ⟨Nat.le_of_ble_eq_true rfl, Nat.le_of_ble_eq_true rfl⟩ (by exact Nat.le_of_ble_eq_true rfl) (by decide +kernel) rfl (cO_reader _ _ _ _) rfl dX3_letterWord_42 (K_spells _ D adK adV cy a U B 0 (by decide) Q9 W eQ9 eW9 hWQ hQ9) rfl (fun vu_3 wu_3 hu_3 => ?_)
    rcases hu_3 with ⟨rfl, hu_3, rfl⟩ | ⟨rfl, hu_3, rfl⟩
    · skip
      have hp0 := hu_3
      refine g_if_eq 51 dX3_letterWord_45 (by decide) (fun h9 => absurd h9 (by decide)) (fun _ => ?_)
      refine g_bipush (8) rfl dX3_letterWord_48 ?_
      refine g_iret dX3_letterWord_50 ?_
      refine ⟨?_, rfl⟩
      unfold cwd
      first | rw [if_pos hp0] | rw [if_neg hn0, if_pos hp1] | rw [if_neg hn0, if_neg hn1, if_pos hp2] | rw [if_neg hn0, if_neg hn1, if_neg hn2, if_pos hp3] | rw [if_neg hn0, if_neg hn1, if_neg hn2, if_neg hn3, if_pos hp4] | rw [if_neg hn0, if_neg hn1, if_neg hn2, if_neg hn3, if_neg hn4, if_pos hp5] | rw [if_neg hn0, if_neg hn1, if_neg hn2, if_neg hn3, if_neg hn4, if_neg hn5, if_pos hp6] | rw [if_neg hn0, if_neg hn1, if_neg hn2, if_neg hn3, if_neg hn4, if_neg hn5, if_neg hn6, if_pos hp7] | rw [if_neg hn0, if_neg hn1, if_neg hn2, if_neg hn3, if_neg hn4, if_neg hn5, if_neg hn6, if_neg hn7, if_pos hp8] | rw [if_neg hn0, if_neg hn1, if_neg hn2, if_neg hn3, if_neg hn4, if_neg hn5, if_neg hn6, if_neg hn7, if_neg hn8]
    · skip
      have hn0 := hu_3
      refine g_if_eq 51 dX3_letterWord_45 (by decide) (fun _ => ?_) (fun h9 => absurd h9 (by decide))
      refine g_aload_n (i := 0) dX3_letterWord_51 rfl rfl ?_
      refine g_ldcS (tx := sTx.getD 1 "") (hE9.1.2.1 1 (by decide)) dX3_letterWord_52 ?_
      refine g_callVEf 1 7 (sE_keep adK adV) hE9 gX3_letterWord_X3_spells rfl rfl rfl ⟨Nat.le_of_ble_eq_true rfl, Nat.le_of_ble_eq_true rfl⟩ ⟨Nat.le_of_ble_eq_true rfl, Nat.le_of_ble_eq_true rfl⟩ (by exact Nat.le_of_ble_eq_true rfl) (by decide +kernel) rfl (cO_reader _ _ _ _) rfl dX3_letterWord_54 (K_spells _ D adK adV cy a U B 1 (by decide) Q9 W eQ9 eW9 hWQ hQ9) rfl (fun vu_6 wu_6 hu_6 => ?_)
      rcases hu_6 with ⟨rfl, hu_6, rfl⟩ | ⟨rfl, hu_6, rfl⟩
      · skip
        have hp1 := hu_6
        refine g_if_eq 63 dX3_letterWord_57 (by decide) (fun h9 => absurd h9 (by decide)) (fun _ => ?_)
        refine g_bipush (9) rfl dX3_letterWord_60 ?_
        refine g_iret dX3_letterWord_62 ?_
        refine ⟨?_, rfl⟩
        unfold cwd
        first | rw [if_pos hp0] | rw [if_neg hn0, if_pos hp1] | rw [if_neg hn0, if_neg hn1, if_pos hp2] | rw [if_neg hn0, if_neg hn1, if_neg hn2, if_pos hp3] | rw [if_neg hn0, if_neg hn1, if_neg hn2, if_neg hn3, if_pos hp4] | rw [if_neg hn0, if_neg hn1, if_neg hn2, if_neg hn3, if_neg hn4, if_pos hp5] | rw [if_neg hn0, if_neg hn1, if_neg hn2, if_neg hn3, if_neg hn4, if_neg hn5, if_pos hp6] | rw [if_neg hn0, if_neg hn1, if_neg hn2, if_neg hn3, if_neg hn4, if_neg hn5, if_neg hn6, if_pos hp7] | rw [if_neg hn0, if_neg hn1, if_neg hn2, if_neg hn3, if_neg hn4, if_neg hn5, if_neg hn6, if_neg hn7, if_pos hp8] | rw [if_neg hn0, if_neg hn1, if_neg hn2, if_neg hn3, if_neg hn4, if_neg hn5, if_neg hn6, if_neg hn7, if_neg hn8]
      · skip
        have hn1 := hu_6
        refine g_if_eq 63 dX3_letterWord_57 (by decide) (fun _ => ?_) (fun h9 => absurd h9 (by decide))
        refine g_aload_n (i := 0) dX3_letterWord_63 rfl rfl ?_
        refine g_ldcS (tx := sTx.getD 2 "") (hE9.1.2.1 2 (by decide)) dX3_letterWord_64 ?_
        refine g_callVEf 1 7 (sE_keep adK adV) hE9 gX3_letterWord_X3_spells rfl rfl rfl ⟨Nat.le_of_ble_eq_true rfl, Nat.le_of_ble_eq_true rfl⟩ ⟨Nat.le_of_ble_eq_true rfl, Nat.le_of_ble_eq_true rfl⟩ (by exact Nat.le_of_ble_eq_true rfl) (by decide +kernel) rfl (cO_reader _ _ _ _) rfl dX3_letterWord_66 (K_spells _ D adK adV cy a U B 2 (by decide) Q9 W eQ9 eW9 hWQ hQ9) rfl (fun vu_9 wu_9 hu_9 => ?_)
        rcases hu_9 with ⟨rfl, hu_9, rfl⟩ | ⟨rfl, hu_9, rfl⟩
        · skip
          have hp2 := hu_9
          refine g_if_eq 75 dX3_letterWord_69 (by decide) (fun h9 => absurd h9 (by decide)) (fun _ => ?_)
          refine g_bipush (10) rfl dX3_letterWord_72 ?_
          refine g_iret dX3_letterWord_74 ?_
          refine ⟨?_, rfl⟩
          unfold cwd
          first | rw [if_pos hp0] | rw [if_neg hn0, if_pos hp1] | rw [if_neg hn0, if_neg hn1, if_pos hp2] | rw [if_neg hn0, if_neg hn1, if_neg hn2, if_pos hp3] | rw [if_neg hn0, if_neg hn1, if_neg hn2, if_neg hn3, if_pos hp4] | rw [if_neg hn0, if_neg hn1, if_neg hn2, if_neg hn3, if_neg hn4, if_pos hp5] | rw [if_neg hn0, if_neg hn1, if_neg hn2, if_neg hn3, if_neg hn4, if_neg hn5, if_pos hp6] | rw [if_neg hn0, if_neg hn1, if_neg hn2, if_neg hn3, if_neg hn4, if_neg hn5, if_neg hn6, if_pos hp7] | rw [if_neg hn0, if_neg hn1, if_neg hn2, if_neg hn3, if_neg hn4, if_neg hn5, if_neg hn6, if_neg hn7, if_pos hp8] | rw [if_neg hn0, if_neg hn1, if_neg hn2, if_neg hn3, if_neg hn4, if_neg hn5, if_neg hn6, if_neg hn7, if_neg hn8]
        · skip
          have hn2 := hu_9
          refine g_if_eq 75 dX3_letterWord_69 (by decide) (fun _ => ?_) (fun h9 => absurd h9 (by decide))
          refine g_aload_n (i := 0) dX3_letterWord_75 rfl rfl ?_
          refine g_ldcS (tx := sTx.getD 3 "") (hE9.1.2.1 3 (by decide)) dX3_letterWord_76 ?_
          refine g_callVEf 1 7 (sE_keep adK adV) hE9 gX3_letterWord_X3_spells rfl rfl rfl ⟨Nat.le_of_ble_eq_true rfl, Nat.le_of_ble_eq_true rfl⟩ ⟨Nat.le_of_ble_eq_true rfl, Nat.le_of_ble_eq_true rfl⟩ (by exact Nat.le_of_ble_eq_true rfl) (by decide +kernel) rfl (cO_reader _ _ _ _) rfl dX3_letterWord_78 (K_spells _ D adK adV cy a U B 3 (by decide) Q9 W eQ9 eW9 hWQ hQ9) rfl (fun vu_12 wu_12 hu_12 => ?_)
          rcases hu_12 with ⟨rfl, hu_12, rfl⟩ | ⟨rfl, hu_12, rfl⟩
          · skip
            have hp3 := hu_12
            refine g_if_eq 87 dX3_letterWord_81 (by decide) (fun h9 => absurd h9 (by decide)) (fun _ => ?_)
            refine g_bipush (11) rfl dX3_letterWord_84 ?_
            refine g_iret dX3_letterWord_86 ?_
            refine ⟨?_, rfl⟩
            unfold cwd
            first | rw [if_pos hp0] | rw [if_neg hn0, if_pos hp1] | rw [if_neg hn0, if_neg hn1, if_pos hp2] | rw [if_neg hn0, if_neg hn1, if_neg hn2, if_pos hp3] | rw [if_neg hn0, if_neg hn1, if_neg hn2, if_neg hn3, if_pos hp4] | rw [if_neg hn0, if_neg hn1, if_neg hn2, if_neg hn3, if_neg hn4, if_pos hp5] | rw [if_neg hn0, if_neg hn1, if_neg hn2, if_neg hn3, if_neg hn4, if_neg hn5, if_pos hp6] | rw [if_neg hn0, if_neg hn1, if_neg hn2, if_neg hn3, if_neg hn4, if_neg hn5, if_neg hn6, if_pos hp7] | rw [if_neg hn0, if_neg hn1, if_neg hn2, if_neg hn3, if_neg hn4, if_neg hn5, if_neg hn6, if_neg hn7, if_pos hp8] | rw [if_neg hn0, if_neg hn1, if_neg hn2, if_neg hn3, if_neg hn4, if_neg hn5, if_neg hn6, if_neg hn7, if_neg hn8]
          · skip
            have hn3 := hu_12
            refine g_if_eq 87 dX3_letterWord_81 (by decide) (fun _ => ?_) (fun h9 => absurd h9 (by decide))
            refine g_aload_n (i := 0) dX3_letterWord_87 rfl rfl ?_
            refine g_ldcS (tx := sTx.getD 4 "") (hE9.1.2.1 4 (by decide)) dX3_letterWord_88 ?_
            refine g_callVEf 1 7 (sE_keep adK adV) hE9 gX3_letterWord_X3_spells rfl rfl rfl ⟨Nat.le_of_ble_eq_true rfl, Nat.le_of_ble_eq_true rfl⟩ ⟨Nat.le_of_ble_eq_true rfl, Nat.le_of_ble_eq_true rfl⟩ (by exact Nat.le_of_ble_eq_true rfl) (by decide +kernel) rfl (cO_reader _ _ _ _) rfl dX3_letterWord_90 (K_spells _ D adK adV cy a U B 4 (by decide) Q9 W eQ9 eW9 hWQ hQ9) rfl (fun vu_15 wu_15 hu_15 => ?_)
            rcases hu_15 with ⟨rfl, hu_15, rfl⟩ | ⟨rfl, hu_15, rfl⟩
            · skip
              have hp4 := hu_15
              refine g_if_eq 98 dX3_letterWord_93 (by decide) (fun h9 => absurd h9 (by decide)) (fun _ => ?_)
              refine g_iconst (0) rfl dX3_letterWord_96 ?_
              refine g_iret dX3_letterWord_97 ?_
              refine ⟨?_, rfl⟩
              unfold cwd
              first | rw [if_pos hp0] | rw [if_neg hn0, if_pos hp1] | rw [if_neg hn0, if_neg hn1, if_pos hp2] | rw [if_neg hn0, if_neg hn1, if_neg hn2, if_pos hp3] | rw [if_neg hn0, if_neg hn1, if_neg hn2, if_neg hn3, if_pos hp4] | rw [if_neg hn0, if_neg hn1, if_neg hn2, if_neg hn3, if_neg hn4, if_pos hp5] | rw [if_neg hn0, if_neg hn1, if_neg hn2, if_neg hn3, if_neg hn4, if_neg hn5, if_pos hp6] | rw [if_neg hn0, if_neg hn1, if_neg hn2, if_neg hn3, if_neg hn4, if_neg hn5, if_neg hn6, if_pos hp7] | rw [if_neg hn0, if_neg hn1, if_neg hn2, if_neg hn3, if_neg hn4, if_neg hn5, if_neg hn6, if_neg hn7, if_pos hp8] | rw [if_neg hn0, if_neg hn1, if_neg hn2, if_neg hn3, if_neg hn4, if_neg hn5, if_neg hn6, if_neg hn7, if_neg hn8]
            · skip
              have hn4 := hu_15
              refine g_if_eq 98 dX3_letterWord_93 (by decide) (fun _ => ?_) (fun h9 => absurd h9 (by decide))
              refine g_aload_n (i := 0) dX3_letterWord_98 rfl rfl ?_
              refine g_ldcS (tx := sTx.getD 5 "") (hE9.1.2.1 5 (by decide)) dX3_letterWord_99 ?_
              refine g_callVEf 1 7 (sE_keep adK adV) hE9 gX3_letterWord_X3_spells rfl rfl rfl ⟨Nat.le_of_ble_eq_true rfl, Nat.le_of_ble_eq_true rfl⟩ ⟨Nat.le_of_ble_eq_true rfl, Nat.le_of_ble_eq_true rfl⟩ (by exact Nat.le_of_ble_eq_true rfl) (by decide +kernel) rfl (cO_reader _ _ _ _) rfl dX3_letterWord_101 (K_spells _ D adK adV cy a U B 5 (by decide) Q9 W eQ9 eW9 hWQ hQ9) rfl (fun vu_18 wu_18 hu_18 => ?_)
              rcases hu_18 with ⟨rfl, hu_18, rfl⟩ | ⟨rfl, hu_18, rfl⟩
              · skip
                have hp5 := hu_18
                refine g_if_eq 109 dX3_letterWord_104 (by decide) (fun h9 => absurd h9 (by decide)) (fun _ => ?_)
                refine g_iconst (1) rfl dX3_letterWord_107 ?_
                refine g_iret dX3_letterWord_108 ?_
                refine ⟨?_, rfl⟩
                unfold cwd
                first | rw [if_pos hp0] | rw [if_neg hn0, if_pos hp1] | rw [if_neg hn0, if_neg hn1, if_pos hp2] | rw [if_neg hn0, if_neg hn1, if_neg hn2, if_pos hp3] | rw [if_neg hn0, if_neg hn1, if_neg hn2, if_neg hn3, if_pos hp4] | rw [if_neg hn0, if_neg hn1, if_neg hn2, if_neg hn3, if_neg hn4, if_pos hp5] | rw [if_neg hn0, if_neg hn1, if_neg hn2, if_neg hn3, if_neg hn4, if_neg hn5, if_pos hp6] | rw [if_neg hn0, if_neg hn1, if_neg hn2, if_neg hn3, if_neg hn4, if_neg hn5, if_neg hn6, if_pos hp7] | rw [if_neg hn0, if_neg hn1, if_neg hn2, if_neg hn3, if_neg hn4, if_neg hn5, if_neg hn6, if_neg hn7, if_pos hp8] | rw [if_neg hn0, if_neg hn1, if_neg hn2, if_neg hn3, if_neg hn4, if_neg hn5, if_neg hn6, if_neg hn7, if_neg hn8]
              · skip
                have hn5 := hu_18
                refine g_if_eq 109 dX3_letterWord_104 (by decide) (fun _ => ?_) (fun h9 => absurd h9 (by decide))
                refine g_aload_n (i := 0) dX3_letterWord_109 rfl rfl ?_
                refine g_ldcS (tx := sTx.getD 6 "") (hE9.1.2.1 6 (by decide)) dX3_letterWord_110 ?_
                refine g_callVEf 1 7 (sE_keep adK adV) hE9 gX3_letterWord_X3_spells rfl rfl rfl ⟨Nat.le_of_ble_eq_true rfl, Nat.le_of_ble_eq_true rfl⟩ ⟨Nat.le_of_ble_eq_true rfl, Nat.le_of_ble_eq_true rfl⟩ (by exact Nat.le_of_ble_eq_true rfl) (by decide +kernel) rfl (cO_reader _ _ _ _) rfl dX3_letterWord_112 (K_spells _ D adK adV cy a U B 6 (by decide) Q9 W eQ9 eW9 hWQ hQ9) rfl (fun vu_21 wu_21 hu_21 => ?_)
                rcases hu_21 with ⟨rfl, hu_21, rfl⟩ | ⟨rfl, hu_21, rfl⟩
                · skip
                  have hp6 := hu_21
                  refine g_if_eq 120 dX3_letterWord_115 (by decide) (fun h9 => absurd h9 (by decide)) (fun _ => ?_)
                  refine g_iconst (2) rfl dX3_letterWord_118 ?_
                  refine g_iret dX3_letterWord_119 ?_
                  refine ⟨?_, rfl⟩
                  unfold cwd
                  first | rw [if_pos hp0] | rw [if_neg hn0, if_pos hp1] | rw [if_neg hn0, if_neg hn1, if_pos hp2] | rw [if_neg hn0, if_neg hn1, if_neg hn2, if_pos hp3] | rw [if_neg hn0, if_neg hn1, if_neg hn2, if_neg hn3, if_pos hp4] | rw [if_neg hn0, if_neg hn1, if_neg hn2, if_neg hn3, if_neg hn4, if_pos hp5] | rw [if_neg hn0, if_neg hn1, if_neg hn2, if_neg hn3, if_neg hn4, if_neg hn5, if_pos hp6] | rw [if_neg hn0, if_neg hn1, if_neg hn2, if_neg hn3, if_neg hn4, if_neg hn5, if_neg hn6, if_pos hp7] | rw [if_neg hn0, if_neg hn1, if_neg hn2, if_neg hn3, if_neg hn4, if_neg hn5, if_neg hn6, if_neg hn7, if_pos hp8] | rw [if_neg hn0, if_neg hn1, if_neg hn2, if_neg hn3, if_neg hn4, if_neg hn5, if_neg hn6, if_neg hn7, if_neg hn8]
                · skip
                  have hn6 := hu_21
                  refine g_if_eq 120 dX3_letterWord_115 (by decide) (fun _ => ?_) (fun h9 => absurd h9 (by decide))
                  refine g_aload_n (i := 0) dX3_letterWord_120 rfl rfl ?_
                  refine g_ldcS (tx := sTx.getD 7 "") (hE9.1.2.1 7 (by decide)) dX3_letterWord_121 ?_
                  refine g_callVEf 1 7 (sE_keep adK adV) hE9 gX3_letterWord_X3_spells rfl rfl rfl ⟨Nat.le_of_ble_eq_true rfl, Nat.le_of_ble_eq_true rfl⟩ ⟨Nat.le_of_ble_eq_true rfl, Nat.le_of_ble_eq_true rfl⟩ (by exact Nat.le_of_ble_eq_true rfl) (by decide +kernel) rfl (cO_reader _ _ _ _) rfl dX3_letterWord_123 (K_spells _ D adK adV cy a U B 7 (by decide) Q9 W eQ9 eW9 hWQ hQ9) rfl (fun vu_24 wu_24 hu_24 => ?_)
                  rcases hu_24 with ⟨rfl, hu_24, rfl⟩ | ⟨rfl, hu_24, rfl⟩
                  · skip
                    have hp7 := hu_24
                    refine g_if_eq 131 dX3_letterWord_126 (by decide) (fun h9 => absurd h9 (by decide)) (fun _ => ?_)
                    refine g_iconst (3) rfl dX3_letterWord_129 ?_
                    refine g_iret dX3_letterWord_130 ?_
                    refine ⟨?_, rfl⟩
                    unfold cwd
                    first | rw [if_pos hp0] | rw [if_neg hn0, if_pos hp1] | rw [if_neg hn0, if_neg hn1, if_pos hp2] | rw [if_neg hn0, if_neg hn1, if_neg hn2, if_pos hp3] | rw [if_neg hn0, if_neg hn1, if_neg hn2, if_neg hn3, if_pos hp4] | rw [if_neg hn0, if_neg hn1, if_neg hn2, if_neg hn3, if_neg hn4, if_pos hp5] | rw [if_neg hn0, if_neg hn1, if_neg hn2, if_neg hn3, if_neg hn4, if_neg hn5, if_pos hp6] | rw [if_neg hn0, if_neg hn1, if_neg hn2, if_neg hn3, if_neg hn4, if_neg hn5, if_neg hn6, if_pos hp7] | rw [if_neg hn0, if_neg hn1, if_neg hn2, if_neg hn3, if_neg hn4, if_neg hn5, if_neg hn6, if_neg hn7, if_pos hp8] | rw [if_neg hn0, if_neg hn1, if_neg hn2, if_neg hn3, if_neg hn4, if_neg hn5, if_neg hn6, if_neg hn7, if_neg hn8]
                  · skip
                    have hn7 := hu_24
                    refine g_if_eq 131 dX3_letterWord_126 (by decide) (fun _ => ?_) (fun h9 => absurd h9 (by decide))
                    refine g_aload_n (i := 0) dX3_letterWord_131 rfl rfl ?_
                    refine g_ldcS (tx := sTx.getD 8 "") (hE9.1.2.1 8 (by decide)) dX3_letterWord_132 ?_
                    refine g_callVEf 1 7 (sE_keep adK adV) hE9 gX3_letterWord_X3_spells rfl rfl rfl ⟨Nat.le_of_ble_eq_true rfl, Nat.le_of_ble_eq_true rfl⟩ ⟨Nat.le_of_ble_eq_true rfl, Nat.le_of_ble_eq_true rfl⟩ (by exact Nat.le_of_ble_eq_true rfl) (by decide +kernel) rfl (cO_reader _ _ _ _) rfl dX3_letterWord_134 (K_spells _ D adK adV cy a U B 8 (by decide) Q9 W eQ9 eW9 hWQ hQ9) rfl (fun vu_27 wu_27 hu_27 => ?_)
                    rcases hu_27 with ⟨rfl, hu_27, rfl⟩ | ⟨rfl, hu_27, rfl⟩
                    · skip
                      have hp8 := hu_27
                      refine g_if_eq 144 dX3_letterWord_137 (by decide) (fun h9 => absurd h9 (by decide)) (fun _ => ?_)
                      refine g_iconst (4) rfl dX3_letterWord_140 ?_
                      refine g_goto 146 dX3_letterWord_141 (by decide) ?_
                      refine g_iret dX3_letterWord_146 ?_
                      refine ⟨?_, rfl⟩
                      unfold cwd
                      first | rw [if_pos hp0] | rw [if_neg hn0, if_pos hp1] | rw [if_neg hn0, if_neg hn1, if_pos hp2] | rw [if_neg hn0, if_neg hn1, if_neg hn2, if_pos hp3] | rw [if_neg hn0, if_neg hn1, if_neg hn2, if_neg hn3, if_pos hp4] | rw [if_neg hn0, if_neg hn1, if_neg hn2, if_neg hn3, if_neg hn4, if_pos hp5] | rw [if_neg hn0, if_neg hn1, if_neg hn2, if_neg hn3, if_neg hn4, if_neg hn5, if_pos hp6] | rw [if_neg hn0, if_neg hn1, if_neg hn2, if_neg hn3, if_neg hn4, if_neg hn5, if_neg hn6, if_pos hp7] | rw [if_neg hn0, if_neg hn1, if_neg hn2, if_neg hn3, if_neg hn4, if_neg hn5, if_neg hn6, if_neg hn7, if_pos hp8] | rw [if_neg hn0, if_neg hn1, if_neg hn2, if_neg hn3, if_neg hn4, if_neg hn5, if_neg hn6, if_neg hn7, if_neg hn8]
                    · skip
                      have hn8 := hu_27
                      refine g_if_eq 144 dX3_letterWord_137 (by decide) (fun _ => ?_) (fun h9 => absurd h9 (by decide))
                      refine g_bipush (15) rfl dX3_letterWord_144 ?_
                      refine g_iret dX3_letterWord_146 ?_
                      refine ⟨?_, rfl⟩
                      unfold cwd
                      first | rw [if_pos hp0] | rw [if_neg hn0, if_pos hp1] | rw [if_neg hn0, if_neg hn1, if_pos hp2] | rw [if_neg hn0, if_neg hn1, if_neg hn2, if_pos hp3] | rw [if_neg hn0, if_neg hn1, if_neg hn2, if_neg hn3, if_pos hp4] | rw [if_neg hn0, if_neg hn1, if_neg hn2, if_neg hn3, if_neg hn4, if_pos hp5] | rw [if_neg hn0, if_neg hn1, if_neg hn2, if_neg hn3, if_neg hn4, if_neg hn5, if_pos hp6] | rw [if_neg hn0, if_neg hn1, if_neg hn2, if_neg hn3, if_neg hn4, if_neg hn5, if_neg hn6, if_pos hp7] | rw [if_neg hn0, if_neg hn1, if_neg hn2, if_neg hn3, if_neg hn4, if_neg hn5, if_neg hn6, if_neg hn7, if_pos hp8] | rw [if_neg hn0, if_neg hn1, if_neg hn2, if_neg hn3, if_neg hn4, if_neg hn5, if_neg hn6, if_neg hn7, if_neg hn8]
  · skip
    have hnl : ¬ U.1 20 ≤ U.1 23 := c_2
    have hin := tr_in hk hnl
    refine g_aload_n (i := 0) dX3_letterWord_11 rfl rfl ?_
    refine g_get 7 2 dX3_letterWord_12 (List.mem_of_getElem? (i := 3) rfl) (fun w h => List.mem_cons_of_mem _ (List.mem_append_right _ h)) (cO_reader _ _ _ _) rfl (by decide) rfl ?_
    refine g_aload_n (i := 0) dX3_letterWord_15 rfl rfl ?_
    refine g_get 7 3 dX3_letterWord_16 (List.mem_of_getElem? (i := 1) rfl) (fun w h => List.mem_cons_of_mem _ (List.mem_append_right _ h)) (cO_reader _ _ _ _) rfl (by decide) rfl ?_
    refine c_ald_22 dX3_letterWord_19 hin ?_
    refine g_callSf 1 gX3_letterWord_X3_isLetter rfl rfl rfl ⟨Nat.le_of_ble_eq_true rfl, Nat.le_of_ble_eq_true rfl⟩ ⟨Nat.le_of_ble_eq_true rfl, Nat.le_of_ble_eq_true rfl⟩ (by exact Nat.le_of_ble_eq_true rfl) (by decide +kernel) rfl dX3_letterWord_20 (K_isLetter _ D cy a _ _ _) rfl (fun vu_30 wu_30 hu_30 => ?_)
    rcases hu_30 with ⟨rfl, hu_30, rfl⟩ | ⟨rfl, hu_30, rfl⟩
    · skip
      have hlet : cLet U := (by unfold cLet; rw [cat1 hnl]; exact hu_30)
      refine g_if_eq 39 dX3_letterWord_23 (by decide) (fun h9 => absurd h9 (by decide)) (fun _ => ?_)
      refine g_aload_n (i := 0) dX3_letterWord_26 rfl rfl ?_
      refine g_dup rfl dX3_letterWord_27 ?_
      refine g_get 7 3 dX3_letterWord_28 (List.mem_of_getElem? (i := 1) rfl) (fun w h => List.mem_cons_of_mem _ (List.mem_append_right _ h)) (cO_reader _ _ _ _) rfl (by decide) rfl ?_
      refine g_iconst (1) rfl dX3_letterWord_31 ?_
      refine g_iadd dX3_letterWord_32 ?_
      refine g_put 7 3 _ tyX3 tyX3_ok nmX3 dX3_letterWord_33 (List.mem_of_getElem? (i := 1) rfl) (fun w h => List.mem_cons_of_mem _ (List.mem_append_right _ h)) (cO_reader _ _ _ _) rfl (by decide) rfl (tyX3_ok 3 (by decide)) rfl rfl (Nat.le_of_ble_eq_true rfl) (cwI_23 _ _ _ _ _) ?_
      refine g_goto 0 dX3_letterWord_36 (by decide) ?_
      obtain ⟨f, rfl⟩ := tr_pos hk
      exact g_to _ _ (ih (f, sI U 23 (U.1 23 + 1)) ⟨tr_step hk hnl, cltR1 hlet gx⟩ (Nat.lt_succ_self f)) rfl ⟨rfl, trivial⟩
    · skip
      have hnf : ¬ cLet U := (by unfold cLet; rw [cat1 hnl]; exact hu_30)
      obtain rfl := cltR0 hnf gx
      refine g_if_eq 39 dX3_letterWord_23 (by decide) (fun _ => ?_) (fun h9 => absurd h9 (by decide))
      obtain ⟨Q9, hPQ, hQ9, eQ9⟩ := hQQ
      have hWQ : W ≤ Q9 := Nat.le_trans hW hPQ
      refine g_aload_n (i := 0) dX3_letterWord_39 rfl rfl ?_
      refine g_ldcS (tx := sTx.getD 0 "") (hE9.1.2.1 0 (by decide)) dX3_letterWord_40 ?_
      refine g_callVEf 1 7 (sE_keep adK adV) hE9 gX3_letterWord_X3_spells rfl rfl rfl ⟨Nat.le_of_ble_eq_true rfl, Nat.le_of_ble_eq_true rfl⟩ ⟨Nat.le_of_ble_eq_true rfl, Nat.le_of_ble_eq_true rfl⟩ (by exact Nat.le_of_ble_eq_true rfl) (by decide +kernel) rfl (cO_reader _ _ _ _) rfl dX3_letterWord_42 (K_spells _ D adK adV cy a U B 0 (by decide) Q9 W eQ9 eW9 hWQ hQ9) rfl (fun vu_33 wu_33 hu_33 => ?_)
      rcases hu_33 with ⟨rfl, hu_33, rfl⟩ | ⟨rfl, hu_33, rfl⟩
      · skip
        have hp0 := hu_33
        refine g_if_eq 51 dX3_letterWord_45 (by decide) (fun h9 => absurd h9 (by decide)) (fun _ => ?_)
        refine g_bipush (8) rfl dX3_letterWord_48 ?_
        refine g_iret dX3_letterWord_50 ?_
        refine ⟨?_, rfl⟩
        unfold cwd
        first | rw [if_pos hp0] | rw [if_neg hn0, if_pos hp1] | rw [if_neg hn0, if_neg hn1, if_pos hp2] | rw [if_neg hn0, if_neg hn1, if_neg hn2, if_pos hp3] | rw [if_neg hn0, if_neg hn1, if_neg hn2, if_neg hn3, if_pos hp4] | rw [if_neg hn0, if_neg hn1, if_neg hn2, if_neg hn3, if_neg hn4, if_pos hp5] | rw [if_neg hn0, if_neg hn1, if_neg hn2, if_neg hn3, if_neg hn4, if_neg hn5, if_pos hp6] | rw [if_neg hn0, if_neg hn1, if_neg hn2, if_neg hn3, if_neg hn4, if_neg hn5, if_neg hn6, if_pos hp7] | rw [if_neg hn0, if_neg hn1, if_neg hn2, if_neg hn3, if_neg hn4, if_neg hn5, if_neg hn6, if_neg hn7, if_pos hp8] | rw [if_neg hn0, if_neg hn1, if_neg hn2, if_neg hn3, if_neg hn4, if_neg hn5, if_neg hn6, if_neg hn7, if_neg hn8]
      · skip
        have hn0 := hu_33
        refine g_if_eq 51 dX3_letterWord_45 (by decide) (fun _ => ?_) (fun h9 => absurd h9 (by decide))
        refine g_aload_n (i := 0) dX3_letterWord_51 rfl rfl ?_
        refine g_ldcS (tx := sTx.getD 1 "") (hE9.1.2.1 1 (by decide)) dX3_letterWord_52 ?_
        refine g_callVEf 1 7 (sE_keep adK adV) hE9 gX3_letterWord_X3_spells rfl rfl rfl ⟨Nat.le_of_ble_eq_true rfl, Nat.le_of_ble_eq_true rfl⟩ ⟨Nat.le_of_ble_eq_true rfl, Nat.le_of_ble_eq_true rfl⟩ (by exact Nat.le_of_ble_eq_true rfl) (by decide +kernel) rfl (cO_reader _ _ _ _) rfl dX3_letterWord_54 (K_spells _ D adK adV cy a U B 1 (by decide) Q9 W eQ9 eW9 hWQ hQ9) rfl (fun vu_36 wu_36 hu_36 => ?_)
        rcases hu_36 with ⟨rfl, hu_36, rfl⟩ | ⟨rfl, hu_36, rfl⟩
        · skip
          have hp1 := hu_36
          refine g_if_eq 63 dX3_letterWord_57 (by decide) (fun h9 => absurd h9 (by decide)) (fun _ => ?_)
          refine g_bipush (9) rfl dX3_letterWord_60 ?_
          refine g_iret dX3_letterWord_62 ?_
          refine ⟨?_, rfl⟩
          unfold cwd
          first | rw [if_pos hp0] | rw [if_neg hn0, if_pos hp1] | rw [if_neg hn0, if_neg hn1, if_pos hp2] | rw [if_neg hn0, if_neg hn1, if_neg hn2, if_pos hp3] | rw [if_neg hn0, if_neg hn1, if_neg hn2, if_neg hn3, if_pos hp4] | rw [if_neg hn0, if_neg hn1, if_neg hn2, if_neg hn3, if_neg hn4, if_pos hp5] | rw [if_neg hn0, if_neg hn1, if_neg hn2, if_neg hn3, if_neg hn4, if_neg hn5, if_pos hp6] | rw [if_neg hn0, if_neg hn1, if_neg hn2, if_neg hn3, if_neg hn4, if_neg hn5, if_neg hn6, if_pos hp7] | rw [if_neg hn0, if_neg hn1, if_neg hn2, if_neg hn3, if_neg hn4, if_neg hn5, if_neg hn6, if_neg hn7, if_pos hp8] | rw [if_neg hn0, if_neg hn1, if_neg hn2, if_neg hn3, if_neg hn4, if_neg hn5, if_neg hn6, if_neg hn7, if_neg hn8]
        · skip
          have hn1 := hu_36
          refine g_if_eq 63 dX3_letterWord_57 (by decide) (fun _ => ?_) (fun h9 => absurd h9 (by decide))
          refine g_aload_n (i := 0) dX3_letterWord_63 rfl rfl ?_
          refine g_ldcS (tx := sTx.getD 2 "") (hE9.1.2.1 2 (by decide)) dX3_letterWord_64 ?_
          refine g_callVEf 1 7 (sE_keep adK adV) hE9 gX3_letterWord_X3_spells rfl rfl rfl ⟨Nat.le_of_ble_eq_true rfl, Nat.le_of_ble_eq_true rfl⟩ ⟨Nat.le_of_ble_eq_true rfl, Nat.le_of_ble_eq_true rfl⟩ (by exact Nat.le_of_ble_eq_true rfl) (by decide +kernel) rfl (cO_reader _ _ _ _) rfl dX3_letterWord_66 (K_spells _ D adK adV cy a U B 2 (by decide) Q9 W eQ9 eW9 hWQ hQ9) rfl (fun vu_39 wu_39 hu_39 => ?_)
          rcases hu_39 with ⟨rfl, hu_39, rfl⟩ | ⟨rfl, hu_39, rfl⟩
          · skip
            have hp2 := hu_39
            refine g_if_eq 75 dX3_letterWord_69 (by decide) (fun h9 => absurd h9 (by decide)) (fun _ => ?_)
            refine g_bipush (10) rfl dX3_letterWord_72 ?_
            refine g_iret dX3_letterWord_74 ?_
            refine ⟨?_, rfl⟩
            unfold cwd
            first | rw [if_pos hp0] | rw [if_neg hn0, if_pos hp1] | rw [if_neg hn0, if_neg hn1, if_pos hp2] | rw [if_neg hn0, if_neg hn1, if_neg hn2, if_pos hp3] | rw [if_neg hn0, if_neg hn1, if_neg hn2, if_neg hn3, if_pos hp4] | rw [if_neg hn0, if_neg hn1, if_neg hn2, if_neg hn3, if_neg hn4, if_pos hp5] | rw [if_neg hn0, if_neg hn1, if_neg hn2, if_neg hn3, if_neg hn4, if_neg hn5, if_pos hp6] | rw [if_neg hn0, if_neg hn1, if_neg hn2, if_neg hn3, if_neg hn4, if_neg hn5, if_neg hn6, if_pos hp7] | rw [if_neg hn0, if_neg hn1, if_neg hn2, if_neg hn3, if_neg hn4, if_neg hn5, if_neg hn6, if_neg hn7, if_pos hp8] | rw [if_neg hn0, if_neg hn1, if_neg hn2, if_neg hn3, if_neg hn4, if_neg hn5, if_neg hn6, if_neg hn7, if_neg hn8]
          · skip
            have hn2 := hu_39
            refine g_if_eq 75 dX3_letterWord_69 (by decide) (fun _ => ?_) (fun h9 => absurd h9 (by decide))
            refine g_aload_n (i := 0) dX3_letterWord_75 rfl rfl ?_
            refine g_ldcS (tx := sTx.getD 3 "") (hE9.1.2.1 3 (by decide)) dX3_letterWord_76 ?_
            refine g_callVEf 1 7 (sE_keep adK adV) hE9 gX3_letterWord_X3_spells rfl rfl rfl ⟨Nat.le_of_ble_eq_true rfl, Nat.le_of_ble_eq_true rfl⟩ ⟨Nat.le_of_ble_eq_true rfl, Nat.le_of_ble_eq_true rfl⟩ (by exact Nat.le_of_ble_eq_true rfl) (by decide +kernel) rfl (cO_reader _ _ _ _) rfl dX3_letterWord_78 (K_spells _ D adK adV cy a U B 3 (by decide) Q9 W eQ9 eW9 hWQ hQ9) rfl (fun vu_42 wu_42 hu_42 => ?_)
            rcases hu_42 with ⟨rfl, hu_42, rfl⟩ | ⟨rfl, hu_42, rfl⟩
            · skip
              have hp3 := hu_42
              refine g_if_eq 87 dX3_letterWord_81 (by decide) (fun h9 => absurd h9 (by decide)) (fun _ => ?_)
              refine g_bipush (11) rfl dX3_letterWord_84 ?_
              refine g_iret dX3_letterWord_86 ?_
              refine ⟨?_, rfl⟩
              unfold cwd
              first | rw [if_pos hp0] | rw [if_neg hn0, if_pos hp1] | rw [if_neg hn0, if_neg hn1, if_pos hp2] | rw [if_neg hn0, if_neg hn1, if_neg hn2, if_pos hp3] | rw [if_neg hn0, if_neg hn1, if_neg hn2, if_neg hn3, if_pos hp4] | rw [if_neg hn0, if_neg hn1, if_neg hn2, if_neg hn3, if_neg hn4, if_pos hp5] | rw [if_neg hn0, if_neg hn1, if_neg hn2, if_neg hn3, if_neg hn4, if_neg hn5, if_pos hp6] | rw [if_neg hn0, if_neg hn1, if_neg hn2, if_neg hn3, if_neg hn4, if_neg hn5, if_neg hn6, if_pos hp7] | rw [if_neg hn0, if_neg hn1, if_neg hn2, if_neg hn3, if_neg hn4, if_neg hn5, if_neg hn6, if_neg hn7, if_pos hp8] | rw [if_neg hn0, if_neg hn1, if_neg hn2, if_neg hn3, if_neg hn4, if_neg hn5, if_neg hn6, if_neg hn7, if_neg hn8]
            · skip
              have hn3 := hu_42
              refine g_if_eq 87 dX3_letterWord_81 (by decide) (fun _ => ?_) (fun h9 => absurd h9 (by decide))
              refine g_aload_n (i := 0) dX3_letterWord_87 rfl rfl ?_
              refine g_ldcS (tx := sTx.getD 4 "") (hE9.1.2.1 4 (by decide)) dX3_letterWord_88 ?_
              refine g_callVEf 1 7 (sE_keep adK adV) hE9 gX3_letterWord_X3_spells rfl rfl rfl ⟨Nat.le_of_ble_eq_true rfl, Nat.le_of_ble_eq_true rfl⟩ ⟨Nat.le_of_ble_eq_true rfl, Nat.le_of_ble_eq_true rfl⟩ (by exact Nat.le_of_ble_eq_true rfl) (by decide +kernel) rfl (cO_reader _ _ _ _) rfl dX3_letterWord_90 (K_spells _ D adK adV cy a U B 4 (by decide) Q9 W eQ9 eW9 hWQ hQ9) rfl (fun vu_45 wu_45 hu_45 => ?_)
              rcases hu_45 with ⟨rfl, hu_45, rfl⟩ | ⟨rfl, hu_45, rfl⟩
              · skip
                have hp4 := hu_45
                refine g_if_eq 98 dX3_letterWord_93 (by decide) (fun h9 => absurd h9 (by decide)) (fun _ => ?_)
                refine g_iconst (0) rfl dX3_letterWord_96 ?_
                refine g_iret dX3_letterWord_97 ?_
                refine ⟨?_, rfl⟩
                unfold cwd
                first | rw [if_pos hp0] | rw [if_neg hn0, if_pos hp1] | rw [if_neg hn0, if_neg hn1, if_pos hp2] | rw [if_neg hn0, if_neg hn1, if_neg hn2, if_pos hp3] | rw [if_neg hn0, if_neg hn1, if_neg hn2, if_neg hn3, if_pos hp4] | rw [if_neg hn0, if_neg hn1, if_neg hn2, if_neg hn3, if_neg hn4, if_pos hp5] | rw [if_neg hn0, if_neg hn1, if_neg hn2, if_neg hn3, if_neg hn4, if_neg hn5, if_pos hp6] | rw [if_neg hn0, if_neg hn1, if_neg hn2, if_neg hn3, if_neg hn4, if_neg hn5, if_neg hn6, if_pos hp7] | rw [if_neg hn0, if_neg hn1, if_neg hn2, if_neg hn3, if_neg hn4, if_neg hn5, if_neg hn6, if_neg hn7, if_pos hp8] | rw [if_neg hn0, if_neg hn1, if_neg hn2, if_neg hn3, if_neg hn4, if_neg hn5, if_neg hn6, if_neg hn7, if_neg hn8]
              · skip
                have hn4 := hu_45
                refine g_if_eq 98 dX3_letterWord_93 (by decide) (fun _ => ?_) (fun h9 => absurd h9 (by decide))
                refine g_aload_n (i := 0) dX3_letterWord_98 rfl rfl ?_
                refine g_ldcS (tx := sTx.getD 5 "") (hE9.1.2.1 5 (by decide)) dX3_letterWord_99 ?_
                refine g_callVEf 1 7 (sE_keep adK adV) hE9 gX3_letterWord_X3_spells rfl rfl rfl ⟨Nat.le_of_ble_eq_true rfl, Nat.le_of_ble_eq_true rfl⟩ ⟨Nat.le_of_ble_eq_true rfl, Nat.le_of_ble_eq_true rfl⟩ (by exact Nat.le_of_ble_eq_true rfl) (by decide +kernel) rfl (cO_reader _ _ _ _) rfl dX3_letterWord_101 (K_spells _ D adK adV cy a U B 5 (by decide) Q9 W eQ9 eW9 hWQ hQ9) rfl (fun vu_48 wu_48 hu_48 => ?_)
                rcases hu_48 with ⟨rfl, hu_48, rfl⟩ | ⟨rfl, hu_48, rfl⟩
                · skip
                  have hp5 := hu_48
                  refine g_if_eq 109 dX3_letterWord_104 (by decide) (fun h9 => absurd h9 (by decide)) (fun _ => ?_)
                  refine g_iconst (1) rfl dX3_letterWord_107 ?_
                  refine g_iret dX3_letterWord_108 ?_
                  refine ⟨?_, rfl⟩
                  unfold cwd
                  first | rw [if_pos hp0] | rw [if_neg hn0, if_pos hp1] | rw [if_neg hn0, if_neg hn1, if_pos hp2] | rw [if_neg hn0, if_neg hn1, if_neg hn2, if_pos hp3] | rw [if_neg hn0, if_neg hn1, if_neg hn2, if_neg hn3, if_pos hp4] | rw [if_neg hn0, if_neg hn1, if_neg hn2, if_neg hn3, if_neg hn4, if_pos hp5] | rw [if_neg hn0, if_neg hn1, if_neg hn2, if_neg hn3, if_neg hn4, if_neg hn5, if_pos hp6] | rw [if_neg hn0, if_neg hn1, if_neg hn2, if_neg hn3, if_neg hn4, if_neg hn5, if_neg hn6, if_pos hp7] | rw [if_neg hn0, if_neg hn1, if_neg hn2, if_neg hn3, if_neg hn4, if_neg hn5, if_neg hn6, if_neg hn7, if_pos hp8] | rw [if_neg hn0, if_neg hn1, if_neg hn2, if_neg hn3, if_neg hn4, if_neg hn5, if_neg hn6, if_neg hn7, if_neg hn8]
                · skip
                  have hn5 := hu_48
                  refine g_if_eq 109 dX3_letterWord_104 (by decide) (fun _ => ?_) (fun h9 => absurd h9 (by decide))
                  refine g_aload_n (i := 0) dX3_letterWord_109 rfl rfl ?_
                  refine g_ldcS (tx := sTx.getD 6 "") (hE9.1.2.1 6 (by decide)) dX3_letterWord_110 ?_
                  refine g_callVEf 1 7 (sE_keep adK adV) hE9 gX3_letterWord_X3_spells rfl rfl rfl ⟨Nat.le_of_ble_eq_true rfl, Nat.le_of_ble_eq_true rfl⟩ ⟨Nat.le_of_ble_eq_true rfl, Nat.le_of_ble_eq_true rfl⟩ (by exact Nat.le_of_ble_eq_true rfl) (by decide +kernel) rfl (cO_reader _ _ _ _) rfl dX3_letterWord_112 (K_spells _ D adK adV cy a U B 6 (by decide) Q9 W eQ9 eW9 hWQ hQ9) rfl (fun vu_51 wu_51 hu_51 => ?_)
                  rcases hu_51 with ⟨rfl, hu_51, rfl⟩ | ⟨rfl, hu_51, rfl⟩
                  · skip
                    have hp6 := hu_51
                    refine g_if_eq 120 dX3_letterWord_115 (by decide) (fun h9 => absurd h9 (by decide)) (fun _ => ?_)
                    refine g_iconst (2) rfl dX3_letterWord_118 ?_
                    refine g_iret dX3_letterWord_119 ?_
                    refine ⟨?_, rfl⟩
                    unfold cwd
                    first | rw [if_pos hp0] | rw [if_neg hn0, if_pos hp1] | rw [if_neg hn0, if_neg hn1, if_pos hp2] | rw [if_neg hn0, if_neg hn1, if_neg hn2, if_pos hp3] | rw [if_neg hn0, if_neg hn1, if_neg hn2, if_neg hn3, if_pos hp4] | rw [if_neg hn0, if_neg hn1, if_neg hn2, if_neg hn3, if_neg hn4, if_pos hp5] | rw [if_neg hn0, if_neg hn1, if_neg hn2, if_neg hn3, if_neg hn4, if_neg hn5, if_pos hp6] | rw [if_neg hn0, if_neg hn1, if_neg hn2, if_neg hn3, if_neg hn4, if_neg hn5, if_neg hn6, if_pos hp7] | rw [if_neg hn0, if_neg hn1, if_neg hn2, if_neg hn3, if_neg hn4, if_neg hn5, if_neg hn6, if_neg hn7, if_pos hp8] | rw [if_neg hn0, if_neg hn1, if_neg hn2, if_neg hn3, if_neg hn4, if_neg hn5, if_neg hn6, if_neg hn7, if_neg hn8]
                  · skip
                    have hn6 := hu_51
                    refine g_if_eq 120 dX3_letterWord_115 (by decide) (fun _ => ?_) (fun h9 => absurd h9 (by decide))
                    refine g_aload_n (i := 0) dX3_letterWord_120 rfl rfl ?_
                    refine g_ldcS (tx := sTx.getD 7 "") (hE9.1.2.1 7 (by decide)) dX3_letterWord_121 ?_
                    refine g_callVEf 1 7 (sE_keep adK adV) hE9 gX3_letterWord_X3_spells rfl rfl rfl ⟨Nat.le_of_ble_eq_true rfl, Nat.le_of_ble_eq_true rfl⟩ ⟨Nat.le_of_ble_eq_true rfl, Nat.le_of_ble_eq_true rfl⟩ (by exact Nat.le_of_ble_eq_true rfl) (by decide +kernel) rfl (cO_reader _ _ _ _) rfl dX3_letterWord_123 (K_spells _ D adK adV cy a U B 7 (by decide) Q9 W eQ9 eW9 hWQ hQ9) rfl (fun vu_54 wu_54 hu_54 => ?_)
                    rcases hu_54 with ⟨rfl, hu_54, rfl⟩ | ⟨rfl, hu_54, rfl⟩
                    · skip
                      have hp7 := hu_54
                      refine g_if_eq 131 dX3_letterWord_126 (by decide) (fun h9 => absurd h9 (by decide)) (fun _ => ?_)
                      refine g_iconst (3) rfl dX3_letterWord_129 ?_
                      refine g_iret dX3_letterWord_130 ?_
                      refine ⟨?_, rfl⟩
                      unfold cwd
                      first | rw [if_pos hp0] | rw [if_neg hn0, if_pos hp1] | rw [if_neg hn0, if_neg hn1, if_pos hp2] | rw [if_neg hn0, if_neg hn1, if_neg hn2, if_pos hp3] | rw [if_neg hn0, if_neg hn1, if_neg hn2, if_neg hn3, if_pos hp4] | rw [if_neg hn0, if_neg hn1, if_neg hn2, if_neg hn3, if_neg hn4, if_pos hp5] | rw [if_neg hn0, if_neg hn1, if_neg hn2, if_neg hn3, if_neg hn4, if_neg hn5, if_pos hp6] | rw [if_neg hn0, if_neg hn1, if_neg hn2, if_neg hn3, if_neg hn4, if_neg hn5, if_neg hn6, if_pos hp7] | rw [if_neg hn0, if_neg hn1, if_neg hn2, if_neg hn3, if_neg hn4, if_neg hn5, if_neg hn6, if_neg hn7, if_pos hp8] | rw [if_neg hn0, if_neg hn1, if_neg hn2, if_neg hn3, if_neg hn4, if_neg hn5, if_neg hn6, if_neg hn7, if_neg hn8]
                    · skip
                      have hn7 := hu_54
                      refine g_if_eq 131 dX3_letterWord_126 (by decide) (fun _ => ?_) (fun h9 => absurd h9 (by decide))
                      refine g_aload_n (i := 0) dX3_letterWord_131 rfl rfl ?_
                      refine g_ldcS (tx := sTx.getD 8 "") (hE9.1.2.1 8 (by decide)) dX3_letterWord_132 ?_
                      refine g_callVEf 1 7 (sE_keep adK adV) hE9 gX3_letterWord_X3_spells rfl rfl rfl ⟨Nat.le_of_ble_eq_true rfl, Nat.le_of_ble_eq_true rfl⟩ ⟨Nat.le_of_ble_eq_true rfl, Nat.le_of_ble_eq_true rfl⟩ (by exact Nat.le_of_ble_eq_true rfl) (by decide +kernel) rfl (cO_reader _ _ _ _) rfl dX3_letterWord_134 (K_spells _ D adK adV cy a U B 8 (by decide) Q9 W eQ9 eW9 hWQ hQ9) rfl (fun vu_57 wu_57 hu_57 => ?_)
                      rcases hu_57 with ⟨rfl, hu_57, rfl⟩ | ⟨rfl, hu_57, rfl⟩
                      · skip
                        have hp8 := hu_57
                        refine g_if_eq 144 dX3_letterWord_137 (by decide) (fun h9 => absurd h9 (by decide)) (fun _ => ?_)
                        refine g_iconst (4) rfl dX3_letterWord_140 ?_
                        refine g_goto 146 dX3_letterWord_141 (by decide) ?_
                        refine g_iret dX3_letterWord_146 ?_
                        refine ⟨?_, rfl⟩
                        unfold cwd
                        first | rw [if_pos hp0] | rw [if_neg hn0, if_pos hp1] | rw [if_neg hn0, if_neg hn1, if_pos hp2] | rw [if_neg hn0, if_neg hn1, if_neg hn2, if_pos hp3] | rw [if_neg hn0, if_neg hn1, if_neg hn2, if_neg hn3, if_pos hp4] | rw [if_neg hn0, if_neg hn1, if_neg hn2, if_neg hn3, if_neg hn4, if_pos hp5] | rw [if_neg hn0, if_neg hn1, if_neg hn2, if_neg hn3, if_neg hn4, if_neg hn5, if_pos hp6] | rw [if_neg hn0, if_neg hn1, if_neg hn2, if_neg hn3, if_neg hn4, if_neg hn5, if_neg hn6, if_pos hp7] | rw [if_neg hn0, if_neg hn1, if_neg hn2, if_neg hn3, if_neg hn4, if_neg hn5, if_neg hn6, if_neg hn7, if_pos hp8] | rw [if_neg hn0, if_neg hn1, if_neg hn2, if_neg hn3, if_neg hn4, if_neg hn5, if_neg hn6, if_neg hn7, if_neg hn8]
                      · skip
                        have hn8 := hu_57
                        refine g_if_eq 144 dX3_letterWord_137 (by decide) (fun _ => ?_) (fun h9 => absurd h9 (by decide))
                        refine g_bipush (15) rfl dX3_letterWord_144 ?_
                        refine g_iret dX3_letterWord_146 ?_
                        refine ⟨?_, rfl⟩
                        unfold cwd
                        first | rw [if_pos hp0] | rw [if_neg hn0, if_pos hp1] | rw [if_neg hn0, if_neg hn1, if_pos hp2] | rw [if_neg hn0, if_neg hn1, if_neg hn2, if_pos hp3] | rw [if_neg hn0, if_neg hn1, if_neg hn2, if_neg hn3, if_pos hp4] | rw [if_neg hn0, if_neg hn1, if_neg hn2, if_neg hn3, if_neg hn4, if_pos hp5] | rw [if_neg hn0, if_neg hn1, if_neg hn2, if_neg hn3, if_neg hn4, if_neg hn5, if_pos hp6] | rw [if_neg hn0, if_neg hn1, if_neg hn2, if_neg hn3, if_neg hn4, if_neg hn5, if_neg hn6, if_pos hp7] | rw [if_neg hn0, if_neg hn1, if_neg hn2, if_neg hn3, if_neg hn4, if_neg hn5, if_neg hn6, if_neg hn7, if_pos hp8] | rw [if_neg hn0, if_neg hn1, if_neg hn2, if_neg hn3, if_neg hn4, if_neg hn5, if_neg hn6, if_neg hn7, if_neg hn8]

def cnE (X : Int32 × MS) : MS := sI X.2 26 X.1
def csE (T : MS) : MS := sI (sI T 24 (csg (cat T))) 23 (T.1 23 + 1)
/-- the word at the place -/
def cnB (T : MS) : MS := if T.1 20 ≤ T.1 23 then sI (sI T 25 (T.1 23)) 24 14 else if cLet T then sI (cltR 401 (sI T 25 (T.1 23))) 24 (cwd (cltR 401 (sI T 25 (T.1 23)))) else if cFig T then cnE (cnuR 401 0 (sI (sI T 25 (T.1 23)) 24 13)) else csE (sI T 25 (T.1 23))
def cnx (T : MS) : MS := cnB (cskR 401 T)
theorem cnB0 {T : MS} (h : T.1 20 ≤ T.1 23) : cnB T = sI (sI T 25 (T.1 23)) 24 14 := if_pos h
theorem cnB1 {T : MS} (h : ¬ T.1 20 ≤ T.1 23) (hl : cLet T) : cnB T = sI (cltR 401 (sI T 25 (T.1 23))) 24 (cwd (cltR 401 (sI T 25 (T.1 23)))) := (if_neg h).trans (if_pos hl)
theorem cnB2 {T : MS} (h : ¬ T.1 20 ≤ T.1 23) (hl : ¬ cLet T) (hf : cFig T) : cnB T = cnE (cnuR 401 0 (sI (sI T 25 (T.1 23)) 24 13)) := (if_neg h).trans ((if_neg hl).trans (if_pos hf))
theorem cnB3 {T : MS} (h : ¬ T.1 20 ≤ T.1 23) (hl : ¬ cLet T) (hf : ¬ cFig T) : cnB T = csE (sI T 25 (T.1 23)) := (if_neg h).trans ((if_neg hl).trans (if_neg hf))

theorem tr_P {T : MS} {f : Nat} (h : trI T f) : ∃ P, P ≤ 400 ∧ T.1 23 = nI P := by
  obtain ⟨L, P, e1, e2, h1, h2, h3⟩ := h
  exact ⟨P, by omega, e2⟩

set_option maxHeartbeats 4000000 in
set_option maxRecDepth 100000 in
/-- nextWord -/
theorem K_nextX (l : Launch) (D : va_G) (adK adV : Nat → Nat) (cy : Nat → ClassId) (a : Nat → Nat) (T : MS) (B : List BL) (X : MS) (hT : trI T 401) (eX : X = cnx T) : CtS (sE adK adV) l D clx (tyx cy) yX3_nextWord wsX3_nextWord (rmC 6) 0 0 [.ref (a 203)] (CW cy a T B) (fun r9 w9 => r9 = none ∧ w9 = CW cy a X B) := by
  refine g_startS (cc := cX3_nextWord) (maxL := 1) (ret := none) (by decide) rfl (Nat.le_of_ble_eq_true rfl) (fun v w1 h => by obtain ⟨rfl, -⟩ := h; exact rfl) (fun Γ hlΓ hE9 => ?_)
  subst hlΓ
  obtain ⟨Y9, eY9⟩ : ∃ Y : MS, Y = cskR 401 T := ⟨_, rfl⟩
  refine g_whl (σ := Nat × MS) (fun x => x.1) (fun x => trI x.2 x.1 ∧ x.1 ≤ 401 ∧ cskR x.1 x.2 = Y9) (fun x => CW cy a x.2 B) (fun x => [(0, .ref (a 203))]) (401, T) ⟨hT, Nat.le_refl _, eY9.symm⟩ rfl ⟨rfl, trivial⟩ (fun x gx ih => ?_)
  obtain ⟨f, U⟩ := x
  obtain ⟨hk, hf4, gx⟩ := gx
  replace hk : trI U f := hk
  replace hf4 : f ≤ 401 := hf4
  replace gx : cskR f U = Y9 := gx
  refine g_nrm [(0, .ref (a 203))] ⟨rfl, trivial⟩ ?_
  refine g_aload_n (i := 0) dX3_nextWord_0 rfl rfl ?_
  refine g_get 7 3 dX3_nextWord_1 (List.mem_of_getElem? (i := 1) rfl) (fun w h => List.mem_cons_of_mem _ (List.mem_append_right _ h)) (cO_reader _ _ _ _) rfl (by decide) rfl ?_
  refine g_aload_n (i := 0) dX3_nextWord_4 rfl rfl ?_
  refine g_get 7 0 dX3_nextWord_5 (List.mem_of_getElem? (i := 2) rfl) (fun w h => List.mem_cons_of_mem _ (List.mem_append_right _ h)) (cO_reader _ _ _ _) rfl (by decide) rfl ?_
  refine g_icmp_ge 38 dX3_nextWord_8 (by decide) (fun c_2 => ?_) (fun c_2 => ?_)
  · skip
    have hle : U.1 20 ≤ U.1 23 := c_2
    have hU9 : U = cskR 401 T := (cskR0 (c32_n hle) gx).trans eY9
    refine g_aload_n (i := 0) dX3_nextWord_38 rfl rfl ?_
    refine g_aload_n (i := 0) dX3_nextWord_39 rfl rfl ?_
    refine g_get 7 3 dX3_nextWord_40 (List.mem_of_getElem? (i := 1) rfl) (fun w h => List.mem_cons_of_mem _ (List.mem_append_right _ h)) (cO_reader _ _ _ _) rfl (by decide) rfl ?_
    refine g_put 7 5 _ tyX3 tyX3_ok nmX3 dX3_nextWord_43 (List.mem_of_getElem? (i := 4) rfl) (fun w h => List.mem_cons_of_mem _ (List.mem_append_right _ h)) (cO_reader _ _ _ _) rfl (by decide) rfl (tyX3_ok 5 (by decide)) rfl rfl (Nat.le_of_ble_eq_true rfl) (cwI_25 _ _ _ _ _) ?_
    refine g_aload_n (i := 0) dX3_nextWord_46 rfl rfl ?_
    refine g_get 7 3 dX3_nextWord_47 (List.mem_of_getElem? (i := 1) rfl) (fun w h => List.mem_cons_of_mem _ (List.mem_append_right _ h)) (cO_reader _ _ _ _) rfl (by decide) rfl ?_
    refine g_aload_n (i := 0) dX3_nextWord_50 rfl rfl ?_
    refine g_get 7 0 dX3_nextWord_51 (List.mem_of_getElem? (i := 2) rfl) (fun w h => List.mem_cons_of_mem _ (List.mem_append_right _ h)) (cO_reader _ _ _ _) rfl (by decide) rfl ?_
    refine g_icmp_lt 66 dX3_nextWord_54 (by decide) (fun c_3 => ?_) (fun c_3 => ?_)
    · skip
      have hlt9 : U.1 23 < U.1 20 := c_3
      have hnl9 : ¬ U.1 20 ≤ U.1 23 := Int32.not_le.mpr hlt9
      have hin9 := tr_in hk hnl9
      have hk4 := tr_401 hk
      obtain ⟨P9, hP9, eP9⟩ := tr_P hk
      obtain ⟨LX, eLX⟩ : ∃ Z : MS, Z = cltR 401 (sI U 25 (U.1 23)) := ⟨_, rfl⟩
      obtain ⟨NX, eNX⟩ : ∃ Z : Int32 × MS, Z = cnuR 401 0 (sI (sI U 25 (U.1 23)) 24 13) := ⟨_, rfl⟩
      refine g_aload_n (i := 0) dX3_nextWord_66 rfl rfl ?_
      refine g_get 7 2 dX3_nextWord_67 (List.mem_of_getElem? (i := 3) rfl) (fun w h => List.mem_cons_of_mem _ (List.mem_append_right _ h)) (cO_reader _ _ _ _) rfl (by decide) rfl ?_
      refine g_aload_n (i := 0) dX3_nextWord_70 rfl rfl ?_
      refine g_get 7 3 dX3_nextWord_71 (List.mem_of_getElem? (i := 1) rfl) (fun w h => List.mem_cons_of_mem _ (List.mem_append_right _ h)) (cO_reader _ _ _ _) rfl (by decide) rfl ?_
      refine c_ald_22 dX3_nextWord_74 hin9 ?_
      refine g_callSf 1 gX3_nextWord_X3_isLetter rfl rfl rfl ⟨Nat.le_of_ble_eq_true rfl, Nat.le_of_ble_eq_true rfl⟩ ⟨Nat.le_of_ble_eq_true rfl, Nat.le_of_ble_eq_true rfl⟩ (by exact Nat.le_of_ble_eq_true rfl) (by decide +kernel) rfl dX3_nextWord_75 (K_isLetter _ D cy a _ _ _) rfl (fun vu_4 wu_4 hu_4 => ?_)
      rcases hu_4 with ⟨rfl, hu_4, rfl⟩ | ⟨rfl, hu_4, rfl⟩
      · skip
        have hlet : cLet U := (by unfold cLet; rw [cat1 hnl9]; exact hu_4)
        refine g_if_eq 92 dX3_nextWord_78 (by decide) (fun h9 => absurd h9 (by decide)) (fun _ => ?_)
        refine g_aload_n (i := 0) dX3_nextWord_81 rfl rfl ?_
        refine g_aload_n (i := 0) dX3_nextWord_82 rfl rfl ?_
        refine g_callVEf 0 7 (sE_keep adK adV) hE9 gX3_nextWord_X3_letterWord rfl rfl rfl ⟨Nat.le_of_ble_eq_true rfl, Nat.le_of_ble_eq_true rfl⟩ ⟨Nat.le_of_ble_eq_true rfl, Nat.le_of_ble_eq_true rfl⟩ (by exact Nat.le_of_ble_eq_true rfl) (by decide +kernel) rfl (cO_reader _ _ _ _) rfl dX3_nextWord_83 (K_letterX _ D adK adV cy a (sI U 25 (U.1 23)) B LX hk4 eLX P9 P9 eP9 eP9 (Nat.le_refl _) hP9) rfl (fun vu_6 wu_6 hu_6 => ?_)
        obtain ⟨rfl, rfl⟩ := hu_6
        refine g_put 7 4 _ tyX3 tyX3_ok nmX3 dX3_nextWord_86 (List.mem_of_getElem? (i := 5) rfl) (fun w h => List.mem_cons_of_mem _ (List.mem_append_right _ h)) (cO_reader _ _ _ _) rfl (by decide) rfl (tyX3_ok 4 (by decide)) rfl rfl (Nat.le_of_ble_eq_true rfl) (cwI_24 _ _ _ _ _) ?_
        refine g_goto 150 dX3_nextWord_89 (by decide) ?_
        refine g_vret dX3_nextWord_150 ?_
        first | (rw [eX]; unfold cnx; rw [← hU9]; rw [cnB0 hle9]; with_reducible exact ⟨rfl, rfl⟩) | (rw [eX]; unfold cnx; rw [← hU9]; rw [cnB1 hnl9 hlet, ← eLX]; with_reducible exact ⟨rfl, rfl⟩) | (rw [eX]; unfold cnx; rw [← hU9]; rw [cnB2 hnl9 hnlet hfig, ← eNX]; with_reducible exact ⟨rfl, rfl⟩) | (rw [eX]; unfold cnx; rw [← hU9]; rw [cnB3 hnl9 hnlet hnfig]; unfold csE; rw [show cat (sI U 25 (U.1 23)) = U.2.2.1 22 (U.1 23).toNatClampNeg from cat1 hnl9]; exact ⟨rfl, rfl⟩)
      · skip
        have hnlet : ¬ cLet U := (by unfold cLet; rw [cat1 hnl9]; exact hu_4)
        refine g_if_eq 92 dX3_nextWord_78 (by decide) (fun _ => ?_) (fun h9 => absurd h9 (by decide))
        refine g_aload_n (i := 0) dX3_nextWord_92 rfl rfl ?_
        refine g_get 7 2 dX3_nextWord_93 (List.mem_of_getElem? (i := 3) rfl) (fun w h => List.mem_cons_of_mem _ (List.mem_append_right _ h)) (cO_reader _ _ _ _) rfl (by decide) rfl ?_
        refine g_aload_n (i := 0) dX3_nextWord_96 rfl rfl ?_
        refine g_get 7 3 dX3_nextWord_97 (List.mem_of_getElem? (i := 1) rfl) (fun w h => List.mem_cons_of_mem _ (List.mem_append_right _ h)) (cO_reader _ _ _ _) rfl (by decide) rfl ?_
        refine c_ald_22 dX3_nextWord_100 hin9 ?_
        refine g_callSf 1 gX3_nextWord_X3_isFigure rfl rfl rfl ⟨Nat.le_of_ble_eq_true rfl, Nat.le_of_ble_eq_true rfl⟩ ⟨Nat.le_of_ble_eq_true rfl, Nat.le_of_ble_eq_true rfl⟩ (by exact Nat.le_of_ble_eq_true rfl) (by decide +kernel) rfl dX3_nextWord_101 (K_isFigure _ D cy a _ _ _) rfl (fun vu_8 wu_8 hu_8 => ?_)
        rcases hu_8 with ⟨rfl, hu_8, rfl⟩ | ⟨rfl, hu_8, rfl⟩
        · skip
          have hfig : cFig U := (by unfold cFig; rw [cat1 hnl9]; exact hu_8)
          refine g_if_eq 124 dX3_nextWord_104 (by decide) (fun h9 => absurd h9 (by decide)) (fun _ => ?_)
          refine g_aload_n (i := 0) dX3_nextWord_107 rfl rfl ?_
          refine g_bipush (13) rfl dX3_nextWord_108 ?_
          refine g_put 7 4 _ tyX3 tyX3_ok nmX3 dX3_nextWord_110 (List.mem_of_getElem? (i := 5) rfl) (fun w h => List.mem_cons_of_mem _ (List.mem_append_right _ h)) (cO_reader _ _ _ _) rfl (by decide) rfl (tyX3_ok 4 (by decide)) rfl rfl (Nat.le_of_ble_eq_true rfl) (cwI_24 _ _ _ _ _) ?_
          refine g_aload_n (i := 0) dX3_nextWord_113 rfl rfl ?_
          refine g_aload_n (i := 0) dX3_nextWord_114 rfl rfl ?_
          refine g_callVf 0 7 gX3_nextWord_X3_numberWord rfl rfl rfl ⟨Nat.le_of_ble_eq_true rfl, Nat.le_of_ble_eq_true rfl⟩ ⟨Nat.le_of_ble_eq_true rfl, Nat.le_of_ble_eq_true rfl⟩ (by exact Nat.le_of_ble_eq_true rfl) (by decide +kernel) rfl (cO_reader _ _ _ _) rfl dX3_nextWord_115 (K_numberX _ D cy a (sI (sI U 25 (U.1 23)) 24 13) B NX hk4 eNX) rfl (fun vu_10 wu_10 hu_10 => ?_)
          obtain ⟨rfl, rfl⟩ := hu_10
          refine g_put 7 6 _ tyX3 tyX3_ok nmX3 dX3_nextWord_118 (List.mem_of_getElem? (i := 6) rfl) (fun w h => List.mem_cons_of_mem _ (List.mem_append_right _ h)) (cO_reader _ _ _ _) rfl (by decide) rfl (tyX3_ok 6 (by decide)) rfl rfl (Nat.le_of_ble_eq_true rfl) (cwI_26 _ _ _ _ _) ?_
          refine g_goto 150 dX3_nextWord_121 (by decide) ?_
          refine g_vret dX3_nextWord_150 ?_
          first | (rw [eX]; unfold cnx; rw [← hU9]; rw [cnB0 hle9]; with_reducible exact ⟨rfl, rfl⟩) | (rw [eX]; unfold cnx; rw [← hU9]; rw [cnB1 hnl9 hlet, ← eLX]; with_reducible exact ⟨rfl, rfl⟩) | (rw [eX]; unfold cnx; rw [← hU9]; rw [cnB2 hnl9 hnlet hfig, ← eNX]; with_reducible exact ⟨rfl, rfl⟩) | (rw [eX]; unfold cnx; rw [← hU9]; rw [cnB3 hnl9 hnlet hnfig]; unfold csE; rw [show cat (sI U 25 (U.1 23)) = U.2.2.1 22 (U.1 23).toNatClampNeg from cat1 hnl9]; exact ⟨rfl, rfl⟩)
        · skip
          have hnfig : ¬ cFig U := (by unfold cFig; rw [cat1 hnl9]; exact hu_8)
          refine g_if_eq 124 dX3_nextWord_104 (by decide) (fun _ => ?_) (fun h9 => absurd h9 (by decide))
          refine g_aload_n (i := 0) dX3_nextWord_124 rfl rfl ?_
          refine g_aload_n (i := 0) dX3_nextWord_125 rfl rfl ?_
          refine g_get 7 2 dX3_nextWord_126 (List.mem_of_getElem? (i := 3) rfl) (fun w h => List.mem_cons_of_mem _ (List.mem_append_right _ h)) (cO_reader _ _ _ _) rfl (by decide) rfl ?_
          refine g_aload_n (i := 0) dX3_nextWord_129 rfl rfl ?_
          refine g_get 7 3 dX3_nextWord_130 (List.mem_of_getElem? (i := 1) rfl) (fun w h => List.mem_cons_of_mem _ (List.mem_append_right _ h)) (cO_reader _ _ _ _) rfl (by decide) rfl ?_
          refine c_ald_22 dX3_nextWord_133 hin9 ?_
          refine g_callSf 1 gX3_nextWord_X3_signWord rfl rfl rfl ⟨Nat.le_of_ble_eq_true rfl, Nat.le_of_ble_eq_true rfl⟩ ⟨Nat.le_of_ble_eq_true rfl, Nat.le_of_ble_eq_true rfl⟩ (by exact Nat.le_of_ble_eq_true rfl) (by decide +kernel) rfl dX3_nextWord_134 (K_signWord _ D cy a _ _ _) rfl (fun vu_12 wu_12 hu_12 => ?_)
          obtain ⟨rfl, rfl⟩ := hu_12
          refine g_put 7 4 _ tyX3 tyX3_ok nmX3 dX3_nextWord_137 (List.mem_of_getElem? (i := 5) rfl) (fun w h => List.mem_cons_of_mem _ (List.mem_append_right _ h)) (cO_reader _ _ _ _) rfl (by decide) rfl (tyX3_ok 4 (by decide)) rfl rfl (Nat.le_of_ble_eq_true rfl) (cwI_24 _ _ _ _ _) ?_
          refine g_aload_n (i := 0) dX3_nextWord_140 rfl rfl ?_
          refine g_dup rfl dX3_nextWord_141 ?_
          refine g_get 7 3 dX3_nextWord_142 (List.mem_of_getElem? (i := 1) rfl) (fun w h => List.mem_cons_of_mem _ (List.mem_append_right _ h)) (cO_reader _ _ _ _) rfl (by decide) rfl ?_
          refine g_iconst (1) rfl dX3_nextWord_145 ?_
          refine g_iadd dX3_nextWord_146 ?_
          refine g_put 7 3 _ tyX3 tyX3_ok nmX3 dX3_nextWord_147 (List.mem_of_getElem? (i := 1) rfl) (fun w h => List.mem_cons_of_mem _ (List.mem_append_right _ h)) (cO_reader _ _ _ _) rfl (by decide) rfl (tyX3_ok 3 (by decide)) rfl rfl (Nat.le_of_ble_eq_true rfl) (cwI_23 _ _ _ _ _) ?_
          refine g_vret dX3_nextWord_150 ?_
          first | (rw [eX]; unfold cnx; rw [← hU9]; rw [cnB0 hle9]; with_reducible exact ⟨rfl, rfl⟩) | (rw [eX]; unfold cnx; rw [← hU9]; rw [cnB1 hnl9 hlet, ← eLX]; with_reducible exact ⟨rfl, rfl⟩) | (rw [eX]; unfold cnx; rw [← hU9]; rw [cnB2 hnl9 hnlet hfig, ← eNX]; with_reducible exact ⟨rfl, rfl⟩) | (rw [eX]; unfold cnx; rw [← hU9]; rw [cnB3 hnl9 hnlet hnfig]; unfold csE; rw [show cat (sI U 25 (U.1 23)) = U.2.2.1 22 (U.1 23).toNatClampNeg from cat1 hnl9]; exact ⟨rfl, rfl⟩)
    · skip
      have hle9 : U.1 20 ≤ U.1 23 := Int32.not_lt.mp c_3
      refine g_aload_n (i := 0) dX3_nextWord_57 rfl rfl ?_
      refine g_bipush (14) rfl dX3_nextWord_58 ?_
      refine g_put 7 4 _ tyX3 tyX3_ok nmX3 dX3_nextWord_60 (List.mem_of_getElem? (i := 5) rfl) (fun w h => List.mem_cons_of_mem _ (List.mem_append_right _ h)) (cO_reader _ _ _ _) rfl (by decide) rfl (tyX3_ok 4 (by decide)) rfl rfl (Nat.le_of_ble_eq_true rfl) (cwI_24 _ _ _ _ _) ?_
      refine g_goto 150 dX3_nextWord_63 (by decide) ?_
      refine g_vret dX3_nextWord_150 ?_
      first | (rw [eX]; unfold cnx; rw [← hU9]; rw [cnB0 hle9]; with_reducible exact ⟨rfl, rfl⟩) | (rw [eX]; unfold cnx; rw [← hU9]; rw [cnB1 hnl9 hlet, ← eLX]; with_reducible exact ⟨rfl, rfl⟩) | (rw [eX]; unfold cnx; rw [← hU9]; rw [cnB2 hnl9 hnlet hfig, ← eNX]; with_reducible exact ⟨rfl, rfl⟩) | (rw [eX]; unfold cnx; rw [← hU9]; rw [cnB3 hnl9 hnlet hnfig]; unfold csE; rw [show cat (sI U 25 (U.1 23)) = U.2.2.1 22 (U.1 23).toNatClampNeg from cat1 hnl9]; exact ⟨rfl, rfl⟩)
  · skip
    have hnl : ¬ U.1 20 ≤ U.1 23 := c_2
    have hin := tr_in hk hnl
    refine g_aload_n (i := 0) dX3_nextWord_11 rfl rfl ?_
    refine g_get 7 2 dX3_nextWord_12 (List.mem_of_getElem? (i := 3) rfl) (fun w h => List.mem_cons_of_mem _ (List.mem_append_right _ h)) (cO_reader _ _ _ _) rfl (by decide) rfl ?_
    refine g_aload_n (i := 0) dX3_nextWord_15 rfl rfl ?_
    refine g_get 7 3 dX3_nextWord_16 (List.mem_of_getElem? (i := 1) rfl) (fun w h => List.mem_cons_of_mem _ (List.mem_append_right _ h)) (cO_reader _ _ _ _) rfl (by decide) rfl ?_
    refine c_ald_22 dX3_nextWord_19 hin ?_
    refine g_bipush (32) rfl dX3_nextWord_20 ?_
    refine g_icmp_ne 38 dX3_nextWord_22 (by decide) (fun c_13 => ?_) (fun c_13 => ?_)
    · skip
      have hU9 : U = cskR 401 T := (cskR0 (by rw [cat1 hnl]; exact c_13) gx).trans eY9
      refine g_aload_n (i := 0) dX3_nextWord_38 rfl rfl ?_
      refine g_aload_n (i := 0) dX3_nextWord_39 rfl rfl ?_
      refine g_get 7 3 dX3_nextWord_40 (List.mem_of_getElem? (i := 1) rfl) (fun w h => List.mem_cons_of_mem _ (List.mem_append_right _ h)) (cO_reader _ _ _ _) rfl (by decide) rfl ?_
      refine g_put 7 5 _ tyX3 tyX3_ok nmX3 dX3_nextWord_43 (List.mem_of_getElem? (i := 4) rfl) (fun w h => List.mem_cons_of_mem _ (List.mem_append_right _ h)) (cO_reader _ _ _ _) rfl (by decide) rfl (tyX3_ok 5 (by decide)) rfl rfl (Nat.le_of_ble_eq_true rfl) (cwI_25 _ _ _ _ _) ?_
      refine g_aload_n (i := 0) dX3_nextWord_46 rfl rfl ?_
      refine g_get 7 3 dX3_nextWord_47 (List.mem_of_getElem? (i := 1) rfl) (fun w h => List.mem_cons_of_mem _ (List.mem_append_right _ h)) (cO_reader _ _ _ _) rfl (by decide) rfl ?_
      refine g_aload_n (i := 0) dX3_nextWord_50 rfl rfl ?_
      refine g_get 7 0 dX3_nextWord_51 (List.mem_of_getElem? (i := 2) rfl) (fun w h => List.mem_cons_of_mem _ (List.mem_append_right _ h)) (cO_reader _ _ _ _) rfl (by decide) rfl ?_
      refine g_icmp_lt 66 dX3_nextWord_54 (by decide) (fun c_14 => ?_) (fun c_14 => ?_)
      · skip
        have hlt9 : U.1 23 < U.1 20 := c_14
        have hnl9 : ¬ U.1 20 ≤ U.1 23 := Int32.not_le.mpr hlt9
        have hin9 := tr_in hk hnl9
        have hk4 := tr_401 hk
        obtain ⟨P9, hP9, eP9⟩ := tr_P hk
        obtain ⟨LX, eLX⟩ : ∃ Z : MS, Z = cltR 401 (sI U 25 (U.1 23)) := ⟨_, rfl⟩
        obtain ⟨NX, eNX⟩ : ∃ Z : Int32 × MS, Z = cnuR 401 0 (sI (sI U 25 (U.1 23)) 24 13) := ⟨_, rfl⟩
        refine g_aload_n (i := 0) dX3_nextWord_66 rfl rfl ?_
        refine g_get 7 2 dX3_nextWord_67 (List.mem_of_getElem? (i := 3) rfl) (fun w h => List.mem_cons_of_mem _ (List.mem_append_right _ h)) (cO_reader _ _ _ _) rfl (by decide) rfl ?_
        refine g_aload_n (i := 0) dX3_nextWord_70 rfl rfl ?_
        refine g_get 7 3 dX3_nextWord_71 (List.mem_of_getElem? (i := 1) rfl) (fun w h => List.mem_cons_of_mem _ (List.mem_append_right _ h)) (cO_reader _ _ _ _) rfl (by decide) rfl ?_
        refine c_ald_22 dX3_nextWord_74 hin9 ?_
        refine g_callSf 1 gX3_nextWord_X3_isLetter rfl rfl rfl ⟨Nat.le_of_ble_eq_true rfl, Nat.le_of_ble_eq_true rfl⟩ ⟨Nat.le_of_ble_eq_true rfl, Nat.le_of_ble_eq_true rfl⟩ (by exact Nat.le_of_ble_eq_true rfl) (by decide +kernel) rfl dX3_nextWord_75 (K_isLetter _ D cy a _ _ _) rfl (fun vu_15 wu_15 hu_15 => ?_)
        rcases hu_15 with ⟨rfl, hu_15, rfl⟩ | ⟨rfl, hu_15, rfl⟩
        · skip
          have hlet : cLet U := (by unfold cLet; rw [cat1 hnl9]; exact hu_15)
          refine g_if_eq 92 dX3_nextWord_78 (by decide) (fun h9 => absurd h9 (by decide)) (fun _ => ?_)
          refine g_aload_n (i := 0) dX3_nextWord_81 rfl rfl ?_
          refine g_aload_n (i := 0) dX3_nextWord_82 rfl rfl ?_
          refine g_callVEf 0 7 (sE_keep adK adV) hE9 gX3_nextWord_X3_letterWord rfl rfl rfl ⟨Nat.le_of_ble_eq_true rfl, Nat.le_of_ble_eq_true rfl⟩ ⟨Nat.le_of_ble_eq_true rfl, Nat.le_of_ble_eq_true rfl⟩ (by exact Nat.le_of_ble_eq_true rfl) (by decide +kernel) rfl (cO_reader _ _ _ _) rfl dX3_nextWord_83 (K_letterX _ D adK adV cy a (sI U 25 (U.1 23)) B LX hk4 eLX P9 P9 eP9 eP9 (Nat.le_refl _) hP9) rfl (fun vu_17 wu_17 hu_17 => ?_)
          obtain ⟨rfl, rfl⟩ := hu_17
          refine g_put 7 4 _ tyX3 tyX3_ok nmX3 dX3_nextWord_86 (List.mem_of_getElem? (i := 5) rfl) (fun w h => List.mem_cons_of_mem _ (List.mem_append_right _ h)) (cO_reader _ _ _ _) rfl (by decide) rfl (tyX3_ok 4 (by decide)) rfl rfl (Nat.le_of_ble_eq_true rfl) (cwI_24 _ _ _ _ _) ?_
          refine g_goto 150 dX3_nextWord_89 (by decide) ?_
          refine g_vret dX3_nextWord_150 ?_
          first | (rw [eX]; unfold cnx; rw [← hU9]; rw [cnB0 hle9]; with_reducible exact ⟨rfl, rfl⟩) | (rw [eX]; unfold cnx; rw [← hU9]; rw [cnB1 hnl9 hlet, ← eLX]; with_reducible exact ⟨rfl, rfl⟩) | (rw [eX]; unfold cnx; rw [← hU9]; rw [cnB2 hnl9 hnlet hfig, ← eNX]; with_reducible exact ⟨rfl, rfl⟩) | (rw [eX]; unfold cnx; rw [← hU9]; rw [cnB3 hnl9 hnlet hnfig]; unfold csE; rw [show cat (sI U 25 (U.1 23)) = U.2.2.1 22 (U.1 23).toNatClampNeg from cat1 hnl9]; exact ⟨rfl, rfl⟩)
        · skip
          have hnlet : ¬ cLet U := (by unfold cLet; rw [cat1 hnl9]; exact hu_15)
          refine g_if_eq 92 dX3_nextWord_78 (by decide) (fun _ => ?_) (fun h9 => absurd h9 (by decide))
          refine g_aload_n (i := 0) dX3_nextWord_92 rfl rfl ?_
          refine g_get 7 2 dX3_nextWord_93 (List.mem_of_getElem? (i := 3) rfl) (fun w h => List.mem_cons_of_mem _ (List.mem_append_right _ h)) (cO_reader _ _ _ _) rfl (by decide) rfl ?_
          refine g_aload_n (i := 0) dX3_nextWord_96 rfl rfl ?_
          refine g_get 7 3 dX3_nextWord_97 (List.mem_of_getElem? (i := 1) rfl) (fun w h => List.mem_cons_of_mem _ (List.mem_append_right _ h)) (cO_reader _ _ _ _) rfl (by decide) rfl ?_
          refine c_ald_22 dX3_nextWord_100 hin9 ?_
          refine g_callSf 1 gX3_nextWord_X3_isFigure rfl rfl rfl ⟨Nat.le_of_ble_eq_true rfl, Nat.le_of_ble_eq_true rfl⟩ ⟨Nat.le_of_ble_eq_true rfl, Nat.le_of_ble_eq_true rfl⟩ (by exact Nat.le_of_ble_eq_true rfl) (by decide +kernel) rfl dX3_nextWord_101 (K_isFigure _ D cy a _ _ _) rfl (fun vu_19 wu_19 hu_19 => ?_)
          rcases hu_19 with ⟨rfl, hu_19, rfl⟩ | ⟨rfl, hu_19, rfl⟩
          · skip
            have hfig : cFig U := (by unfold cFig; rw [cat1 hnl9]; exact hu_19)
            refine g_if_eq 124 dX3_nextWord_104 (by decide) (fun h9 => absurd h9 (by decide)) (fun _ => ?_)
            refine g_aload_n (i := 0) dX3_nextWord_107 rfl rfl ?_
            refine g_bipush (13) rfl dX3_nextWord_108 ?_
            refine g_put 7 4 _ tyX3 tyX3_ok nmX3 dX3_nextWord_110 (List.mem_of_getElem? (i := 5) rfl) (fun w h => List.mem_cons_of_mem _ (List.mem_append_right _ h)) (cO_reader _ _ _ _) rfl (by decide) rfl (tyX3_ok 4 (by decide)) rfl rfl (Nat.le_of_ble_eq_true rfl) (cwI_24 _ _ _ _ _) ?_
            refine g_aload_n (i := 0) dX3_nextWord_113 rfl rfl ?_
            refine g_aload_n (i := 0) dX3_nextWord_114 rfl rfl ?_
            refine g_callVf 0 7 gX3_nextWord_X3_numberWord rfl rfl rfl ⟨Nat.le_of_ble_eq_true rfl, Nat.le_of_ble_eq_true rfl⟩ ⟨Nat.le_of_ble_eq_true rfl, Nat.le_of_ble_eq_true rfl⟩ (by exact Nat.le_of_ble_eq_true rfl) (by decide +kernel) rfl (cO_reader _ _ _ _) rfl dX3_nextWord_115 (K_numberX _ D cy a (sI (sI U 25 (U.1 23)) 24 13) B NX hk4 eNX) rfl (fun vu_21 wu_21 hu_21 => ?_)
            obtain ⟨rfl, rfl⟩ := hu_21
            refine g_put 7 6 _ tyX3 tyX3_ok nmX3 dX3_nextWord_118 (List.mem_of_getElem? (i := 6) rfl) (fun w h => List.mem_cons_of_mem _ (List.mem_append_right _ h)) (cO_reader _ _ _ _) rfl (by decide) rfl (tyX3_ok 6 (by decide)) rfl rfl (Nat.le_of_ble_eq_true rfl) (cwI_26 _ _ _ _ _) ?_
            refine g_goto 150 dX3_nextWord_121 (by decide) ?_
            refine g_vret dX3_nextWord_150 ?_
            first | (rw [eX]; unfold cnx; rw [← hU9]; rw [cnB0 hle9]; with_reducible exact ⟨rfl, rfl⟩) | (rw [eX]; unfold cnx; rw [← hU9]; rw [cnB1 hnl9 hlet, ← eLX]; with_reducible exact ⟨rfl, rfl⟩) | (rw [eX]; unfold cnx; rw [← hU9]; rw [cnB2 hnl9 hnlet hfig, ← eNX]; with_reducible exact ⟨rfl, rfl⟩) | (rw [eX]; unfold cnx; rw [← hU9]; rw [cnB3 hnl9 hnlet hnfig]; unfold csE; rw [show cat (sI U 25 (U.1 23)) = U.2.2.1 22 (U.1 23).toNatClampNeg from cat1 hnl9]; exact ⟨rfl, rfl⟩)
          · skip
            have hnfig : ¬ cFig U := (by unfold cFig; rw [cat1 hnl9]; exact hu_19)
            refine g_if_eq 124 dX3_nextWord_104 (by decide) (fun _ => ?_) (fun h9 => absurd h9 (by decide))
            refine g_aload_n (i := 0) dX3_nextWord_124 rfl rfl ?_
            refine g_aload_n (i := 0) dX3_nextWord_125 rfl rfl ?_
            refine g_get 7 2 dX3_nextWord_126 (List.mem_of_getElem? (i := 3) rfl) (fun w h => List.mem_cons_of_mem _ (List.mem_append_right _ h)) (cO_reader _ _ _ _) rfl (by decide) rfl ?_
            refine g_aload_n (i := 0) dX3_nextWord_129 rfl rfl ?_
            refine g_get 7 3 dX3_nextWord_130 (List.mem_of_getElem? (i := 1) rfl) (fun w h => List.mem_cons_of_mem _ (List.mem_append_right _ h)) (cO_reader _ _ _ _) rfl (by decide) rfl ?_
            refine c_ald_22 dX3_nextWord_133 hin9 ?_
            refine g_callSf 1 gX3_nextWord_X3_signWord rfl rfl rfl ⟨Nat.le_of_ble_eq_true rfl, Nat.le_of_ble_eq_true rfl⟩ ⟨Nat.le_of_ble_eq_true rfl, Nat.le_of_ble_eq_true rfl⟩ (by exact Nat.le_of_ble_eq_true rfl) (by decide +kernel) rfl dX3_nextWord_134 (K_signWord _ D cy a _ _ _) rfl (fun vu_23 wu_23 hu_23 => ?_)
            obtain ⟨rfl, rfl⟩ := hu_23
            refine g_put 7 4 _ tyX3 tyX3_ok nmX3 dX3_nextWord_137 (List.mem_of_getElem? (i := 5) rfl) (fun w h => List.mem_cons_of_mem _ (List.mem_append_right _ h)) (cO_reader _ _ _ _) rfl (by decide) rfl (tyX3_ok 4 (by decide)) rfl rfl (Nat.le_of_ble_eq_true rfl) (cwI_24 _ _ _ _ _) ?_
            refine g_aload_n (i := 0) dX3_nextWord_140 rfl rfl ?_
            refine g_dup rfl dX3_nextWord_141 ?_
            refine g_get 7 3 dX3_nextWord_142 (List.mem_of_getElem? (i := 1) rfl) (fun w h => List.mem_cons_of_mem _ (List.mem_append_right _ h)) (cO_reader _ _ _ _) rfl (by decide) rfl ?_
            refine g_iconst (1) rfl dX3_nextWord_145 ?_
            refine g_iadd dX3_nextWord_146 ?_
            refine g_put 7 3 _ tyX3 tyX3_ok nmX3 dX3_nextWord_147 (List.mem_of_getElem? (i := 1) rfl) (fun w h => List.mem_cons_of_mem _ (List.mem_append_right _ h)) (cO_reader _ _ _ _) rfl (by decide) rfl (tyX3_ok 3 (by decide)) rfl rfl (Nat.le_of_ble_eq_true rfl) (cwI_23 _ _ _ _ _) ?_
            refine g_vret dX3_nextWord_150 ?_
            first | (rw [eX]; unfold cnx; rw [← hU9]; rw [cnB0 hle9]; with_reducible exact ⟨rfl, rfl⟩) | (rw [eX]; unfold cnx; rw [← hU9]; rw [cnB1 hnl9 hlet, ← eLX]; with_reducible exact ⟨rfl, rfl⟩) | (rw [eX]; unfold cnx; rw [← hU9]; rw [cnB2 hnl9 hnlet hfig, ← eNX]; with_reducible exact ⟨rfl, rfl⟩) | (rw [eX]; unfold cnx; rw [← hU9]; rw [cnB3 hnl9 hnlet hnfig]; unfold csE; rw [show cat (sI U 25 (U.1 23)) = U.2.2.1 22 (U.1 23).toNatClampNeg from cat1 hnl9]; exact ⟨rfl, rfl⟩)
      · skip
        have hle9 : U.1 20 ≤ U.1 23 := Int32.not_lt.mp c_14
        refine g_aload_n (i := 0) dX3_nextWord_57 rfl rfl ?_
        refine g_bipush (14) rfl dX3_nextWord_58 ?_
        refine g_put 7 4 _ tyX3 tyX3_ok nmX3 dX3_nextWord_60 (List.mem_of_getElem? (i := 5) rfl) (fun w h => List.mem_cons_of_mem _ (List.mem_append_right _ h)) (cO_reader _ _ _ _) rfl (by decide) rfl (tyX3_ok 4 (by decide)) rfl rfl (Nat.le_of_ble_eq_true rfl) (cwI_24 _ _ _ _ _) ?_
        refine g_goto 150 dX3_nextWord_63 (by decide) ?_
        refine g_vret dX3_nextWord_150 ?_
        first | (rw [eX]; unfold cnx; rw [← hU9]; rw [cnB0 hle9]; with_reducible exact ⟨rfl, rfl⟩) | (rw [eX]; unfold cnx; rw [← hU9]; rw [cnB1 hnl9 hlet, ← eLX]; with_reducible exact ⟨rfl, rfl⟩) | (rw [eX]; unfold cnx; rw [← hU9]; rw [cnB2 hnl9 hnlet hfig, ← eNX]; with_reducible exact ⟨rfl, rfl⟩) | (rw [eX]; unfold cnx; rw [← hU9]; rw [cnB3 hnl9 hnlet hnfig]; unfold csE; rw [show cat (sI U 25 (U.1 23)) = U.2.2.1 22 (U.1 23).toNatClampNeg from cat1 hnl9]; exact ⟨rfl, rfl⟩)
    · skip
      have h32 : cat U = 32 := (by rw [cat1 hnl]; exact c_13)
      refine g_aload_n (i := 0) dX3_nextWord_25 rfl rfl ?_
      refine g_dup rfl dX3_nextWord_26 ?_
      refine g_get 7 3 dX3_nextWord_27 (List.mem_of_getElem? (i := 1) rfl) (fun w h => List.mem_cons_of_mem _ (List.mem_append_right _ h)) (cO_reader _ _ _ _) rfl (by decide) rfl ?_
      refine g_iconst (1) rfl dX3_nextWord_30 ?_
      refine g_iadd dX3_nextWord_31 ?_
      refine g_put 7 3 _ tyX3 tyX3_ok nmX3 dX3_nextWord_32 (List.mem_of_getElem? (i := 1) rfl) (fun w h => List.mem_cons_of_mem _ (List.mem_append_right _ h)) (cO_reader _ _ _ _) rfl (by decide) rfl (tyX3_ok 3 (by decide)) rfl rfl (Nat.le_of_ble_eq_true rfl) (cwI_23 _ _ _ _ _) ?_
      refine g_goto 0 dX3_nextWord_35 (by decide) ?_
      obtain ⟨f, rfl⟩ := tr_pos hk
      exact g_to _ _ (ih (f, sI U 23 (U.1 23 + 1)) ⟨tr_step hk hnl, (by show f ≤ 401; omega), cskR1 h32 gx⟩ (Nat.lt_succ_self f)) rfl ⟨rfl, trivial⟩

theorem cnx_sp {T : MS} (h : trI T 401) : trI (cnx T) 401 ∧ (cnx T).2 = T.2 ∧ (∀ j, j ≠ 23 → j ≠ 24 → j ≠ 25 → j ≠ 26 → (cnx T).1 j = T.1 j) ∧ ∃ k, k ≤ 15 ∧ (cnx T).1 24 = nI k := by
  obtain ⟨s1, s2, s3⟩ := tr_sk 401 T h
  unfold cnx
  generalize cskR 401 T = U at s1 s2 s3
  by_cases hle : U.1 20 ≤ U.1 23
  · rw [cnB0 hle]
    exact ⟨s1, s2, fun j a b c d => (if_neg b).trans ((if_neg c).trans (s3 j a)), 14, by decide, rfl⟩
  · by_cases hl : cLet U
    · rw [cnB1 hle hl]
      obtain ⟨k1, k2, k3⟩ := tr_lt 401 (sI U 25 (U.1 23)) s1
      obtain ⟨q, q1, q2⟩ := cwd_b (cltR 401 (sI U 25 (U.1 23)))
      generalize cltR 401 (sI U 25 (U.1 23)) = V at k1 k2 k3 q1 q2
      exact ⟨k1, k2.trans s2, fun j a b c d => (if_neg b).trans ((k3 j a).trans ((if_neg c).trans (s3 j a))), q, q1, q2⟩
    · by_cases hf : cFig U
      · rw [cnB2 hle hl hf]
        obtain ⟨k1, k2, k3⟩ := tr_nu 401 0 (sI (sI U 25 (U.1 23)) 24 13) s1
        have k4 := k3 24 (by decide)
        generalize cnuR 401 0 (sI (sI U 25 (U.1 23)) 24 13) = V at k1 k2 k3 k4
        exact ⟨k1, k2.trans s2, fun j a b c d => (if_neg d).trans ((k3 j a).trans ((if_neg b).trans ((if_neg c).trans (s3 j a)))), 13, by decide, k4⟩
      · rw [cnB3 hle hl hf]
        refine ⟨tr_mono (tr_step (f := 400) (T := sI (sI U 25 (U.1 23)) 24 (csg (cat (sI U 25 (U.1 23))))) s1 hle) (by decide), s2, fun j a b c d => (if_neg a).trans ((if_neg b).trans ((if_neg c).trans (s3 j a))), ?_⟩
        show ∃ k, k ≤ 15 ∧ csg (cat (sI U 25 (U.1 23))) = nI k
        rcases csg_b (cat (sI U 25 (U.1 23))) with e | e | e | e | e
        · exact ⟨5, by decide, e⟩
        · exact ⟨6, by decide, e⟩
        · exact ⟨7, by decide, e⟩
        · exact ⟨12, by decide, e⟩
        · exact ⟨15, by decide, e⟩

def cac (T : MS) (v : Int32) : MS := if T.1 80 < 8 then sI (sA (sA T 81 (T.1 80).toNatClampNeg (vp_nar .boolean v)) 82 (T.1 80).toNatClampNeg 0) 80 (T.1 80 + 1) else T
def catA (T : MS) : Int32 := (T.1 80 - 1) * 4 + T.2.2.1 82 (T.1 80 - 1).toNatClampNeg
def cat3 (T : MS) (v g n : Int32) : MS := sA (sA (sA T 83 (catA T).toNatClampNeg v) 84 (catA T).toNatClampNeg g) 85 (catA T).toNatClampNeg n
def catT (T : MS) (v g n : Int32) : MS := if T.1 80 - 1 < 0 then T else if T.2.2.1 82 (T.1 80 - 1).toNatClampNeg < 4 then sA (cat3 T v g n) 82 (T.1 80 - 1).toNatClampNeg ((cat3 T v g n).2.2.1 82 (T.1 80 - 1).toNatClampNeg + 1) else T
theorem dC_n {T : MS} (h : ciC T 80) : ∃ n, n ≤ 8 ∧ T.1 80 = nI n := h.1
theorem dC_in {T : MS} (h : ciC T 80) (hl : T.1 80 < 8) : vp_in (T.1 80) 8 := by
  obtain ⟨n, hn, e⟩ := dC_n h
  rw [e, show (8 : Int32) = nI 8 from by decide, nI_ltI (by omega) (by decide)] at hl
  rw [e]
  exact vp_in_nI hl (by decide)
theorem dC_m {T : MS} (h : ciC T 80) (hl : ¬ T.1 80 - 1 < 0) : ∃ m, m < 8 ∧ T.1 80 = nI (m + 1) ∧ T.1 80 - 1 = nI m := by
  obtain ⟨n, hn, e⟩ := dC_n h
  cases n with
  | zero => rw [e] at hl; exact absurd (by decide) hl
  | succ m => exact ⟨m, by omega, e, by rw [e, nI_pred]⟩
theorem dC_A {T : MS} (h : ciC T 80) (hl : ¬ T.1 80 - 1 < 0) (h4 : T.2.2.1 82 (T.1 80 - 1).toNatClampNeg < 4) : vp_in (T.1 80 - 1) 8 ∧ vp_in (catA T) 32 := by
  obtain ⟨m, hm, e1, e2⟩ := dC_m h hl
  have ec : (T.1 80 - 1).toNatClampNeg = m := by rw [e2, nI_clamp (by omega)]
  obtain ⟨k, hk, ek⟩ := h.2.1 m hm
  have ek' : T.2.2.1 82 m = nI k := ek
  rw [ec, ek', show (4 : Int32) = nI 4 from by decide, nI_ltI (by omega) (by decide)] at h4
  refine ⟨by rw [e2]; exact vp_in_nI hm (by decide), ?_⟩
  unfold catA
  rw [ec, ek', e2, show (4 : Int32) = nI 4 from by decide, nI_mul, nI_add]
  exact vp_in_nI (by omega) (by decide)

set_option maxHeartbeats 4000000 in
set_option maxRecDepth 100000 in
/-- addClause -/
theorem K_addClause (l : Launch) (D : va_G) (cy : Nat → ClassId) (a : Nat → Nat) (T : MS) (B : List BL) (hC : ciC T 80) (v : Int32) : Ct l D clx (tyx cy) yX2_addClause wsX2_addClause (rmC 0) 0 0 [.ref (a 212), .int v] (CW cy a T B) (fun r9 w9 => r9 = none ∧ w9 = CW cy a (cac T v) B) := by
  refine g_start (cc := cX2_addClause) (maxL := 2) (ret := none) (by decide) rfl (Nat.le_of_ble_eq_true rfl) (fun v w1 h => by obtain ⟨rfl, -⟩ := h; exact rfl) (fun Γ hlΓ => ?_)
  subst hlΓ
  refine g_aload_n (i := 0) dX2_addClause_0 rfl rfl ?_
  refine g_get 65 0 dX2_addClause_1 (List.mem_of_getElem? (i := 1) rfl) (fun w h => List.mem_cons_of_mem _ (List.mem_append_right _ h)) (cO_draft _ _ _ _) rfl (by decide) rfl ?_
  refine g_bipush (8) rfl dX2_addClause_4 ?_
  refine g_icmp_ge 39 dX2_addClause_6 (by decide) (fun c_1 => ?_) (fun c_1 => ?_)
  · skip
    refine g_vret dX2_addClause_39 ?_
    unfold cac; first | (rw [if_pos hl8]; exact ⟨rfl, rfl⟩) | (rw [if_neg (Int32.not_lt.mpr (by assumption))]; exact ⟨rfl, rfl⟩)
  · skip
    have hl8 : T.1 80 < 8 := Int32.not_le.mp c_1
    have hi8 := dC_in hC hl8
    refine g_aload_n (i := 0) dX2_addClause_9 rfl rfl ?_
    refine g_get 65 1 dX2_addClause_10 (List.mem_of_getElem? (i := 2) rfl) (fun w h => List.mem_cons_of_mem _ (List.mem_append_right _ h)) (cO_draft _ _ _ _) rfl (by decide) rfl ?_
    refine g_aload_n (i := 0) dX2_addClause_13 rfl rfl ?_
    refine g_get 65 0 dX2_addClause_14 (List.mem_of_getElem? (i := 1) rfl) (fun w h => List.mem_cons_of_mem _ (List.mem_append_right _ h)) (cO_draft _ _ _ _) rfl (by decide) rfl ?_
    refine g_iload_n (i := 1) dX2_addClause_17 rfl rfl ?_
    refine c_ast_81 dX2_addClause_18 hi8 ?_
    refine g_aload_n (i := 0) dX2_addClause_19 rfl rfl ?_
    refine g_get 65 2 dX2_addClause_20 (List.mem_of_getElem? (i := 3) rfl) (fun w h => List.mem_cons_of_mem _ (List.mem_append_right _ h)) (cO_draft _ _ _ _) rfl (by decide) rfl ?_
    refine g_aload_n (i := 0) dX2_addClause_23 rfl rfl ?_
    refine g_get 65 0 dX2_addClause_24 (List.mem_of_getElem? (i := 1) rfl) (fun w h => List.mem_cons_of_mem _ (List.mem_append_right _ h)) (cO_draft _ _ _ _) rfl (by decide) rfl ?_
    refine g_iconst (0) rfl dX2_addClause_27 ?_
    refine c_ast_82 dX2_addClause_28 hi8 ?_
    refine g_aload_n (i := 0) dX2_addClause_29 rfl rfl ?_
    refine g_dup rfl dX2_addClause_30 ?_
    refine g_get 65 0 dX2_addClause_31 (List.mem_of_getElem? (i := 1) rfl) (fun w h => List.mem_cons_of_mem _ (List.mem_append_right _ h)) (cO_draft _ _ _ _) rfl (by decide) rfl ?_
    refine g_iconst (1) rfl dX2_addClause_34 ?_
    refine g_iadd dX2_addClause_35 ?_
    refine g_put 65 0 _ tyX2 tyX2_ok nmX2 dX2_addClause_36 (List.mem_of_getElem? (i := 1) rfl) (fun w h => List.mem_cons_of_mem _ (List.mem_append_right _ h)) (cO_draft _ _ _ _) rfl (by decide) rfl (tyX2_ok 0 (by decide)) rfl rfl (Nat.le_of_ble_eq_true rfl) (cwI_80 _ _ _ _ _) ?_
    refine g_vret dX2_addClause_39 ?_
    unfold cac; first | (rw [if_pos hl8]; exact ⟨rfl, rfl⟩) | (rw [if_neg (Int32.not_lt.mpr (by assumption))]; exact ⟨rfl, rfl⟩)

set_option maxHeartbeats 4000000 in
set_option maxRecDepth 100000 in
/-- addTest -/
theorem K_addTest (l : Launch) (D : va_G) (cy : Nat → ClassId) (a : Nat → Nat) (T : MS) (B : List BL) (hC : ciC T 80) (v g n : Int32) : Ct l D clx (tyx cy) yX2_addTest wsX2_addTest (rmC 0) 0 0 [.ref (a 212), .int v, .int g, .int n] (CW cy a T B) (fun r9 w9 => r9 = none ∧ w9 = CW cy a (catT T v g n) B) := by
  refine g_start (cc := cX2_addTest) (maxL := 6) (ret := none) (by decide) rfl (Nat.le_of_ble_eq_true rfl) (fun v w1 h => by obtain ⟨rfl, -⟩ := h; exact rfl) (fun Γ hlΓ => ?_)
  subst hlΓ
  refine g_aload_n (i := 0) dX2_addTest_0 rfl rfl ?_
  refine g_get 65 0 dX2_addTest_1 (List.mem_of_getElem? (i := 1) rfl) (fun w h => List.mem_cons_of_mem _ (List.mem_append_right _ h)) (cO_draft _ _ _ _) rfl (by decide) rfl ?_
  refine g_iconst (1) rfl dX2_addTest_4 ?_
  refine g_isub dX2_addTest_5 ?_
  refine g_istore dX2_addTest_6 (by decide) ?_
  refine g_iload dX2_addTest_8 rfl ?_
  refine g_if_lt 73 dX2_addTest_10 (by decide) (fun c_1 => ?_) (fun c_1 => ?_)
  · skip
    have hy0 : T.1 80 - 1 < 0 := c_1
    refine g_vret dX2_addTest_73 ?_
    unfold catT; first | (rw [if_pos hy0]; exact ⟨rfl, rfl⟩) | (rw [if_neg hn0, if_pos h4]; exact ⟨rfl, rfl⟩) | (rw [if_neg hn0, if_neg hn4]; exact ⟨rfl, rfl⟩)
  · skip
    have hn0 : ¬ T.1 80 - 1 < 0 := c_1
    have hi8 : vp_in (T.1 80 - 1) 8 := (by obtain ⟨m9, hm9, -, e9⟩ := dC_m hC hn0; rw [e9]; exact vp_in_nI hm9 (by decide))
    refine g_aload_n (i := 0) dX2_addTest_13 rfl rfl ?_
    refine g_get 65 2 dX2_addTest_14 (List.mem_of_getElem? (i := 2) rfl) (fun w h => List.mem_cons_of_mem _ (List.mem_append_right _ h)) (cO_draft _ _ _ _) rfl (by decide) rfl ?_
    refine g_iload dX2_addTest_17 rfl ?_
    refine c_ald_82 dX2_addTest_19 hi8 ?_
    refine g_iconst (4) rfl dX2_addTest_20 ?_
    refine g_icmp_ge 73 dX2_addTest_21 (by decide) (fun c_2 => ?_) (fun c_2 => ?_)
    · skip
      have hn4 : ¬ T.2.2.1 82 (T.1 80 - 1).toNatClampNeg < 4 := Int32.not_lt.mpr c_2
      refine g_vret dX2_addTest_73 ?_
      unfold catT; first | (rw [if_pos hy0]; exact ⟨rfl, rfl⟩) | (rw [if_neg hn0, if_pos h4]; exact ⟨rfl, rfl⟩) | (rw [if_neg hn0, if_neg hn4]; exact ⟨rfl, rfl⟩)
    · skip
      have h4 : T.2.2.1 82 (T.1 80 - 1).toNatClampNeg < 4 := Int32.not_le.mp c_2
      have hA := (dC_A hC hn0 h4).2
      refine g_iload dX2_addTest_24 rfl ?_
      refine g_iconst (4) rfl dX2_addTest_26 ?_
      refine g_imul dX2_addTest_27 ?_
      refine g_aload_n (i := 0) dX2_addTest_28 rfl rfl ?_
      refine g_get 65 2 dX2_addTest_29 (List.mem_of_getElem? (i := 2) rfl) (fun w h => List.mem_cons_of_mem _ (List.mem_append_right _ h)) (cO_draft _ _ _ _) rfl (by decide) rfl ?_
      refine g_iload dX2_addTest_32 rfl ?_
      refine c_ald_82 dX2_addTest_34 hi8 ?_
      refine g_iadd dX2_addTest_35 ?_
      refine g_istore dX2_addTest_36 (by decide) ?_
      refine g_aload_n (i := 0) dX2_addTest_38 rfl rfl ?_
      refine g_get 65 3 dX2_addTest_39 (List.mem_of_getElem? (i := 3) rfl) (fun w h => List.mem_cons_of_mem _ (List.mem_append_right _ h)) (cO_draft _ _ _ _) rfl (by decide) rfl ?_
      refine g_iload dX2_addTest_42 rfl ?_
      refine g_iload_n (i := 1) dX2_addTest_44 rfl rfl ?_
      refine c_ast_83 dX2_addTest_45 hA ?_
      refine g_aload_n (i := 0) dX2_addTest_46 rfl rfl ?_
      refine g_get 65 4 dX2_addTest_47 (List.mem_of_getElem? (i := 4) rfl) (fun w h => List.mem_cons_of_mem _ (List.mem_append_right _ h)) (cO_draft _ _ _ _) rfl (by decide) rfl ?_
      refine g_iload dX2_addTest_50 rfl ?_
      refine g_iload_n (i := 2) dX2_addTest_52 rfl rfl ?_
      refine c_ast_84 dX2_addTest_53 hA ?_
      refine g_aload_n (i := 0) dX2_addTest_54 rfl rfl ?_
      refine g_get 65 5 dX2_addTest_55 (List.mem_of_getElem? (i := 5) rfl) (fun w h => List.mem_cons_of_mem _ (List.mem_append_right _ h)) (cO_draft _ _ _ _) rfl (by decide) rfl ?_
      refine g_iload dX2_addTest_58 rfl ?_
      refine g_iload_n (i := 3) dX2_addTest_60 rfl rfl ?_
      refine c_ast_85 dX2_addTest_61 hA ?_
      refine g_aload_n (i := 0) dX2_addTest_62 rfl rfl ?_
      refine g_get 65 2 dX2_addTest_63 (List.mem_of_getElem? (i := 2) rfl) (fun w h => List.mem_cons_of_mem _ (List.mem_append_right _ h)) (cO_draft _ _ _ _) rfl (by decide) rfl ?_
      refine g_iload dX2_addTest_66 rfl ?_
      refine g_dup2_11 rfl rfl dX2_addTest_68 ?_
      refine c_ald_82 dX2_addTest_69 hi8 ?_
      refine g_iconst (1) rfl dX2_addTest_70 ?_
      refine g_iadd dX2_addTest_71 ?_
      refine c_ast_82 dX2_addTest_72 hi8 ?_
      refine g_vret dX2_addTest_73 ?_
      unfold catT; first | (rw [if_pos hy0]; exact ⟨rfl, rfl⟩) | (rw [if_neg hn0, if_pos h4]; exact ⟨rfl, rfl⟩) | (rw [if_neg hn0, if_neg hn4]; exact ⟨rfl, rfl⟩)

