abbrev clx : List vw_C := [(RX0, TX0, 10), (RX1, TX1, 2), (RX2, TX2, 6), (RX3, TX3, 7), (RX4, TX4, 2), (RX5, TX5, 11), (RX6, TX6, 2), (RX7, TX7, 3), (RX8, TX8, 18), (RX9, TX9, 55)]
abbrev tyx (cy : Nat → ClassId) : List (ClassId × FieldType) := [(cy 0, .int), (cy 1, .long), (cy 2, .boolean), (cy 3, .object "ChangerFair$Bill"), (cy 4, .array .int), (cy 5, .array .long)]
/-- a state of the reference: its ints, longs, rows of ints (and booleans), rows of longs, by the field -/
abbrev MS : Type := (Nat → Int32) × (Nat → Int64) × (Nat → Nat → Int32) × (Nat → Nat → Int64)
def MO (a : Nat → Nat) (S : MS) : List Value := [.long (S.2.1 0), .int (S.1 1), .ref (a 2), .ref (a 3), .int (S.1 4), .ref (a 5), .ref (a 6), .ref (a 7), .ref (a 8), .ref (a 9), .ref (a 10), .ref (a 11), .ref (a 12), .ref (a 13), .ref (a 14), .ref (a 15), .ref (a 16), .ref (a 17), .ref (a 18), .ref (a 19), .int (S.1 20), .ref (a 21), .ref (a 22), .int (S.1 23), .ref (a 24), .ref (a 25), .ref (a 26), .ref (a 27), .ref (a 28), .int (S.1 29), .ref (a 30), .ref (a 31), .ref (a 32), .ref (a 33), .ref (a 34), .ref (a 35), .int (S.1 36), .long (S.2.1 37), .int (S.1 38), .int (S.1 39), .int (S.1 40), .int (S.1 41), .ref (a 42), .ref (a 43), .int (S.1 44), .ref (a 45), .int (S.1 46), .ref (a 47), .ref (a 48), .ref (a 49), .ref (a 50), .long (S.2.1 51), .long (S.2.1 52), .ref (a 53), .ref (a 54)]
/-- the cells of the reference: its object, its rows in the order of its fields -/
def MW (cy : Nat → ClassId) (a : Nat → Nat) (S : MS) : va_W := [(a 0, .inr (9, MO a S)), (a 2, .inl (cy 0, 5, .inl (S.2.2.1 2))), (a 3, .inl (cy 0, 10, .inl (S.2.2.1 3))), (a 5, .inl (cy 0, 40, .inl (S.2.2.1 5))), (a 6, .inl (cy 0, 40, .inl (S.2.2.1 6))), (a 7, .inl (cy 0, 40, .inl (S.2.2.1 7))), (a 8, .inl (cy 0, 40, .inl (S.2.2.1 8))), (a 9, .inl (cy 0, 40, .inl (S.2.2.1 9))), (a 10, .inl (cy 0, 40, .inl (S.2.2.1 10))), (a 11, .inl (cy 0, 40, .inl (S.2.2.1 11))), (a 12, .inl (cy 0, 160, .inl (S.2.2.1 12))), (a 13, .inl (cy 1, 200, .inr (.inl (S.2.2.2 13)))), (a 14, .inl (cy 2, 40, .inl (S.2.2.1 14))), (a 15, .inl (cy 1, 100, .inr (.inl (S.2.2.2 15)))), (a 16, .inl (cy 0, 4, .inl (S.2.2.1 16))), (a 17, .inl (cy 0, 40, .inl (S.2.2.1 17))), (a 18, .inl (cy 0, 50, .inl (S.2.2.1 18))), (a 19, .inl (cy 0, 25, .inl (S.2.2.1 19))), (a 21, .inl (cy 0, 30, .inl (S.2.2.1 21))), (a 22, .inl (cy 1, 8, .inr (.inl (S.2.2.2 22)))), (a 24, .inl (cy 2, 8, .inl (S.2.2.1 24))), (a 25, .inl (cy 0, 8, .inl (S.2.2.1 25))), (a 26, .inl (cy 0, 32, .inl (S.2.2.1 26))), (a 27, .inl (cy 0, 32, .inl (S.2.2.1 27))), (a 28, .inl (cy 0, 32, .inl (S.2.2.1 28))), (a 30, .inl (cy 2, 8, .inl (S.2.2.1 30))), (a 31, .inl (cy 0, 8, .inl (S.2.2.1 31))), (a 32, .inl (cy 0, 32, .inl (S.2.2.1 32))), (a 33, .inl (cy 0, 32, .inl (S.2.2.1 33))), (a 34, .inl (cy 0, 32, .inl (S.2.2.1 34))), (a 35, .inl (cy 0, 400, .inl (S.2.2.1 35))), (a 42, .inl (cy 1, 1024, .inr (.inl (S.2.2.2 42)))), (a 43, .inl (cy 0, 1024, .inl (S.2.2.1 43))), (a 45, .inl (cy 0, 10, .inl (S.2.2.1 45))), (a 47, .inl (cy 0, 10, .inl (S.2.2.1 47))), (a 48, .inl (cy 0, 10, .inl (S.2.2.1 48))), (a 49, .inl (cy 1, 10, .inr (.inl (S.2.2.2 49)))), (a 50, .inl (cy 1, 10, .inr (.inl (S.2.2.2 50)))), (a 53, .inl (cy 1, 10, .inr (.inl (S.2.2.2 53)))), (a 54, .inl (cy 1, 10, .inr (.inl (S.2.2.2 54))))]
/-- one int, one long, one place of a row is set -/
def sI (S : MS) (j : Nat) (v : Int32) : MS := (fun i => if i = j then v else S.1 i, S.2.1, S.2.2.1, S.2.2.2)
def sL (S : MS) (j : Nat) (v : Int64) : MS := (S.1, fun i => if i = j then v else S.2.1 i, S.2.2.1, S.2.2.2)
def sA (S : MS) (j : Nat) (i : Nat) (v : Int32) : MS := (S.1, S.2.1, fun q => if q = j then upd (S.2.2.1 j) i v else S.2.2.1 q, S.2.2.2)
def sB (S : MS) (j : Nat) (i : Nat) (v : Int64) : MS := (S.1, S.2.1, S.2.2.1, fun q => if q = j then vp_updL (S.2.2.2 j) i v else S.2.2.2 q)
section MODEL
variable {Γ : gT} {R : Room} {cc : ByteArray} {own : String} {Ts : List Cond} {nL : Nat} {D : va_G} {cy : Nat → ClassId} {mc ms : Nat} {post : Option Value → va_W → Prop} {k n : Nat} {a : Nat → Nat} {S : MS} {pc : Nat} {lv : List (Nat × Value)} {st : List Value}
theorem m_get {ix : Nat} {v : Value} (j : Nat) (hd : decode cc pc = .ok (.getfield ix, 3)) (hw : Cond.fieldLink own ix (TX9 j).1 (TX9 j).2.1 (TX9 j).2.2.1 ∈ Ts) (hi2 : ∀ w ∈ wsX90, w ∈ Ts) (hj : j < 55) (hv : (MO a S)[j]? = some v) (kk : G Γ R cc own Ts nL D clx (tyx cy) mc ms post k n (MW cy a S) (pc + 3) lv (v :: st)) : G Γ R cc own Ts nL D clx (tyx cy) mc ms post k n (MW cy a S) pc lv (.ref (a 0) :: st) :=
  g_get 0 j hd hw hi2 rfl rfl hj hv kk
theorem m_puti {ix : Nat} {v : Int32} (j : Nat) (hd : decode cc pc = .ok (.putfield ix, 3)) (hw : Cond.fieldLink own ix (TX9 j).1 (TX9 j).2.1 (TX9 j).2.2.1 ∈ Ts) (hi2 : ∀ w ∈ wsX90, w ∈ Ts) (hj : j < 55) (hfin : (TX9 j).2.2.2 = false) (hnar : narrow (tyX9 j) (.int v) = .int v) (hfit : fits (tyX9 j) (.int v) = true) (hws : (MW cy a S).set 0 (a 0, .inr (9, (MO a S).set j (.int v))) = MW cy a (sI S j v)) (kk : G Γ R cc own Ts nL D clx (tyx cy) mc ms post k n (MW cy a (sI S j v)) (pc + 3) lv st) : G Γ R cc own Ts nL D clx (tyx cy) mc ms post k n (MW cy a S) pc lv (.int v :: .ref (a 0) :: st) :=
  g_put 0 j (MW cy a (sI S j v)) tyX9 tyX9_ok nmX9 hd hw hi2 rfl rfl hj hfin (tyX9_ok j hj) hnar hfit hj hws kk
theorem m_putl {ix : Nat} {v : Int64} (j : Nat) (hd : decode cc pc = .ok (.putfield ix, 3)) (hw : Cond.fieldLink own ix (TX9 j).1 (TX9 j).2.1 (TX9 j).2.2.1 ∈ Ts) (hi2 : ∀ w ∈ wsX90, w ∈ Ts) (hj : j < 55) (hfin : (TX9 j).2.2.2 = false) (hnar : narrow (tyX9 j) (.long v) = .long v) (hfit : fits (tyX9 j) (.long v) = true) (hws : (MW cy a S).set 0 (a 0, .inr (9, (MO a S).set j (.long v))) = MW cy a (sL S j v)) (kk : G Γ R cc own Ts nL D clx (tyx cy) mc ms post k n (MW cy a (sL S j v)) (pc + 3) lv st) : G Γ R cc own Ts nL D clx (tyx cy) mc ms post k n (MW cy a S) pc lv (.long v :: .ref (a 0) :: st) :=
  g_put 0 j (MW cy a (sL S j v)) tyX9 tyX9_ok nmX9 hd hw hi2 rfl rfl hj hfin (tyX9_ok j hj) hnar hfit hj hws kk
theorem m_iald {i : Int32} (j q N : Nat) (hd : decode cc pc = .ok (.iaload, 1)) (ha : (MW cy a S)[q]? = some (a j, .inl (cy 0, N, .inl (S.2.2.1 j)))) (hi : vp_in i N) (kk : G Γ R cc own Ts nL D clx (tyx cy) mc ms post k n (MW cy a S) (pc + 1) lv (.int (S.2.2.1 j i.toNatClampNeg) :: st)) : G Γ R cc own Ts nL D clx (tyx cy) mc ms post k n (MW cy a S) pc lv (.int i :: .ref (a j) :: st) :=
  g_iald q 0 hd ha rfl hi kk
theorem m_zald {i : Int32} (j q N : Nat) (hd : decode cc pc = .ok (.baload, 1)) (ha : (MW cy a S)[q]? = some (a j, .inl (cy 2, N, .inl (S.2.2.1 j)))) (hi : vp_in i N) (kk : G Γ R cc own Ts nL D clx (tyx cy) mc ms post k n (MW cy a S) (pc + 1) lv (.int (S.2.2.1 j i.toNatClampNeg) :: st)) : G Γ R cc own Ts nL D clx (tyx cy) mc ms post k n (MW cy a S) pc lv (.int i :: .ref (a j) :: st) :=
  g_zald q 2 hd ha rfl hi kk
theorem m_lald {i : Int32} (j q N : Nat) (hd : decode cc pc = .ok (.laload, 1)) (ha : (MW cy a S)[q]? = some (a j, .inl (cy 1, N, .inr (.inl (S.2.2.2 j))))) (hi : vp_in i N) (kk : G Γ R cc own Ts nL D clx (tyx cy) mc ms post k n (MW cy a S) (pc + 1) lv (.long (S.2.2.2 j i.toNatClampNeg) :: st)) : G Γ R cc own Ts nL D clx (tyx cy) mc ms post k n (MW cy a S) pc lv (.int i :: .ref (a j) :: st) :=
  g_lald q 1 hd ha rfl hi kk
theorem m_iast {i : Int32} {x : Int32} (j q N : Nat) (hd : decode cc pc = .ok (.iastore, 1)) (ha : (MW cy a S)[q]? = some (a j, .inl (cy 0, N, .inl (S.2.2.1 j)))) (hi : vp_in i N) (hws : (MW cy a S).set q (a j, .inl (cy 0, N, .inl (upd (S.2.2.1 j) i.toNatClampNeg x))) = MW cy a (sA S j i.toNatClampNeg x)) (kk : G Γ R cc own Ts nL D clx (tyx cy) mc ms post k n (MW cy a (sA S j i.toNatClampNeg x)) (pc + 1) lv st) : G Γ R cc own Ts nL D clx (tyx cy) mc ms post k n (MW cy a S) pc lv (.int x :: .int i :: .ref (a j) :: st) :=
  g_iast q 0 (MW cy a (sA S j i.toNatClampNeg x)) hd ha rfl hi hws kk
theorem m_zast {i : Int32} {x : Int32} (j q N : Nat) (hd : decode cc pc = .ok (.bastore, 1)) (ha : (MW cy a S)[q]? = some (a j, .inl (cy 2, N, .inl (S.2.2.1 j)))) (hi : vp_in i N) (hws : (MW cy a S).set q (a j, .inl (cy 2, N, .inl (upd (S.2.2.1 j) i.toNatClampNeg (vp_nar .boolean x)))) = MW cy a (sA S j i.toNatClampNeg (vp_nar .boolean x))) (kk : G Γ R cc own Ts nL D clx (tyx cy) mc ms post k n (MW cy a (sA S j i.toNatClampNeg (vp_nar .boolean x))) (pc + 1) lv st) : G Γ R cc own Ts nL D clx (tyx cy) mc ms post k n (MW cy a S) pc lv (.int x :: .int i :: .ref (a j) :: st) :=
  g_zast q 2 (MW cy a (sA S j i.toNatClampNeg (vp_nar .boolean x))) hd ha rfl hi hws kk
theorem m_last {i : Int32} {x : Int64} (j q N : Nat) (hd : decode cc pc = .ok (.lastore, 1)) (ha : (MW cy a S)[q]? = some (a j, .inl (cy 1, N, .inr (.inl (S.2.2.2 j))))) (hi : vp_in i N) (hws : (MW cy a S).set q (a j, .inl (cy 1, N, .inr (.inl (vp_updL (S.2.2.2 j) i.toNatClampNeg x)))) = MW cy a (sB S j i.toNatClampNeg x)) (kk : G Γ R cc own Ts nL D clx (tyx cy) mc ms post k n (MW cy a (sB S j i.toNatClampNeg x)) (pc + 1) lv st) : G Γ R cc own Ts nL D clx (tyx cy) mc ms post k n (MW cy a S) pc lv (.long x :: .int i :: .ref (a j) :: st) :=
  g_last q 1 (MW cy a (sB S j i.toNatClampNeg x)) hd ha rfl hi hws kk
theorem g_len (w : va_W) : (List.range w.length).map (fun i => w[i]?) = w.map some := by
  apply List.ext_getElem?
  intro i
  rw [List.getElem?_map, List.getElem?_map]
  by_cases h : i < w.length
  · rw [List.getElem?_range h]
    simp [h]
  · rw [List.getElem?_eq_none (by simpa using h), List.getElem?_eq_none (by simpa using h)]
    rfl
theorem g_len2 (w : va_W) : (List.range w.length).filterMap (fun i => w[i]?) = w := by
  have h : ∀ (l : List Nat), l.filterMap (fun i => w[i]?) = (l.map (fun i => w[i]?)).filterMap id := by
    intro l
    rw [List.filterMap_map]
    rfl
  rw [h, g_len, List.filterMap_map]
  simp
theorem g_nd : ∀ (l : List Nat), l.Nodup → va_nd l = true
  | [], _ => rfl
  | b :: l, h => by
    have h1 := List.nodup_cons.mp h
    simp only [va_nd, Bool.and_eq_true, decide_eq_true_eq]
    exact ⟨h1.1, g_nd l h1.2⟩
/-- calls that hand over all cells -/
theorem g_callSf {y : MethodName} {bytes : ByteArray} {maxL ix mc1 ms1 : Nat} {ret : Option FieldType} {wy wy' : List Cond} {rm : Room} {post1 : Option Value → va_W → Prop} {As rest : List Value} {cl : List vw_C} {tys : List (ClassId × FieldType)} {ws : va_W} (nn : Nat) (hg : GoodIn Ts (va_wsS own ix y wy)) (hw : wy = Cond.code y bytes maxL ret :: wy') (hrc : rm.cells = mc1) (hrs : rm.slots = ms1) (hR1 : rm.frames + 1 ≤ R.frames ∧ 8 + (maxL + 11) + rm.locals ≤ R.locals) (hcs : k + mc1 ≤ R.cells ∧ n + ms1 ≤ R.slots) (hst : (rest.map fun v => v.category).sum ≤ 8) (hdn : y.cls ≠ "java/lang/invoke/MethodHandle" ∧ y.cls ≠ "java/lang/invoke/VarHandle" ∧ (parseMethodDescriptor y.desc).map (fun d => d.parameters.length) = some nn) (hn : As.length = nn) (hd : decode cc pc = .ok (.invokestatic ix, 3)) (hct : Ct Γ.2.1 D cl tys y wy rm mc1 ms1 As ws post1) (hstk : st = As.reverse ++ rest)
    (kk : ∀ (v : Option Value) (w1 : va_W), post1 v w1 → G Γ R cc own Ts nL D cl tys mc ms post (k + mc1) (n + ms1) w1 (pc + 3) lv (v.toList ++ rest)) : G Γ R cc own Ts nL D cl tys mc ms post k n ws pc lv st :=
  g_callS nn hg hw hrc hrs hR1 hcs hst hdn hn (List.range ws.length) [] ws [] (g_len ws) (g_len2 ws) (g_nd _ List.nodup_range) rfl rfl (fun _ h => by cases h) hd hct hstk kk
theorem g_callVf {y : MethodName} {bytes : ByteArray} {maxL ix mc1 ms1 : Nat} {ret : Option FieldType} {wy wy' : List Cond} {rm : Room} {post1 : Option Value → va_W → Prop} {As rest : List Value} {cl : List vw_C} {tys : List (ClassId × FieldType)} {ws : va_W} {C : String} {b ci : Nat} {T : u_T} {N : Nat} {fs : List Value} (nn q0 : Nat) (hg : GoodIn Ts (wsV own ix C y wy)) (hw : wy = Cond.code y bytes maxL ret :: wy') (hrc : rm.cells = mc1) (hrs : rm.slots = ms1) (hR1 : rm.frames + 1 ≤ R.frames ∧ 8 + (maxL + 11) + rm.locals ≤ R.locals) (hcs : k + mc1 ≤ R.cells ∧ n + ms1 ≤ R.slots) (hst : (rest.map fun v => v.category).sum ≤ 8) (hdn : y.cls = C ∧ y.cls ≠ "java/lang/invoke/MethodHandle" ∧ y.cls ≠ "java/lang/invoke/VarHandle" ∧ (parseMethodDescriptor y.desc).map (fun d => d.parameters.length) = some nn) (hn : As.length = nn) (he : ws[q0]? = some (b, .inr (ci, fs))) (hc : cl[ci]? = some (C, T, N)) (hd : decode cc pc = .ok (.invokevirtual ix, 3)) (hct : Ct Γ.2.1 D cl tys y wy rm mc1 ms1 (.ref b :: As) ws post1) (hstk : st = As.reverse ++ .ref b :: rest)
    (kk : ∀ (v : Option Value) (w1 : va_W), post1 v w1 → G Γ R cc own Ts nL D cl tys mc ms post (k + mc1) (n + ms1) w1 (pc + 3) lv (v.toList ++ rest)) : G Γ R cc own Ts nL D cl tys mc ms post k n ws pc lv st :=
  g_callV nn q0 hg hw hrc hrs hR1 hcs hst hdn hn he hc (List.range ws.length) [] ws [] (g_len ws) (g_len2 ws) (g_nd _ List.nodup_range) rfl rfl (fun _ h => by cases h) hd hct hstk kk
theorem vpi {i h : Int32} {N : Nat} (h0 : 0 ≤ i) (h1 : i ≤ h) (hN : h.toInt < N) : vp_in i N := by
  rw [vp_in_iff]
  rw [Int32.le_iff_toInt_le] at h0 h1
  have : (0 : Int32).toInt = 0 := by decide
  omega
def rmD (d : Nat) : Room := { frames := d, cells := 0, slots := 0, locals := 60 * d }
end MODEL
