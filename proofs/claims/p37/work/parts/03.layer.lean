section GLAYER
abbrev gT : Type := Program × Launch × Env × State × MethodId × Array Value × List Frame × Method × Code × (State → Prop) × (Nat → Prop) × Heap
/-- the return instruction at pc is the one of that answer -/
def gRv (cc : ByteArray) (pc : Nat) (v : Option Value) : Prop := match v with
  | none => decode cc pc = .ok (.return_, 1)
  | some (.int _) => decode cc pc = .ok (.ireturn, 1)
  | some (.long _) => decode cc pc = .ok (.lreturn, 1)
  | some (.ref _) => decode cc pc = .ok (.areturn, 1)
  | some .null => decode cc pc = .ok (.areturn, 1)
  | _ => False
def gW (Γ : gT) (R : Room) (H : Heap) (locs : List Loc) (k n pc : Nat) (ls : Array Slot) (st : List Value) : Prop := match Γ with
  | (p, l, e, s, m, args, below, meth, c, Q, _, _) => W p l e R s m args below meth c H locs k n Q (F0 m pc ls st)
def gS (Γ : gT) (D : va_G) (cl : List vw_C) (ws : va_W) (H : Heap) (locs : List Loc) : Prop := match Γ with
  | (_, _, _, _, _, _, _, _, _, _, A, H0) => va_P D cl ws H ∧ va_D A ws ∧ va_S A H0 H locs
def gOk (Γ : gT) (R : Room) (cc : ByteArray) (own : String) (Ts : List Cond) (nL : Nat) (D : va_G) (cl : List vw_C) (tys : List (ClassId × FieldType)) (mc ms : Nat) (post : Option Value → va_W → Prop) : Prop := match Γ with
  | (p, l, e, s, m, args, below, meth, c, Q, A, H0) => p.tables.exec = Jvm.exec ∧ c.code = cc ∧ c.maxLocals = nL ∧ s.vm.findClass own = some m.cls ∧ (∀ w ∈ Ts, w.before args s = true) ∧ va_K D cl tys s ∧ (∀ q : Nat, H0.size ≤ q → A q) ∧ (meth.name = "<init>" ∨ True) ∧
    (∀ (v : Option Value) (ws : va_W) (H : Heap) (locs : List Loc) (ls : Array Slot) (pc : Nat), post v ws → va_P D cl ws H → va_D A ws → va_S A H0 H locs → gRv cc pc v → W p l e R s m args below meth c H locs mc ms Q (F0 m pc ls v.toList))
/-- from any heap that holds the cells ws, any locals that hold lv, with the stack st at pc, the method comes to its end with post -/
def G (Γ : gT) (R : Room) (cc : ByteArray) (own : String) (Ts : List Cond) (nL : Nat) (D : va_G) (cl : List vw_C) (tys : List (ClassId × FieldType)) (mc ms : Nat) (post : Option Value → va_W → Prop) (k n : Nat) (ws : va_W) (pc : Nat) (lv : List (Nat × Value)) (st : List Value) : Prop :=
  gOk Γ R cc own Ts nL D cl tys mc ms post → ∀ (H : Heap) (locs : List Loc) (ls : Array Slot), gS Γ D cl ws H locs → lv_has ls nL lv → gW Γ R H locs k n pc ls st
theorem g_lk {ls : Array Slot} {nL : Nat} {lv : List (Nat × Value)} (h : lv_has ls nL lv) {i : Nat} {v : Value} (hi : lv.lookup i = some v) : ls[i]? = some (.val v) := by
  refine h.2.2 (i, v) ?_
  have : ∀ l : List (Nat × Value), l.lookup i = some v → (i, v) ∈ l := by
    intro l
    induction l with
    | nil => intro h; cases h
    | cons q t ih =>
      intro h
      obtain ⟨a, b⟩ := q
      by_cases e : i = a
      · subst e
        simp only [List.lookup, beq_self_eq_true] at h
        cases h
        exact List.mem_cons_self
      · have e2 : (i == a) = false := by simpa using e
        simp only [List.lookup, e2] at h
        exact List.mem_cons_of_mem _ (ih h)
  exact this lv hi
/-- the listed locals of lv' are locals of lv -/
def gSub (lv : List (Nat × Value)) : List (Nat × Value) → Prop
  | [] => True
  | q :: t => lv.lookup q.1 = some q.2 ∧ gSub lv t
theorem gSub_mem {lv lv' : List (Nat × Value)} (h : gSub lv lv') : ∀ q ∈ lv', lv.lookup q.1 = some q.2 := by
  induction lv' with
  | nil => intro q hq; cases hq
  | cons a t ih =>
    intro q hq
    rcases List.mem_cons.mp hq with rfl | hq
    · exact h.1
    · exact ih h.2 q hq
theorem g_has {ls : Array Slot} {nL : Nat} {lv lv' : List (Nat × Value)} (h : lv_has ls nL lv) (hs : gSub lv lv') : lv_has ls nL lv' :=
  ⟨h.1, h.2.1, fun q hq => g_lk h (gSub_mem hs q hq)⟩
/-- a local is set: what it lay over is forgotten -/
def gset1 (lv : List (Nat × Value)) (i : Nat) (v : Value) : List (Nat × Value) := (i, v) :: lv.filter (fun q => !(q.1 == i) && !(q.1 + 1 == i && q.2.category == 2))
def gset2 (lv : List (Nat × Value)) (i : Nat) (v : Value) : List (Nat × Value) := (i, v) :: lv.filter (fun q => !(q.1 == i) && (!(q.1 == i + 1) && !(q.1 + 1 == i && q.2.category == 2)))

variable {Γ : gT} {R : Room} {cc : ByteArray} {own : String} {Ts : List Cond} {nL : Nat} {D : va_G} {cl : List vw_C} {tys : List (ClassId × FieldType)} {mc ms : Nat} {post : Option Value → va_W → Prop} {k n : Nat} {ws : va_W} {pc : Nat} {lv : List (Nat × Value)} {st : List Value}
theorem g_iconst {i : Int} (v : Int32) (hv : Int32.ofInt i = v) (hd : decode cc pc = .ok (.iconst i, 1)) (kk : G Γ R cc own Ts nL D cl tys mc ms post k n ws (pc + 1) lv (.int v :: st)) : G Γ R cc own Ts nL D cl tys mc ms post k n ws pc lv st := by
  intro hok H locs ls hS hl
  have h9 := kk hok H locs ls hS hl
  obtain ⟨p, l, e, s, m, args, below, meth, c, Q, A, H0⟩ := Γ
  obtain ⟨hx, hb, hml, hown, hts, hK, hA, hin, hret⟩ := hok
  exact lv_iconst hx hb hd hv h9
theorem g_bipush {i : Int} (v : Int32) (hv : (Int8.ofInt i).toInt32 = v) (hd : decode cc pc = .ok (.bipush i, 2)) (kk : G Γ R cc own Ts nL D cl tys mc ms post k n ws (pc + 2) lv (.int v :: st)) : G Γ R cc own Ts nL D cl tys mc ms post k n ws pc lv st := by
  intro hok H locs ls hS hl
  have h9 := kk hok H locs ls hS hl
  obtain ⟨p, l, e, s, m, args, below, meth, c, Q, A, H0⟩ := Γ
  obtain ⟨hx, hb, hml, hown, hts, hK, hA, hin, hret⟩ := hok
  exact lv_bipush hx hb hd hv h9
theorem g_sipush {i : Int} (v : Int32) (hv : (Int16.ofInt i).toInt32 = v) (hd : decode cc pc = .ok (.sipush i, 3)) (kk : G Γ R cc own Ts nL D cl tys mc ms post k n ws (pc + 3) lv (.int v :: st)) : G Γ R cc own Ts nL D cl tys mc ms post k n ws pc lv st := by
  intro hok H locs ls hS hl
  have h9 := kk hok H locs ls hS hl
  obtain ⟨p, l, e, s, m, args, below, meth, c, Q, A, H0⟩ := Γ
  obtain ⟨hx, hb, hml, hown, hts, hK, hA, hin, hret⟩ := hok
  exact lv_sipush hx hb hd hv h9
theorem g_lconst {i : Fin 2} (v : Int64) (hv : Int64.ofNat (i : Nat) = v) (hd : decode cc pc = .ok (.lconst i, 1)) (kk : G Γ R cc own Ts nL D cl tys mc ms post k n ws (pc + 1) lv (.long v :: st)) : G Γ R cc own Ts nL D cl tys mc ms post k n ws pc lv st := by
  intro hok H locs ls hS hl
  have h9 := kk hok H locs ls hS hl
  obtain ⟨p, l, e, s, m, args, below, meth, c, Q, A, H0⟩ := Γ
  obtain ⟨hx, hb, hml, hown, hts, hK, hA, hin, hret⟩ := hok
  exact lv_lconst hx hb hd hv h9
theorem g_ldc {ix : Nat} (v : Int32) (hw : Cond.constant own ix v ∈ Ts) (hd : decode cc pc = .ok (.ldc ix, 2)) (kk : G Γ R cc own Ts nL D cl tys mc ms post k n ws (pc + 2) lv (.int v :: st)) : G Γ R cc own Ts nL D cl tys mc ms post k n ws pc lv st := by
  intro hok H locs ls hS hl
  have h9 := kk hok H locs ls hS hl
  obtain ⟨p, l, e, s, m, args, below, meth, c, Q, A, H0⟩ := Γ
  obtain ⟨hx, hb, hml, hown, hts, hK, hA, hin, hret⟩ := hok
  exact lv_ldc hx hb hown (hts _ hw) hd h9
theorem g_ldcw {ix : Nat} (v : Int32) (hw : Cond.constant own ix v ∈ Ts) (hd : decode cc pc = .ok (.ldc_w ix, 3)) (kk : G Γ R cc own Ts nL D cl tys mc ms post k n ws (pc + 3) lv (.int v :: st)) : G Γ R cc own Ts nL D cl tys mc ms post k n ws pc lv st := by
  intro hok H locs ls hS hl
  have h9 := kk hok H locs ls hS hl
  obtain ⟨p, l, e, s, m, args, below, meth, c, Q, A, H0⟩ := Γ
  obtain ⟨hx, hb, hml, hown, hts, hK, hA, hin, hret⟩ := hok
  exact lv_ldcw hx hb hown (hts _ hw) hd h9
theorem g_ldc2 {ix : Nat} (v : Int64) (hw : Cond.constantLong own ix v ∈ Ts) (hd : decode cc pc = .ok (.ldc2_w ix, 3)) (kk : G Γ R cc own Ts nL D cl tys mc ms post k n ws (pc + 3) lv (.long v :: st)) : G Γ R cc own Ts nL D cl tys mc ms post k n ws pc lv st := by
  intro hok H locs ls hS hl
  have h9 := kk hok H locs ls hS hl
  obtain ⟨p, l, e, s, m, args, below, meth, c, Q, A, H0⟩ := Γ
  obtain ⟨hx, hb, hml, hown, hts, hK, hA, hin, hret⟩ := hok
  exact lv_ldc2 hx hb hown (hts _ hw) hd h9
theorem g_iload_n {j : Fin 4} {i : Nat} {x : Int32} (hd : decode cc pc = .ok (.iload_n j, 1)) (hi : (j : Nat) = i) (hq : lv.lookup i = some (.int x)) (kk : G Γ R cc own Ts nL D cl tys mc ms post k n ws (pc + 1) lv (.int x :: st)) : G Γ R cc own Ts nL D cl tys mc ms post k n ws pc lv st := by
  intro hok H locs ls hS hl
  have h9 := kk hok H locs ls hS hl
  obtain ⟨p, l, e, s, m, args, below, meth, c, Q, A, H0⟩ := Γ
  obtain ⟨hx, hb, hml, hown, hts, hK, hA, hin, hret⟩ := hok
  exact lv_iload_n hx hb hd hi (g_lk hl hq) h9
theorem g_iload {i : Nat} {x : Int32} (hd : decode cc pc = .ok (.iload i, 2)) (hq : lv.lookup i = some (.int x)) (kk : G Γ R cc own Ts nL D cl tys mc ms post k n ws (pc + 2) lv (.int x :: st)) : G Γ R cc own Ts nL D cl tys mc ms post k n ws pc lv st := by
  intro hok H locs ls hS hl
  have h9 := kk hok H locs ls hS hl
  obtain ⟨p, l, e, s, m, args, below, meth, c, Q, A, H0⟩ := Γ
  obtain ⟨hx, hb, hml, hown, hts, hK, hA, hin, hret⟩ := hok
  exact lv_iload hx hb hd (g_lk hl hq) h9
theorem g_istore_n {j : Fin 4} {i : Nat} {x : Int32} (hd : decode cc pc = .ok (.istore_n j, 1)) (hi : (j : Nat) = i) (hn : i < nL) (kk : G Γ R cc own Ts nL D cl tys mc ms post k n ws (pc + 1) (gset1 lv i (.int x)) st) : G Γ R cc own Ts nL D cl tys mc ms post k n ws pc lv (.int x :: st) := by
  intro hok H locs ls hS hl
  have h9 := fun ls2 hl2 => kk hok H locs ls2 hS hl2
  obtain ⟨p, l, e, s, m, args, below, meth, c, Q, A, H0⟩ := Γ
  obtain ⟨hx, hb, hml, hown, hts, hK, hA, hin, hret⟩ := hok
  exact lv_istore_n hx hb hd hi hl hn rfl (fun ls2 hl2 => h9 ls2 hl2)
theorem g_istore {i : Nat} {x : Int32} (hd : decode cc pc = .ok (.istore i, 2)) (hn : i < nL) (kk : G Γ R cc own Ts nL D cl tys mc ms post k n ws (pc + 2) (gset1 lv i (.int x)) st) : G Γ R cc own Ts nL D cl tys mc ms post k n ws pc lv (.int x :: st) := by
  intro hok H locs ls hS hl
  have h9 := fun ls2 hl2 => kk hok H locs ls2 hS hl2
  obtain ⟨p, l, e, s, m, args, below, meth, c, Q, A, H0⟩ := Γ
  obtain ⟨hx, hb, hml, hown, hts, hK, hA, hin, hret⟩ := hok
  exact lv_istore hx hb hd hl hn rfl (fun ls2 hl2 => h9 ls2 hl2)
theorem g_lload_n {j : Fin 4} {i : Nat} {x : Int64} (hd : decode cc pc = .ok (.lload_n j, 1)) (hi : (j : Nat) = i) (hq : lv.lookup i = some (.long x)) (kk : G Γ R cc own Ts nL D cl tys mc ms post k n ws (pc + 1) lv (.long x :: st)) : G Γ R cc own Ts nL D cl tys mc ms post k n ws pc lv st := by
  intro hok H locs ls hS hl
  have h9 := kk hok H locs ls hS hl
  obtain ⟨p, l, e, s, m, args, below, meth, c, Q, A, H0⟩ := Γ
  obtain ⟨hx, hb, hml, hown, hts, hK, hA, hin, hret⟩ := hok
  exact lv_lload_n hx hb hd hi (g_lk hl hq) h9
theorem g_lload {i : Nat} {x : Int64} (hd : decode cc pc = .ok (.lload i, 2)) (hq : lv.lookup i = some (.long x)) (kk : G Γ R cc own Ts nL D cl tys mc ms post k n ws (pc + 2) lv (.long x :: st)) : G Γ R cc own Ts nL D cl tys mc ms post k n ws pc lv st := by
  intro hok H locs ls hS hl
  have h9 := kk hok H locs ls hS hl
  obtain ⟨p, l, e, s, m, args, below, meth, c, Q, A, H0⟩ := Γ
  obtain ⟨hx, hb, hml, hown, hts, hK, hA, hin, hret⟩ := hok
  exact lv_lload hx hb hd (g_lk hl hq) h9
theorem g_lstore_n {j : Fin 4} {i : Nat} {x : Int64} (hd : decode cc pc = .ok (.lstore_n j, 1)) (hi : (j : Nat) = i) (hn : i + 1 < nL) (kk : G Γ R cc own Ts nL D cl tys mc ms post k n ws (pc + 1) (gset2 lv i (.long x)) st) : G Γ R cc own Ts nL D cl tys mc ms post k n ws pc lv (.long x :: st) := by
  intro hok H locs ls hS hl
  have h9 := fun ls2 hl2 => kk hok H locs ls2 hS hl2
  obtain ⟨p, l, e, s, m, args, below, meth, c, Q, A, H0⟩ := Γ
  obtain ⟨hx, hb, hml, hown, hts, hK, hA, hin, hret⟩ := hok
  exact lv_lstore_n hx hb hd hi hl hn rfl (fun ls2 hl2 => h9 ls2 hl2)
theorem g_lstore {i : Nat} {x : Int64} (hd : decode cc pc = .ok (.lstore i, 2)) (hn : i + 1 < nL) (kk : G Γ R cc own Ts nL D cl tys mc ms post k n ws (pc + 2) (gset2 lv i (.long x)) st) : G Γ R cc own Ts nL D cl tys mc ms post k n ws pc lv (.long x :: st) := by
  intro hok H locs ls hS hl
  have h9 := fun ls2 hl2 => kk hok H locs ls2 hS hl2
  obtain ⟨p, l, e, s, m, args, below, meth, c, Q, A, H0⟩ := Γ
  obtain ⟨hx, hb, hml, hown, hts, hK, hA, hin, hret⟩ := hok
  exact lv_lstore hx hb hd hl hn rfl (fun ls2 hl2 => h9 ls2 hl2)
theorem g_aload_n {j : Fin 4} {i : Nat} {x : Nat} (hd : decode cc pc = .ok (.aload_n j, 1)) (hi : (j : Nat) = i) (hq : lv.lookup i = some (.ref x)) (kk : G Γ R cc own Ts nL D cl tys mc ms post k n ws (pc + 1) lv (.ref x :: st)) : G Γ R cc own Ts nL D cl tys mc ms post k n ws pc lv st := by
  intro hok H locs ls hS hl
  have h9 := kk hok H locs ls hS hl
  obtain ⟨p, l, e, s, m, args, below, meth, c, Q, A, H0⟩ := Γ
  obtain ⟨hx, hb, hml, hown, hts, hK, hA, hin, hret⟩ := hok
  exact lv_aload_n hx hb hd hi (g_lk hl hq) h9
theorem g_aload {i : Nat} {x : Nat} (hd : decode cc pc = .ok (.aload i, 2)) (hq : lv.lookup i = some (.ref x)) (kk : G Γ R cc own Ts nL D cl tys mc ms post k n ws (pc + 2) lv (.ref x :: st)) : G Γ R cc own Ts nL D cl tys mc ms post k n ws pc lv st := by
  intro hok H locs ls hS hl
  have h9 := kk hok H locs ls hS hl
  obtain ⟨p, l, e, s, m, args, below, meth, c, Q, A, H0⟩ := Γ
  obtain ⟨hx, hb, hml, hown, hts, hK, hA, hin, hret⟩ := hok
  exact lv_aload hx hb hd (g_lk hl hq) h9
theorem g_astore_n {j : Fin 4} {i : Nat} {x : Nat} (hd : decode cc pc = .ok (.astore_n j, 1)) (hi : (j : Nat) = i) (hn : i < nL) (kk : G Γ R cc own Ts nL D cl tys mc ms post k n ws (pc + 1) (gset1 lv i (.ref x)) st) : G Γ R cc own Ts nL D cl tys mc ms post k n ws pc lv (.ref x :: st) := by
  intro hok H locs ls hS hl
  have h9 := fun ls2 hl2 => kk hok H locs ls2 hS hl2
  obtain ⟨p, l, e, s, m, args, below, meth, c, Q, A, H0⟩ := Γ
  obtain ⟨hx, hb, hml, hown, hts, hK, hA, hin, hret⟩ := hok
  exact lv_astore_n hx hb hd hi hl hn rfl (fun ls2 hl2 => h9 ls2 hl2)
theorem g_astore {i : Nat} {x : Nat} (hd : decode cc pc = .ok (.astore i, 2)) (hn : i < nL) (kk : G Γ R cc own Ts nL D cl tys mc ms post k n ws (pc + 2) (gset1 lv i (.ref x)) st) : G Γ R cc own Ts nL D cl tys mc ms post k n ws pc lv (.ref x :: st) := by
  intro hok H locs ls hS hl
  have h9 := fun ls2 hl2 => kk hok H locs ls2 hS hl2
  obtain ⟨p, l, e, s, m, args, below, meth, c, Q, A, H0⟩ := Γ
  obtain ⟨hx, hb, hml, hown, hts, hK, hA, hin, hret⟩ := hok
  exact lv_astore hx hb hd hl hn rfl (fun ls2 hl2 => h9 ls2 hl2)
theorem g_iinc {i : Nat} {j : Int} {x : Int32} (d : Int32) (hd : decode cc pc = .ok (.iinc i j, 3)) (hv : Int32.ofInt j = d) (hq : lv.lookup i = some (.int x)) (hn : i < nL) (kk : G Γ R cc own Ts nL D cl tys mc ms post k n ws (pc + 3) (gset1 lv i (.int (x + d))) st) : G Γ R cc own Ts nL D cl tys mc ms post k n ws pc lv st := by
  intro hok H locs ls hS hl
  have h9 := fun ls2 hl2 => kk hok H locs ls2 hS hl2
  obtain ⟨p, l, e, s, m, args, below, meth, c, Q, A, H0⟩ := Γ
  obtain ⟨hx, hb, hml, hown, hts, hK, hA, hin, hret⟩ := hok
  have hl2 : lv_has ls nL ((i, Value.int x) :: lv) := ⟨hl.1, hl.2.1, fun q hq2 => by
    rcases List.mem_cons.mp hq2 with rfl | h
    · exact g_lk hl hq
    · exact hl.2.2 q h⟩
  have e1 : (i, Value.int (x + d)) :: (((i, Value.int x) :: lv).filter (fun q => !(q.1 == i) && !(q.1 + 1 == i && q.2.category == 2))) = gset1 lv i (.int (x + d)) := by simp [gset1]
  exact lv_iinc (k := 0) hx hb hd hl2 rfl (by rw [hv]) hn e1 (fun ls2 hl2 => h9 ls2 hl2)
theorem g_iadd {x y : Int32} (hd : decode cc pc = .ok (.iadd, 1)) (kk : G Γ R cc own Ts nL D cl tys mc ms post k n ws (pc + 1) lv (.int (x + y) :: st)) : G Γ R cc own Ts nL D cl tys mc ms post k n ws pc lv (.int y :: .int x :: st) := by
  intro hok H locs ls hS hl
  have h9 := kk hok H locs ls hS hl
  obtain ⟨p, l, e, s, m, args, below, meth, c, Q, A, H0⟩ := Γ
  obtain ⟨hx, hb, hml, hown, hts, hK, hA, hin, hret⟩ := hok
  exact lv_iadd hx hb hd h9
theorem g_isub {x y : Int32} (hd : decode cc pc = .ok (.isub, 1)) (kk : G Γ R cc own Ts nL D cl tys mc ms post k n ws (pc + 1) lv (.int (x - y) :: st)) : G Γ R cc own Ts nL D cl tys mc ms post k n ws pc lv (.int y :: .int x :: st) := by
  intro hok H locs ls hS hl
  have h9 := kk hok H locs ls hS hl
  obtain ⟨p, l, e, s, m, args, below, meth, c, Q, A, H0⟩ := Γ
  obtain ⟨hx, hb, hml, hown, hts, hK, hA, hin, hret⟩ := hok
  exact lv_isub hx hb hd h9
theorem g_imul {x y : Int32} (hd : decode cc pc = .ok (.imul, 1)) (kk : G Γ R cc own Ts nL D cl tys mc ms post k n ws (pc + 1) lv (.int (x * y) :: st)) : G Γ R cc own Ts nL D cl tys mc ms post k n ws pc lv (.int y :: .int x :: st) := by
  intro hok H locs ls hS hl
  have h9 := kk hok H locs ls hS hl
  obtain ⟨p, l, e, s, m, args, below, meth, c, Q, A, H0⟩ := Γ
  obtain ⟨hx, hb, hml, hown, hts, hK, hA, hin, hret⟩ := hok
  exact lv_imul hx hb hd h9
theorem g_iand {x y : Int32} (hd : decode cc pc = .ok (.iand, 1)) (kk : G Γ R cc own Ts nL D cl tys mc ms post k n ws (pc + 1) lv (.int (x &&& y) :: st)) : G Γ R cc own Ts nL D cl tys mc ms post k n ws pc lv (.int y :: .int x :: st) := by
  intro hok H locs ls hS hl
  have h9 := kk hok H locs ls hS hl
  obtain ⟨p, l, e, s, m, args, below, meth, c, Q, A, H0⟩ := Γ
  obtain ⟨hx, hb, hml, hown, hts, hK, hA, hin, hret⟩ := hok
  exact lv_iand hx hb hd h9
theorem g_ior {x y : Int32} (hd : decode cc pc = .ok (.ior, 1)) (kk : G Γ R cc own Ts nL D cl tys mc ms post k n ws (pc + 1) lv (.int (x ||| y) :: st)) : G Γ R cc own Ts nL D cl tys mc ms post k n ws pc lv (.int y :: .int x :: st) := by
  intro hok H locs ls hS hl
  have h9 := kk hok H locs ls hS hl
  obtain ⟨p, l, e, s, m, args, below, meth, c, Q, A, H0⟩ := Γ
  obtain ⟨hx, hb, hml, hown, hts, hK, hA, hin, hret⟩ := hok
  exact lv_ior hx hb hd h9
theorem g_ixor {x y : Int32} (hd : decode cc pc = .ok (.ixor, 1)) (kk : G Γ R cc own Ts nL D cl tys mc ms post k n ws (pc + 1) lv (.int (x ^^^ y) :: st)) : G Γ R cc own Ts nL D cl tys mc ms post k n ws pc lv (.int y :: .int x :: st) := by
  intro hok H locs ls hS hl
  have h9 := kk hok H locs ls hS hl
  obtain ⟨p, l, e, s, m, args, below, meth, c, Q, A, H0⟩ := Γ
  obtain ⟨hx, hb, hml, hown, hts, hK, hA, hin, hret⟩ := hok
  exact lv_ixor hx hb hd h9
theorem g_ishl {x y : Int32} (hd : decode cc pc = .ok (.ishl, 1)) (kk : G Γ R cc own Ts nL D cl tys mc ms post k n ws (pc + 1) lv (.int (x <<< (y &&& 31)) :: st)) : G Γ R cc own Ts nL D cl tys mc ms post k n ws pc lv (.int y :: .int x :: st) := by
  intro hok H locs ls hS hl
  have h9 := kk hok H locs ls hS hl
  obtain ⟨p, l, e, s, m, args, below, meth, c, Q, A, H0⟩ := Γ
  obtain ⟨hx, hb, hml, hown, hts, hK, hA, hin, hret⟩ := hok
  exact lv_ishl hx hb hd h9
theorem g_ishr {x y : Int32} (hd : decode cc pc = .ok (.ishr, 1)) (kk : G Γ R cc own Ts nL D cl tys mc ms post k n ws (pc + 1) lv (.int (x >>> (y &&& 31)) :: st)) : G Γ R cc own Ts nL D cl tys mc ms post k n ws pc lv (.int y :: .int x :: st) := by
  intro hok H locs ls hS hl
  have h9 := kk hok H locs ls hS hl
  obtain ⟨p, l, e, s, m, args, below, meth, c, Q, A, H0⟩ := Γ
  obtain ⟨hx, hb, hml, hown, hts, hK, hA, hin, hret⟩ := hok
  exact lv_ishr hx hb hd h9
theorem g_idiv {x y : Int32} (hne : ¬ y = 0) (hd : decode cc pc = .ok (.idiv, 1)) (kk : G Γ R cc own Ts nL D cl tys mc ms post k n ws (pc + 1) lv (.int (x / y) :: st)) : G Γ R cc own Ts nL D cl tys mc ms post k n ws pc lv (.int y :: .int x :: st) := by
  intro hok H locs ls hS hl
  have h9 := kk hok H locs ls hS hl
  obtain ⟨p, l, e, s, m, args, below, meth, c, Q, A, H0⟩ := Γ
  obtain ⟨hx, hb, hml, hown, hts, hK, hA, hin, hret⟩ := hok
  exact lv_idiv hx hb hd hne h9
theorem g_irem {x y : Int32} (hne : ¬ y = 0) (hd : decode cc pc = .ok (.irem, 1)) (kk : G Γ R cc own Ts nL D cl tys mc ms post k n ws (pc + 1) lv (.int (x - x / y * y) :: st)) : G Γ R cc own Ts nL D cl tys mc ms post k n ws pc lv (.int y :: .int x :: st) := by
  intro hok H locs ls hS hl
  have h9 := kk hok H locs ls hS hl
  obtain ⟨p, l, e, s, m, args, below, meth, c, Q, A, H0⟩ := Γ
  obtain ⟨hx, hb, hml, hown, hts, hK, hA, hin, hret⟩ := hok
  exact lv_irem hx hb hd hne h9
theorem g_ineg {x : Int32} (hd : decode cc pc = .ok (.ineg, 1)) (kk : G Γ R cc own Ts nL D cl tys mc ms post k n ws (pc + 1) lv (.int (-x) :: st)) : G Γ R cc own Ts nL D cl tys mc ms post k n ws pc lv (.int x :: st) := by
  intro hok H locs ls hS hl
  have h9 := kk hok H locs ls hS hl
  obtain ⟨p, l, e, s, m, args, below, meth, c, Q, A, H0⟩ := Γ
  obtain ⟨hx, hb, hml, hown, hts, hK, hA, hin, hret⟩ := hok
  exact lv_ineg hx hb hd h9
theorem g_ladd {x y : Int64} (hd : decode cc pc = .ok (.ladd, 1)) (kk : G Γ R cc own Ts nL D cl tys mc ms post k n ws (pc + 1) lv (.long (x + y) :: st)) : G Γ R cc own Ts nL D cl tys mc ms post k n ws pc lv (.long y :: .long x :: st) := by
  intro hok H locs ls hS hl
  have h9 := kk hok H locs ls hS hl
  obtain ⟨p, l, e, s, m, args, below, meth, c, Q, A, H0⟩ := Γ
  obtain ⟨hx, hb, hml, hown, hts, hK, hA, hin, hret⟩ := hok
  exact lv_ladd hx hb hd h9
theorem g_lsub {x y : Int64} (hd : decode cc pc = .ok (.lsub, 1)) (kk : G Γ R cc own Ts nL D cl tys mc ms post k n ws (pc + 1) lv (.long (x - y) :: st)) : G Γ R cc own Ts nL D cl tys mc ms post k n ws pc lv (.long y :: .long x :: st) := by
  intro hok H locs ls hS hl
  have h9 := kk hok H locs ls hS hl
  obtain ⟨p, l, e, s, m, args, below, meth, c, Q, A, H0⟩ := Γ
  obtain ⟨hx, hb, hml, hown, hts, hK, hA, hin, hret⟩ := hok
  exact lv_lsub hx hb hd h9
theorem g_lmul {x y : Int64} (hd : decode cc pc = .ok (.lmul, 1)) (kk : G Γ R cc own Ts nL D cl tys mc ms post k n ws (pc + 1) lv (.long (x * y) :: st)) : G Γ R cc own Ts nL D cl tys mc ms post k n ws pc lv (.long y :: .long x :: st) := by
  intro hok H locs ls hS hl
  have h9 := kk hok H locs ls hS hl
  obtain ⟨p, l, e, s, m, args, below, meth, c, Q, A, H0⟩ := Γ
  obtain ⟨hx, hb, hml, hown, hts, hK, hA, hin, hret⟩ := hok
  exact lv_lmul hx hb hd h9
theorem g_land {x y : Int64} (hd : decode cc pc = .ok (.land, 1)) (kk : G Γ R cc own Ts nL D cl tys mc ms post k n ws (pc + 1) lv (.long (x &&& y) :: st)) : G Γ R cc own Ts nL D cl tys mc ms post k n ws pc lv (.long y :: .long x :: st) := by
  intro hok H locs ls hS hl
  have h9 := kk hok H locs ls hS hl
  obtain ⟨p, l, e, s, m, args, below, meth, c, Q, A, H0⟩ := Γ
  obtain ⟨hx, hb, hml, hown, hts, hK, hA, hin, hret⟩ := hok
  exact lv_land hx hb hd h9
theorem g_lor {x y : Int64} (hd : decode cc pc = .ok (.lor, 1)) (kk : G Γ R cc own Ts nL D cl tys mc ms post k n ws (pc + 1) lv (.long (x ||| y) :: st)) : G Γ R cc own Ts nL D cl tys mc ms post k n ws pc lv (.long y :: .long x :: st) := by
  intro hok H locs ls hS hl
  have h9 := kk hok H locs ls hS hl
  obtain ⟨p, l, e, s, m, args, below, meth, c, Q, A, H0⟩ := Γ
  obtain ⟨hx, hb, hml, hown, hts, hK, hA, hin, hret⟩ := hok
  exact lv_lor hx hb hd h9
theorem g_ldiv {x y : Int64} (hne : ¬ y = 0) (hd : decode cc pc = .ok (.ldiv, 1)) (kk : G Γ R cc own Ts nL D cl tys mc ms post k n ws (pc + 1) lv (.long (x / y) :: st)) : G Γ R cc own Ts nL D cl tys mc ms post k n ws pc lv (.long y :: .long x :: st) := by
  intro hok H locs ls hS hl
  have h9 := kk hok H locs ls hS hl
  obtain ⟨p, l, e, s, m, args, below, meth, c, Q, A, H0⟩ := Γ
  obtain ⟨hx, hb, hml, hown, hts, hK, hA, hin, hret⟩ := hok
  exact lv_ldiv hx hb hd hne h9
theorem g_lrem {x y : Int64} (hne : ¬ y = 0) (hd : decode cc pc = .ok (.lrem, 1)) (kk : G Γ R cc own Ts nL D cl tys mc ms post k n ws (pc + 1) lv (.long (x - x / y * y) :: st)) : G Γ R cc own Ts nL D cl tys mc ms post k n ws pc lv (.long y :: .long x :: st) := by
  intro hok H locs ls hS hl
  have h9 := kk hok H locs ls hS hl
  obtain ⟨p, l, e, s, m, args, below, meth, c, Q, A, H0⟩ := Γ
  obtain ⟨hx, hb, hml, hown, hts, hK, hA, hin, hret⟩ := hok
  exact lv_lrem hx hb hd hne h9
theorem g_lneg {x : Int64} (hd : decode cc pc = .ok (.lneg, 1)) (kk : G Γ R cc own Ts nL D cl tys mc ms post k n ws (pc + 1) lv (.long (-x) :: st)) : G Γ R cc own Ts nL D cl tys mc ms post k n ws pc lv (.long x :: st) := by
  intro hok H locs ls hS hl
  have h9 := kk hok H locs ls hS hl
  obtain ⟨p, l, e, s, m, args, below, meth, c, Q, A, H0⟩ := Γ
  obtain ⟨hx, hb, hml, hown, hts, hK, hA, hin, hret⟩ := hok
  exact lv_lneg hx hb hd h9
theorem g_i2l {x : Int32} (hd : decode cc pc = .ok (.i2l, 1)) (kk : G Γ R cc own Ts nL D cl tys mc ms post k n ws (pc + 1) lv (.long x.toInt64 :: st)) : G Γ R cc own Ts nL D cl tys mc ms post k n ws pc lv (.int x :: st) := by
  intro hok H locs ls hS hl
  have h9 := kk hok H locs ls hS hl
  obtain ⟨p, l, e, s, m, args, below, meth, c, Q, A, H0⟩ := Γ
  obtain ⟨hx, hb, hml, hown, hts, hK, hA, hin, hret⟩ := hok
  exact lv_i2l hx hb hd rfl h9
theorem g_l2i {x : Int64} (hd : decode cc pc = .ok (.l2i, 1)) (kk : G Γ R cc own Ts nL D cl tys mc ms post k n ws (pc + 1) lv (.int x.toInt32 :: st)) : G Γ R cc own Ts nL D cl tys mc ms post k n ws pc lv (.long x :: st) := by
  intro hok H locs ls hS hl
  have h9 := kk hok H locs ls hS hl
  obtain ⟨p, l, e, s, m, args, below, meth, c, Q, A, H0⟩ := Γ
  obtain ⟨hx, hb, hml, hown, hts, hK, hA, hin, hret⟩ := hok
  exact lv_l2i hx hb hd rfl h9
theorem g_lshl {x : Int64} {y : Int32} (hd : decode cc pc = .ok (.lshl, 1)) (kk : G Γ R cc own Ts nL D cl tys mc ms post k n ws (pc + 1) lv (.long (x <<< (y.toInt64 &&& 63)) :: st)) : G Γ R cc own Ts nL D cl tys mc ms post k n ws pc lv (.int y :: .long x :: st) := by
  intro hok H locs ls hS hl
  have h9 := kk hok H locs ls hS hl
  obtain ⟨p, l, e, s, m, args, below, meth, c, Q, A, H0⟩ := Γ
  obtain ⟨hx, hb, hml, hown, hts, hK, hA, hin, hret⟩ := hok
  exact lv_lshl hx hb hd rfl h9
theorem g_lshr {x : Int64} {y : Int32} (hd : decode cc pc = .ok (.lshr, 1)) (kk : G Γ R cc own Ts nL D cl tys mc ms post k n ws (pc + 1) lv (.long (x >>> (y.toInt64 &&& 63)) :: st)) : G Γ R cc own Ts nL D cl tys mc ms post k n ws pc lv (.int y :: .long x :: st) := by
  intro hok H locs ls hS hl
  have h9 := kk hok H locs ls hS hl
  obtain ⟨p, l, e, s, m, args, below, meth, c, Q, A, H0⟩ := Γ
  obtain ⟨hx, hb, hml, hown, hts, hK, hA, hin, hret⟩ := hok
  exact lv_lshr hx hb hd rfl h9
theorem g_lushr {x : Int64} {y : Int32} (hd : decode cc pc = .ok (.lushr, 1)) (kk : G Γ R cc own Ts nL D cl tys mc ms post k n ws (pc + 1) lv (.long ((x.toUInt64 >>> (y.toInt64.toUInt64 &&& Int64.toUInt64 63)).toInt64) :: st)) : G Γ R cc own Ts nL D cl tys mc ms post k n ws pc lv (.int y :: .long x :: st) := by
  intro hok H locs ls hS hl
  have h9 := kk hok H locs ls hS hl
  obtain ⟨p, l, e, s, m, args, below, meth, c, Q, A, H0⟩ := Γ
  obtain ⟨hx, hb, hml, hown, hts, hK, hA, hin, hret⟩ := hok
  exact lv_lushr hx hb hd rfl h9
theorem g_dup {a : Value} (ha : a.category = 1) (hd : decode cc pc = .ok (.dup, 1)) (kk : G Γ R cc own Ts nL D cl tys mc ms post k n ws (pc + 1) lv (a :: a :: st)) : G Γ R cc own Ts nL D cl tys mc ms post k n ws pc lv (a :: st) := by
  intro hok H locs ls hS hl
  have h9 := kk hok H locs ls hS hl
  obtain ⟨p, l, e, s, m, args, below, meth, c, Q, A, H0⟩ := Γ
  obtain ⟨hx, hb, hml, hown, hts, hK, hA, hin, hret⟩ := hok
  exact lv_dup hx hb hd ha h9
theorem g_dup2_11 {a b : Value} (ha : a.category = 1) (hb2 : b.category = 1) (hd : decode cc pc = .ok (.dup2, 1)) (kk : G Γ R cc own Ts nL D cl tys mc ms post k n ws (pc + 1) lv (a :: b :: a :: b :: st)) : G Γ R cc own Ts nL D cl tys mc ms post k n ws pc lv (a :: b :: st) := by
  intro hok H locs ls hS hl
  have h9 := kk hok H locs ls hS hl
  obtain ⟨p, l, e, s, m, args, below, meth, c, Q, A, H0⟩ := Γ
  obtain ⟨hx, hb, hml, hown, hts, hK, hA, hin, hret⟩ := hok
  exact lv_dup2_11 hx hb hd ha hb2 h9
theorem g_dup2_2 {a : Value} (ha : a.category = 2) (hd : decode cc pc = .ok (.dup2, 1)) (kk : G Γ R cc own Ts nL D cl tys mc ms post k n ws (pc + 1) lv (a :: a :: st)) : G Γ R cc own Ts nL D cl tys mc ms post k n ws pc lv (a :: st) := by
  intro hok H locs ls hS hl
  have h9 := kk hok H locs ls hS hl
  obtain ⟨p, l, e, s, m, args, below, meth, c, Q, A, H0⟩ := Γ
  obtain ⟨hx, hb, hml, hown, hts, hK, hA, hin, hret⟩ := hok
  exact lv_dup2_2 hx hb hd ha h9
theorem g_dup_x1 {a b : Value} (ha : a.category = 1) (hb2 : b.category = 1) (hd : decode cc pc = .ok (.dup_x1, 1)) (kk : G Γ R cc own Ts nL D cl tys mc ms post k n ws (pc + 1) lv (a :: b :: a :: st)) : G Γ R cc own Ts nL D cl tys mc ms post k n ws pc lv (a :: b :: st) := by
  intro hok H locs ls hS hl
  have h9 := kk hok H locs ls hS hl
  obtain ⟨p, l, e, s, m, args, below, meth, c, Q, A, H0⟩ := Γ
  obtain ⟨hx, hb, hml, hown, hts, hK, hA, hin, hret⟩ := hok
  exact lv_dup_x1 hx hb hd ha hb2 h9
theorem g_pop {a : Value} (ha : a.category = 1) (hd : decode cc pc = .ok (.pop, 1)) (kk : G Γ R cc own Ts nL D cl tys mc ms post k n ws (pc + 1) lv st) : G Γ R cc own Ts nL D cl tys mc ms post k n ws pc lv (a :: st) := by
  intro hok H locs ls hS hl
  have h9 := kk hok H locs ls hS hl
  obtain ⟨p, l, e, s, m, args, below, meth, c, Q, A, H0⟩ := Γ
  obtain ⟨hx, hb, hml, hown, hts, hK, hA, hin, hret⟩ := hok
  exact lv_pop hx hb hd ha h9
theorem g_pop2_2 {a : Value} (ha : a.category = 2) (hd : decode cc pc = .ok (.pop2, 1)) (kk : G Γ R cc own Ts nL D cl tys mc ms post k n ws (pc + 1) lv st) : G Γ R cc own Ts nL D cl tys mc ms post k n ws pc lv (a :: st) := by
  intro hok H locs ls hS hl
  have h9 := kk hok H locs ls hS hl
  obtain ⟨p, l, e, s, m, args, below, meth, c, Q, A, H0⟩ := Γ
  obtain ⟨hx, hb, hml, hown, hts, hK, hA, hin, hret⟩ := hok
  exact lv_pop2_2 hx hb hd ha h9
theorem g_null  (hd : decode cc pc = .ok (.aconst_null, 1)) (kk : G Γ R cc own Ts nL D cl tys mc ms post k n ws (pc + 1) lv (.null :: st)) : G Γ R cc own Ts nL D cl tys mc ms post k n ws pc lv st := by
  intro hok H locs ls hS hl
  have h9 := kk hok H locs ls hS hl
  obtain ⟨p, l, e, s, m, args, below, meth, c, Q, A, H0⟩ := Γ
  obtain ⟨hx, hb, hml, hown, hts, hK, hA, hin, hret⟩ := hok
  exact lv_null hx hb hd h9
theorem g_if_eq {x : Int32} {off : Int} (tgt : Nat) (hd : decode cc pc = .ok (.ifCond .eq off, 3)) (ht : (pc : Int) + off = (tgt : Int)) (kt : x = 0 → G Γ R cc own Ts nL D cl tys mc ms post k n ws tgt lv st) (kf : ¬ x = 0 → G Γ R cc own Ts nL D cl tys mc ms post k n ws (pc + 3) lv st) : G Γ R cc own Ts nL D cl tys mc ms post k n ws pc lv (.int x :: st) := by
  intro hok H locs ls hS hl
  have h8 := fun q => kt q hok H locs ls hS hl
  have h9 := fun q => kf q hok H locs ls hS hl
  obtain ⟨p, l, e, s, m, args, below, meth, c, Q, A, H0⟩ := Γ
  obtain ⟨hx, hb, hml, hown, hts, hK, hA, hin, hret⟩ := hok
  exact lv_if_eq hx hb hd ht h8 h9
theorem g_icmp_eq {x y : Int32} {off : Int} (tgt : Nat) (hd : decode cc pc = .ok (.if_icmp .eq off, 3)) (ht : (pc : Int) + off = (tgt : Int)) (kt : x = y → G Γ R cc own Ts nL D cl tys mc ms post k n ws tgt lv st) (kf : ¬ x = y → G Γ R cc own Ts nL D cl tys mc ms post k n ws (pc + 3) lv st) : G Γ R cc own Ts nL D cl tys mc ms post k n ws pc lv (.int y :: .int x :: st) := by
  intro hok H locs ls hS hl
  have h8 := fun q => kt q hok H locs ls hS hl
  have h9 := fun q => kf q hok H locs ls hS hl
  obtain ⟨p, l, e, s, m, args, below, meth, c, Q, A, H0⟩ := Γ
  obtain ⟨hx, hb, hml, hown, hts, hK, hA, hin, hret⟩ := hok
  exact lv_icmp_eq hx hb hd ht h8 h9
theorem g_lcmp_eq {x y : Int64} {off : Int} (tgt : Nat) (hd0 : decode cc pc = .ok (.lcmp, 1)) (hd : decode cc (pc + 1) = .ok (.ifCond .eq off, 3)) (ht : ((pc + 1 : Nat) : Int) + off = (tgt : Int)) (kt : x = y → G Γ R cc own Ts nL D cl tys mc ms post k n ws tgt lv st) (kf : ¬ x = y → G Γ R cc own Ts nL D cl tys mc ms post k n ws (pc + 4) lv st) : G Γ R cc own Ts nL D cl tys mc ms post k n ws pc lv (.long y :: .long x :: st) := by
  intro hok H locs ls hS hl
  have h8 := fun q => kt q hok H locs ls hS hl
  have h9 := fun q => kf q hok H locs ls hS hl
  obtain ⟨p, l, e, s, m, args, below, meth, c, Q, A, H0⟩ := Γ
  obtain ⟨hx, hb, hml, hown, hts, hK, hA, hin, hret⟩ := hok
  exact W.lcmp hx hb hd0 (lv_if_eq hx hb hd ht (fun q => h8 ((lg_cmp_eq x y).mp q)) (fun q => h9 (mt (lg_cmp_eq x y).mpr q)))
theorem g_if_ne {x : Int32} {off : Int} (tgt : Nat) (hd : decode cc pc = .ok (.ifCond .ne off, 3)) (ht : (pc : Int) + off = (tgt : Int)) (kt : ¬ x = 0 → G Γ R cc own Ts nL D cl tys mc ms post k n ws tgt lv st) (kf : x = 0 → G Γ R cc own Ts nL D cl tys mc ms post k n ws (pc + 3) lv st) : G Γ R cc own Ts nL D cl tys mc ms post k n ws pc lv (.int x :: st) := by
  intro hok H locs ls hS hl
  have h8 := fun q => kt q hok H locs ls hS hl
  have h9 := fun q => kf q hok H locs ls hS hl
  obtain ⟨p, l, e, s, m, args, below, meth, c, Q, A, H0⟩ := Γ
  obtain ⟨hx, hb, hml, hown, hts, hK, hA, hin, hret⟩ := hok
  exact lv_if_ne hx hb hd ht h8 h9
theorem g_icmp_ne {x y : Int32} {off : Int} (tgt : Nat) (hd : decode cc pc = .ok (.if_icmp .ne off, 3)) (ht : (pc : Int) + off = (tgt : Int)) (kt : ¬ x = y → G Γ R cc own Ts nL D cl tys mc ms post k n ws tgt lv st) (kf : x = y → G Γ R cc own Ts nL D cl tys mc ms post k n ws (pc + 3) lv st) : G Γ R cc own Ts nL D cl tys mc ms post k n ws pc lv (.int y :: .int x :: st) := by
  intro hok H locs ls hS hl
  have h8 := fun q => kt q hok H locs ls hS hl
  have h9 := fun q => kf q hok H locs ls hS hl
  obtain ⟨p, l, e, s, m, args, below, meth, c, Q, A, H0⟩ := Γ
  obtain ⟨hx, hb, hml, hown, hts, hK, hA, hin, hret⟩ := hok
  exact lv_icmp_ne hx hb hd ht h8 h9
theorem g_lcmp_ne {x y : Int64} {off : Int} (tgt : Nat) (hd0 : decode cc pc = .ok (.lcmp, 1)) (hd : decode cc (pc + 1) = .ok (.ifCond .ne off, 3)) (ht : ((pc + 1 : Nat) : Int) + off = (tgt : Int)) (kt : ¬ x = y → G Γ R cc own Ts nL D cl tys mc ms post k n ws tgt lv st) (kf : x = y → G Γ R cc own Ts nL D cl tys mc ms post k n ws (pc + 4) lv st) : G Γ R cc own Ts nL D cl tys mc ms post k n ws pc lv (.long y :: .long x :: st) := by
  intro hok H locs ls hS hl
  have h8 := fun q => kt q hok H locs ls hS hl
  have h9 := fun q => kf q hok H locs ls hS hl
  obtain ⟨p, l, e, s, m, args, below, meth, c, Q, A, H0⟩ := Γ
  obtain ⟨hx, hb, hml, hown, hts, hK, hA, hin, hret⟩ := hok
  exact W.lcmp hx hb hd0 (lv_if_ne hx hb hd ht (fun q => h8 (mt (lg_cmp_eq x y).mpr q)) (fun q => h9 ((lg_cmp_eq x y).mp q)))
theorem g_if_lt {x : Int32} {off : Int} (tgt : Nat) (hd : decode cc pc = .ok (.ifCond .lt off, 3)) (ht : (pc : Int) + off = (tgt : Int)) (kt : x < 0 → G Γ R cc own Ts nL D cl tys mc ms post k n ws tgt lv st) (kf : ¬ x < 0 → G Γ R cc own Ts nL D cl tys mc ms post k n ws (pc + 3) lv st) : G Γ R cc own Ts nL D cl tys mc ms post k n ws pc lv (.int x :: st) := by
  intro hok H locs ls hS hl
  have h8 := fun q => kt q hok H locs ls hS hl
  have h9 := fun q => kf q hok H locs ls hS hl
  obtain ⟨p, l, e, s, m, args, below, meth, c, Q, A, H0⟩ := Γ
  obtain ⟨hx, hb, hml, hown, hts, hK, hA, hin, hret⟩ := hok
  exact lv_if_lt hx hb hd ht h8 h9
theorem g_icmp_lt {x y : Int32} {off : Int} (tgt : Nat) (hd : decode cc pc = .ok (.if_icmp .lt off, 3)) (ht : (pc : Int) + off = (tgt : Int)) (kt : x < y → G Γ R cc own Ts nL D cl tys mc ms post k n ws tgt lv st) (kf : ¬ x < y → G Γ R cc own Ts nL D cl tys mc ms post k n ws (pc + 3) lv st) : G Γ R cc own Ts nL D cl tys mc ms post k n ws pc lv (.int y :: .int x :: st) := by
  intro hok H locs ls hS hl
  have h8 := fun q => kt q hok H locs ls hS hl
  have h9 := fun q => kf q hok H locs ls hS hl
  obtain ⟨p, l, e, s, m, args, below, meth, c, Q, A, H0⟩ := Γ
  obtain ⟨hx, hb, hml, hown, hts, hK, hA, hin, hret⟩ := hok
  exact lv_icmp_lt hx hb hd ht h8 h9
theorem g_lcmp_lt {x y : Int64} {off : Int} (tgt : Nat) (hd0 : decode cc pc = .ok (.lcmp, 1)) (hd : decode cc (pc + 1) = .ok (.ifCond .lt off, 3)) (ht : ((pc + 1 : Nat) : Int) + off = (tgt : Int)) (kt : x < y → G Γ R cc own Ts nL D cl tys mc ms post k n ws tgt lv st) (kf : ¬ x < y → G Γ R cc own Ts nL D cl tys mc ms post k n ws (pc + 4) lv st) : G Γ R cc own Ts nL D cl tys mc ms post k n ws pc lv (.long y :: .long x :: st) := by
  intro hok H locs ls hS hl
  have h8 := fun q => kt q hok H locs ls hS hl
  have h9 := fun q => kf q hok H locs ls hS hl
  obtain ⟨p, l, e, s, m, args, below, meth, c, Q, A, H0⟩ := Γ
  obtain ⟨hx, hb, hml, hown, hts, hK, hA, hin, hret⟩ := hok
  exact W.lcmp hx hb hd0 (lv_if_lt hx hb hd ht (fun q => h8 ((lg_cmp_lt x y).mp q)) (fun q => h9 (mt (lg_cmp_lt x y).mpr q)))
theorem g_if_ge {x : Int32} {off : Int} (tgt : Nat) (hd : decode cc pc = .ok (.ifCond .ge off, 3)) (ht : (pc : Int) + off = (tgt : Int)) (kt : 0 ≤ x → G Γ R cc own Ts nL D cl tys mc ms post k n ws tgt lv st) (kf : ¬ 0 ≤ x → G Γ R cc own Ts nL D cl tys mc ms post k n ws (pc + 3) lv st) : G Γ R cc own Ts nL D cl tys mc ms post k n ws pc lv (.int x :: st) := by
  intro hok H locs ls hS hl
  have h8 := fun q => kt q hok H locs ls hS hl
  have h9 := fun q => kf q hok H locs ls hS hl
  obtain ⟨p, l, e, s, m, args, below, meth, c, Q, A, H0⟩ := Γ
  obtain ⟨hx, hb, hml, hown, hts, hK, hA, hin, hret⟩ := hok
  exact lv_if_ge hx hb hd ht h8 h9
theorem g_icmp_ge {x y : Int32} {off : Int} (tgt : Nat) (hd : decode cc pc = .ok (.if_icmp .ge off, 3)) (ht : (pc : Int) + off = (tgt : Int)) (kt : y ≤ x → G Γ R cc own Ts nL D cl tys mc ms post k n ws tgt lv st) (kf : ¬ y ≤ x → G Γ R cc own Ts nL D cl tys mc ms post k n ws (pc + 3) lv st) : G Γ R cc own Ts nL D cl tys mc ms post k n ws pc lv (.int y :: .int x :: st) := by
  intro hok H locs ls hS hl
  have h8 := fun q => kt q hok H locs ls hS hl
  have h9 := fun q => kf q hok H locs ls hS hl
  obtain ⟨p, l, e, s, m, args, below, meth, c, Q, A, H0⟩ := Γ
  obtain ⟨hx, hb, hml, hown, hts, hK, hA, hin, hret⟩ := hok
  exact lv_icmp_ge hx hb hd ht h8 h9
theorem g_lcmp_ge {x y : Int64} {off : Int} (tgt : Nat) (hd0 : decode cc pc = .ok (.lcmp, 1)) (hd : decode cc (pc + 1) = .ok (.ifCond .ge off, 3)) (ht : ((pc + 1 : Nat) : Int) + off = (tgt : Int)) (kt : y ≤ x → G Γ R cc own Ts nL D cl tys mc ms post k n ws tgt lv st) (kf : ¬ y ≤ x → G Γ R cc own Ts nL D cl tys mc ms post k n ws (pc + 4) lv st) : G Γ R cc own Ts nL D cl tys mc ms post k n ws pc lv (.long y :: .long x :: st) := by
  intro hok H locs ls hS hl
  have h8 := fun q => kt q hok H locs ls hS hl
  have h9 := fun q => kf q hok H locs ls hS hl
  obtain ⟨p, l, e, s, m, args, below, meth, c, Q, A, H0⟩ := Γ
  obtain ⟨hx, hb, hml, hown, hts, hK, hA, hin, hret⟩ := hok
  exact W.lcmp hx hb hd0 (lv_if_ge hx hb hd ht (fun q => h8 ((lg_cmp_ge x y).mp q)) (fun q => h9 (mt (lg_cmp_ge x y).mpr q)))
theorem g_if_gt {x : Int32} {off : Int} (tgt : Nat) (hd : decode cc pc = .ok (.ifCond .gt off, 3)) (ht : (pc : Int) + off = (tgt : Int)) (kt : 0 < x → G Γ R cc own Ts nL D cl tys mc ms post k n ws tgt lv st) (kf : ¬ 0 < x → G Γ R cc own Ts nL D cl tys mc ms post k n ws (pc + 3) lv st) : G Γ R cc own Ts nL D cl tys mc ms post k n ws pc lv (.int x :: st) := by
  intro hok H locs ls hS hl
  have h8 := fun q => kt q hok H locs ls hS hl
  have h9 := fun q => kf q hok H locs ls hS hl
  obtain ⟨p, l, e, s, m, args, below, meth, c, Q, A, H0⟩ := Γ
  obtain ⟨hx, hb, hml, hown, hts, hK, hA, hin, hret⟩ := hok
  exact lv_if_gt hx hb hd ht h8 h9
theorem g_icmp_gt {x y : Int32} {off : Int} (tgt : Nat) (hd : decode cc pc = .ok (.if_icmp .gt off, 3)) (ht : (pc : Int) + off = (tgt : Int)) (kt : y < x → G Γ R cc own Ts nL D cl tys mc ms post k n ws tgt lv st) (kf : ¬ y < x → G Γ R cc own Ts nL D cl tys mc ms post k n ws (pc + 3) lv st) : G Γ R cc own Ts nL D cl tys mc ms post k n ws pc lv (.int y :: .int x :: st) := by
  intro hok H locs ls hS hl
  have h8 := fun q => kt q hok H locs ls hS hl
  have h9 := fun q => kf q hok H locs ls hS hl
  obtain ⟨p, l, e, s, m, args, below, meth, c, Q, A, H0⟩ := Γ
  obtain ⟨hx, hb, hml, hown, hts, hK, hA, hin, hret⟩ := hok
  exact lv_icmp_gt hx hb hd ht h8 h9
theorem g_lcmp_gt {x y : Int64} {off : Int} (tgt : Nat) (hd0 : decode cc pc = .ok (.lcmp, 1)) (hd : decode cc (pc + 1) = .ok (.ifCond .gt off, 3)) (ht : ((pc + 1 : Nat) : Int) + off = (tgt : Int)) (kt : y < x → G Γ R cc own Ts nL D cl tys mc ms post k n ws tgt lv st) (kf : ¬ y < x → G Γ R cc own Ts nL D cl tys mc ms post k n ws (pc + 4) lv st) : G Γ R cc own Ts nL D cl tys mc ms post k n ws pc lv (.long y :: .long x :: st) := by
  intro hok H locs ls hS hl
  have h8 := fun q => kt q hok H locs ls hS hl
  have h9 := fun q => kf q hok H locs ls hS hl
  obtain ⟨p, l, e, s, m, args, below, meth, c, Q, A, H0⟩ := Γ
  obtain ⟨hx, hb, hml, hown, hts, hK, hA, hin, hret⟩ := hok
  exact W.lcmp hx hb hd0 (lv_if_gt hx hb hd ht (fun q => h8 ((lg_cmp_gt x y).mp q)) (fun q => h9 (mt (lg_cmp_gt x y).mpr q)))
theorem g_if_le {x : Int32} {off : Int} (tgt : Nat) (hd : decode cc pc = .ok (.ifCond .le off, 3)) (ht : (pc : Int) + off = (tgt : Int)) (kt : x ≤ 0 → G Γ R cc own Ts nL D cl tys mc ms post k n ws tgt lv st) (kf : ¬ x ≤ 0 → G Γ R cc own Ts nL D cl tys mc ms post k n ws (pc + 3) lv st) : G Γ R cc own Ts nL D cl tys mc ms post k n ws pc lv (.int x :: st) := by
  intro hok H locs ls hS hl
  have h8 := fun q => kt q hok H locs ls hS hl
  have h9 := fun q => kf q hok H locs ls hS hl
  obtain ⟨p, l, e, s, m, args, below, meth, c, Q, A, H0⟩ := Γ
  obtain ⟨hx, hb, hml, hown, hts, hK, hA, hin, hret⟩ := hok
  exact lv_if_le hx hb hd ht h8 h9
theorem g_icmp_le {x y : Int32} {off : Int} (tgt : Nat) (hd : decode cc pc = .ok (.if_icmp .le off, 3)) (ht : (pc : Int) + off = (tgt : Int)) (kt : x ≤ y → G Γ R cc own Ts nL D cl tys mc ms post k n ws tgt lv st) (kf : ¬ x ≤ y → G Γ R cc own Ts nL D cl tys mc ms post k n ws (pc + 3) lv st) : G Γ R cc own Ts nL D cl tys mc ms post k n ws pc lv (.int y :: .int x :: st) := by
  intro hok H locs ls hS hl
  have h8 := fun q => kt q hok H locs ls hS hl
  have h9 := fun q => kf q hok H locs ls hS hl
  obtain ⟨p, l, e, s, m, args, below, meth, c, Q, A, H0⟩ := Γ
  obtain ⟨hx, hb, hml, hown, hts, hK, hA, hin, hret⟩ := hok
  exact lv_icmp_le hx hb hd ht h8 h9
theorem g_lcmp_le {x y : Int64} {off : Int} (tgt : Nat) (hd0 : decode cc pc = .ok (.lcmp, 1)) (hd : decode cc (pc + 1) = .ok (.ifCond .le off, 3)) (ht : ((pc + 1 : Nat) : Int) + off = (tgt : Int)) (kt : x ≤ y → G Γ R cc own Ts nL D cl tys mc ms post k n ws tgt lv st) (kf : ¬ x ≤ y → G Γ R cc own Ts nL D cl tys mc ms post k n ws (pc + 4) lv st) : G Γ R cc own Ts nL D cl tys mc ms post k n ws pc lv (.long y :: .long x :: st) := by
  intro hok H locs ls hS hl
  have h8 := fun q => kt q hok H locs ls hS hl
  have h9 := fun q => kf q hok H locs ls hS hl
  obtain ⟨p, l, e, s, m, args, below, meth, c, Q, A, H0⟩ := Γ
  obtain ⟨hx, hb, hml, hown, hts, hK, hA, hin, hret⟩ := hok
  exact W.lcmp hx hb hd0 (lv_if_le hx hb hd ht (fun q => h8 ((lg_cmp_le x y).mp q)) (fun q => h9 (mt (lg_cmp_le x y).mpr q)))
theorem g_goto {off : Int} (tgt : Nat) (hd : decode cc pc = .ok (.goto off, 3)) (ht : (pc : Int) + off = (tgt : Int)) (kk : G Γ R cc own Ts nL D cl tys mc ms post k n ws tgt lv st) : G Γ R cc own Ts nL D cl tys mc ms post k n ws pc lv st := by
  intro hok H locs ls hS hl
  have h9 := kk hok H locs ls hS hl
  obtain ⟨p, l, e, s, m, args, below, meth, c, Q, A, H0⟩ := Γ
  obtain ⟨hx, hb, hml, hown, hts, hK, hA, hin, hret⟩ := hok
  exact lv_goto hx hb hd ht h9
theorem g_tabIn {dflt lo hi : Int} {offs : Array Int} {len : Nat} {x : Int32} {off : Int} (tgt : Nat) (hd : decode cc pc = .ok (.tableswitch dflt lo hi offs, len)) (h1 : ¬ x.toInt < lo) (h2 : ¬ hi < x.toInt) (ho : offs[(x.toInt - lo).toNat]? = some off) (ht : (pc : Int) + off = (tgt : Int)) (kk : G Γ R cc own Ts nL D cl tys mc ms post k n ws tgt lv st) : G Γ R cc own Ts nL D cl tys mc ms post k n ws pc lv (.int x :: st) := by
  intro hok H locs ls hS hl
  have h9 := kk hok H locs ls hS hl
  obtain ⟨p, l, e, s, m, args, below, meth, c, Q, A, H0⟩ := Γ
  obtain ⟨hx, hb, hml, hown, hts, hK, hA, hin, hret⟩ := hok
  exact lv_tableIn hx hb hd h1 h2 ho ht h9
theorem g_tabOut {dflt lo hi : Int} {offs : Array Int} {len : Nat} {x : Int32} (tgt : Nat) (hd : decode cc pc = .ok (.tableswitch dflt lo hi offs, len)) (h : x.toInt < lo ∨ hi < x.toInt) (ht : (pc : Int) + dflt = (tgt : Int)) (kk : G Γ R cc own Ts nL D cl tys mc ms post k n ws tgt lv st) : G Γ R cc own Ts nL D cl tys mc ms post k n ws pc lv (.int x :: st) := by
  intro hok H locs ls hS hl
  have h9 := kk hok H locs ls hS hl
  obtain ⟨p, l, e, s, m, args, below, meth, c, Q, A, H0⟩ := Γ
  obtain ⟨hx, hb, hml, hown, hts, hK, hA, hin, hret⟩ := hok
  exact lv_tableOut hx hb hd h ht h9
theorem g_lksw {dflt : Int} {ps : Array (Int × Int)} {len : Nat} {x : Int32} {off : Int} (tgt : Nat) (hd : decode cc pc = .ok (.lookupswitch dflt ps, len)) (hp : (ps.toList.zip (ps.toList.drop 1)).all (fun (a, next) => a.1 < next.1) = true) (ho : Op.lookupswitch.offset ps.toList dflt x.toInt = off) (ht : (pc : Int) + off = (tgt : Int)) (kk : G Γ R cc own Ts nL D cl tys mc ms post k n ws tgt lv st) : G Γ R cc own Ts nL D cl tys mc ms post k n ws pc lv (.int x :: st) := by
  intro hok H locs ls hS hl
  have h9 := kk hok H locs ls hS hl
  obtain ⟨p, l, e, s, m, args, below, meth, c, Q, A, H0⟩ := Γ
  obtain ⟨hx, hb, hml, hown, hts, hK, hA, hin, hret⟩ := hok
  exact lv_lookup hx hb hd hp ho ht h9
theorem g_iret {v : Int32} (hd : decode cc pc = .ok (.ireturn, 1)) (h : post (some (.int v)) ws) : G Γ R cc own Ts nL D cl tys mc ms post mc ms ws pc lv [.int v] := by
  intro hok H locs ls hS hl
  obtain ⟨p, l, e, s, m, args, below, meth, c, Q, A, H0⟩ := Γ
  obtain ⟨hx, hb, hml, hown, hts, hK, hA, hin, hret⟩ := hok
  exact hret (some (.int v)) ws H locs ls pc h hS.1 hS.2.1 hS.2.2 hd
theorem g_lret {v : Int64} (hd : decode cc pc = .ok (.lreturn, 1)) (h : post (some (.long v)) ws) : G Γ R cc own Ts nL D cl tys mc ms post mc ms ws pc lv [.long v] := by
  intro hok H locs ls hS hl
  obtain ⟨p, l, e, s, m, args, below, meth, c, Q, A, H0⟩ := Γ
  obtain ⟨hx, hb, hml, hown, hts, hK, hA, hin, hret⟩ := hok
  exact hret (some (.long v)) ws H locs ls pc h hS.1 hS.2.1 hS.2.2 hd
theorem g_aret {v : Nat} (hd : decode cc pc = .ok (.areturn, 1)) (h : post (some (.ref v)) ws) : G Γ R cc own Ts nL D cl tys mc ms post mc ms ws pc lv [.ref v] := by
  intro hok H locs ls hS hl
  obtain ⟨p, l, e, s, m, args, below, meth, c, Q, A, H0⟩ := Γ
  obtain ⟨hx, hb, hml, hown, hts, hK, hA, hin, hret⟩ := hok
  exact hret (some (.ref v)) ws H locs ls pc h hS.1 hS.2.1 hS.2.2 hd
theorem g_vret  (hd : decode cc pc = .ok (.return_, 1)) (h : post none ws) : G Γ R cc own Ts nL D cl tys mc ms post mc ms ws pc lv [] := by
  intro hok H locs ls hS hl
  obtain ⟨p, l, e, s, m, args, below, meth, c, Q, A, H0⟩ := Γ
  obtain ⟨hx, hb, hml, hown, hts, hK, hA, hin, hret⟩ := hok
  exact hret none ws H locs ls pc h hS.1 hS.2.1 hS.2.2 hd
theorem g_nret  (hd : decode cc pc = .ok (.areturn, 1)) (h : post (some .null) ws) : G Γ R cc own Ts nL D cl tys mc ms post mc ms ws pc lv [.null] := by
  intro hok H locs ls hS hl
  obtain ⟨p, l, e, s, m, args, below, meth, c, Q, A, H0⟩ := Γ
  obtain ⟨hx, hb, hml, hown, hts, hK, hA, hin, hret⟩ := hok
  exact hret (some .null) ws H locs ls pc h hS.1 hS.2.1 hS.2.2 hd
theorem g_nrm (lv2 : List (Nat × Value)) (hs : gSub lv lv2) (kk : G Γ R cc own Ts nL D cl tys mc ms post k n ws pc lv2 st) : G Γ R cc own Ts nL D cl tys mc ms post k n ws pc lv st := fun hok H locs ls hS hl => kk hok H locs ls hS (g_has hl hs)
theorem g_widen (k2 n2 : Nat) (h1 : k ≤ k2) (h2 : n ≤ n2) (kk : G Γ R cc own Ts nL D cl tys mc ms post k2 n2 ws pc lv st) : G Γ R cc own Ts nL D cl tys mc ms post k n ws pc lv st := by
  intro hok H locs ls hS hl
  have h9 := kk hok H locs ls hS hl
  obtain ⟨p, l, e, s, m, args, below, meth, c, Q, A, H0⟩ := Γ
  obtain ⟨hx, hb, hml, hown, hts, hK, hA, hin, hret⟩ := hok
  exact W.widen h1 h2 h9
theorem g_wsub (ws2 : va_W) (is : List Nat) (hn : va_nd is = true) (hs : is.filterMap (fun i => ws[i]?) = ws2) (hm : is.map (fun i => ws[i]?) = ws2.map some) (kk : G Γ R cc own Ts nL D cl tys mc ms post k n ws2 pc lv st) : G Γ R cc own Ts nL D cl tys mc ms post k n ws pc lv st := by
  intro hok H locs ls hS hl
  have hS2 : gS Γ D cl ws2 H locs := by
    obtain ⟨p, l, e, s, m, args, below, meth, c, Q, A, H0⟩ := Γ
    exact ⟨hS.1.sub is hs, hS.2.1.sub is hn hm, hS.2.2⟩
  exact kk hok H locs ls hS2 hl
theorem g_weq (ws2 : va_W) (he : ws = ws2) (kk : G Γ R cc own Ts nL D cl tys mc ms post k n ws2 pc lv st) : G Γ R cc own Ts nL D cl tys mc ms post k n ws pc lv st := he ▸ kk
theorem g_get {a ci N ix : Nat} {C : String} {T : u_T} {fs : List Value} {v : Value} (q0 j : Nat) (hd : decode cc pc = .ok (.getfield ix, 3)) (hw : Cond.fieldLink own ix (T j).1 (T j).2.1 (T j).2.2.1 ∈ Ts) (hi2 : ∀ w ∈ u_ws C T N, w ∈ Ts) (he : ws[q0]? = some (a, .inr (ci, fs))) (hc : cl[ci]? = some (C, T, N)) (hj : j < N) (hv : fs[j]? = some v) (kk : G Γ R cc own Ts nL D cl tys mc ms post k n ws (pc + 3) lv (v :: st)) : G Γ R cc own Ts nL D cl tys mc ms post k n ws pc lv (.ref a :: st) := by
  intro hok H locs ls hS hl
  have h9 := kk hok H locs ls hS hl
  obtain ⟨p, l, e, s, m, args, below, meth, c, Q, A, H0⟩ := Γ
  obtain ⟨hx, hb, hml, hown, hts, hK, hA, hin, hret⟩ := hok
  exact va_get hx hb hts hi2 hown hK hS.1 q0 he hc j hj (hts _ hw) (fun _ h => h) hv hd h9
theorem g_put {a ci N ix : Nat} {C : String} {T : u_T} {fs : List Value} {v : Value} {ty : FieldType} (q0 j : Nat) (ws2 : va_W) (ty0 : Nat → FieldType) (hty : ∀ k, k < N → parseFieldDescriptor (T k).2.2.1 = some (ty0 k)) (hnm : ∀ a, a < N → ∀ b, b < N → a ≠ b → (T a).2.1 ≠ (T b).2.1) (hd : decode cc pc = .ok (.putfield ix, 3)) (hw : Cond.fieldLink own ix (T j).1 (T j).2.1 (T j).2.2.1 ∈ Ts) (hi2 : ∀ w ∈ u_ws C T N, w ∈ Ts) (he : ws[q0]? = some (a, .inr (ci, fs))) (hc : cl[ci]? = some (C, T, N)) (hj : j < N) (hfin : (T j).2.2.2 = false) (hpd : parseFieldDescriptor (T j).2.2.1 = some ty) (hnar : narrow ty v = v) (hfit : fits ty v = true) (hl3 : j < fs.length) (hws : ws.set q0 (a, .inr (ci, fs.set j v)) = ws2) (kk : G Γ R cc own Ts nL D cl tys mc ms post k n ws2 (pc + 3) lv st) : G Γ R cc own Ts nL D cl tys mc ms post k n ws pc lv (v :: .ref a :: st) := by
  intro hok H locs ls hS hl
  subst hws
  have h9 := fun H1 locs1 hS1 => kk hok H1 locs1 ls hS1 hl
  obtain ⟨p, l, e, s, m, args, below, meth, c, Q, A, H0⟩ := Γ
  obtain ⟨hx, hb, hml, hown, hts, hK, hA, hin, hret⟩ := hok
  exact va_put hx hb hts hi2 ty0 hty hnm hown hK hS.1 hS.2.1 hS.2.2 q0 he hc j hj (hts _ hw) (fun _ h => h) hfin hpd hnar hfit hl3 hd (fun H1 locs1 h1 h2 h3 => h9 H1 locs1 ⟨h1, h2, h3⟩)
theorem g_iald {a : Nat} {cA : ClassId} {N : Nat} {f : Nat → Int32} {i : Int32} (q0 t0 : Nat) (hd : decode cc pc = .ok (.iaload, 1)) (ha : ws[q0]? = some (a, .inl (cA, N, .inl f))) (ht : tys[t0]? = some (cA, .int)) (hi : vp_in i N) (kk : G Γ R cc own Ts nL D cl tys mc ms post k n ws (pc + 1) lv (.int (f i.toNatClampNeg) :: st)) : G Γ R cc own Ts nL D cl tys mc ms post k n ws pc lv (.int i :: .ref a :: st) := by
  intro hok H locs ls hS hl
  have h9 := kk hok H locs ls hS hl
  obtain ⟨p, l, e, s, m, args, below, meth, c, Q, A, H0⟩ := Γ
  obtain ⟨hx, hb, hml, hown, hts, hK, hA, hin, hret⟩ := hok
  exact va_iald hx hb hK hS.1 q0 t0 ha ht hi hd h9
theorem g_zald {a : Nat} {cA : ClassId} {N : Nat} {f : Nat → Int32} {i : Int32} (q0 t0 : Nat) (hd : decode cc pc = .ok (.baload, 1)) (ha : ws[q0]? = some (a, .inl (cA, N, .inl f))) (ht : tys[t0]? = some (cA, .boolean)) (hi : vp_in i N) (kk : G Γ R cc own Ts nL D cl tys mc ms post k n ws (pc + 1) lv (.int (f i.toNatClampNeg) :: st)) : G Γ R cc own Ts nL D cl tys mc ms post k n ws pc lv (.int i :: .ref a :: st) := by
  intro hok H locs ls hS hl
  have h9 := kk hok H locs ls hS hl
  obtain ⟨p, l, e, s, m, args, below, meth, c, Q, A, H0⟩ := Γ
  obtain ⟨hx, hb, hml, hown, hts, hK, hA, hin, hret⟩ := hok
  exact va_zald hx hb hK hS.1 q0 t0 ha ht hi hd h9
theorem g_lald {a : Nat} {cA : ClassId} {N : Nat} {f : Nat → Int64} {i : Int32} (q0 t0 : Nat) (hd : decode cc pc = .ok (.laload, 1)) (ha : ws[q0]? = some (a, .inl (cA, N, .inr (.inl f)))) (ht : tys[t0]? = some (cA, .long)) (hi : vp_in i N) (kk : G Γ R cc own Ts nL D cl tys mc ms post k n ws (pc + 1) lv (.long (f i.toNatClampNeg) :: st)) : G Γ R cc own Ts nL D cl tys mc ms post k n ws pc lv (.int i :: .ref a :: st) := by
  intro hok H locs ls hS hl
  have h9 := kk hok H locs ls hS hl
  obtain ⟨p, l, e, s, m, args, below, meth, c, Q, A, H0⟩ := Γ
  obtain ⟨hx, hb, hml, hown, hts, hK, hA, hin, hret⟩ := hok
  exact va_lald hx hb hK hS.1 q0 t0 ha ht hi hd h9
theorem g_iast {a : Nat} {cA : ClassId} {N : Nat} {f : Nat → Int32} {i : Int32} {x : Int32} (q0 t0 : Nat) (ws2 : va_W) (hd : decode cc pc = .ok (.iastore, 1)) (ha : ws[q0]? = some (a, .inl (cA, N, .inl f))) (ht : tys[t0]? = some (cA, .int)) (hi : vp_in i N) (hws : ws.set q0 (a, .inl (cA, N, .inl (upd f i.toNatClampNeg x))) = ws2) (kk : G Γ R cc own Ts nL D cl tys mc ms post k n ws2 (pc + 1) lv st) : G Γ R cc own Ts nL D cl tys mc ms post k n ws pc lv (.int x :: .int i :: .ref a :: st) := by
  intro hok H locs ls hS hl
  subst hws
  have h9 := fun H1 locs1 hS1 => kk hok H1 locs1 ls hS1 hl
  obtain ⟨p, l, e, s, m, args, below, meth, c, Q, A, H0⟩ := Γ
  obtain ⟨hx, hb, hml, hown, hts, hK, hA, hin, hret⟩ := hok
  exact va_iast hx hb hK hS.1 hS.2.1 hS.2.2 q0 t0 ha ht hi hd (fun H1 locs1 h1 h2 h3 => h9 H1 locs1 ⟨h1, h2, h3⟩)
theorem g_zast {a : Nat} {cA : ClassId} {N : Nat} {f : Nat → Int32} {i : Int32} {x : Int32} (q0 t0 : Nat) (ws2 : va_W) (hd : decode cc pc = .ok (.bastore, 1)) (ha : ws[q0]? = some (a, .inl (cA, N, .inl f))) (ht : tys[t0]? = some (cA, .boolean)) (hi : vp_in i N) (hws : ws.set q0 (a, .inl (cA, N, .inl (upd f i.toNatClampNeg (vp_nar .boolean x)))) = ws2) (kk : G Γ R cc own Ts nL D cl tys mc ms post k n ws2 (pc + 1) lv st) : G Γ R cc own Ts nL D cl tys mc ms post k n ws pc lv (.int x :: .int i :: .ref a :: st) := by
  intro hok H locs ls hS hl
  subst hws
  have h9 := fun H1 locs1 hS1 => kk hok H1 locs1 ls hS1 hl
  obtain ⟨p, l, e, s, m, args, below, meth, c, Q, A, H0⟩ := Γ
  obtain ⟨hx, hb, hml, hown, hts, hK, hA, hin, hret⟩ := hok
  exact va_zast hx hb hK hS.1 hS.2.1 hS.2.2 q0 t0 ha ht hi hd (fun H1 locs1 h1 h2 h3 => h9 H1 locs1 ⟨h1, h2, h3⟩)
theorem g_last {a : Nat} {cA : ClassId} {N : Nat} {f : Nat → Int64} {i : Int32} {x : Int64} (q0 t0 : Nat) (ws2 : va_W) (hd : decode cc pc = .ok (.lastore, 1)) (ha : ws[q0]? = some (a, .inl (cA, N, .inr (.inl f)))) (ht : tys[t0]? = some (cA, .long)) (hi : vp_in i N) (hws : ws.set q0 (a, .inl (cA, N, .inr (.inl (vp_updL f i.toNatClampNeg x)))) = ws2) (kk : G Γ R cc own Ts nL D cl tys mc ms post k n ws2 (pc + 1) lv st) : G Γ R cc own Ts nL D cl tys mc ms post k n ws pc lv (.long x :: .int i :: .ref a :: st) := by
  intro hok H locs ls hS hl
  subst hws
  have h9 := fun H1 locs1 hS1 => kk hok H1 locs1 ls hS1 hl
  obtain ⟨p, l, e, s, m, args, below, meth, c, Q, A, H0⟩ := Γ
  obtain ⟨hx, hb, hml, hown, hts, hK, hA, hin, hret⟩ := hok
  exact va_last hx hb hK hS.1 hS.2.1 hS.2.2 q0 t0 ha ht hi hd (fun H1 locs1 h1 h2 h3 => h9 H1 locs1 ⟨h1, h2, h3⟩)
/-- the end of a method as its contract has it -/
def gQc (D : va_G) (cl : List vw_C) (tys : List (ClassId × FieldType)) (A : Nat → Prop) (post : Option Value → va_W → Prop) : Array Value → State → Outcome → State → Prop := fun _ st oc t => (∃ (v : Option Value) (w1 : va_W), oc = .returned v ∧ post v w1 ∧ va_P D cl w1 t.heap ∧ va_K D cl tys t ∧ va_D A w1) ∧ va_F A st t
/-- THE CONTRACT: from the cells w0 and the arguments av the method y returns, with post of its answer and of the cells then -/
def Ct (l : Launch) (D : va_G) (cl : List vw_C) (tys : List (ClassId × FieldType)) (y : MethodName) (wy : List Cond) (rm : Room) (mc ms : Nat) (av : List Value) (w0 : va_W) (post : Option Value → va_W → Prop) : Prop :=
  ∀ sz : Nat, Met l y wy rm (va_Pc av (fun U => U.heap.size = sz ∧ va_P D cl w0 U.heap ∧ va_K D cl tys U ∧ va_D (fun _ => True) w0)) (gQc D cl tys (va_A w0 sz) post) mc ms (va_A w0 sz)

theorem g_back {p : Program} {l : Launch} {e : Env} {R : Room} {s : State} {m : MethodId} {args : Array Value} {below : List Frame} {meth : Method} {c : Code} {H : Heap} {locs : List Loc} {cells slots : Nat} {Q : State → Prop} {pc : Nat} {ls : Array Slot} {rest st0 : List Value} {a : Array Value} {A0 A1 : Nat → Prop} {H0 : Heap} {mc ms : Nat} {D : va_G} {cl : List vw_C} {tys : List (ClassId × FieldType)} {post : Option Value → va_W → Prop}
    (hr : va_Run p l e R s m args below meth c H locs cells slots mc ms (F0 m pc ls st0) rest (gQc D cl tys A1 post a) A1) (hS : va_S A0 H0 H locs) (hA : ∀ q, A1 q → A0 q)
    (kk : ∀ (v : Option Value) (w1 : va_W) (H1 : Heap) (locs1 : List Loc), post v w1 → va_P D cl w1 H1 → va_D A1 w1 → (∀ q : Nat, q < H.size → ¬ A1 q → H1[q]? = H[q]?) → va_S A0 H0 H1 locs1 → W p l e R s m args below meth c H1 locs1 (cells + mc) (slots + ms) Q (F0 m (pc + 3) ls (v.toList ++ rest))) : W p l e R s m args below meth c H locs cells slots Q (F0 m pc ls st0) := by
  intro T hT X
  obtain ⟨v, st₀, t, T', L, h0, X', hL, e1, e2, ⟨⟨v2, w1, hv, hp, hP1, hK1, hD1⟩, hz, hk⟩, st⟩ := hr T hT X
  cases hv
  rw [h0] at hz hk
  obtain ⟨t2, a1, b1⟩ := kk v w1 T'.heap (locs ++ L) hp (by rw [e1]; exact hP1) hD1 (fun q h1 h2 => by rw [e1]; exact hk q h1 h2)
    ⟨Nat.le_trans hS.1 (by rw [e1]; exact hz), fun q h1 h2 => by rw [e1, hk q (Nat.lt_of_lt_of_le h1 hS.1) (fun z => h2 (hA q z))]; exact hS.2.1 q h1 h2, fun q hq => by
      rcases List.mem_append.mp hq with h | h
      · exact hS.2.2 q h
      · exact hA _ (hL q h)⟩ T' rfl X'
  exact ⟨t2, st t2 a1, b1⟩
theorem g_callS {y : MethodName} {bytes : ByteArray} {maxL ix mc1 ms1 : Nat} {ret : Option FieldType} {wy wy' : List Cond} {rm : Room} {post1 : Option Value → va_W → Prop} {As rest : List Value} (nn : Nat) (hg : GoodIn Ts (va_wsS own ix y wy)) (hw : wy = Cond.code y bytes maxL ret :: wy') (hrc : rm.cells = mc1) (hrs : rm.slots = ms1) (hR1 : rm.frames + 1 ≤ R.frames ∧ 8 + (maxL + 11) + rm.locals ≤ R.locals) (hcs : k + mc1 ≤ R.cells ∧ n + ms1 ≤ R.slots) (hst : (rest.map fun v => v.category).sum ≤ 8) (hdn : y.cls ≠ "java/lang/invoke/MethodHandle" ∧ y.cls ≠ "java/lang/invoke/VarHandle" ∧ (parseMethodDescriptor y.desc).map (fun d => d.parameters.length) = some nn) (hn : As.length = nn) (isC isR : List Nat) (wc wr : va_W) (hC : isC.map (fun i => ws[i]?) = wc.map some) (hC2 : isC.filterMap (fun i => ws[i]?) = wc) (hnC : va_nd isC = true) (hR : isR.map (fun i => ws[i]?) = wr.map some) (hnR : va_nd isR = true) (hdis : ∀ i ∈ isR, i ∉ isC) (hd : decode cc pc = .ok (.invokestatic ix, 3)) (hct : Ct Γ.2.1 D cl tys y wy rm mc1 ms1 As wc post1) (hstk : st = As.reverse ++ rest)
    (kk : ∀ (v : Option Value) (w1 : va_W), post1 v w1 → G Γ R cc own Ts nL D cl tys mc ms post (k + mc1) (n + ms1) (wr ++ w1) (pc + 3) lv (v.toList ++ rest)) : G Γ R cc own Ts nL D cl tys mc ms post k n ws pc lv st := by
  intro hok H locs ls hS hl
  subst hstk
  obtain ⟨p, l, e, s, m, args, below, meth, c, Q, A, H0⟩ := Γ
  have hok2 := hok
  obtain ⟨hx, hb, hml, hown, hts, hK, hA, hin, hret⟩ := hok
  have hPc := hS.1.sub (ws' := wc) isC hC2
  have hDc := hS.2.1.sub (ws' := wc) isC hnC hC
  have hFc := va_free (wc := wc) hS.2.1 hS.2.2 hA isC hC
  refine g_back (va_runS (As := As) (rest := rest) ⟨hx, hb, hml, hown, hts⟩ (hct H.size) (va_cwS nn hts hg hw hrc hrs hdn hR1) ⟨fun a U g mk q => by obtain ⟨q0, q1, qP, qK, qD⟩ := q; exact ⟨q0, q1, qP, va_K.moved (u := U) (U := U.calling g mk a) (Vm.Alike.refl U.vm) qK, qD⟩, fun U hU hW => ⟨rfl, by rw [hU], by rw [hU]; exact hPc, va_K.moved hW.alike hK, hDc.weaken (fun _ _ _ _ => trivial)⟩⟩ rfl hn hl.1 rfl (lv_room hst) hd hcs) hS.2.2 hFc (fun v w1 H1 locs1 hp hP1 hD1 hk1 hS1 => ?_)
  obtain ⟨hP2, hD2⟩ := va_join (wr := wr) (w1 := w1) hS.1 hS.2.1 isC isR hC hR hnR hdis hk1 hFc hP1 hD1
  exact kk v w1 hp hok2 H1 locs1 ls ⟨hP2, hD2, hS1⟩ hl
theorem g_callV {y : MethodName} {bytes : ByteArray} {maxL ix mc1 ms1 : Nat} {ret : Option FieldType} {wy wy' : List Cond} {rm : Room} {post1 : Option Value → va_W → Prop} {As rest : List Value} {C : String} {b ci : Nat} {T : u_T} {N : Nat} {fs : List Value} (nn q0 : Nat) (hg : GoodIn Ts (wsV own ix C y wy)) (hw : wy = Cond.code y bytes maxL ret :: wy') (hrc : rm.cells = mc1) (hrs : rm.slots = ms1) (hR1 : rm.frames + 1 ≤ R.frames ∧ 8 + (maxL + 11) + rm.locals ≤ R.locals) (hcs : k + mc1 ≤ R.cells ∧ n + ms1 ≤ R.slots) (hst : (rest.map fun v => v.category).sum ≤ 8) (hdn : y.cls = C ∧ y.cls ≠ "java/lang/invoke/MethodHandle" ∧ y.cls ≠ "java/lang/invoke/VarHandle" ∧ (parseMethodDescriptor y.desc).map (fun d => d.parameters.length) = some nn) (hn : As.length = nn) (he : ws[q0]? = some (b, .inr (ci, fs))) (hc : cl[ci]? = some (C, T, N)) (isC isR : List Nat) (wc wr : va_W) (hC : isC.map (fun i => ws[i]?) = wc.map some) (hC2 : isC.filterMap (fun i => ws[i]?) = wc) (hnC : va_nd isC = true) (hR : isR.map (fun i => ws[i]?) = wr.map some) (hnR : va_nd isR = true) (hdis : ∀ i ∈ isR, i ∉ isC) (hd : decode cc pc = .ok (.invokevirtual ix, 3)) (hct : Ct Γ.2.1 D cl tys y wy rm mc1 ms1 (.ref b :: As) wc post1) (hstk : st = As.reverse ++ .ref b :: rest)
    (kk : ∀ (v : Option Value) (w1 : va_W), post1 v w1 → G Γ R cc own Ts nL D cl tys mc ms post (k + mc1) (n + ms1) (wr ++ w1) (pc + 3) lv (v.toList ++ rest)) : G Γ R cc own Ts nL D cl tys mc ms post k n ws pc lv st := by
  intro hok H locs ls hS hl
  subst hstk
  obtain ⟨p, l, e, s, m, args, below, meth, c, Q, A, H0⟩ := Γ
  have hok2 := hok
  obtain ⟨hx, hb, hml, hown, hts, hK, hA, hin, hret⟩ := hok
  have hPc := hS.1.sub (ws' := wc) isC hC2
  have hDc := hS.2.1.sub (ws' := wc) isC hnC hC
  have hFc := va_free (wc := wc) hS.2.1 hS.2.2 hA isC hC
  refine g_back (va_runV (As := As) (rest := rest) (C := C) ⟨hx, hb, hml, hown, hts⟩ (hct H.size) (cwV nn hts hg hw hrc hrs hdn hR1) ⟨fun a U g mk q => by obtain ⟨q0, q1, qP, qK, qD⟩ := q; exact ⟨q0, q1, qP, va_K.moved (u := U) (U := U.calling g mk a) (Vm.Alike.refl U.vm) qK, qD⟩, va_recv hK hS.1 hc he, fun U hU hW => ⟨rfl, by rw [hU], by rw [hU]; exact hPc, va_K.moved hW.alike hK, hDc.weaken (fun _ _ _ _ => trivial)⟩⟩ rfl hn hl.1 rfl (lv_room hst) hd hcs) hS.2.2 hFc (fun v w1 H1 locs1 hp hP1 hD1 hk1 hS1 => ?_)
  obtain ⟨hP2, hD2⟩ := va_join (wr := wr) (w1 := w1) hS.1 hS.2.1 isC isR hC hR hnR hdis hk1 hFc hP1 hD1
  exact kk v w1 hp hok2 H1 locs1 ls ⟨hP2, hD2, hS1⟩ hl
theorem g_start {l : Launch} {y : MethodName} {wy wy' : List Cond} {rm : Room} {cc : ByteArray} {maxL : Nat} {ret : Option FieldType} {D : va_G} {cl : List vw_C} {tys : List (ClassId × FieldType)} {mc ms : Nat} {av : List Value} {w0 : va_W} {post : Option Value → va_W → Prop}
    (hy : plainName y.cls = true) (hw : wy = Cond.code y cc maxL ret :: wy') (hav : (lg_sl av).length ≤ maxL)
    (hres : ∀ v w1, post v w1 → match v with
      | none => ret = none
      | some (.int x) => ∃ ty, ret = some ty ∧ narrow ty (.int x) = .int x
      | some (.long _) => ret = some .long
      | some (.ref _) => ∃ ty, ret = some ty ∧ ((∃ n, ty = .object n) ∨ ∃ t, ty = .array t)
      | some .null => ∃ ty, ret = some ty ∧ ((∃ n, ty = .object n) ∨ ∃ t, ty = .array t)
      | _ => False)
    (body : ∀ Γ : gT, Γ.2.1 = l → G Γ (headSpec wy rm).room cc y.cls wy maxL D cl tys mc ms post 0 0 w0 0 (lv_args 0 av) []) : Ct l D cl tys y wy rm mc ms av w0 post := by
  intro sz
  refine Met.ofW (cc := cc) (maxL := maxL) (ret := ret) hy hw ?_
  intro p e s m args below meth c s₁ B hml hv
  obtain ⟨rfl, hsz, hP, hK, hD0⟩ := hv
  have hx := B.exec
  have hb := B.bytes
  have hr := B.returns
  have hts := atoms_spec (ws := wy) B.pre
  have hown : s.vm.findClass y.cls = some m.cls := findClass_of_methodNamed B.named
  have hlocks := B.notSynchronized
  subst hsz
  have hD := hD0.self (sz := s.heap.size)
  have hA : ∀ q : Nat, s.heap.size ≤ q → va_A w0 s.heap.size q := fun q h => Or.inr h
  have hl := lv_entry av (n := maxL) hav
  rw [lg_entry_eq]
  have key := body (p, l, e, s, m, av.toArray, below, meth, c, MQ below (gQc D cl tys (va_A w0 s.heap.size) post) av.toArray s mc ms (va_A w0 s.heap.size), va_A w0 s.heap.size, s.heap) rfl
  refine key ⟨hx, hb, hml, hown, hts, hK, hA, Or.inr trivial, ?_⟩ s.heap [] _ ⟨hP, hD, va_S.rf⟩ hl
  intro v ws H locs ls pc hp hP1 hD1 hS1 hrv
  have hq : ∀ t : State, t.heap = H → s.WarmedH t.vm → gQc D cl tys (va_A w0 s.heap.size) post av.toArray s (.returned v) t := fun t ht hW => ⟨⟨v, ws, rfl, hp, by rw [ht]; exact hP1, va_K.moved hW.alike hK, hD1⟩, hS1.F ht⟩
  have h5 := hres v ws hp
  match v, hq, h5, hrv with
  | none, hq, h5, hrv => exact W.vret hx hb (hr.trans h5) hq hS1.2.2 hrv
  | some (.int x), hq, ⟨ty, h5, h6⟩, hrv => exact W.zret hx hb (hr.trans h5) h6 hq hS1.2.2 hrv
  | some (.long x), hq, h5, hrv => exact W.lret hx hb (hr.trans h5) hq hS1.2.2 hrv
  | some (.ref x), hq, ⟨ty, h5, h6⟩, hrv => exact W.aret hx hb (hr.trans h5) h6 (Or.inr ⟨x, rfl⟩) hq hS1.2.2 hrv
  | some .null, hq, ⟨ty, h5, h6⟩, hrv => exact W.aret hx hb (hr.trans h5) h6 (Or.inl rfl) hq hS1.2.2 hrv
  | some (.float x), hq, h5, hrv => exact absurd h5 id
  | some (.double x), hq, h5, hrv => exact absurd h5 id
end GLAYER
