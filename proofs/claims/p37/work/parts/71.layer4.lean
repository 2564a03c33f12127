section GL4
variable {Γ : gT} {R : Room} {cc : ByteArray} {own : String} {Ts : List Cond} {nL : Nat} {D : va_G} {cl : List vw_C} {tys : List (ClassId × FieldType)} {mc ms : Nat} {post : Option Value → va_W → Prop} {k n : Nat} {ws : va_W} {pc : Nat} {lv : List (Nat × Value)} {st : List Value}
abbrev sHp (Γ : gT) : Heap := Γ.2.2.2.2.2.2.2.2.2.2.2
abbrev sAp (Γ : gT) : Nat → Prop := Γ.2.2.2.2.2.2.2.2.2.2.1
/-- what is said of the machine's own objects: of the cells that may change, the tables, the heap -/
abbrev sT : Type := (Nat → Prop) → State → Heap → Prop
def sKeep (E : sT) : Prop := (∀ (A : Nat → Prop) (u U : State) (H : Heap), u.vm = U.vm → E A u H → E A U H) ∧ (∀ (A : Nat → Prop) (s U : State) (H : Heap), s.WarmedH U.vm → E A s H → E A U H) ∧ (∀ (A B : Nat → Prop) (U : State) (H : Heap), (∀ q, B q → A q) → E A U H → E B U H) ∧ (∀ (A : Nat → Prop) (U : State) (H H1 : Heap), (∀ a : Nat, a < H.size → ¬ A a → H1[a]? = H[a]?) → E A U H → E A U H1)
def sAt (E : sT) (Γ : gT) : Prop := E (sAp Γ) (gSt Γ) (sHp Γ) ∧ sHp Γ = (gSt Γ).heap
/-- THE CONTRACT, with something more of the machine's objects asked at its start -/
def CtS (E : sT) (l : Launch) (D : va_G) (cl : List vw_C) (tys : List (ClassId × FieldType)) (y : MethodName) (wy : List Cond) (rm : Room) (mc ms : Nat) (av : List Value) (w0 : va_W) (post : Option Value → va_W → Prop) : Prop :=
  ∀ sz : Nat, Met l y wy rm (va_Pc av (fun U => U.heap.size = sz ∧ va_P D cl w0 U.heap ∧ va_K D cl tys U ∧ va_D (fun _ => True) w0 ∧ E (va_A w0 sz) U U.heap)) (gQc D cl tys (va_A w0 sz) post) mc ms (va_A w0 sz)
theorem g_startS {E : sT} {l : Launch} {y : MethodName} {wy wy' : List Cond} {rm : Room} {cc : ByteArray} {maxL : Nat} {ret : Option FieldType} {D : va_G} {cl : List vw_C} {tys : List (ClassId × FieldType)} {mc ms : Nat} {av : List Value} {w0 : va_W} {post : Option Value → va_W → Prop}
    (hy : plainName y.cls = true) (hw : wy = Cond.code y cc maxL ret :: wy') (hav : (lg_sl av).length ≤ maxL)
    (hres : ∀ v w1, post v w1 → match v with
      | none => ret = none
      | some (.int x) => ∃ ty, ret = some ty ∧ narrow ty (.int x) = .int x
      | some (.long _) => ret = some .long
      | some (.ref _) => ∃ ty, ret = some ty ∧ ((∃ n, ty = .object n) ∨ ∃ t, ty = .array t)
      | some .null => ∃ ty, ret = some ty ∧ ((∃ n, ty = .object n) ∨ ∃ t, ty = .array t)
      | _ => False)
    (body : ∀ Γ : gT, Γ.2.1 = l → sAt E Γ → G Γ (headSpec wy rm).room cc y.cls wy maxL D cl tys mc ms post 0 0 w0 0 (lv_args 0 av) []) : CtS E l D cl tys y wy rm mc ms av w0 post := by
  intro sz
  refine Met.ofW (cc := cc) (maxL := maxL) (ret := ret) hy hw ?_
  intro p e s m args below meth c s₁ B hml hv
  obtain ⟨rfl, hsz, hP, hK, hD0, hE⟩ := hv
  have hx := B.exec
  have hb := B.bytes
  have hr := B.returns
  have hts := atoms_spec (ws := wy) B.pre
  have hown : s.vm.findClass y.cls = some m.cls := findClass_of_methodNamed B.named
  have hlocks := B.notSynchronized
  subst hsz
  have hD := hD0.self (sz := s.heap.size)
  have hA : ∀ q : Nat, s.heap.size ≤ q → va_A w0 s.heap.size q := fun q h => Or.inr h
  have hl := lv_entry av (n := maxL) hav
  rw [lg_entry_eq]
  have key := body (p, l, e, s, m, av.toArray, below, meth, c, MQ below (gQc D cl tys (va_A w0 s.heap.size) post) av.toArray s mc ms (va_A w0 s.heap.size), va_A w0 s.heap.size, s.heap) rfl ⟨hE, rfl⟩
  refine key ⟨hx, hb, hml, hown, hts, hK, hA, Or.inr trivial, ?_⟩ s.heap [] _ ⟨hP, hD, va_S.rf⟩ hl
  intro v ws H locs ls pc hp hP1 hD1 hS1 hrv
  have hq : ∀ t : State, t.heap = H → s.WarmedH t.vm → gQc D cl tys (va_A w0 s.heap.size) post av.toArray s (.returned v) t := fun t ht hW => ⟨⟨v, ws, rfl, hp, by rw [ht]; exact hP1, va_K.moved hW.alike hK, hD1⟩, hS1.F ht⟩
  have h5 := hres v ws hp
  match v, hq, h5, hrv with
  | none, hq, h5, hrv => exact W.vret hx hb (hr.trans h5) hq hS1.2.2 hrv
  | some (.int x), hq, ⟨ty, h5, h6⟩, hrv => exact W.zret hx hb (hr.trans h5) h6 hq hS1.2.2 hrv
  | some (.long x), hq, h5, hrv => exact W.lret hx hb (hr.trans h5) hq hS1.2.2 hrv
  | some (.ref x), hq, ⟨ty, h5, h6⟩, hrv => exact W.aret hx hb (hr.trans h5) h6 (Or.inr ⟨x, rfl⟩) hq hS1.2.2 hrv
  | some .null, hq, ⟨ty, h5, h6⟩, hrv => exact W.aret hx hb (hr.trans h5) h6 (Or.inl rfl) hq hS1.2.2 hrv
  | some (.float x), hq, h5, hrv => exact absurd h5 id
  | some (.double x), hq, h5, hrv => exact absurd h5 id
theorem g_callSE {E : sT} {y : MethodName} {bytes : ByteArray} {maxL ix mc1 ms1 : Nat} {ret : Option FieldType} {wy wy' : List Cond} {rm : Room} {post1 : Option Value → va_W → Prop} {As rest : List Value} (nn : Nat) (hE : sKeep E) (hEs : sAt E Γ) (hg : GoodIn Ts (va_wsS own ix y wy)) (hw : wy = Cond.code y bytes maxL ret :: wy') (hrc : rm.cells = mc1) (hrs : rm.slots = ms1) (hR1 : rm.frames + 1 ≤ R.frames ∧ 8 + (maxL + 11) + rm.locals ≤ R.locals) (hcs : k + mc1 ≤ R.cells ∧ n + ms1 ≤ R.slots) (hst : (rest.map fun v => v.category).sum ≤ 8) (hdn : y.cls ≠ "java/lang/invoke/MethodHandle" ∧ y.cls ≠ "java/lang/invoke/VarHandle" ∧ (parseMethodDescriptor y.desc).map (fun d => d.parameters.length) = some nn) (hn : As.length = nn) (isC isR : List Nat) (wc wr : va_W) (hC : isC.map (fun i => ws[i]?) = wc.map some) (hC2 : isC.filterMap (fun i => ws[i]?) = wc) (hnC : va_nd isC = true) (hR : isR.map (fun i => ws[i]?) = wr.map some) (hnR : va_nd isR = true) (hdis : ∀ i ∈ isR, i ∉ isC) (hd : decode cc pc = .ok (.invokestatic ix, 3)) (hct : CtS E Γ.2.1 D cl tys y wy rm mc1 ms1 As wc post1) (hstk : st = As.reverse ++ rest)
    (kk : ∀ (v : Option Value) (w1 : va_W), post1 v w1 → G Γ R cc own Ts nL D cl tys mc ms post (k + mc1) (n + ms1) (wr ++ w1) (pc + 3) lv (v.toList ++ rest)) : G Γ R cc own Ts nL D cl tys mc ms post k n ws pc lv st := by
  intro hok H locs ls hS hl
  subst hstk
  obtain ⟨p, l, e, s, m, args, below, meth, c, Q, A, H0⟩ := Γ
  have hok2 := hok
  obtain ⟨hx, hb, hml, hown, hts, hK, hA, hin, hret⟩ := hok
  have hPc := hS.1.sub (ws' := wc) isC hC2
  have hDc := hS.2.1.sub (ws' := wc) isC hnC hC
  have hFc := va_free (wc := wc) hS.2.1 hS.2.2 hA isC hC
  refine g_back (va_runS (As := As) (rest := rest) ⟨hx, hb, hml, hown, hts⟩ (hct H.size) (va_cwS nn hts hg hw hrc hrs hdn hR1) ⟨fun a U g mk q => by obtain ⟨q0, q1, qP, qK, qD, qE⟩ := q; exact ⟨q0, q1, qP, va_K.moved (u := U) (U := U.calling g mk a) (Vm.Alike.refl U.vm) qK, qD, hE.1 _ U (U.calling g mk a) _ rfl qE⟩, fun U hU hW => ⟨rfl, by rw [hU], by rw [hU]; exact hPc, va_K.moved hW.alike hK, hDc.weaken (fun _ _ _ _ => trivial), hE.2.2.1 A _ U U.heap hFc (hE.2.1 A s U U.heap hW (by rw [hU]; exact hE.2.2.2 A s H0 H hS.2.2.2.1 hEs.1))⟩⟩ rfl hn hl.1 rfl (lv_room hst) hd hcs) hS.2.2 hFc (fun v w1 H1 locs1 hp hP1 hD1 hk1 hS1 => ?_)
  obtain ⟨hP2, hD2⟩ := va_join (wr := wr) (w1 := w1) hS.1 hS.2.1 isC isR hC hR hnR hdis hk1 hFc hP1 hD1
  exact kk v w1 hp hok2 H1 locs1 ls ⟨hP2, hD2, hS1⟩ hl
theorem g_callVE {E : sT} {y : MethodName} {bytes : ByteArray} {maxL ix mc1 ms1 : Nat} {ret : Option FieldType} {wy wy' : List Cond} {rm : Room} {post1 : Option Value → va_W → Prop} {As rest : List Value} {C : String} {b ci : Nat} {T : u_T} {N : Nat} {fs : List Value} (nn q0 : Nat) (hE : sKeep E) (hEs : sAt E Γ) (hg : GoodIn Ts (wsV own ix C y wy)) (hw : wy = Cond.code y bytes maxL ret :: wy') (hrc : rm.cells = mc1) (hrs : rm.slots = ms1) (hR1 : rm.frames + 1 ≤ R.frames ∧ 8 + (maxL + 11) + rm.locals ≤ R.locals) (hcs : k + mc1 ≤ R.cells ∧ n + ms1 ≤ R.slots) (hst : (rest.map fun v => v.category).sum ≤ 8) (hdn : y.cls = C ∧ y.cls ≠ "java/lang/invoke/MethodHandle" ∧ y.cls ≠ "java/lang/invoke/VarHandle" ∧ (parseMethodDescriptor y.desc).map (fun d => d.parameters.length) = some nn) (hn : As.length = nn) (he : ws[q0]? = some (b, .inr (ci, fs))) (hc : cl[ci]? = some (C, T, N)) (isC isR : List Nat) (wc wr : va_W) (hC : isC.map (fun i => ws[i]?) = wc.map some) (hC2 : isC.filterMap (fun i => ws[i]?) = wc) (hnC : va_nd isC = true) (hR : isR.map (fun i => ws[i]?) = wr.map some) (hnR : va_nd isR = true) (hdis : ∀ i ∈ isR, i ∉ isC) (hd : decode cc pc = .ok (.invokevirtual ix, 3)) (hct : CtS E Γ.2.1 D cl tys y wy rm mc1 ms1 (.ref b :: As) wc post1) (hstk : st = As.reverse ++ .ref b :: rest)
    (kk : ∀ (v : Option Value) (w1 : va_W), post1 v w1 → G Γ R cc own Ts nL D cl tys mc ms post (k + mc1) (n + ms1) (wr ++ w1) (pc + 3) lv (v.toList ++ rest)) : G Γ R cc own Ts nL D cl tys mc ms post k n ws pc lv st := by
  intro hok H locs ls hS hl
  subst hstk
  obtain ⟨p, l, e, s, m, args, below, meth, c, Q, A, H0⟩ := Γ
  have hok2 := hok
  obtain ⟨hx, hb, hml, hown, hts, hK, hA, hin, hret⟩ := hok
  have hPc := hS.1.sub (ws' := wc) isC hC2
  have hDc := hS.2.1.sub (ws' := wc) isC hnC hC
  have hFc := va_free (wc := wc) hS.2.1 hS.2.2 hA isC hC
  refine g_back (va_runV (As := As) (rest := rest) (C := C) ⟨hx, hb, hml, hown, hts⟩ (hct H.size) (cwV nn hts hg hw hrc hrs hdn hR1) ⟨fun a U g mk q => by obtain ⟨q0, q1, qP, qK, qD, qE⟩ := q; exact ⟨q0, q1, qP, va_K.moved (u := U) (U := U.calling g mk a) (Vm.Alike.refl U.vm) qK, qD, hE.1 _ U (U.calling g mk a) _ rfl qE⟩, va_recv hK hS.1 hc he, fun U hU hW => ⟨rfl, by rw [hU], by rw [hU]; exact hPc, va_K.moved hW.alike hK, hDc.weaken (fun _ _ _ _ => trivial), hE.2.2.1 A _ U U.heap hFc (hE.2.1 A s U U.heap hW (by rw [hU]; exact hE.2.2.2 A s H0 H hS.2.2.2.1 hEs.1))⟩⟩ rfl hn hl.1 rfl (lv_room hst) hd hcs) hS.2.2 hFc (fun v w1 H1 locs1 hp hP1 hD1 hk1 hS1 => ?_)
  obtain ⟨hP2, hD2⟩ := va_join (wr := wr) (w1 := w1) hS.1 hS.2.1 isC isR hC hR hnR hdis hk1 hFc hP1 hD1
  exact kk v w1 hp hok2 H1 locs1 ls ⟨hP2, hD2, hS1⟩ hl
theorem g_callVR {E : sT} {y : MethodName} {bytes : ByteArray} {maxL ix mc1 ms1 : Nat} {ret : Option FieldType} {wy wy' : List Cond} {rm : Room} {post1 : Option Value → va_W → Prop} {As rest : List Value} {C : String} {b : Nat} (nn : Nat) (hE : sKeep E) (hEs : sAt E Γ) (hg : GoodIn Ts (wsV own ix C y wy)) (hw : wy = Cond.code y bytes maxL ret :: wy') (hrc : rm.cells = mc1) (hrs : rm.slots = ms1) (hR1 : rm.frames + 1 ≤ R.frames ∧ 8 + (maxL + 11) + rm.locals ≤ R.locals) (hcs : k + mc1 ≤ R.cells ∧ n + ms1 ≤ R.slots) (hst : (rest.map fun v => v.category).sum ≤ 8) (hdn : y.cls = C ∧ y.cls ≠ "java/lang/invoke/MethodHandle" ∧ y.cls ≠ "java/lang/invoke/VarHandle" ∧ (parseMethodDescriptor y.desc).map (fun d => d.parameters.length) = some nn) (hn : As.length = nn) (hrec : ∀ (H : Heap) (locs : List Loc), va_S (sAp Γ) (sHp Γ) H locs → ∃ cell : Cell, H[b]? = some cell ∧ cell.vm.isStatics = false ∧ (gSt Γ).vm.findClass C = some cell.cls) (isC isR : List Nat) (wc wr : va_W) (hC : isC.map (fun i => ws[i]?) = wc.map some) (hC2 : isC.filterMap (fun i => ws[i]?) = wc) (hnC : va_nd isC = true) (hR : isR.map (fun i => ws[i]?) = wr.map some) (hnR : va_nd isR = true) (hdis : ∀ i ∈ isR, i ∉ isC) (hd : decode cc pc = .ok (.invokevirtual ix, 3)) (hct : CtS E Γ.2.1 D cl tys y wy rm mc1 ms1 (.ref b :: As) wc post1) (hstk : st = As.reverse ++ .ref b :: rest)
    (kk : ∀ (v : Option Value) (w1 : va_W), post1 v w1 → G Γ R cc own Ts nL D cl tys mc ms post (k + mc1) (n + ms1) (wr ++ w1) (pc + 3) lv (v.toList ++ rest)) : G Γ R cc own Ts nL D cl tys mc ms post k n ws pc lv st := by
  intro hok H locs ls hS hl
  subst hstk
  obtain ⟨p, l, e, s, m, args, below, meth, c, Q, A, H0⟩ := Γ
  have hok2 := hok
  obtain ⟨hx, hb, hml, hown, hts, hK, hA, hin, hret⟩ := hok
  have hPc := hS.1.sub (ws' := wc) isC hC2
  have hDc := hS.2.1.sub (ws' := wc) isC hnC hC
  have hFc := va_free (wc := wc) hS.2.1 hS.2.2 hA isC hC
  refine g_back (va_runV (As := As) (rest := rest) (C := C) ⟨hx, hb, hml, hown, hts⟩ (hct H.size) (cwV nn hts hg hw hrc hrs hdn hR1) ⟨fun a U g mk q => by obtain ⟨q0, q1, qP, qK, qD, qE⟩ := q; exact ⟨q0, q1, qP, va_K.moved (u := U) (U := U.calling g mk a) (Vm.Alike.refl U.vm) qK, qD, hE.1 _ U (U.calling g mk a) _ rfl qE⟩, hrec H locs hS.2.2, fun U hU hW => ⟨rfl, by rw [hU], by rw [hU]; exact hPc, va_K.moved hW.alike hK, hDc.weaken (fun _ _ _ _ => trivial), hE.2.2.1 A _ U U.heap hFc (hE.2.1 A s U U.heap hW (by rw [hU]; exact hE.2.2.2 A s H0 H hS.2.2.2.1 hEs.1))⟩⟩ rfl hn hl.1 rfl (lv_room hst) hd hcs) hS.2.2 hFc (fun v w1 H1 locs1 hp hP1 hD1 hk1 hS1 => ?_)
  obtain ⟨hP2, hD2⟩ := va_join (wr := wr) (w1 := w1) hS.1 hS.2.1 isC isR hC hR hnR hdis hk1 hFc hP1 hD1
  exact kk v w1 hp hok2 H1 locs1 ls ⟨hP2, hD2, hS1⟩ hl
theorem g_callVEf {E : sT} {y : MethodName} {bytes : ByteArray} {maxL ix mc1 ms1 : Nat} {ret : Option FieldType} {wy wy' : List Cond} {rm : Room} {post1 : Option Value → va_W → Prop} {As rest : List Value} {cl : List vw_C} {tys : List (ClassId × FieldType)} {ws : va_W} {C : String} {b ci : Nat} {T : u_T} {N : Nat} {fs : List Value} (nn q0 : Nat) (hE : sKeep E) (hEs : sAt E Γ) (hg : GoodIn Ts (wsV own ix C y wy)) (hw : wy = Cond.code y bytes maxL ret :: wy') (hrc : rm.cells = mc1) (hrs : rm.slots = ms1) (hR1 : rm.frames + 1 ≤ R.frames ∧ 8 + (maxL + 11) + rm.locals ≤ R.locals) (hcs : k + mc1 ≤ R.cells ∧ n + ms1 ≤ R.slots) (hst : (rest.map fun v => v.category).sum ≤ 8) (hdn : y.cls = C ∧ y.cls ≠ "java/lang/invoke/MethodHandle" ∧ y.cls ≠ "java/lang/invoke/VarHandle" ∧ (parseMethodDescriptor y.desc).map (fun d => d.parameters.length) = some nn) (hn : As.length = nn) (he : ws[q0]? = some (b, .inr (ci, fs))) (hc : cl[ci]? = some (C, T, N)) (hd : decode cc pc = .ok (.invokevirtual ix, 3)) (hct : CtS E Γ.2.1 D cl tys y wy rm mc1 ms1 (.ref b :: As) ws post1) (hstk : st = As.reverse ++ .ref b :: rest)
    (kk : ∀ (v : Option Value) (w1 : va_W), post1 v w1 → G Γ R cc own Ts nL D cl tys mc ms post (k + mc1) (n + ms1) w1 (pc + 3) lv (v.toList ++ rest)) : G Γ R cc own Ts nL D cl tys mc ms post k n ws pc lv st :=
  g_callVE nn q0 hE hEs hg hw hrc hrs hR1 hcs hst hdn hn he hc (List.range ws.length) [] ws [] (g_len ws) (g_len2 ws) (g_nd _ List.nodup_range) rfl rfl (fun _ h => by cases h) hd hct hstk kk
theorem g_callSEf {E : sT} {y : MethodName} {bytes : ByteArray} {maxL ix mc1 ms1 : Nat} {ret : Option FieldType} {wy wy' : List Cond} {rm : Room} {post1 : Option Value → va_W → Prop} {As rest : List Value} {cl : List vw_C} {tys : List (ClassId × FieldType)} {ws : va_W} (nn : Nat) (hE : sKeep E) (hEs : sAt E Γ) (hg : GoodIn Ts (va_wsS own ix y wy)) (hw : wy = Cond.code y bytes maxL ret :: wy') (hrc : rm.cells = mc1) (hrs : rm.slots = ms1) (hR1 : rm.frames + 1 ≤ R.frames ∧ 8 + (maxL + 11) + rm.locals ≤ R.locals) (hcs : k + mc1 ≤ R.cells ∧ n + ms1 ≤ R.slots) (hst : (rest.map fun v => v.category).sum ≤ 8) (hdn : y.cls ≠ "java/lang/invoke/MethodHandle" ∧ y.cls ≠ "java/lang/invoke/VarHandle" ∧ (parseMethodDescriptor y.desc).map (fun d => d.parameters.length) = some nn) (hn : As.length = nn) (hd : decode cc pc = .ok (.invokestatic ix, 3)) (hct : CtS E Γ.2.1 D cl tys y wy rm mc1 ms1 As ws post1) (hstk : st = As.reverse ++ rest)
    (kk : ∀ (v : Option Value) (w1 : va_W), post1 v w1 → G Γ R cc own Ts nL D cl tys mc ms post (k + mc1) (n + ms1) w1 (pc + 3) lv (v.toList ++ rest)) : G Γ R cc own Ts nL D cl tys mc ms post k n ws pc lv st :=
  g_callSE nn hE hEs hg hw hrc hrs hR1 hcs hst hdn hn (List.range ws.length) [] ws [] (g_len ws) (g_len2 ws) (g_nd _ List.nodup_range) rfl rfl (fun _ h => by cases h) hd hct hstk kk
theorem g_ldcS {tx : String} {ix q : Nat} (hZ : vk_R own ix tx q (gSt Γ)) (hd : decode cc pc = .ok (.ldc ix, 2)) (kk : G Γ R cc own Ts nL D cl tys mc ms post k n ws (pc + 2) lv (.ref q :: st)) : G Γ R cc own Ts nL D cl tys mc ms post k n ws pc lv st := by
  intro hok H locs ls hS hl
  have h9 := kk hok H locs ls hS hl
  obtain ⟨p, l, e, s, m, args, below, meth, c, Q, A, H0⟩ := Γ
  obtain ⟨hx, hb, hml, hown, hts, hK, hA, hin, hret⟩ := hok
  exact va_ldcS hx hb hown hZ hd h9
theorem g_getS {o n9 d : String} {ix q : Nat} {v : Value} (hO : va_OF o n9 d v q (sAp Γ) (gSt Γ) (gSt Γ).heap) (hH : sHp Γ = (gSt Γ).heap) (hw : Cond.fieldLink own ix o n9 d ∈ Ts) (hd : decode cc pc = .ok (.getfield ix, 3)) (kk : G Γ R cc own Ts nL D cl tys mc ms post k n ws (pc + 3) lv (v :: st)) : G Γ R cc own Ts nL D cl tys mc ms post k n ws pc lv (.ref q :: st) := by
  intro hok H locs ls hS hl
  have h9 := kk hok H locs ls hS hl
  obtain ⟨p, l, e, s, m, args, below, meth, c, Q, A, H0⟩ := Γ
  obtain ⟨hx, hb, hml, hown, hts, hK, hA, hin, hret⟩ := hok
  have hH' : H0 = s.heap := hH
  subst hH'
  exact vk_getf hx hb hO hS.2.2 hown (hts _ hw) (fun _ h => h) hd h9
theorem g_gets {C n9 d : String} {ix : Nat} {v : Value} (hZ : va_Z C n9 d v (sAp Γ) (gSt Γ) (gSt Γ).heap) (hH : sHp Γ = (gSt Γ).heap) (hw : Cond.fieldLink own ix C n9 d ∈ Ts) (hd : decode cc pc = .ok (.getstatic ix, 3)) (kk : G Γ R cc own Ts nL D cl tys mc ms post k n ws (pc + 3) lv (v :: st)) : G Γ R cc own Ts nL D cl tys mc ms post k n ws pc lv st := by
  intro hok H locs ls hS hl
  have h9 := kk hok H locs ls hS hl
  obtain ⟨p, l, e, s, m, args, below, meth, c, Q, A, H0⟩ := Γ
  obtain ⟨hx, hb, hml, hown, hts, hK, hA, hin, hret⟩ := hok
  have hH' : H0 = s.heap := hH
  subst hH'
  exact va_gets hx hb hZ hS.2.2 hown (hts _ hw) (fun _ h => h) hd h9
theorem g_tb {t N : Nat} {f : Nat → Value} {i : Int32} {v : Value} (hT : va_T .byte t N f (sAp Γ) (gSt Γ) (gSt Γ).heap) (hH : sHp Γ = (gSt Γ).heap) (hi : vp_in i N) (hv : f i.toNatClampNeg = v) (hd : decode cc pc = .ok (.baload, 1)) (kk : G Γ R cc own Ts nL D cl tys mc ms post k n ws (pc + 1) lv (v :: st)) : G Γ R cc own Ts nL D cl tys mc ms post k n ws pc lv (.int i :: .ref t :: st) := by
  intro hok H locs ls hS hl
  have h9 := kk hok H locs ls hS hl
  obtain ⟨p, l, e, s, m, args, below, meth, c, Q, A, H0⟩ := Γ
  obtain ⟨hx, hb, hml, hown, hts, hK, hA, hin, hret⟩ := hok
  have hH' : H0 = s.heap := hH
  subst hH'
  exact va_tb hx hb hT hS.2.2 hi hv hd h9
theorem g_tlen {ty : FieldType} {t N : Nat} {f : Nat → Value} (hT : va_T ty t N f (sAp Γ) (gSt Γ) (gSt Γ).heap) (hH : sHp Γ = (gSt Γ).heap) (hd : decode cc pc = .ok (.arraylength, 1)) (kk : G Γ R cc own Ts nL D cl tys mc ms post k n ws (pc + 1) lv (.int (nI N) :: st)) : G Γ R cc own Ts nL D cl tys mc ms post k n ws pc lv (.ref t :: st) := by
  intro hok H locs ls hS hl
  have h9 := kk hok H locs ls hS hl
  obtain ⟨p, l, e, s, m, args, below, meth, c, Q, A, H0⟩ := Γ
  obtain ⟨hx, hb, hml, hown, hts, hK, hA, hin, hret⟩ := hok
  have hH' : H0 = s.heap := hH
  subst hH'
  exact va_tlen hx hb hT hS.2.2 rfl hd h9
theorem g_i2c {x : Int32} (hd : decode cc pc = .ok (.i2c, 1)) (kk : G Γ R cc own Ts nL D cl tys mc ms post k n ws (pc + 1) lv (.int ((x.toUInt32 % 65536).toInt32) :: st)) : G Γ R cc own Ts nL D cl tys mc ms post k n ws pc lv (.int x :: st) := by
  intro hok H locs ls hS hl
  have h9 := kk hok H locs ls hS hl
  obtain ⟨p, l, e, s, m, args, below, meth, c, Q, A, H0⟩ := Γ
  obtain ⟨hx, hb, hml, hown, hts, hK, hA, hin, hret⟩ := hok
  exact lv_i2c hx hb hd rfl h9
/-- a call on a String: none of our cells goes with it -/
theorem g_callJ {E : sT} {y : MethodName} {bytes : ByteArray} {maxL ix : Nat} {ret : Option FieldType} {wy wy' : List Cond} {rm : Room} {As rest : List Value} {C : String} {b : Nat} {r : Option Value} (nn : Nat) (hE : sKeep E) (hEs : sAt E Γ) (hg : GoodIn Ts (wsV own ix C y wy)) (hw : wy = Cond.code y bytes maxL ret :: wy') (hrc : rm.cells = 0) (hrs : rm.slots = 0) (hR1 : rm.frames + 1 ≤ R.frames ∧ 8 + (maxL + 11) + rm.locals ≤ R.locals) (hcs : k + 0 ≤ R.cells ∧ n + 0 ≤ R.slots) (hst : (rest.map fun v => v.category).sum ≤ 8) (hdn : y.cls = C ∧ y.cls ≠ "java/lang/invoke/MethodHandle" ∧ y.cls ≠ "java/lang/invoke/VarHandle" ∧ (parseMethodDescriptor y.desc).map (fun d => d.parameters.length) = some nn) (hn : As.length = nn) (hrec : ∀ (H : Heap) (locs : List Loc), va_S (sAp Γ) (sHp Γ) H locs → ∃ cell : Cell, H[b]? = some cell ∧ cell.vm.isStatics = false ∧ (gSt Γ).vm.findClass C = some cell.cls) (hd : decode cc pc = .ok (.invokevirtual ix, 3)) (hct : CtS E Γ.2.1 D cl tys y wy rm 0 0 (.ref b :: As) [] (fun v w => v = r ∧ w = [])) (hstk : st = As.reverse ++ .ref b :: rest)
    (kk : G Γ R cc own Ts nL D cl tys mc ms post k n ws (pc + 3) lv (r.toList ++ rest)) : G Γ R cc own Ts nL D cl tys mc ms post k n ws pc lv st :=
  g_callVR nn hE hEs hg hw hrc hrs hR1 hcs hst hdn hn hrec [] (List.range ws.length) [] ws rfl rfl rfl (g_len ws) (g_nd _ List.nodup_range) (fun _ _ h => by cases h) hd hct hstk (fun v w1 h1 => by
    obtain ⟨rfl, rfl⟩ := h1
    rw [List.append_nil]
    exact kk)
theorem g_callJS {E : sT} {y : MethodName} {bytes : ByteArray} {maxL ix : Nat} {ret : Option FieldType} {wy wy' : List Cond} {rm : Room} {As rest : List Value} {r : Option Value} (nn : Nat) (hE : sKeep E) (hEs : sAt E Γ) (hg : GoodIn Ts (va_wsS own ix y wy)) (hw : wy = Cond.code y bytes maxL ret :: wy') (hrc : rm.cells = 0) (hrs : rm.slots = 0) (hR1 : rm.frames + 1 ≤ R.frames ∧ 8 + (maxL + 11) + rm.locals ≤ R.locals) (hcs : k + 0 ≤ R.cells ∧ n + 0 ≤ R.slots) (hst : (rest.map fun v => v.category).sum ≤ 8) (hdn : y.cls ≠ "java/lang/invoke/MethodHandle" ∧ y.cls ≠ "java/lang/invoke/VarHandle" ∧ (parseMethodDescriptor y.desc).map (fun d => d.parameters.length) = some nn) (hn : As.length = nn) (hd : decode cc pc = .ok (.invokestatic ix, 3)) (hct : CtS E Γ.2.1 D cl tys y wy rm 0 0 As [] (fun v w => v = r ∧ w = [])) (hstk : st = As.reverse ++ rest)
    (kk : G Γ R cc own Ts nL D cl tys mc ms post k n ws (pc + 3) lv (r.toList ++ rest)) : G Γ R cc own Ts nL D cl tys mc ms post k n ws pc lv st :=
  g_callSE nn hE hEs hg hw hrc hrs hR1 hcs hst hdn hn [] (List.range ws.length) [] ws rfl rfl rfl (g_len ws) (g_nd _ List.nodup_range) (fun _ _ h => by cases h) hd hct hstk (fun v w1 h1 => by
    obtain ⟨rfl, rfl⟩ := h1
    rw [List.append_nil]
    exact kk)
end GL4
/-- the nine texts: their entries, lengths, bytes -/
def sIx : List Nat := [81, 87, 89, 91, 93, 95, 97, 99, 101]
def sTx : List String := ["bind", "free", "if", "and", "late", "amount", "hops", "kind", "road"]
def sLen : List Nat := [4, 4, 2, 3, 4, 6, 4, 4, 4]
def sByt : List (List Int32) := [[98, 105, 110, 100], [102, 114, 101, 101], [105, 102], [97, 110, 100], [108, 97, 116, 101], [97, 109, 111, 117, 110, 116], [104, 111, 112, 115], [107, 105, 110, 100], [114, 111, 97, 100]]
def sE (adK adV : Nat → Nat) : sT := fun A U H => vk_S 9 sLen sByt adK adV A U H ∧ (∀ i : Nat, i < 9 → vk_R RX3 (sIx.getD i 0) (sTx.getD i "") (adK i) U) ∧ va_Z "java/lang/String" "COMPACT_STRINGS" "Z" (.int 1) A U H ∧ va_Zq "jdk/internal/util/Preconditions" "SIOOBE_FORMATTER" "Ljava/util/function/BiFunction;" A U H
theorem sE_keep (adK adV : Nat → Nat) : sKeep (sE adK adV) := by
  refine ⟨fun A u U H hv h => ?_, fun A s U H hW h => ?_, fun A B U H hAB h => ?_, fun A U H H1 hq h => ?_⟩
  · obtain ⟨h1, h2, h3, h4⟩ := h
    have ha : u.vm.Alike U.vm := by rw [← hv]; exact Vm.Alike.refl _
    exact ⟨vk_S.moved ha h1, fun i hi => vk_R.same hv.symm (h2 i hi), va_Z.moved ha h3, va_Zq.moved ha h4⟩
  · obtain ⟨h1, h2, h3, h4⟩ := h
    exact ⟨vk_S.moved hW.alike h1, fun i hi => vk_R.warm hW (h2 i hi), va_Z.moved hW.alike h3, va_Zq.moved hW.alike h4⟩
  · obtain ⟨h1, h2, h3, h4⟩ := h
    exact ⟨h1.narrow hAB, h2, h3.narrow hAB, h4.narrow hAB⟩
  · obtain ⟨h1, h2, h3, h4⟩ := h
    exact ⟨h1.kept hq, h2, h3.kept hq, h4.kept hq⟩
theorem sE_rec {adK adV : Nat → Nat} {Γ : gT} (h : sAt (sE adK adV) Γ) {i : Nat} (hi : i < 9) (H : Heap) (locs : List Loc) (hS : va_S (sAp Γ) (sHp Γ) H locs) : ∃ cell : Cell, H[adK i]? = some cell ∧ cell.vm.isStatics = false ∧ (gSt Γ).vm.findClass "java/lang/String" = some cell.cls := by
  obtain ⟨h1, h2⟩ := h
  rw [h2] at h1 hS
  exact vk_recv h1.1 hi hS

