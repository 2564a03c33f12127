/-! THE CLAIM OUT OF ONE WALK OF THE LAW'S BODY. Your part is whole_start (and what it stands on); all else here is the same for every law, but numbers. -/
def R_law : String := "ChangerFairLaw"
def lw_P (b : Addr) (xs : List Int32) (args : Array Value) (s : State) : Prop := args = #[.ref b] ∧ s.IntsAt b xs ∧ xs.length ≤ 3072 ∧ (Jvm.Cond.and given_1 narrow_1).before args s = true
def lw_Q (_ : Array Value) (s : State) (o : Outcome) (t : State) : Prop := o = .returned (some (.int 1)) ∧ Framed s o t [] 600000 7302250
def lw_Z (below : List Frame) (a : Array Value) (s : State) : State → Prop := fun t => ∃ o, t.status = .running ∧ Ended t below o ∧ lw_Q a s o t
/-- the law's own end, with 1 on the stack, nothing written that was there before, its room as the claim has it -/
theorem lw_ret {p : Program} {l : Launch} {e : Env} {s : State} {m : MethodId} {below : List Frame} {meth : Method} {c : Code} {b : Nat} (hx : p.tables.exec = Jvm.exec) (hb : c.code = code) (hr : meth.sig.returnType = ret) (hlocks : meth.locks = false) {pc : Nat} {H : Heap} {ls : Array Slot} (hdg : decode code pc = .ok (.ireturn, 1)) : W p l e room_1 s m #[Value.ref b] below meth c H [] 600000 7302250 (lw_Z below #[Value.ref b] s) (F0 m pc ls [.int 1]) := by
  intro T hT X
  obtain ⟨fs, hret, hrun, hended, hW, hframe⟩ := X.leave (v := some (.int 1)) (hlocks := hlocks) (fun h => by rw [hr] at h; cases h)
  have hmeth' : T.vm.method? m = some meth := X.method'
  refine ⟨T.setFrames fs, ?_, .returned (some (.int 1)), hrun, hended, rfl, ⟨_, rfl⟩, hW, hframe⟩
  jvm_step X.here [X.here.top, hx, hb, hdg, hmeth', hr, ret, narrow_b1]
  (try refine ⟨rfl, ?_⟩); (try refine ⟨rfl, ?_⟩)
  first | (intro acts; rw [hret _ acts rfl rfl rfl]) | rw [hret _ _ rfl rfl rfl]
  exact Steps.refl _
/-- what holds at the law's entry: the machine, the code, the tables' words (any of lw_tbl by 'hts w (by decide +kernel)'), the script of L ints xs at the cell b, what the Statement gives of the start (any of its parts by flat_of_before) -/
def lw_At (p : Program) (s : State) (m : MethodId) (meth : Method) (c : Code) (b L : Nat) (xs : Nat → Int32) : Prop :=
  p.tables.exec = Jvm.exec ∧ c.code = code ∧ meth.sig.returnType = ret ∧ c.maxLocals = 4 ∧ s.vm.findClass R_law = some m.cls ∧ (∀ w ∈ lw_tbl, w.before #[Value.ref b] s = true) ∧ va_X b L xs s s.heap ∧ b < s.heap.size ∧ meth.locks = false ∧ (Jvm.Cond.and given_1 narrow_1).before #[Value.ref b] s = true
section LAWL
variable {Γ : gT} {R : Room} {cc : ByteArray} {own : String} {Ts : List Cond} {nL : Nat} {D : va_G} {cl : List vw_C} {tys : List (ClassId × FieldType)} {mc ms : Nat} {post : Option Value → va_W → Prop} {k n : Nat} {ws : va_W} {pc : Nat} {lv : List (Nat × Value)} {st : List Value}
abbrev gHp (Γ : gT) : Heap := Γ.2.2.2.2.2.2.2.2.2.2.2
abbrev gAp (Γ : gT) : Nat → Prop := Γ.2.2.2.2.2.2.2.2.2.2.1
theorem g_sld {b L : Nat} {xs : Nat → Int32} {i : Int32} (hX : va_X b L xs (gSt Γ) (gHp Γ)) (hbl : b < (gHp Γ).size) (hbA : ¬ gAp Γ b) (hd : decode cc pc = .ok (.iaload, 1)) (hi : vp_in i L) (kk : G Γ R cc own Ts nL D cl tys mc ms post k n ws (pc + 1) lv (.int (xs i.toNatClampNeg) :: st)) : G Γ R cc own Ts nL D cl tys mc ms post k n ws pc lv (.int i :: .ref b :: st) := by
  intro hok H locs ls hS hl
  have h9 := kk hok H locs ls hS hl
  obtain ⟨p, l, e, s, m, args, below, meth, c, Q, A, H0⟩ := Γ
  obtain ⟨hx, hb, hml, hown, hts, hK, hA, hin, hret⟩ := hok
  exact va_sld hx hb hX hbl hbA hS.2.2 hi hd h9
theorem g_slen {b L : Nat} {xs : Nat → Int32} (hX : va_X b L xs (gSt Γ) (gHp Γ)) (hbl : b < (gHp Γ).size) (hbA : ¬ gAp Γ b) (hd : decode cc pc = .ok (.arraylength, 1)) (kk : G Γ R cc own Ts nL D cl tys mc ms post k n ws (pc + 1) lv (.int (nI L) :: st)) : G Γ R cc own Ts nL D cl tys mc ms post k n ws pc lv (.ref b :: st) := by
  intro hok H locs ls hS hl
  have h9 := kk hok H locs ls hS hl
  obtain ⟨p, l, e, s, m, args, below, meth, c, Q, A, H0⟩ := Γ
  obtain ⟨hx, hb, hml, hown, hts, hK, hA, hin, hret⟩ := hok
  exact va_slen hx hb hX hbl hbA hS.2.2 hd h9
theorem g_hdR (X W : va_W) : (List.range X.length).map (fun i => (X ++ W)[i]?) = X.map some := by
  rw [← g_len X]
  refine List.map_congr_left (fun i hi => ?_)
  exact List.getElem?_append_left (List.mem_range.mp hi)
theorem g_hdF (X W : va_W) : (List.range X.length).filterMap (fun i => (X ++ W)[i]?) = X := by
  have h : ∀ (l : List Nat), l.filterMap (fun i => (X ++ W)[i]?) = (l.map (fun i => (X ++ W)[i]?)).filterMap id := by
    intro l
    rw [List.filterMap_map]
    rfl
  rw [h, g_hdR, List.filterMap_map]
  simp
/-- a call that gets the first half of the world; what comes back stands behind the other half -/
theorem g_callVX {y : MethodName} {bytes : ByteArray} {maxL ix mc1 ms1 : Nat} {ret : Option FieldType} {wy wy' : List Cond} {rm : Room} {post1 : Option Value → va_W → Prop} {As rest : List Value} {C : String} {b ci : Nat} {T : u_T} {N : Nat} {fs : List Value} {X W : va_W} (nn : Nat) (hg : GoodIn Ts (wsV own ix C y wy)) (hw : wy = Cond.code y bytes maxL ret :: wy') (hrc : rm.cells = mc1) (hrs : rm.slots = ms1) (hR1 : rm.frames + 1 ≤ R.frames ∧ 8 + (maxL + 11) + rm.locals ≤ R.locals) (hcs : k + mc1 ≤ R.cells ∧ n + ms1 ≤ R.slots) (hst : (rest.map fun v => v.category).sum ≤ 8) (hdn : y.cls = C ∧ y.cls ≠ "java/lang/invoke/MethodHandle" ∧ y.cls ≠ "java/lang/invoke/VarHandle" ∧ (parseMethodDescriptor y.desc).map (fun d => d.parameters.length) = some nn) (hn : As.length = nn) (he : X[0]? = some (b, .inr (ci, fs))) (hc : cl[ci]? = some (C, T, N)) (hd : decode cc pc = .ok (.invokevirtual ix, 3)) (hct : Ct Γ.2.1 D cl tys y wy rm mc1 ms1 (.ref b :: As) X post1) (hstk : st = As.reverse ++ .ref b :: rest)
    (kk : ∀ (v : Option Value) (w1 : va_W), post1 v w1 → G Γ R cc own Ts nL D cl tys mc ms post (k + mc1) (n + ms1) (W ++ w1) (pc + 3) lv (v.toList ++ rest)) : G Γ R cc own Ts nL D cl tys mc ms post k n (X ++ W) pc lv st :=
  g_callV nn 0 hg hw hrc hrs hR1 hcs hst hdn hn (by rw [List.getElem?_append_left (List.getElem?_eq_some_iff.mp he).1]; exact he) hc (List.range X.length) ((List.range W.length).map (fun i => i + X.length)) X W (g_hdR X W) (g_hdF X W) (g_nd _ List.nodup_range) (g_tlR X W) (g_tlN X.length _) (g_tlD X.length _) hd hct hstk kk
theorem g_callVXE {E : sT} {y : MethodName} {bytes : ByteArray} {maxL ix mc1 ms1 : Nat} {ret : Option FieldType} {wy wy' : List Cond} {rm : Room} {post1 : Option Value → va_W → Prop} {As rest : List Value} {C : String} {b ci : Nat} {T : u_T} {N : Nat} {fs : List Value} {X W : va_W} (nn : Nat) (hE : sKeep E) (hEs : sAt E Γ) (hg : GoodIn Ts (wsV own ix C y wy)) (hw : wy = Cond.code y bytes maxL ret :: wy') (hrc : rm.cells = mc1) (hrs : rm.slots = ms1) (hR1 : rm.frames + 1 ≤ R.frames ∧ 8 + (maxL + 11) + rm.locals ≤ R.locals) (hcs : k + mc1 ≤ R.cells ∧ n + ms1 ≤ R.slots) (hst : (rest.map fun v => v.category).sum ≤ 8) (hdn : y.cls = C ∧ y.cls ≠ "java/lang/invoke/MethodHandle" ∧ y.cls ≠ "java/lang/invoke/VarHandle" ∧ (parseMethodDescriptor y.desc).map (fun d => d.parameters.length) = some nn) (hn : As.length = nn) (he : X[0]? = some (b, .inr (ci, fs))) (hc : cl[ci]? = some (C, T, N)) (hd : decode cc pc = .ok (.invokevirtual ix, 3)) (hct : CtS E Γ.2.1 D cl tys y wy rm mc1 ms1 (.ref b :: As) X post1) (hstk : st = As.reverse ++ .ref b :: rest)
    (kk : ∀ (v : Option Value) (w1 : va_W), post1 v w1 → G Γ R cc own Ts nL D cl tys mc ms post (k + mc1) (n + ms1) (W ++ w1) (pc + 3) lv (v.toList ++ rest)) : G Γ R cc own Ts nL D cl tys mc ms post k n (X ++ W) pc lv st :=
  g_callVE nn 0 hE hEs hg hw hrc hrs hR1 hcs hst hdn hn (by rw [List.getElem?_append_left (List.getElem?_eq_some_iff.mp he).1]; exact he) hc (List.range X.length) ((List.range W.length).map (fun i => i + X.length)) X W (g_hdR X W) (g_hdF X W) (g_nd _ List.nodup_range) (g_tlR X W) (g_tlN X.length _) (g_tlD X.length _) hd hct hstk kk
/-- a constructor of the newest object, whose cell alone it gets -/
theorem g_callI1E {y : MethodName} {bytes : ByteArray} {maxL ix mc1 ms1 b : Nat} {wy wy' : List Cond} {rm : Room} {post1 : Option Value → va_W → Prop} {As rest : List Value} {E : State → Prop} {x : Nat × va_E} (nn : Nat) (hE : gKeep E) (hEs : E (gSt Γ)) (hg : GoodIn Ts wy) (hlk : Cond.methodLink own ix y ∈ Ts) (him : Cond.instanceMethod y ∈ Ts) (hini : Cond.initialized y.cls ∈ Ts) (hw : wy = Cond.code y bytes maxL none :: wy') (hrc : rm.cells = mc1) (hrs : rm.slots = ms1) (hR1 : rm.frames + 1 ≤ R.frames ∧ 8 + (maxL + 11) + rm.locals ≤ R.locals) (hcs : k + mc1 ≤ R.cells ∧ n + ms1 ≤ R.slots) (hst : (rest.map fun v => v.category).sum ≤ 8) (hy1 : y.name = "<init>") (hdn : y.cls ≠ "java/lang/invoke/MethodHandle" ∧ y.cls ≠ "java/lang/invoke/VarHandle" ∧ (parseMethodDescriptor y.desc).map (fun d => d.parameters.length) = some nn) (hn : As.length = nn) (hd : decode cc pc = .ok (.invokespecial ix, 3)) (hct : CtE E Γ.2.1 D cl tys y wy rm mc1 ms1 (.ref b :: As) [x] post1) (hstk : st = As.reverse ++ .ref b :: rest)
    (kk : ∀ (v : Option Value) (w1 : va_W), post1 v w1 → G Γ R cc own Ts nL D cl tys mc ms post (k + mc1) (n + ms1) (ws ++ w1) (pc + 3) lv (v.toList ++ rest)) : G Γ R cc own Ts nL D cl tys mc ms post k n (x :: ws) pc lv st :=
  g_callI (E := E) nn hE hEs hg hlk him hini hw hrc hrs hR1 hcs hst hy1 hdn hn [0] ((List.range ws.length).map (fun i => i + 1)) [x] ws rfl rfl rfl (g_tlR [x] ws) (g_tlN 1 _) (g_tlD 1 _) hd hct hstk kk
end LAWL
theorem law_arr {s : State} {ty : FieldType} {args : Array Value} (h : (Cond.arrayClass ty).before args s = true) : ∃ c, ArrOfT s c ty ∧ s.vm.findClass ("[" ++ ty.toString) = some c := by
  obtain ⟨c, k, comp, h1, h2, h3⟩ := Cond.arrayClass_spec h
  exact ⟨c, fun n z => ⟨fun q hq => (by cases hq), k, h2, comp, h3⟩, h1⟩
theorem law_arq {s : State} {C : String} {args : Array Value} (h : (Cond.arrayOver (.object C)).before args s = true) : ∃ c, ArrOfT s c (.object C) ∧ va_RA s c (.object C) := by
  obtain ⟨comp, c, k, h1, h2, h3, h4, h5⟩ := Cond.arrayOver_spec h
  exact ⟨c, fun n z => ⟨fun q hq => (by cases hq), k, h3, comp, h4⟩, k, comp, h3, h4, h1, h5⟩
theorem law_ara {s : State} {ty : FieldType} {args : Array Value} (h : (Cond.arrayOver (.array ty)).before args s = true) : ∃ c, ArrOfT s c (.array ty) ∧ s.vm.findClass ("[" ++ (FieldType.array ty).toString) = some c := by
  obtain ⟨comp, c, k, h1, h3, h4, h5⟩ := Cond.arrayOver_specA h
  exact ⟨c, fun n z => ⟨fun q hq => (by cases hq), k, h3, comp, h4⟩, h5⟩
abbrev lTm (i : Nat) : Term := .string "ChangerFair$CustomReader" (sIx.getD i 0)
abbrev lFl : List Cond := flatC (Jvm.Cond.and given_1 narrow_1)
set_option maxRecDepth 100000 in
theorem lS1 : ∀ i, i < 9 → Cond.exactly (lTm i) "java/lang/String" ∈ lFl := by decide +kernel
set_option maxRecDepth 100000 in
theorem lS2 : ∀ i, i < 9 → Cond.eq (.field (lTm i) "java/lang/String" "coder" "B") (.int 0) ∈ lFl := by decide +kernel
set_option maxRecDepth 100000 in
theorem lS3 : ∀ i, i < 9 → Cond.arrayOf (.field (lTm i) "java/lang/String" "value" "[B") .byte ∈ lFl := by decide +kernel
set_option maxRecDepth 100000 in
theorem lS4 : ∀ i, i < 9 → Cond.eq (.length (.field (lTm i) "java/lang/String" "value" "[B")) (.int (Int32.ofNat (sLen.getD i 0))) ∈ lFl := by decide +kernel
set_option maxRecDepth 100000 in
theorem lS5 : ∀ i, i < 9 → ∀ j, j < sLen.getD i 0 → Cond.eq (.elem (.field (lTm i) "java/lang/String" "value" "[B") (.int (Int32.ofNat j))) (.int ((sByt.getD i []).getD j 0)) ∈ lFl := by decide +kernel
set_option maxRecDepth 100000 in
theorem lS6 : ∀ i, i < 9 → ∀ j, j < 9 → i < j → Cond.not (Cond.eq (lTm i) (lTm j)) ∈ lFl := by decide +kernel
set_option maxRecDepth 100000 in
theorem lS7 : ∀ i, i < 9 → Cond.stringRef "ChangerFair$CustomReader" (sIx.getD i 0) (sTx.getD i "") ∈ lw_tbl := by decide +kernel
set_option maxHeartbeats 4000000 in
set_option maxRecDepth 100000 in
/-- the Strings and statics that the Statement gives -/
theorem law_S {s : State} {b : Nat} (hts : ∀ w ∈ lw_tbl, w.before #[Value.ref b] s = true) (hgv : (Jvm.Cond.and given_1 narrow_1).before #[Value.ref b] s = true) : ∃ adK adV : Nat → Nat, sE adK adV (fun q : Nat => s.heap.size ≤ q) s s.heap := by
  have hs : ∀ c ∈ lFl, c.before #[Value.ref b] s = true := flat_of_before _ hgv
  have hA : ∀ a : Nat, a < s.heap.size → ¬ (s.heap.size ≤ a) := fun a h => Nat.not_le.mpr h
  obtain ⟨adK, adV, h1, h2⟩ := vk_Sof (args := #[Value.ref b]) (s := s) (N := 9) (tm := lTm) (len := sLen) (byt := sByt) (A := fun q : Nat => s.heap.size ≤ q) (by decide +kernel) (fun i hi => hs _ (lS1 i hi)) (fun i hi => hs _ (lS2 i hi)) (fun i hi => hs _ (lS3 i hi)) (fun i hi => hs _ (lS4 i hi)) (fun i hi j hj => hs _ (lS5 i hi j hj)) (fun i j hi hj hne => by
    rcases Nat.lt_or_gt_of_ne hne with h | h
    · exact Or.inl (hs _ (lS6 i hi j hj h))
    · exact Or.inr (hs _ (lS6 j hj i hi h))) hA
  exact ⟨adK, adV, h1, fun i hi => vk_R.of (hts _ (lS7 i hi)) (h2 i hi), va_Zof (hts (.laysStatic "java/lang/String" "COMPACT_STRINGS" "Z") (by decide +kernel)) (hts (.initialized "java/lang/String") (by decide +kernel)) (va_eqt (hs (.eq (.static "java/lang/String" "COMPACT_STRINGS" "Z") (.int 1)) (by decide +kernel))) hA, va_Zqof (hts (.laysStatic "jdk/internal/util/Preconditions" "SIOOBE_FORMATTER" "Ljava/util/function/BiFunction;") (by decide +kernel)) (hts (.initialized "jdk/internal/util/Preconditions") (by decide +kernel)) (hs (.isRef (.static "jdk/internal/util/Preconditions" "SIOOBE_FORMATTER" "Ljava/util/function/BiFunction;")) (by decide +kernel)) hA⟩
set_option maxHeartbeats 4000000 in
set_option maxRecDepth 100000 in
/-- the law's walk out of the judgement -/
theorem law_G {p : Program} {e : Env} {s : State} {m : MethodId} {below : List Frame} {meth : Method} {c : Code} (l : Launch) {b L : Nat} {xs : Nat → Int32} (C0 : lw_At p s m meth c b L xs)
    (body : ∀ (Γ : gT) (D : va_G) (cy : Nat → ClassId) (adK adV : Nat → Nat), Γ.2.1 = l → E0 (gSt Γ) → sAt (sE adK adV) Γ → va_X b L xs (gSt Γ) (gHp Γ) → b < (gHp Γ).size → ¬ gAp Γ b → G Γ room_1 code RL wsL_law 4 D clx (tyx cy) 600000 7302250 (fun v _ => v = some (.int 1)) 0 0 [] 0 [(0, .ref b)] []) :
    W p l e room_1 s m #[Value.ref b] below meth c s.heap [] 0 0 (lw_Z below #[Value.ref b] s) (entryFrame m ([Value.ref b] : List Value).toArray 4) := by
  obtain ⟨hx, hb, hr, hml, hown, hts, hX, hbl, hlocks, hgv⟩ := id C0
  have htw : ∀ w ∈ wsL_law, w.before #[Value.ref b] s = true := fun w h => hts w (wsL_law_in w h)
  obtain ⟨c0, i0, hk0⟩ := u_known (C := RX0) (T := TX0) (N := 10) (n := 10) htw inlX0 (hts (.instantiable RX0 10) (by decide +kernel))
  obtain ⟨c1, i1, hk1⟩ := u_known (C := RX1) (T := TX1) (N := 2) (n := 2) htw inlX1 (hts (.instantiable RX1 2) (by decide +kernel))
  obtain ⟨c2, i2, hk2⟩ := u_known (C := RX2) (T := TX2) (N := 6) (n := 6) htw inlX2 (hts (.instantiable RX2 6) (by decide +kernel))
  obtain ⟨c3, i3, hk3⟩ := u_known (C := RX3) (T := TX3) (N := 7) (n := 7) htw inlX3 (hts (.instantiable RX3 7) (by decide +kernel))
  obtain ⟨c4, i4, hk4⟩ := u_known (C := RX4) (T := TX4) (N := 2) (n := 2) htw inlX4 (hts (.instantiable RX4 2) (by decide +kernel))
  obtain ⟨c5, i5, hk5⟩ := u_known (C := RX5) (T := TX5) (N := 11) (n := 11) htw inlX5 (hts (.instantiable RX5 11) (by decide +kernel))
  obtain ⟨c6, i6, hk6⟩ := u_known (C := RX6) (T := TX6) (N := 2) (n := 2) htw inlX6 (hts (.instantiable RX6 2) (by decide +kernel))
  obtain ⟨c7, i7, hk7⟩ := u_known (C := RX7) (T := TX7) (N := 3) (n := 3) htw inlX7 (hts (.instantiable RX7 3) (by decide +kernel))
  obtain ⟨c8, i8, hk8⟩ := u_known (C := RX8) (T := TX8) (N := 18) (n := 18) htw inlX8 (hts (.instantiable RX8 18) (by decide +kernel))
  obtain ⟨c9, i9, hk9⟩ := u_known (C := RX9) (T := TX9) (N := 55) (n := 55) htw inlX9 (hts (.instantiable RX9 55) (by decide +kernel))
  obtain ⟨dC, dI, hKc⟩ : ∃ (dC : Nat → ClassId) (dI : Nat → Nat → Nat), ∀ (k : Nat) (q : vw_C), clx[k]? = some q → u_Kn s q.1 q.2.1 q.2.2 (dC k) (dI k) := by
    refine ⟨fun k => if k = 0 then c0 else if k = 1 then c1 else if k = 2 then c2 else if k = 3 then c3 else if k = 4 then c4 else if k = 5 then c5 else if k = 6 then c6 else if k = 7 then c7 else if k = 8 then c8 else c9, fun k => if k = 0 then i0 else if k = 1 then i1 else if k = 2 then i2 else if k = 3 then i3 else if k = 4 then i4 else if k = 5 then i5 else if k = 6 then i6 else if k = 7 then i7 else if k = 8 then i8 else i9, ?_⟩
    intro k q hq
    match k, hq with
    | 0, hq => cases hq; exact hk0
    | 1, hq => cases hq; exact hk1
    | 2, hq => cases hq; exact hk2
    | 3, hq => cases hq; exact hk3
    | 4, hq => cases hq; exact hk4
    | 5, hq => cases hq; exact hk5
    | 6, hq => cases hq; exact hk6
    | 7, hq => cases hq; exact hk7
    | 8, hq => cases hq; exact hk8
    | 9, hq => cases hq; exact hk9
    | k + 10, hq => simp [clx] at hq
  obtain ⟨a0, g0, f0⟩ := law_arr (hts (.arrayClass .int) (by decide +kernel))
  obtain ⟨a1, g1, f1⟩ := law_arr (hts (.arrayClass .long) (by decide +kernel))
  obtain ⟨a2, g2, f2⟩ := law_arr (hts (.arrayClass .boolean) (by decide +kernel))
  obtain ⟨a3, g3, f3⟩ := law_arq (hts (.arrayOver (.object "ChangerFair$Bill")) (by decide +kernel))
  obtain ⟨a4, g4, f4⟩ := law_ara (hts (.arrayOver (.array .int)) (by decide +kernel))
  obtain ⟨a5, g5, f5⟩ := law_ara (hts (.arrayOver (.array .long)) (by decide +kernel))
  have hK : va_K (dC, dI) clx (tyx (fun k => if k = 0 then a0 else if k = 1 then a1 else if k = 2 then a2 else if k = 3 then a3 else if k = 4 then a4 else a5)) s := by
    refine ⟨hKc, fun k q hq => ?_⟩
    match k, hq with
    | 0, hq => cases hq; exact ⟨g0, f0⟩
    | 1, hq => cases hq; exact ⟨g1, f1⟩
    | 2, hq => cases hq; exact ⟨g2, f2⟩
    | 3, hq => cases hq; exact ⟨g3, f3⟩
    | 4, hq => cases hq; exact ⟨g4, f4⟩
    | 5, hq => cases hq; exact ⟨g5, f5⟩
    | k + 6, hq => simp [tyx] at hq
  have hP : va_P (dC, dI) clx [] s.heap := fun k q h => by simp at h
  have hD : va_D (fun q : Nat => s.heap.size ≤ q) [] := ⟨fun i j p q h => by simp at h, fun k q h => by simp at h⟩
  have hl := lv_entry ([.ref b]) (n := 4) (Nat.le_of_ble_eq_true rfl)
  have hE : E0 s := ⟨hts (.arrayOver (.object "ChangerFair$Bill")) (by decide +kernel), hts (.arrayOver (.array .int)) (by decide +kernel), hts (.arrayOver (.array .long)) (by decide +kernel), va_Nw.of rfl (hts (.methodLinkNest RX8 34 yX3_init "ChangerFair") (by decide +kernel)), va_Nw.of rfl (hts (.methodLinkNest RX8 41 yX1_init "ChangerFair") (by decide +kernel)), va_Nw.of rfl (hts (.methodLinkNest RX8 48 yX5_init "ChangerFair") (by decide +kernel)), va_Nw.of rfl (hts (.methodLinkNest RX8 55 yX6_init "ChangerFair") (by decide +kernel)), va_Nw.of rfl (hts (.methodLinkNest RX8 62 yX7_init "ChangerFair") (by decide +kernel)), va_Nw.of rfl (hts (.methodLinkNest RX8 69 yX4_init "ChangerFair") (by decide +kernel)), va_Nw.of rfl (hts (.methodLinkNest RX8 76 yX2_init "ChangerFair") (by decide +kernel))⟩
  rw [lg_entry_eq]
  obtain ⟨adK, adV, hSE⟩ := law_S hts hgv
  have key := body (p, l, e, s, m, #[Value.ref b], below, meth, c, lw_Z below #[Value.ref b] s, fun q : Nat => s.heap.size ≤ q, s.heap) (dC, dI) (fun k => if k = 0 then a0 else if k = 1 then a1 else if k = 2 then a2 else if k = 3 then a3 else if k = 4 then a4 else a5) adK adV rfl hE ⟨hSE, rfl⟩ hX hbl (Nat.not_le.mpr hbl)
  refine key ⟨hx, hb, hml, hown, htw, hK, fun _ h => h, Or.inr trivial, ?_⟩ s.heap [] _ ⟨hP, hD, va_S.rf⟩ hl
  intro v ws H locs ls pc hp hP1 hD1 hS1 hrv
  subst hp
  exact va_forget (fun q hq => hS1.2.2 q hq) (lw_ret hx hb hr hlocks hrv)
