section GL3
variable {Γ : gT} {R : Room} {cc : ByteArray} {own : String} {Ts : List Cond} {nL : Nat} {D : va_G} {cl : List vw_C} {tys : List (ClassId × FieldType)} {mc ms : Nat} {post : Option Value → va_W → Prop} {k n : Nat} {ws : va_W} {pc : Nat} {lv : List (Nat × Value)} {st : List Value}
abbrev gSt (Γ : gT) : State := Γ.2.2.2.1
abbrev gMe (Γ : gT) : Method := Γ.2.2.2.2.2.2.2.1
def va_AOA (ty : FieldType) (U : State) : Prop := (Cond.arrayOver (.array ty)).before #[] U = true
theorem va_AOA.of {ty : FieldType} {A : Array Value} {U : State} (h : (Cond.arrayOver (.array ty)).before A U = true) : va_AOA ty U := h
theorem va_AOA.use {ty : FieldType} {A : Array Value} {U : State} (h : va_AOA ty U) : (Cond.arrayOver (.array ty)).before A U = true := h
theorem va_AOA.moved {ty : FieldType} {u U : State} (hvm : u.vm.Alike U.vm) (h : va_AOA ty u) : va_AOA ty U := by
  have h2 : (Cond.arrayOver (.array ty)).before #[] (u.setVm U.vm) = true := by rw [Cond.arrayOver_setVmC hvm]; exact h
  exact h2
theorem va_AO.warm {C : String} {s U : State} (hW : s.WarmedH U.vm) (hZ : va_AO C s) : va_AO C U := va_AO.moved hW.alike hZ
end GL3
/-! ===== BEGIN new T[n][m]: the outer array a place, the inner ones among the pooled ===== -/
/-- f, but v at every address of l -/
def vr_up {α : Type} (f : Nat → α) (l : List Nat) (v : α) : Nat → α := fun a => if a ∈ l then v else f a
theorem vr_up_in {α : Type} {f : Nat → α} {l : List Nat} {v : α} {a : Nat} (h : a ∈ l) : vr_up f l v a = v := if_pos h
theorem vr_up_ne {α : Type} {f : Nat → α} {l : List Nat} {v : α} {a : Nat} (h : a ∉ l) : vr_up f l v a = f a := if_neg h
theorem vr_rows {L l : List Nat} {f : Nat → va_E} {e : va_E} (h : ∀ a, a ∈ l → a ∉ L) : va_pl L f ++ l.map (fun a => (a, e)) = va_pl (L ++ l) (vr_up f l e) := by
  unfold va_pl
  rw [List.map_append]
  congr 1
  · apply List.map_congr_left
    intro a ha
    rw [vr_up_ne (fun q => h a q ha)]
  · apply List.map_congr_left
    intro a ha
    rw [vr_up_in ha]
theorem vr_lay {X rows : va_W} {x : Nat × va_E} {pl : va_W} {D : va_G} {cl : List vw_C} {H : Heap} (hP : va_P D cl (((X ++ pl) ++ [x]) ++ rows) H) : va_P D cl ((X ++ [x]) ++ (pl ++ rows)) H := by
  rw [List.append_assoc (X ++ pl)] at hP
  have h := va_P.swap hP
  rw [← List.append_assoc X] at h
  have h2 := va_P.swap h
  rw [List.append_assoc (X ++ [x])] at h2
  exact h2
theorem vr_layD {X rows : va_W} {x : Nat × va_E} {pl : va_W} {A : Nat → Prop} (hD : va_D A (((X ++ pl) ++ [x]) ++ rows)) : va_D A ((X ++ [x]) ++ (pl ++ rows)) := by
  rw [List.append_assoc (X ++ pl)] at hD
  have h := va_D.swap hD
  rw [← List.append_assoc X] at h
  have h2 := va_D.swap h
  rw [List.append_assoc (X ++ [x])] at h2
  exact h2
theorem vr_outer (c : ClassId) (N h0 : Nat) : ∀ i : Nat, Jvm.Free.Multi.outerC c N h0 i = arrV c N (fun j => va_rf (if j < i then some (h0 + 1 + j) else none))
  | 0 => by
    show ({ cls := c, slots := Array.replicate N .null, vm := .none } : Cell) = _
    rw [arrV_new]
    refine congrArg (arrV c N) (funext fun j => ?_)
    simp [va_rf]
  | i + 1 => by
    show (Jvm.Free.Multi.outerC c N h0 i).setSlot i (.ref (h0 + 1 + i)) = _
    rw [vr_outer c N h0 i, arrV_store]
    refine congrArg (arrV c N) (funext fun j => ?_)
    by_cases e : j = i
    · subst e
      simp [updV, va_rf]
    · by_cases h : j < i
      · simp [updV, e, h, Nat.lt_succ_of_lt h]
      · simp [updV, e, h, show ¬ j < i + 1 by omega]
section VGM
variable {p : Program} {l : Launch} {e : Env} {R : Room} {s : State} {m : MethodId} {args : Array Value} {below : List Frame} {meth : Method} {c : Code} {H : Heap} {locs : List Loc} {cells slots : Nat} {Q : State → Prop}
variable {cc : ByteArray} {pc : Nat} {ls : Array Slot} {rest : List Value} {D : va_G} {cl : List vw_C} {A : Nat → Prop} {a : Nat} {tys : List (ClassId × FieldType)} {ws : va_W} {H0 : Heap}
theorem va_mna {X : va_W} {L : List Nat} {f : Nat → va_E} {cc : ByteArray} (hexec : p.tables.exec = Jvm.exec) (hb : c.code = cc) {own : String} {index : Nat} {ty : FieldType} {cy : ClassId} (hown : s.vm.findClass own = some m.cls) (hclink : (Cond.classLink own index ("[" ++ (FieldType.array ty).toString)).before args s = true) (hover : va_AOA ty s) (harr : (Cond.arrayClass ty).before args s = true) (hcy : s.vm.findClass (FieldType.array ty).toString = some cy)
    (hK : va_K D cl tys s) (hP : va_P D cl (X ++ va_pl L f) H) (hD : va_D A (X ++ va_pl L f)) (hS : va_S A H0 H locs) (hA : ∀ q, H0.size ≤ q → A q) {n k : Int32} {N' K' : Nat} {z : vp_A} (hn : ¬ n < 0) (hk : ¬ k < 0) (hN : n.toNatClampNeg = N') (hM : k.toNatClampNeg = K')
    (hb1 : N' * 4 ≤ 536870912) (hb2 : K' * componentBytes ty ≤ 536870912) (hb3 : K' ≤ 536870912) (hdf : fits ty (defaultValue ty) = true) (hdd : (defaultValue ty).isDefault = true) (hcells : cells + (1 + N') ≤ R.cells) (hslots : slots + (N' + N' * K') ≤ R.slots) (hz : ∀ c : ClassId, Jvm.Free.Multi.innerC c K' (defaultValue ty) = vp_cell c z) (hdg : decode cc pc = .ok (.multianewarray index 2, 4))
    (kk : ∀ (q : Nat) (r : Nat → Nat) (cA : ClassId) (H1 : Heap), (∀ i j : Nat, i < N' → j < N' → r i = r j → i = j) → (∀ i : Nat, i < N' → r i ∉ L) → va_K D cl (tys ++ [(cA, .array ty)]) s →
      va_P D cl ((X ++ [(q, .inl (cA, N', .inr (.inr (.inr (.inr (fun i => if i < N' then some (r i) else none))))))]) ++ va_pl (L ++ (List.range N').map r) (vr_up f ((List.range N').map r) (.inl (cy, z)))) H1 → va_D A ((X ++ [(q, .inl (cA, N', .inr (.inr (.inr (.inr (fun i => if i < N' then some (r i) else none))))))]) ++ va_pl (L ++ (List.range N').map r) (vr_up f ((List.range N').map r) (.inl (cy, z)))) → va_S A H0 H1 locs →
      W p l e R s m args below meth c H1 locs (cells + 1 + N') (slots + N' + N' * K') Q (F0 m (pc + 4) ls (.ref q :: rest))) : W p l e R s m args below meth c H locs cells slots Q (F0 m pc ls (.int k :: .int n :: rest)) := by
  subst hN
  subst hM
  intro T hT Xs
  obtain ⟨vm₁, cA, comp, -, fA, fC, hO, -, X', step⟩ := Xs.multianewarray2F hexec hown hclink (va_AOA.use hover) harr (g := F0 m pc ls (.int k :: .int n :: rest)) rfl (by rw [hb]; exact hdg) rfl hn hk hb1 hb2 hb3 hdf hdd hcells hslots
  have ec : some cy = some comp := hcy.symm.trans fC
  cases ec
  generalize hF : Jvm.Free.Multi.fill (T.setVm vm₁) cA cy n.toNatClampNeg k.toNatClampNeg (defaultValue ty) n.toNatClampNeg = F at X' step
  have hTh : (T.setVm vm₁).heap = H := hT
  obtain ⟨f1, f2, -, -⟩ := Jvm.Free.Multi.fill_facts (T.setVm vm₁) cA cy n.toNatClampNeg k.toNatClampNeg (defaultValue ty) n.toNatClampNeg
  rw [hF, hTh] at f1 f2
  have hold : ∀ x : Nat, x < H.size → F.heap[x]? = H[x]? := fun x hx => by
    have := Jvm.Free.Multi.fill_old (T.setVm vm₁) cA cy n.toNatClampNeg k.toNatClampNeg (defaultValue ty) (a := x) (by rw [hTh]; exact hx) n.toNatClampNeg
    rw [hF, hTh] at this
    exact this
  have hrow : ∀ j : Nat, j < n.toNatClampNeg → F.heap[H.size + 1 + j]? = some (vp_cell cy z) := fun j hj => by
    have := Jvm.Free.Multi.fill_inner (T.setVm vm₁) cA cy n.toNatClampNeg k.toNatClampNeg (defaultValue ty) n.toNatClampNeg j hj
    rw [hF, hTh, hz] at this
    exact this
  have hout : Jvm.Free.Multi.outerC cA n.toNatClampNeg H.size n.toNatClampNeg = vp_cell cA (n.toNatClampNeg, .inr (.inr (.inr (.inr (fun i => if i < n.toNatClampNeg then some (H.size + 1 + i) else none))))) := by
    rw [vp_cell_q]
    exact vr_outer cA n.toNatClampNeg H.size n.toNatClampNeg
  rw [hout] at f2
  have hlt : ∀ a, a ∈ L → a < H.size := fun a ha => by
    obtain ⟨k9, hk9⟩ := va_pl_get (X := X) (f := f) ha
    exact (hP k9 _ hk9).lt
  have hnl : ∀ i : Nat, i < n.toNatClampNeg → H.size + 1 + i ∉ L := fun i _ h => by
    have := hlt _ h
    omega
  have hnm : ∀ a, a ∈ (List.range n.toNatClampNeg).map (fun i => H.size + 1 + i) → a ∉ L := fun a ha h => by
    obtain ⟨i, -, rfl⟩ := List.mem_map.mp ha
    have := hlt _ h
    omega
  have hP0 : va_P D cl (X ++ va_pl L f) F.heap := hP.kept (fun k9 x hx => hold x.1 ((hP k9 x hx).lt))
  have hP1 : va_P D cl ((X ++ va_pl L f) ++ [(H.size, .inl (cA, n.toNatClampNeg, .inr (.inr (.inr (.inr (fun i => if i < n.toNatClampNeg then some (H.size + 1 + i) else none))))))]) F.heap := hP0.app (fun k9 x hx => by
    have h0 : k9 < 1 := (List.getElem?_eq_some_iff.mp hx).1
    rw [show k9 = 0 by omega] at hx
    cases hx
    exact f2)
  have hP2 : va_P D cl (((X ++ va_pl L f) ++ [(H.size, .inl (cA, n.toNatClampNeg, .inr (.inr (.inr (.inr (fun i => if i < n.toNatClampNeg then some (H.size + 1 + i) else none))))))]) ++ ((List.range n.toNatClampNeg).map (fun i => H.size + 1 + i)).map (fun a => (a, .inl (cy, z)))) F.heap := hP1.app (fun k9 x hx => by
    obtain ⟨a, ha, rfl⟩ := List.mem_map.mp (List.mem_of_getElem? hx)
    obtain ⟨i, hi, rfl⟩ := List.mem_map.mp ha
    exact hrow i (List.mem_range.mp hi))
  have hD2 : va_D A (((X ++ va_pl L f) ++ [(H.size, .inl (cA, n.toNatClampNeg, .inr (.inr (.inr (.inr (fun i => if i < n.toNatClampNeg then some (H.size + 1 + i) else none))))))]) ++ ((List.range n.toNatClampNeg).map (fun i => H.size + 1 + i)).map (fun a => (a, .inl (cy, z)))) := by
    have hD1 := hD.push (e := .inl (cA, n.toNatClampNeg, .inr (.inr (.inr (.inr (fun i => if i < n.toNatClampNeg then some (H.size + 1 + i) else none)))))) hP rfl (hA _ hS.1)
    generalize hW1 : (X ++ va_pl L f) ++ [(H.size, .inl (cA, n.toNatClampNeg, .inr (.inr (.inr (.inr (fun i => if i < n.toNatClampNeg then some (H.size + 1 + i) else none))))))] = W1 at hD1 hP1 ⊢
    have hle : ∀ (k9 : Nat) (x : Nat × va_E), W1[k9]? = some x → x.1 ≤ H.size := fun k9 x hx => by
      rw [← hW1] at hx
      by_cases hl : k9 < (X ++ va_pl L f).length
      · rw [List.getElem?_append_left hl] at hx
        exact Nat.le_of_lt ((hP k9 x hx).lt)
      · rw [List.getElem?_append_right (by omega)] at hx
        have h0 : k9 - (X ++ va_pl L f).length < 1 := (List.getElem?_eq_some_iff.mp hx).1
        rw [show k9 - (X ++ va_pl L f).length = 0 by omega] at hx
        cases hx
        exact Nat.le_refl _
    have hr : ∀ (k9 : Nat) (x : Nat × va_E), (((List.range n.toNatClampNeg).map (fun i => H.size + 1 + i)).map (fun a => ((a, .inl (cy, z)) : Nat × va_E)))[k9]? = some x → x.1 = H.size + 1 + k9 := fun k9 x hx => by
      rw [List.getElem?_map, List.getElem?_map] at hx
      by_cases h9 : k9 < n.toNatClampNeg
      · rw [List.getElem?_range h9] at hx
        cases hx
        rfl
      · have hn0 : (List.range n.toNatClampNeg)[k9]? = none := List.getElem?_eq_none (by rw [List.length_range]; omega)
        rw [hn0] at hx
        cases hx
    refine ⟨fun i j x y hi hj hxy => ?_, fun k9 x hx => ?_⟩
    · by_cases h1 : i < W1.length <;> by_cases h2 : j < W1.length
      · rw [List.getElem?_append_left h1] at hi
        rw [List.getElem?_append_left h2] at hj
        exact hD1.1 i j x y hi hj hxy
      · rw [List.getElem?_append_left h1] at hi
        rw [List.getElem?_append_right (by omega)] at hj
        have := hle _ _ hi
        have := hr _ _ hj
        omega
      · rw [List.getElem?_append_right (by omega)] at hi
        rw [List.getElem?_append_left h2] at hj
        have := hle _ _ hj
        have := hr _ _ hi
        omega
      · rw [List.getElem?_append_right (by omega)] at hi hj
        have := hr _ _ hi
        have := hr _ _ hj
        omega
    · by_cases h1 : k9 < W1.length
      · rw [List.getElem?_append_left h1] at hx
        exact hD1.2 k9 x hx
      · rw [List.getElem?_append_right (by omega)] at hx
        have := hr _ _ hx
        exact hA _ (by have := hS.1; omega)
  have hAr : ArrOfT s cA (.array ty) := fun N9 z9 => by
    obtain ⟨-, k9, hk9, cm9, hkk9⟩ := (hO 0 0 0).1
    exact ⟨(fun q hq => by cases hq), k9, hk9, cm9, hkk9⟩
  have hK2 : va_K D cl (tys ++ [(cA, .array ty)]) s := ⟨hK.1, fun k9 x hx => by
    by_cases hl : k9 < tys.length
    · rw [List.getElem?_append_left hl] at hx
      exact hK.2 k9 x hx
    · rw [List.getElem?_append_right (by omega)] at hx
      have h0 : k9 - tys.length < 1 := (List.getElem?_eq_some_iff.mp hx).1
      rw [show k9 - tys.length = 0 by omega] at hx
      cases hx
      exact ⟨hAr, fA⟩⟩
  obtain ⟨t, a1, b1⟩ := kk H.size (fun i => H.size + 1 + i) cA F.heap (fun i j _ _ h => by have h9 : H.size + 1 + i = H.size + 1 + j := h; omega) hnl hK2 (by rw [← vr_rows hnm]; exact vr_lay hP2) (by rw [← vr_rows hnm]; exact vr_layD hD2) ⟨by rw [f1]; have := hS.1; omega, fun x h1 h2 => (hold x (Nat.lt_of_lt_of_le h1 hS.1)).trans (hS.2.1 x h1 h2), hS.2.2⟩ F rfl X'
  refine ⟨t, step t ?_, b1⟩
  have e : T.heap.size = H.size := by rw [hT]
  rw [e]
  exact a1
end VGM
section GL3
variable {Γ : gT} {R : Room} {cc : ByteArray} {own : String} {Ts : List Cond} {nL : Nat} {D : va_G} {cl : List vw_C} {tys : List (ClassId × FieldType)} {mc ms : Nat} {post : Option Value → va_W → Prop} {k n : Nat} {ws : va_W} {pc : Nat} {lv : List (Nat × Value)} {st : List Value}
theorem g_aald {a : Nat} {cA : ClassId} {N : Nat} {f : Nat → Option Nat} {i : Int32} {ty : FieldType} (q0 t0 : Nat) (hty : ty.isReference = true) (hd : decode cc pc = .ok (.aaload, 1)) (ha : ws[q0]? = some (a, .inl (cA, N, .inr (.inr (.inr (.inr f)))))) (ht : tys[t0]? = some (cA, ty)) (hi : vp_in i N) (kk : G Γ R cc own Ts nL D cl tys mc ms post k n ws (pc + 1) lv (va_rf (f i.toNatClampNeg) :: st)) : G Γ R cc own Ts nL D cl tys mc ms post k n ws pc lv (.int i :: .ref a :: st) := by
  intro hok H locs ls hS hl
  have h9 := kk hok H locs ls hS hl
  obtain ⟨p, l, e, s, m, args, below, meth, c, Q, A, H0⟩ := Γ
  obtain ⟨hx, hb, hml, hown, hts, hK, hA, hin, hret⟩ := hok
  have hlt : i.toNatClampNeg < N := Nat.not_le.mp fun q => hi (Or.inr q)
  exact W.aald (v := va_rf (f i.toNatClampNeg)) (ty := ty) hx hb (hS.1 q0 _ ha) ((hK.2 t0 _ ht).1 N (fun j => va_rf (f j))) hty (fun q => by cases q) (by show ¬ (i < 0 ∨ (arrV _ _ _).slots.size ≤ _); rw [arrV_size]; exact hi) (by show (arrV _ _ _).slots[_]? = _; rw [arrV_read _ _ hlt]) rfl rfl hd h9
theorem g_astq {a : Nat} {cA : ClassId} {r : vw_C} {N v ci : Nat} {vs : List Value} {f : Nat → Option Nat} {i : Int32} (q0 t0 qk : Nat) (ws2 : va_W) (hd : decode cc pc = .ok (.aastore, 1)) (ha : ws[q0]? = some (a, .inl (cA, N, .inr (.inr (.inr (.inr f)))))) (ht : tys[t0]? = some (cA, .object r.1)) (hv : ws[qk]? = some (v, .inr (ci, vs))) (hc : cl[ci]? = some r) (hi : vp_in i N) (hws : ws.set q0 (a, .inl (cA, N, .inr (.inr (.inr (.inr (va_up f i.toNatClampNeg (some v))))))) = ws2) (kk : G Γ R cc own Ts nL D cl tys mc ms post k n ws2 (pc + 1) lv st) : G Γ R cc own Ts nL D cl tys mc ms post k n ws pc lv (.ref v :: .int i :: .ref a :: st) := by
  intro hok H locs ls hS hl
  subst hws
  have h9 := fun H1 locs1 hS1 => kk hok H1 locs1 ls hS1 hl
  obtain ⟨p, l, e, s, m, args, below, meth, c, Q, A, H0⟩ := Γ
  obtain ⟨hx, hb, hml, hown, hts, hK, hA, hin, hret⟩ := hok
  exact va_astq hx hb hK hS.1 hS.2.1 hS.2.2 q0 t0 qk ci ha ht hv hc hi hd (fun H1 locs1 h1 h2 h3 => h9 H1 locs1 ⟨h1, h2, h3⟩)
theorem g_ifnull {x : Nat} {off : Int} (hd : decode cc pc = .ok (.ifnull off, 3)) (kk : G Γ R cc own Ts nL D cl tys mc ms post k n ws (pc + 3) lv st) : G Γ R cc own Ts nL D cl tys mc ms post k n ws pc lv (.ref x :: st) := by
  intro hok H locs ls hS hl
  have h9 := kk hok H locs ls hS hl
  obtain ⟨p, l, e, s, m, args, below, meth, c, Q, A, H0⟩ := Γ
  obtain ⟨hx, hb, hml, hown, hts, hK, hA, hin, hret⟩ := hok
  exact lv_ifnull hx hb hd h9
theorem g_ifnullN {off : Int} (tgt : Nat) (hd : decode cc pc = .ok (.ifnull off, 3)) (ht : (pc : Int) + off = (tgt : Int)) (kk : G Γ R cc own Ts nL D cl tys mc ms post k n ws tgt lv st) : G Γ R cc own Ts nL D cl tys mc ms post k n ws pc lv (.null :: st) := by
  intro hok H locs ls hS hl
  have h9 := kk hok H locs ls hS hl
  obtain ⟨p, l, e, s, m, args, below, meth, c, Q, A, H0⟩ := Γ
  obtain ⟨hx, hb, hml, hown, hts, hK, hA, hin, hret⟩ := hok
  exact lv_ifnullN hx hb hd ht h9
theorem g_ifnonnull {x : Nat} {off : Int} (tgt : Nat) (hd : decode cc pc = .ok (.ifnonnull off, 3)) (ht : (pc : Int) + off = (tgt : Int)) (kk : G Γ R cc own Ts nL D cl tys mc ms post k n ws tgt lv st) : G Γ R cc own Ts nL D cl tys mc ms post k n ws pc lv (.ref x :: st) := by
  intro hok H locs ls hS hl
  have h9 := kk hok H locs ls hS hl
  obtain ⟨p, l, e, s, m, args, below, meth, c, Q, A, H0⟩ := Γ
  obtain ⟨hx, hb, hml, hown, hts, hK, hA, hin, hret⟩ := hok
  exact lv_ifnonnull hx hb hd ht h9
theorem g_ifnonnullN {off : Int} (hd : decode cc pc = .ok (.ifnonnull off, 3)) (kk : G Γ R cc own Ts nL D cl tys mc ms post k n ws (pc + 3) lv st) : G Γ R cc own Ts nL D cl tys mc ms post k n ws pc lv (.null :: st) := by
  intro hok H locs ls hS hl
  have h9 := kk hok H locs ls hS hl
  obtain ⟨p, l, e, s, m, args, below, meth, c, Q, A, H0⟩ := Γ
  obtain ⟨hx, hb, hml, hown, hts, hK, hA, hin, hret⟩ := hok
  exact lv_ifnonnullN hx hb hd h9
theorem g_aload_nN {j : Fin 4} {i : Nat} (hd : decode cc pc = .ok (.aload_n j, 1)) (hi : (j : Nat) = i) (hq : lv.lookup i = some .null) (kk : G Γ R cc own Ts nL D cl tys mc ms post k n ws (pc + 1) lv (.null :: st)) : G Γ R cc own Ts nL D cl tys mc ms post k n ws pc lv st := by
  intro hok H locs ls hS hl
  have h9 := kk hok H locs ls hS hl
  obtain ⟨p, l, e, s, m, args, below, meth, c, Q, A, H0⟩ := Γ
  obtain ⟨hx, hb, hml, hown, hts, hK, hA, hin, hret⟩ := hok
  exact lv_aload_nN hx hb hd hi (g_lk hl hq) h9
theorem g_astore_nN {j : Fin 4} {i : Nat} (hd : decode cc pc = .ok (.astore_n j, 1)) (hi : (j : Nat) = i) (hn : i < nL) (kk : G Γ R cc own Ts nL D cl tys mc ms post k n ws (pc + 1) (gset1 lv i .null) st) : G Γ R cc own Ts nL D cl tys mc ms post k n ws pc lv (.null :: st) := by
  intro hok H locs ls hS hl
  have h9 := fun ls2 hl2 => kk hok H locs ls2 hS hl2
  obtain ⟨p, l, e, s, m, args, below, meth, c, Q, A, H0⟩ := Γ
  obtain ⟨hx, hb, hml, hown, hts, hK, hA, hin, hret⟩ := hok
  exact lv_astore_nN hx hb hd hi hl hn rfl (fun ls2 hl2 => h9 ls2 hl2)
theorem g_mmaxL {x y : Int64} {ix : Nat} (hlink : Cond.methodLink own ix Lib.MathLoose.max_long.x ∈ Ts) (hstat : Cond.static Lib.MathLoose.max_long.x ∈ Ts) (hini : Cond.initialized "java/lang/Math" ∈ Ts) (hcode : Cond.code Lib.MathLoose.max_long.x Lib.MathLoose.max_long.code 4 (some .long) ∈ Ts) (hfr : 1 ≤ R.frames) (hlo : (st.map fun v => v.category).sum + 15 ≤ R.locals) (hc : k ≤ R.cells) (hs2 : n ≤ R.slots) (hd : decode cc pc = .ok (.invokestatic ix, 3)) (kk : G Γ R cc own Ts nL D cl tys mc ms post k n ws (pc + 3) lv (.long (if y < x then x else y) :: st)) : G Γ R cc own Ts nL D cl tys mc ms post k n ws pc lv (.long y :: .long x :: st) := by
  intro hok H locs ls hS hl
  have h9 := kk hok H locs ls hS hl
  obtain ⟨p, l, e, s, m, args, below, meth, c, Q, A, H0⟩ := Γ
  obtain ⟨hx, hb, hml, hown, hts, hK, hA, hin, hret⟩ := hok
  exact va_mmax_long hx hb (hml.trans hl.1.symm) hown (hts _ hlink) (hts _ hstat) (hts _ hini) (hts _ hcode) hfr hlo hc hs2 hd h9
theorem g_mmax {x y : Int32} {ix : Nat} (hlink : Cond.methodLink own ix Lib.Math.max.name ∈ Ts) (hstat : Cond.static Lib.Math.max.name ∈ Ts) (hini : Cond.initialized "java/lang/Math" ∈ Ts) (hcode : Cond.code Lib.Math.max.name Lib.Math.max.code 2 (some .int) ∈ Ts) (hfr : 1 ≤ R.frames) (hlo : (st.map fun v => v.category).sum + 13 ≤ R.locals) (hc : k ≤ R.cells) (hs2 : n ≤ R.slots) (hd : decode cc pc = .ok (.invokestatic ix, 3)) (kk : G Γ R cc own Ts nL D cl tys mc ms post k n ws (pc + 3) lv (.int (if x < y then y else x) :: st)) : G Γ R cc own Ts nL D cl tys mc ms post k n ws pc lv (.int y :: .int x :: st) := by
  intro hok H locs ls hS hl
  have h9 := kk hok H locs ls hS hl
  obtain ⟨p, l, e, s, m, args, below, meth, c, Q, A, H0⟩ := Γ
  obtain ⟨hx, hb, hml, hown, hts, hK, hA, hin, hret⟩ := hok
  exact va_mmax hx hb (hml.trans hl.1.symm) hown (hts _ hlink) (hts _ hstat) (hts _ hini) (hts _ hcode) hfr hlo hc hs2 hd h9
theorem g_mabsL {x : Int64} {ix : Nat} (hlink : Cond.methodLink own ix Lib.MathLoose.abs_long.x ∈ Ts) (hstat : Cond.static Lib.MathLoose.abs_long.x ∈ Ts) (hini : Cond.initialized "java/lang/Math" ∈ Ts) (hcode : Cond.code Lib.MathLoose.abs_long.x Lib.MathLoose.abs_long.code 2 (some .long) ∈ Ts) (hfr : 1 ≤ R.frames) (hlo : (st.map fun v => v.category).sum + 13 ≤ R.locals) (hc : k ≤ R.cells) (hs2 : n ≤ R.slots) (hd : decode cc pc = .ok (.invokestatic ix, 3)) (kk : G Γ R cc own Ts nL D cl tys mc ms post k n ws (pc + 3) lv (.long (if 0 < x then x else -x) :: st)) : G Γ R cc own Ts nL D cl tys mc ms post k n ws pc lv (.long x :: st) := by
  intro hok H locs ls hS hl
  have h9 := kk hok H locs ls hS hl
  obtain ⟨p, l, e, s, m, args, below, meth, c, Q, A, H0⟩ := Γ
  obtain ⟨hx, hb, hml, hown, hts, hK, hA, hin, hret⟩ := hok
  exact va_mabs_long hx hb (hml.trans hl.1.symm) hown (hts _ hlink) (hts _ hstat) (hts _ hini) (hts _ hcode) hfr hlo hc hs2 hd h9
theorem g_dNod {A : Nat → Prop} {w : va_W} : va_D A w ↔ (w.map Prod.fst).Nodup ∧ ∀ q ∈ w, A q.1 := by
  constructor
  · intro h
    refine ⟨?_, fun q hq => ?_⟩
    · rw [List.Nodup, List.pairwise_iff_getElem]
      intro i j hi hj hij e
      rw [List.length_map] at hi hj
      rw [List.getElem_map, List.getElem_map] at e
      have := h.1 i j w[i] w[j] (List.getElem?_eq_getElem hi) (List.getElem?_eq_getElem hj) e
      omega
    · obtain ⟨k, hk⟩ := List.getElem?_of_mem hq
      exact h.2 k q hk
  · intro h
    refine ⟨fun i j p q hi hj e => ?_, fun k q hk => h.2 q (List.mem_of_getElem? hk)⟩
    have h1 := h.1
    rw [List.Nodup, List.pairwise_iff_getElem] at h1
    obtain ⟨hi1, hi2⟩ := List.getElem?_eq_some_iff.mp hi
    obtain ⟨hj1, hj2⟩ := List.getElem?_eq_some_iff.mp hj
    rcases Nat.lt_trichotomy i j with hlt | heq | hgt
    · exact absurd (by rw [List.getElem_map, List.getElem_map, hi2, hj2]; exact e) (h1 i j (by rw [List.length_map]; exact hi1) (by rw [List.length_map]; exact hj1) hlt)
    · exact heq
    · exact absurd (by rw [List.getElem_map, List.getElem_map, hi2, hj2]; exact e.symm) (h1 j i (by rw [List.length_map]; exact hj1) (by rw [List.length_map]; exact hi1) hgt)
theorem g_pD {A : Nat → Prop} {w w2 : va_W} (hp : w2.Perm w) (h : va_D A w) : va_D A w2 := by
  rw [g_dNod] at h ⊢
  exact ⟨(hp.map Prod.fst).nodup_iff.mpr h.1, fun q hq => h.2 q (hp.mem_iff.mp hq)⟩
theorem g_pP {w w2 : va_W} {H : Heap} (hp : w2.Perm w) (h : va_P D cl w H) : va_P D cl w2 H := by
  intro k q hk
  obtain ⟨j, hj⟩ := List.getElem?_of_mem (hp.mem_iff.mp (List.mem_of_getElem? hk))
  exact h j q hj
theorem g_rot {A : Nat → Prop} {x : Nat × va_E} {w : va_W} (h : va_D A (w ++ [x])) : va_D A (x :: w) := g_pD (List.perm_append_singleton x w).symm h
theorem g_rotP {x : Nat × va_E} {w : va_W} {H : Heap} (h : va_P D cl (w ++ [x]) H) : va_P D cl (x :: w) H := g_pP (List.perm_append_singleton x w).symm h
theorem g_perm (ws2 : va_W) (hp : ws2.Perm ws) (kk : G Γ R cc own Ts nL D cl tys mc ms post k n ws2 pc lv st) : G Γ R cc own Ts nL D cl tys mc ms post k n ws pc lv st := by
  intro hok H locs ls hS hl
  have hS2 : gS Γ D cl ws2 H locs := by
    obtain ⟨p, l, e, s, m, args, below, meth, c, Q, A, H0⟩ := Γ
    exact ⟨g_pP hp hS.1, g_pD hp hS.2.1, hS.2.2⟩
  exact kk hok H locs ls hS2 hl
theorem g_new {C : String} {T : u_T} {N ci ix : Nat} {fs : List Value} (ty0 : Nat → FieldType) (hty : ∀ k, k < N → parseFieldDescriptor (T k).2.2.1 = some (ty0 k)) (hd : decode cc pc = .ok (.new ix, 3)) (hi2 : ∀ w ∈ u_ws C T N, w ∈ Ts) (hcl : Cond.classLink own ix C ∈ Ts) (hins : Cond.instantiable C N ∈ Ts) (hini : Cond.initialized C ∈ Ts) (hc : cl[ci]? = some (C, T, N)) (hfs : ∀ j, j < N → defaultValue (ty0 j) = vp_V fs j) (hcells : k + 1 ≤ R.cells) (hslots : n + N ≤ R.slots) (kk : ∀ q : Nat, G Γ R cc own Ts nL D cl tys mc ms post (k + 1) (n + N) ((q, .inr (ci, fs)) :: ws) (pc + 3) lv (.ref q :: st)) : G Γ R cc own Ts nL D cl tys mc ms post k n ws pc lv st := by
  intro hok H locs ls hS hl
  have h9 := fun q H1 hS1 => kk q hok H1 locs ls hS1 hl
  obtain ⟨p, l, e, s, m, args, below, meth, c, Q, A, H0⟩ := Γ
  obtain ⟨hx, hb, hml, hown, hts, hK, hA, hin, hret⟩ := hok
  exact va_new hx hb hts hi2 ty0 hty hown (hts _ hcl) (hts _ hins) (hts _ hini) hK hS.1 hS.2.1 hS.2.2 hA hc hfs hcells hslots hd (fun q H1 h1 h2 h3 => h9 q H1 ⟨g_rotP h1, g_rot h2, h3⟩)
theorem g_newa {at0 : ArrayType} {ty : FieldType} {i : Int32} {N : Nat} {z : (Nat → Int32) ⊕ (Nat → Int64) ⊕ (Nat → UInt32) ⊕ (Nat → UInt64) ⊕ (Nat → Option Nat)} {cA : ClassId} (t0 : Nat) (hd : decode cc pc = .ok (.newarray at0, 2)) (hty : newarray.typeOf at0 = ty) (hpr : ty = .int ∨ ty = .long ∨ ty = .boolean) (hac : Cond.arrayClass (newarray.typeOf at0) ∈ Ts) (ht : tys[t0]? = some (cA, ty)) (hz : ∀ cA : ClassId, vp_cell cA (N, z) = arrV cA N (fun _ => defaultValue ty)) (hn0 : ¬ i < 0) (hN : i.toNatClampNeg = N) (hby : N * componentBytes ty ≤ 536870912) (hcells : k + 1 ≤ R.cells) (hslots : n + N ≤ R.slots) (kk : ∀ q : Nat, G Γ R cc own Ts nL D cl tys mc ms post (k + 1) (n + N) ((q, .inl (cA, N, z)) :: ws) (pc + 2) lv (.ref q :: st)) : G Γ R cc own Ts nL D cl tys mc ms post k n ws pc lv (.int i :: st) := by
  intro hok H locs ls hS hl
  have h9 := fun q H1 hS1 => kk q hok H1 locs ls hS1 hl
  obtain ⟨p, l, e, s, m, args, below, meth, c, Q, A, H0⟩ := Γ
  obtain ⟨hx, hb, hml, hown, hts, hK, hA, hin, hret⟩ := hok
  refine va_newa (a0 := (N, z)) hx hb (hts _ hac) hty hK hS.1 hS.2.1 hS.2.2 hA hz hn0 hN hby hcells hslots hd (fun q cB H1 hK1 h1 h2 h3 => ?_)
  have e : cB = cA := by
    have f1 := (hK1.2 tys.length (cB, ty) (by rw [List.getElem?_append_right (Nat.le_refl _), Nat.sub_self]; rfl)).2
    have f2 := (hK.2 t0 _ ht).2
    have f3 : s.vm.findClass ("[" ++ ty.toString) = some cB := by rcases hpr with rfl | rfl | rfl <;> exact f1
    have f4 : s.vm.findClass ("[" ++ ty.toString) = some cA := by rcases hpr with rfl | rfl | rfl <;> exact f2
    exact Option.some.inj (f3.symm.trans f4)
  subst e
  exact h9 q H1 ⟨g_rotP h1, g_rot h2, h3⟩
theorem g_newq {C : String} {ix : Nat} {i : Int32} {N : Nat} {cA : ClassId} (t0 : Nat) (hd : decode cc pc = .ok (.anewarray ix, 3)) (hcl : Cond.classLink own ix C ∈ Ts) (hov : va_AO C (gSt Γ)) (ht : tys[t0]? = some (cA, .object C)) (hn0 : ¬ i < 0) (hN : i.toNatClampNeg = N) (hby : N * 4 ≤ 536870912) (hcells : k + 1 ≤ R.cells) (hslots : n + N ≤ R.slots) (kk : ∀ q : Nat, G Γ R cc own Ts nL D cl tys mc ms post (k + 1) (n + N) ((q, .inl (cA, N, .inr (.inr (.inr (.inr (fun _ => none)))))) :: ws) (pc + 3) lv (.ref q :: st)) : G Γ R cc own Ts nL D cl tys mc ms post k n ws pc lv (.int i :: st) := by
  intro hok H locs ls hS hl
  have h9 := fun q H1 hS1 => kk q hok H1 locs ls hS1 hl
  obtain ⟨p, l, e, s, m, args, below, meth, c, Q, A, H0⟩ := Γ
  obtain ⟨hx, hb, hml, hown, hts, hK, hA, hin, hret⟩ := hok
  refine va_newq hx hb hown (hts _ hcl) hov hK hS.1 hS.2.1 hS.2.2 hA hn0 hN hby hcells hslots hd (fun q cB H1 hK1 h1 h2 h3 => ?_)
  have e : cB = cA := by
    obtain ⟨-, kA, comp, f1, f2, f3, f4⟩ := hK1.2 tys.length (cB, .object C) (by rw [List.getElem?_append_right (Nat.le_refl _), Nat.sub_self]; rfl)
    obtain ⟨-, kA2, comp2, g1, g2, g3, g4⟩ := hK.2 t0 _ ht
    exact Option.some.inj (f4.symm.trans g4)
  subst e
  exact h9 q H1 ⟨g_rotP h1, g_rot h2, h3⟩
theorem g_mna {ty : FieldType} {ix : Nat} {i j : Int32} {N K : Nat} {z : vp_A} {cA cB : ClassId} (t0 t1 : Nat) (hd : decode cc pc = .ok (.multianewarray ix 2, 4)) (hcl : Cond.classLink own ix ("[" ++ (FieldType.array ty).toString) ∈ Ts) (hov : va_AOA ty (gSt Γ)) (hac : Cond.arrayClass ty ∈ Ts) (hpr : ty = .int ∨ ty = .long) (ht : tys[t0]? = some (cA, ty)) (ht1 : tys[t1]? = some (cB, .array ty)) (hz : ∀ c : ClassId, Jvm.Free.Multi.innerC c K (defaultValue ty) = vp_cell c z) (hi0 : ¬ i < 0) (hj0 : ¬ j < 0) (hN : i.toNatClampNeg = N) (hK2 : j.toNatClampNeg = K) (hb1 : N * 4 ≤ 536870912) (hb2 : K * componentBytes ty ≤ 536870912) (hb3 : K ≤ 536870912) (hcells : k + (1 + N) ≤ R.cells) (hslots : n + (N + N * K) ≤ R.slots) (kk : ∀ (q : Nat) (r : Nat → Nat), G Γ R cc own Ts nL D cl tys mc ms post (k + 1 + N) (n + N + N * K) ((q, .inl (cB, N, .inr (.inr (.inr (.inr (fun i => if i < N then some (r i) else none)))))) :: ((List.range N).map (fun i => (r i, .inl (cA, z))) ++ ws)) (pc + 4) lv (.ref q :: st)) : G Γ R cc own Ts nL D cl tys mc ms post k n ws pc lv (.int j :: .int i :: st) := by
  intro hok H locs ls hS hl
  have h9 := fun q r H1 hS1 => kk q r hok H1 locs ls hS1 hl
  obtain ⟨p, l, e, s, m, args, below, meth, c, Q, A, H0⟩ := Γ
  obtain ⟨hx, hb, hml, hown, hts, hK, hA, hin, hret⟩ := hok
  have fcy : s.vm.findClass (FieldType.array ty).toString = some cA := by
    have f2 := (hK.2 t0 _ ht).2
    rcases hpr with rfl | rfl <;> exact f2
  refine va_mna (X := ws) (L := []) (f := fun _ => .inr (0, [])) hx hb hown (hts _ hcl) hov (hts _ hac) fcy hK (by simpa [va_pl] using hS.1) (by simpa [va_pl] using hS.2.1) hS.2.2 hA hi0 hj0 hN hK2 hb1 hb2 hb3 (by rcases hpr with rfl | rfl <;> rfl) (by rcases hpr with rfl | rfl <;> rfl) hcells hslots hz hd (fun q r cC H1 hinj hnl hK1 h1 h2 h3 => ?_)
  have e : cC = cB := by
    have f1 := (hK1.2 tys.length (cC, .array ty) (by rw [List.getElem?_append_right (Nat.le_refl _), Nat.sub_self]; rfl)).2
    have f2 := (hK.2 t1 _ ht1).2
    exact Option.some.inj (f1.symm.trans f2)
  subst e
  have er : va_pl ([] ++ (List.range N).map r) (vr_up (fun _ => .inr (0, [])) ((List.range N).map r) (.inl (cA, z))) = (List.range N).map (fun i => (r i, .inl (cA, z))) := by
    unfold va_pl
    rw [List.nil_append, List.map_map]
    refine List.map_congr_left (fun i hi => ?_)
    show (r i, vr_up _ _ _ (r i)) = _
    rw [vr_up_in (List.mem_map_of_mem hi)]
  rw [er] at h1 h2
  have hpm : ((q, .inl (cC, N, .inr (.inr (.inr (.inr (fun i => if i < N then some (r i) else none)))))) :: ((List.range N).map (fun i => (r i, .inl (cA, z))) ++ ws)).Perm ((ws ++ [(q, .inl (cC, N, .inr (.inr (.inr (.inr (fun i => if i < N then some (r i) else none))))))]) ++ (List.range N).map (fun i => (r i, .inl (cA, z)))) := by
    rw [List.append_assoc]
    exact (List.Perm.cons _ List.perm_append_comm).trans List.perm_middle.symm
  exact h9 q r H1 ⟨g_pP hpm h1, g_pD hpm h2, h3⟩
theorem g_putF {a ci N ix : Nat} {C : String} {T : u_T} {fs : List Value} {v : Value} {ty : FieldType} (q0 j : Nat) (ws2 : va_W) (ty0 : Nat → FieldType) (hty : ∀ k, k < N → parseFieldDescriptor (T k).2.2.1 = some (ty0 k)) (hnm : ∀ a, a < N → ∀ b, b < N → a ≠ b → (T a).2.1 ≠ (T b).2.1) (hin2 : (gMe Γ).name = "<init>") (hd : decode cc pc = .ok (.putfield ix, 3)) (hw : Cond.fieldLink own ix (T j).1 (T j).2.1 (T j).2.2.1 ∈ Ts) (hi2 : ∀ w ∈ u_ws C T N, w ∈ Ts) (he : ws[q0]? = some (a, .inr (ci, fs))) (hc : cl[ci]? = some (C, T, N)) (hj : j < N) (hfin : (T j).2.2.2 = true) (hdecl : (T j).1 = own) (hpd : parseFieldDescriptor (T j).2.2.1 = some ty) (hnar : narrow ty v = v) (hfit : fits ty v = true) (hl3 : j < fs.length) (hws : ws.set q0 (a, .inr (ci, fs.set j v)) = ws2) (kk : G Γ R cc own Ts nL D cl tys mc ms post k n ws2 (pc + 3) lv st) : G Γ R cc own Ts nL D cl tys mc ms post k n ws pc lv (v :: .ref a :: st) := by
  intro hok H locs ls hS hl
  subst hws
  have h9 := fun H1 locs1 hS1 => kk hok H1 locs1 ls hS1 hl
  obtain ⟨p, l, e, s, m, args, below, meth, c, Q, A, H0⟩ := Γ
  obtain ⟨hx, hb, hml, hown, hts, hK, hA, hin, hret⟩ := hok
  exact va_putF hx hb hts hi2 ty0 hty hnm hown hK hS.1 hS.2.1 hS.2.2 q0 he hc j hj (hts _ hw) (fun _ h => h) hfin hin2 hdecl hpd hnar hfit hl3 hd (fun H1 locs1 h1 h2 h3 => h9 H1 locs1 ⟨h1, h2, h3⟩)
theorem g_oinit {a ix : Nat} (hd : decode cc pc = .ok (.invokespecial ix, 3)) (hlink : Cond.methodLink own ix Lib.objectInit ∈ Ts) (hinst : Cond.instanceMethod Lib.objectInit ∈ Ts) (hcode : Cond.code Lib.objectInit ⟨#[0xb1]⟩ 1 none ∈ Ts) (hfr : 1 ≤ R.frames) (hlo : (st.map fun v => v.category).sum + 12 ≤ R.locals) (kk : G Γ R cc own Ts nL D cl tys mc ms post k n ws (pc + 3) lv st) : G Γ R cc own Ts nL D cl tys mc ms post k n ws pc lv (.ref a :: st) := by
  intro hok H locs ls hS hl
  have h9 := kk hok H locs ls hS hl
  obtain ⟨p, l, e, s, m, args, below, meth, c, Q, A, H0⟩ := Γ
  obtain ⟨hx, hb, hml, hown, hts, hK, hA, hin, hret⟩ := hok
  exact W.objInit hx hb hown (hts _ hlink) (hts _ hinst) (hts _ hcode) (g := F0 m pc ls (.ref a :: st)) rfl (hl.1.trans hml.symm) rfl hd hfr (by show 2 * 0 + _ + 12 ≤ _; omega) h9
/-- a predicate of the machine's tables that running on keeps -/
def gKeep (E : State → Prop) : Prop := (∀ u U : State, u.vm = U.vm → E u → E U) ∧ ∀ s U : State, s.WarmedH U.vm → E s → E U
/-- THE CONTRACT, with something more of the tables asked at its start -/
def CtE (E : State → Prop) (l : Launch) (D : va_G) (cl : List vw_C) (tys : List (ClassId × FieldType)) (y : MethodName) (wy : List Cond) (rm : Room) (mc ms : Nat) (av : List Value) (w0 : va_W) (post : Option Value → va_W → Prop) : Prop :=
  ∀ sz : Nat, Met l y wy rm (va_Pc av (fun U => U.heap.size = sz ∧ va_P D cl w0 U.heap ∧ va_K D cl tys U ∧ va_D (fun _ => True) w0 ∧ E U)) (gQc D cl tys (va_A w0 sz) post) mc ms (va_A w0 sz)
theorem g_startE {E : State → Prop} {l : Launch} {y : MethodName} {wy wy' : List Cond} {rm : Room} {cc : ByteArray} {maxL : Nat} {ret : Option FieldType} {D : va_G} {cl : List vw_C} {tys : List (ClassId × FieldType)} {mc ms : Nat} {av : List Value} {w0 : va_W} {post : Option Value → va_W → Prop}
    (hy : plainName y.cls = true) (hw : wy = Cond.code y cc maxL ret :: wy') (hav : (lg_sl av).length ≤ maxL)
    (hres : ∀ v w1, post v w1 → match v with
      | none => ret = none
      | some (.int x) => ∃ ty, ret = some ty ∧ narrow ty (.int x) = .int x
      | some (.long _) => ret = some .long
      | some (.ref _) => ∃ ty, ret = some ty ∧ ((∃ n, ty = .object n) ∨ ∃ t, ty = .array t)
      | some .null => ∃ ty, ret = some ty ∧ ((∃ n, ty = .object n) ∨ ∃ t, ty = .array t)
      | _ => False)
    (body : ∀ Γ : gT, Γ.2.1 = l → (gMe Γ).name = y.name → E (gSt Γ) → G Γ (headSpec wy rm).room cc y.cls wy maxL D cl tys mc ms post 0 0 w0 0 (lv_args 0 av) []) : CtE E l D cl tys y wy rm mc ms av w0 post := by
  intro sz
  refine Met.ofW (cc := cc) (maxL := maxL) (ret := ret) hy hw ?_
  intro p e s m args below meth c s₁ B hml hv
  obtain ⟨rfl, hsz, hP, hK, hD0, hE⟩ := hv
  have hx := B.exec
  have hb := B.bytes
  have hr := B.returns
  have hts := atoms_spec (ws := wy) B.pre
  have hown : s.vm.findClass y.cls = some m.cls := findClass_of_methodNamed B.named
  have hlocks := B.notSynchronized
  subst hsz
  have hD := hD0.self (sz := s.heap.size)
  have hA : ∀ q : Nat, s.heap.size ≤ q → va_A w0 s.heap.size q := fun q h => Or.inr h
  have hl := lv_entry av (n := maxL) hav
  rw [lg_entry_eq]
  have key := body (p, l, e, s, m, av.toArray, below, meth, c, MQ below (gQc D cl tys (va_A w0 s.heap.size) post) av.toArray s mc ms (va_A w0 s.heap.size), va_A w0 s.heap.size, s.heap) rfl (name_of_methodNamed B.named B.method).1 hE
  refine key ⟨hx, hb, hml, hown, hts, hK, hA, Or.inr trivial, ?_⟩ s.heap [] _ ⟨hP, hD, va_S.rf⟩ hl
  intro v ws H locs ls pc hp hP1 hD1 hS1 hrv
  have hq : ∀ t : State, t.heap = H → s.WarmedH t.vm → gQc D cl tys (va_A w0 s.heap.size) post av.toArray s (.returned v) t := fun t ht hW => ⟨⟨v, ws, rfl, hp, by rw [ht]; exact hP1, va_K.moved hW.alike hK, hD1⟩, hS1.F ht⟩
  have h5 := hres v ws hp
  match v, hq, h5, hrv with
  | none, hq, h5, hrv => exact W.vret hx hb (hr.trans h5) hq hS1.2.2 hrv
  | some (.int x), hq, ⟨ty, h5, h6⟩, hrv => exact W.zret hx hb (hr.trans h5) h6 hq hS1.2.2 hrv
  | some (.long x), hq, h5, hrv => exact W.lret hx hb (hr.trans h5) hq hS1.2.2 hrv
  | some (.ref x), hq, ⟨ty, h5, h6⟩, hrv => exact W.aret hx hb (hr.trans h5) h6 (Or.inr ⟨x, rfl⟩) hq hS1.2.2 hrv
  | some .null, hq, ⟨ty, h5, h6⟩, hrv => exact W.aret hx hb (hr.trans h5) h6 (Or.inl rfl) hq hS1.2.2 hrv
  | some (.float x), hq, h5, hrv => exact absurd h5 id
  | some (.double x), hq, h5, hrv => exact absurd h5 id
theorem g_callI {y : MethodName} {bytes : ByteArray} {maxL ix mc1 ms1 b : Nat} {wy wy' : List Cond} {rm : Room} {post1 : Option Value → va_W → Prop} {As rest : List Value} {E : State → Prop} (nn : Nat) (hE : gKeep E) (hEs : E (gSt Γ)) (hg : GoodIn Ts wy) (hlk : Cond.methodLink own ix y ∈ Ts) (him : Cond.instanceMethod y ∈ Ts) (hini : Cond.initialized y.cls ∈ Ts) (hw : wy = Cond.code y bytes maxL none :: wy') (hrc : rm.cells = mc1) (hrs : rm.slots = ms1) (hR1 : rm.frames + 1 ≤ R.frames ∧ 8 + (maxL + 11) + rm.locals ≤ R.locals) (hcs : k + mc1 ≤ R.cells ∧ n + ms1 ≤ R.slots) (hst : (rest.map fun v => v.category).sum ≤ 8) (hy1 : y.name = "<init>") (hdn : y.cls ≠ "java/lang/invoke/MethodHandle" ∧ y.cls ≠ "java/lang/invoke/VarHandle" ∧ (parseMethodDescriptor y.desc).map (fun d => d.parameters.length) = some nn) (hn : As.length = nn) (isC isR : List Nat) (wc wr : va_W) (hC : isC.map (fun i => ws[i]?) = wc.map some) (hC2 : isC.filterMap (fun i => ws[i]?) = wc) (hnC : va_nd isC = true) (hR : isR.map (fun i => ws[i]?) = wr.map some) (hnR : va_nd isR = true) (hdis : ∀ i ∈ isR, i ∉ isC) (hd : decode cc pc = .ok (.invokespecial ix, 3)) (hct : CtE E Γ.2.1 D cl tys y wy rm mc1 ms1 (.ref b :: As) wc post1) (hstk : st = As.reverse ++ .ref b :: rest)
    (kk : ∀ (v : Option Value) (w1 : va_W), post1 v w1 → G Γ R cc own Ts nL D cl tys mc ms post (k + mc1) (n + ms1) (wr ++ w1) (pc + 3) lv (v.toList ++ rest)) : G Γ R cc own Ts nL D cl tys mc ms post k n ws pc lv st := by
  intro hok H locs ls hS hl
  subst hstk
  obtain ⟨p, l, e, s, m, args, below, meth, c, Q, A, H0⟩ := Γ
  have hok2 := hok
  obtain ⟨hx, hb, hml, hown, hts, hK, hA, hin, hret⟩ := hok
  have hPc := hS.1.sub (ws' := wc) isC hC2
  have hDc := hS.2.1.sub (ws' := wc) isC hnC hC
  have hFc := va_free (wc := wc) hS.2.1 hS.2.2 hA isC hC
  refine g_back (va_runI (As := As) (rest := rest) ⟨hx, hb, hml, hown, hts⟩ (hct H.size) (cwI nn hts hg hw hrc hrs (hts _ hini) (hts _ hlk) (hts _ him) hy1 hdn hR1) ⟨fun a U g mk q => by obtain ⟨q0, q1, qP, qK, qD, qE⟩ := q; exact ⟨q0, q1, qP, va_K.moved (u := U) (U := U.calling g mk a) (Vm.Alike.refl U.vm) qK, qD, hE.1 U (U.calling g mk a) rfl qE⟩, fun U hU hW => ⟨rfl, by rw [hU], by rw [hU]; exact hPc, va_K.moved hW.alike hK, hDc.weaken (fun _ _ _ _ => trivial), hE.2 s U hW hEs⟩⟩ rfl hn hl.1 rfl (lv_room hst) hd hcs) hS.2.2 hFc (fun v w1 H1 locs1 hp hP1 hD1 hk1 hS1 => ?_)
  obtain ⟨hP2, hD2⟩ := va_join (wr := wr) (w1 := w1) hS.1 hS.2.1 isC isR hC hR hnR hdis hk1 hFc hP1 hD1
  exact kk v w1 hp hok2 H1 locs1 ls ⟨hP2, hD2, hS1⟩ hl
theorem g_callIN {y : MethodName} {bytes : ByteArray} {maxL ix mc1 ms1 b : Nat} {wy wy' : List Cond} {rm : Room} {post1 : Option Value → va_W → Prop} {As rest : List Value} {E : State → Prop} {host : String} (nn : Nat) (hE : gKeep E) (hEs : E (gSt Γ)) (hg : GoodIn Ts wy) (hlk : va_Nw (.methodLinkNest own ix y host) (gSt Γ)) (him : Cond.instanceMethod y ∈ Ts) (hini : Cond.initialized y.cls ∈ Ts) (hw : wy = Cond.code y bytes maxL none :: wy') (hrc : rm.cells = mc1) (hrs : rm.slots = ms1) (hR1 : rm.frames + 1 ≤ R.frames ∧ 8 + (maxL + 11) + rm.locals ≤ R.locals) (hcs : k + mc1 ≤ R.cells ∧ n + ms1 ≤ R.slots) (hst : (rest.map fun v => v.category).sum ≤ 8) (hy1 : y.name = "<init>") (hdn : y.cls ≠ "java/lang/invoke/MethodHandle" ∧ y.cls ≠ "java/lang/invoke/VarHandle" ∧ (parseMethodDescriptor y.desc).map (fun d => d.parameters.length) = some nn) (hn : As.length = nn) (isC isR : List Nat) (wc wr : va_W) (hC : isC.map (fun i => ws[i]?) = wc.map some) (hC2 : isC.filterMap (fun i => ws[i]?) = wc) (hnC : va_nd isC = true) (hR : isR.map (fun i => ws[i]?) = wr.map some) (hnR : va_nd isR = true) (hdis : ∀ i ∈ isR, i ∉ isC) (hd : decode cc pc = .ok (.invokespecial ix, 3)) (hct : CtE E Γ.2.1 D cl tys y wy rm mc1 ms1 (.ref b :: As) wc post1) (hstk : st = As.reverse ++ .ref b :: rest)
    (kk : ∀ (v : Option Value) (w1 : va_W), post1 v w1 → G Γ R cc own Ts nL D cl tys mc ms post (k + mc1) (n + ms1) (wr ++ w1) (pc + 3) lv (v.toList ++ rest)) : G Γ R cc own Ts nL D cl tys mc ms post k n ws pc lv st := by
  intro hok H locs ls hS hl
  subst hstk
  obtain ⟨p, l, e, s, m, args, below, meth, c, Q, A, H0⟩ := Γ
  have hok2 := hok
  obtain ⟨hx, hb, hml, hown, hts, hK, hA, hin, hret⟩ := hok
  have hPc := hS.1.sub (ws' := wc) isC hC2
  have hDc := hS.2.1.sub (ws' := wc) isC hnC hC
  have hFc := va_free (wc := wc) hS.2.1 hS.2.2 hA isC hC
  refine g_back (va_runIN (As := As) (rest := rest) ⟨hx, hb, hml, hown, hts⟩ (hct H.size) ⟨va_cnB nn hts hg hw hrc hrs hlk (hts _ hini) hdn hR1, hy1, hts _ him⟩ ⟨fun a U g mk q => by obtain ⟨q0, q1, qP, qK, qD, qE⟩ := q; exact ⟨q0, q1, qP, va_K.moved (u := U) (U := U.calling g mk a) (Vm.Alike.refl U.vm) qK, qD, hE.1 U (U.calling g mk a) rfl qE⟩, fun U hU hW => ⟨rfl, by rw [hU], by rw [hU]; exact hPc, va_K.moved hW.alike hK, hDc.weaken (fun _ _ _ _ => trivial), hE.2 s U hW hEs⟩⟩ rfl hn hl.1 rfl (lv_room hst) hd hcs) hS.2.2 hFc (fun v w1 H1 locs1 hp hP1 hD1 hk1 hS1 => ?_)
  obtain ⟨hP2, hD2⟩ := va_join (wr := wr) (w1 := w1) hS.1 hS.2.1 isC isR hC hR hnR hdis hk1 hFc hP1 hD1
  exact kk v w1 hp hok2 H1 locs1 ls ⟨hP2, hD2, hS1⟩ hl
end GL3
