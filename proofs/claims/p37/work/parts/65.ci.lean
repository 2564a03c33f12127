theorem inner_i (c : ClassId) (k : Nat) : Jvm.Free.Multi.innerC c k (defaultValue .int) = vp_cell c (k, .inl (fun _ => 0)) := by
  show _ = arrV c k (fun _ => Value.int 0)
  rw [← arrV_new]
  rfl
theorem inner_l (c : ClassId) (k : Nat) : Jvm.Free.Multi.innerC c k (defaultValue .long) = vp_cell c (k, .inr (.inl (fun _ => 0))) := by
  show _ = arrV c k (fun _ => Value.long 0)
  rw [← arrV_new]
  rfl
/-- what a constructor asks of the tables beyond its words: arrays over bills and over rows, the private constructors -/
def E0 (U : State) : Prop := va_AO "ChangerFair$Bill" U ∧ va_AOA .int U ∧ va_AOA .long U ∧ va_Nw (.methodLinkNest RX8 34 yX3_init "ChangerFair") U ∧ va_Nw (.methodLinkNest RX8 41 yX1_init "ChangerFair") U ∧ va_Nw (.methodLinkNest RX8 48 yX5_init "ChangerFair") U ∧ va_Nw (.methodLinkNest RX8 55 yX6_init "ChangerFair") U ∧ va_Nw (.methodLinkNest RX8 62 yX7_init "ChangerFair") U ∧ va_Nw (.methodLinkNest RX8 69 yX4_init "ChangerFair") U ∧ va_Nw (.methodLinkNest RX8 76 yX2_init "ChangerFair") U
theorem kE0 : gKeep E0 := by
  refine ⟨fun u U h e => ?_, fun s U h e => ?_⟩
  · obtain ⟨e1, e2, e3, n1, n2, n3, n4, n5, n6, n7⟩ := e
    have ha : u.vm.Alike U.vm := h ▸ Vm.Alike.refl u.vm
    exact ⟨va_AO.moved ha e1, va_AOA.moved ha e2, va_AOA.moved ha e3, n1.same rfl h, n2.same rfl h, n3.same rfl h, n4.same rfl h, n5.same rfl h, n6.same rfl h, n7.same rfl h⟩
  · obtain ⟨e1, e2, e3, n1, n2, n3, n4, n5, n6, n7⟩ := e
    exact ⟨va_AO.moved h.alike e1, va_AOA.moved h.alike e2, va_AOA.moved h.alike e3, va_Nw.warmM h n1, va_Nw.warmM h n2, va_Nw.warmM h n3, va_Nw.warmM h n4, va_Nw.warmM h n5, va_Nw.warmM h n6, va_Nw.warmM h n7⟩
def rmI (d c s : Nat) : Room := { frames := d, cells := c, slots := s, locals := 32 * d }
set_option maxHeartbeats 4000000 in
set_option maxRecDepth 100000 in
/-- the constructor of ChangerFair$Book -/
theorem I_X1 (l : Launch) (D : va_G) (cy : Nat → ClassId) (q0 : Nat) : CtE E0 l D clx (tyx cy) yX1_init wsX1_init (rmI 1 11 110) 11 110 [.ref q0] [(q0, .inr (1, [.long 0, .null]))] (fun r9 w9 => ∃ (e1 : Nat) (s1 : Nat → Nat), r9 = none ∧ w9 = [(q0, .inr (1, [.long 0, .ref e1])), (e1, .inl (cy 5, 10, .inr (.inr (.inr (.inr (fun i => if i < 10 then some (s1 i) else none)))))), ((s1 0), .inl (cy 1, 10, .inr (.inl (fun _ => 0)))), ((s1 1), .inl (cy 1, 10, .inr (.inl (fun _ => 0)))), ((s1 2), .inl (cy 1, 10, .inr (.inl (fun _ => 0)))), ((s1 3), .inl (cy 1, 10, .inr (.inl (fun _ => 0)))), ((s1 4), .inl (cy 1, 10, .inr (.inl (fun _ => 0)))), ((s1 5), .inl (cy 1, 10, .inr (.inl (fun _ => 0)))), ((s1 6), .inl (cy 1, 10, .inr (.inl (fun _ => 0)))), ((s1 7), .inl (cy 1, 10, .inr (.inl (fun _ => 0)))), ((s1 8), .inl (cy 1, 10, .inr (.inl (fun _ => 0)))), ((s1 9), .inl (cy 1, 10, .inr (.inl (fun _ => 0))))]) := by
  refine g_startE (cc := cX1_init) (maxL := 1) (ret := none) (by decide) rfl (Nat.le_of_ble_eq_true rfl) (fun v w1 h => by obtain ⟨_, _, rfl, -⟩ := h; exact rfl) (fun Γ hlΓ hnm hE0 => ?_)
  subst hlΓ
  refine g_aload_n (i := 0) dX1_init_0 rfl rfl ?_
  refine g_oinit dX1_init_1 (List.mem_of_getElem? (i := 1) rfl) (List.mem_of_getElem? (i := 2) rfl) (List.mem_of_getElem? (i := 3) rfl) (Nat.le_of_ble_eq_true rfl) (by exact Nat.le_of_ble_eq_true rfl) ?_
  refine g_aload_n (i := 0) dX1_init_4 rfl rfl ?_
  refine g_bipush (10) rfl dX1_init_5 ?_
  refine g_bipush (10) rfl dX1_init_7 ?_
  refine g_mna (N := 10) (K := 10) (z := (10, .inr (.inl (fun _ => 0)))) 1 5 dX1_init_9 (List.mem_of_getElem? (i := 4) rfl) hE0.2.2.1 (List.mem_of_getElem? (i := 5) rfl) (Or.inr rfl) rfl rfl (fun _ => inner_l _ _) (by decide) (by decide) (by decide) (by decide) (by decide) (by decide) (by decide) (Nat.le_of_ble_eq_true rfl) (Nat.le_of_ble_eq_true rfl) (fun q9 r9 => ?_)
  refine g_weq [(q9, .inl (cy 5, 10, .inr (.inr (.inr (.inr (fun i => if i < 10 then some (r9 i) else none)))))), ((r9 0), .inl (cy 1, 10, .inr (.inl (fun _ => 0)))), ((r9 1), .inl (cy 1, 10, .inr (.inl (fun _ => 0)))), ((r9 2), .inl (cy 1, 10, .inr (.inl (fun _ => 0)))), ((r9 3), .inl (cy 1, 10, .inr (.inl (fun _ => 0)))), ((r9 4), .inl (cy 1, 10, .inr (.inl (fun _ => 0)))), ((r9 5), .inl (cy 1, 10, .inr (.inl (fun _ => 0)))), ((r9 6), .inl (cy 1, 10, .inr (.inl (fun _ => 0)))), ((r9 7), .inl (cy 1, 10, .inr (.inl (fun _ => 0)))), ((r9 8), .inl (cy 1, 10, .inr (.inl (fun _ => 0)))), ((r9 9), .inl (cy 1, 10, .inr (.inl (fun _ => 0)))), (q0, .inr (1, [.long 0, .null]))] rfl ?_
  refine g_putF 11 1 [(q9, .inl (cy 5, 10, .inr (.inr (.inr (.inr (fun i => if i < 10 then some (r9 i) else none)))))), ((r9 0), .inl (cy 1, 10, .inr (.inl (fun _ => 0)))), ((r9 1), .inl (cy 1, 10, .inr (.inl (fun _ => 0)))), ((r9 2), .inl (cy 1, 10, .inr (.inl (fun _ => 0)))), ((r9 3), .inl (cy 1, 10, .inr (.inl (fun _ => 0)))), ((r9 4), .inl (cy 1, 10, .inr (.inl (fun _ => 0)))), ((r9 5), .inl (cy 1, 10, .inr (.inl (fun _ => 0)))), ((r9 6), .inl (cy 1, 10, .inr (.inl (fun _ => 0)))), ((r9 7), .inl (cy 1, 10, .inr (.inl (fun _ => 0)))), ((r9 8), .inl (cy 1, 10, .inr (.inl (fun _ => 0)))), ((r9 9), .inl (cy 1, 10, .inr (.inl (fun _ => 0)))), (q0, .inr (1, [.long 0, .ref q9]))] tyX1 tyX1_ok nmX1 hnm dX1_init_13 (List.mem_of_getElem? (i := 6) rfl) (fun w h => List.mem_cons_of_mem _ (List.mem_append_right _ h)) rfl rfl (by decide) rfl rfl (tyX1_ok 1 (by decide)) rfl rfl (Nat.le_of_ble_eq_true rfl) rfl ?_
  refine g_wsub [(q0, .inr (1, [.long 0, .ref q9])), (q9, .inl (cy 5, 10, .inr (.inr (.inr (.inr (fun i => if i < 10 then some (r9 i) else none)))))), ((r9 0), .inl (cy 1, 10, .inr (.inl (fun _ => 0)))), ((r9 1), .inl (cy 1, 10, .inr (.inl (fun _ => 0)))), ((r9 2), .inl (cy 1, 10, .inr (.inl (fun _ => 0)))), ((r9 3), .inl (cy 1, 10, .inr (.inl (fun _ => 0)))), ((r9 4), .inl (cy 1, 10, .inr (.inl (fun _ => 0)))), ((r9 5), .inl (cy 1, 10, .inr (.inl (fun _ => 0)))), ((r9 6), .inl (cy 1, 10, .inr (.inl (fun _ => 0)))), ((r9 7), .inl (cy 1, 10, .inr (.inl (fun _ => 0)))), ((r9 8), .inl (cy 1, 10, .inr (.inl (fun _ => 0)))), ((r9 9), .inl (cy 1, 10, .inr (.inl (fun _ => 0))))] [11, 0, 1, 2, 3, 4, 5, 6, 7, 8, 9, 10] (by decide) rfl rfl ?_
  refine g_vret dX1_init_16 ?_
  exact ⟨q9, r9, rfl, rfl⟩

set_option maxHeartbeats 4000000 in
set_option maxRecDepth 100000 in
/-- the constructor of ChangerFair$Custom -/
theorem I_X2 (l : Launch) (D : va_G) (cy : Nat → ClassId) (q0 : Nat) : CtE E0 l D clx (tyx cy) yX2_init wsX2_init (rmI 1 5 112) 5 112 [.ref q0] [(q0, .inr (2, [.int 0, .null, .null, .null, .null, .null]))] (fun r9 w9 => ∃ (e1 : Nat) (e2 : Nat) (e3 : Nat) (e4 : Nat) (e5 : Nat), r9 = none ∧ w9 = [(q0, .inr (2, [.int 0, .ref e1, .ref e2, .ref e3, .ref e4, .ref e5])), (e1, .inl (cy 2, 8, .inl (fun _ => 0))), (e2, .inl (cy 0, 8, .inl (fun _ => 0))), (e3, .inl (cy 0, 32, .inl (fun _ => 0))), (e4, .inl (cy 0, 32, .inl (fun _ => 0))), (e5, .inl (cy 0, 32, .inl (fun _ => 0)))]) := by
  refine g_startE (cc := cX2_init) (maxL := 1) (ret := none) (by decide) rfl (Nat.le_of_ble_eq_true rfl) (fun v w1 h => by obtain ⟨_, _, _, _, _, rfl, -⟩ := h; exact rfl) (fun Γ hlΓ hnm hE0 => ?_)
  subst hlΓ
  refine g_aload_n (i := 0) dX2_init_0 rfl rfl ?_
  refine g_oinit dX2_init_1 (List.mem_of_getElem? (i := 1) rfl) (List.mem_of_getElem? (i := 2) rfl) (List.mem_of_getElem? (i := 3) rfl) (Nat.le_of_ble_eq_true rfl) (by exact Nat.le_of_ble_eq_true rfl) ?_
  refine g_aload_n (i := 0) dX2_init_4 rfl rfl ?_
  refine g_bipush (8) rfl dX2_init_5 ?_
  refine g_newa (N := 8) (z := .inl (fun _ => 0)) 2 dX2_init_7 rfl (Or.inr (Or.inr rfl)) (List.mem_of_getElem? (i := 4) rfl) rfl (fun _ => rfl) (by decide) (by decide) (by decide) (Nat.le_of_ble_eq_true rfl) (Nat.le_of_ble_eq_true rfl) (fun q7 => ?_)
  refine g_putF 1 1 [(q7, .inl (cy 2, 8, .inl (fun _ => 0))), (q0, .inr (2, [.int 0, .ref q7, .null, .null, .null, .null]))] tyX2 tyX2_ok nmX2 hnm dX2_init_9 (List.mem_of_getElem? (i := 5) rfl) (fun w h => List.mem_cons_of_mem _ (List.mem_append_right _ h)) rfl rfl (by decide) rfl rfl (tyX2_ok 1 (by decide)) rfl rfl (Nat.le_of_ble_eq_true rfl) rfl ?_
  refine g_aload_n (i := 0) dX2_init_12 rfl rfl ?_
  refine g_bipush (8) rfl dX2_init_13 ?_
  refine g_newa (N := 8) (z := .inl (fun _ => 0)) 0 dX2_init_15 rfl (Or.inl rfl) (List.mem_of_getElem? (i := 6) rfl) rfl (fun _ => rfl) (by decide) (by decide) (by decide) (Nat.le_of_ble_eq_true rfl) (Nat.le_of_ble_eq_true rfl) (fun q15 => ?_)
  refine g_putF 2 2 [(q15, .inl (cy 0, 8, .inl (fun _ => 0))), (q7, .inl (cy 2, 8, .inl (fun _ => 0))), (q0, .inr (2, [.int 0, .ref q7, .ref q15, .null, .null, .null]))] tyX2 tyX2_ok nmX2 hnm dX2_init_17 (List.mem_of_getElem? (i := 7) rfl) (fun w h => List.mem_cons_of_mem _ (List.mem_append_right _ h)) rfl rfl (by decide) rfl rfl (tyX2_ok 2 (by decide)) rfl rfl (Nat.le_of_ble_eq_true rfl) rfl ?_
  refine g_aload_n (i := 0) dX2_init_20 rfl rfl ?_
  refine g_bipush (32) rfl dX2_init_21 ?_
  refine g_newa (N := 32) (z := .inl (fun _ => 0)) 0 dX2_init_23 rfl (Or.inl rfl) (List.mem_of_getElem? (i := 6) rfl) rfl (fun _ => rfl) (by decide) (by decide) (by decide) (Nat.le_of_ble_eq_true rfl) (Nat.le_of_ble_eq_true rfl) (fun q23 => ?_)
  refine g_putF 3 3 [(q23, .inl (cy 0, 32, .inl (fun _ => 0))), (q15, .inl (cy 0, 8, .inl (fun _ => 0))), (q7, .inl (cy 2, 8, .inl (fun _ => 0))), (q0, .inr (2, [.int 0, .ref q7, .ref q15, .ref q23, .null, .null]))] tyX2 tyX2_ok nmX2 hnm dX2_init_25 (List.mem_of_getElem? (i := 8) rfl) (fun w h => List.mem_cons_of_mem _ (List.mem_append_right _ h)) rfl rfl (by decide) rfl rfl (tyX2_ok 3 (by decide)) rfl rfl (Nat.le_of_ble_eq_true rfl) rfl ?_
  refine g_aload_n (i := 0) dX2_init_28 rfl rfl ?_
  refine g_bipush (32) rfl dX2_init_29 ?_
  refine g_newa (N := 32) (z := .inl (fun _ => 0)) 0 dX2_init_31 rfl (Or.inl rfl) (List.mem_of_getElem? (i := 6) rfl) rfl (fun _ => rfl) (by decide) (by decide) (by decide) (Nat.le_of_ble_eq_true rfl) (Nat.le_of_ble_eq_true rfl) (fun q31 => ?_)
  refine g_putF 4 4 [(q31, .inl (cy 0, 32, .inl (fun _ => 0))), (q23, .inl (cy 0, 32, .inl (fun _ => 0))), (q15, .inl (cy 0, 8, .inl (fun _ => 0))), (q7, .inl (cy 2, 8, .inl (fun _ => 0))), (q0, .inr (2, [.int 0, .ref q7, .ref q15, .ref q23, .ref q31, .null]))] tyX2 tyX2_ok nmX2 hnm dX2_init_33 (List.mem_of_getElem? (i := 9) rfl) (fun w h => List.mem_cons_of_mem _ (List.mem_append_right _ h)) rfl rfl (by decide) rfl rfl (tyX2_ok 4 (by decide)) rfl rfl (Nat.le_of_ble_eq_true rfl) rfl ?_
  refine g_aload_n (i := 0) dX2_init_36 rfl rfl ?_
  refine g_bipush (32) rfl dX2_init_37 ?_
  refine g_newa (N := 32) (z := .inl (fun _ => 0)) 0 dX2_init_39 rfl (Or.inl rfl) (List.mem_of_getElem? (i := 6) rfl) rfl (fun _ => rfl) (by decide) (by decide) (by decide) (Nat.le_of_ble_eq_true rfl) (Nat.le_of_ble_eq_true rfl) (fun q39 => ?_)
  refine g_putF 5 5 [(q39, .inl (cy 0, 32, .inl (fun _ => 0))), (q31, .inl (cy 0, 32, .inl (fun _ => 0))), (q23, .inl (cy 0, 32, .inl (fun _ => 0))), (q15, .inl (cy 0, 8, .inl (fun _ => 0))), (q7, .inl (cy 2, 8, .inl (fun _ => 0))), (q0, .inr (2, [.int 0, .ref q7, .ref q15, .ref q23, .ref q31, .ref q39]))] tyX2 tyX2_ok nmX2 hnm dX2_init_41 (List.mem_of_getElem? (i := 10) rfl) (fun w h => List.mem_cons_of_mem _ (List.mem_append_right _ h)) rfl rfl (by decide) rfl rfl (tyX2_ok 5 (by decide)) rfl rfl (Nat.le_of_ble_eq_true rfl) rfl ?_
  refine g_wsub [(q0, .inr (2, [.int 0, .ref q7, .ref q15, .ref q23, .ref q31, .ref q39])), (q7, .inl (cy 2, 8, .inl (fun _ => 0))), (q15, .inl (cy 0, 8, .inl (fun _ => 0))), (q23, .inl (cy 0, 32, .inl (fun _ => 0))), (q31, .inl (cy 0, 32, .inl (fun _ => 0))), (q39, .inl (cy 0, 32, .inl (fun _ => 0)))] [5, 4, 3, 2, 1, 0] (by decide) rfl rfl ?_
  refine g_vret dX2_init_44 ?_
  exact ⟨q7, q15, q23, q31, q39, rfl, rfl⟩

set_option maxHeartbeats 4000000 in
set_option maxRecDepth 100000 in
/-- the constructor of ChangerFair$CustomReader -/
theorem I_X3 (l : Launch) (D : va_G) (cy : Nat → ClassId) (q0 : Nat) : CtE E0 l D clx (tyx cy) yX3_init wsX3_init (rmI 1 1 400) 1 400 [.ref q0] [(q0, .inr (3, [.int 0, .int 0, .null, .int 0, .int 0, .int 0, .int 0]))] (fun r9 w9 => ∃ (e2 : Nat), r9 = none ∧ w9 = [(q0, .inr (3, [.int 0, .int (-1), .ref e2, .int 0, .int 0, .int 0, .int 0])), (e2, .inl (cy 0, 400, .inl (fun _ => 0)))]) := by
  refine g_startE (cc := cX3_init) (maxL := 1) (ret := none) (by decide) rfl (Nat.le_of_ble_eq_true rfl) (fun v w1 h => by obtain ⟨_, rfl, -⟩ := h; exact rfl) (fun Γ hlΓ hnm hE0 => ?_)
  subst hlΓ
  refine g_aload_n (i := 0) dX3_init_0 rfl rfl ?_
  refine g_oinit dX3_init_1 (List.mem_of_getElem? (i := 1) rfl) (List.mem_of_getElem? (i := 2) rfl) (List.mem_of_getElem? (i := 3) rfl) (Nat.le_of_ble_eq_true rfl) (by exact Nat.le_of_ble_eq_true rfl) ?_
  refine g_aload_n (i := 0) dX3_init_4 rfl rfl ?_
  refine g_iconst (-1) rfl dX3_init_5 ?_
  refine g_put 0 1 [(q0, .inr (3, [.int 0, .int (-1), .null, .int 0, .int 0, .int 0, .int 0]))] tyX3 tyX3_ok nmX3 dX3_init_6 (List.mem_of_getElem? (i := 4) rfl) (fun w h => List.mem_cons_of_mem _ (List.mem_append_right _ h)) rfl rfl (by decide) rfl (tyX3_ok 1 (by decide)) rfl rfl (Nat.le_of_ble_eq_true rfl) rfl ?_
  refine g_aload_n (i := 0) dX3_init_9 rfl rfl ?_
  refine g_sipush (400) rfl dX3_init_10 ?_
  refine g_newa (N := 400) (z := .inl (fun _ => 0)) 0 dX3_init_13 rfl (Or.inl rfl) (List.mem_of_getElem? (i := 5) rfl) rfl (fun _ => rfl) (by decide) (by decide) (by decide) (Nat.le_of_ble_eq_true rfl) (Nat.le_of_ble_eq_true rfl) (fun q13 => ?_)
  refine g_putF 1 2 [(q13, .inl (cy 0, 400, .inl (fun _ => 0))), (q0, .inr (3, [.int 0, .int (-1), .ref q13, .int 0, .int 0, .int 0, .int 0]))] tyX3 tyX3_ok nmX3 hnm dX3_init_15 (List.mem_of_getElem? (i := 6) rfl) (fun w h => List.mem_cons_of_mem _ (List.mem_append_right _ h)) rfl rfl (by decide) rfl rfl (tyX3_ok 2 (by decide)) rfl rfl (Nat.le_of_ble_eq_true rfl) rfl ?_
  refine g_wsub [(q0, .inr (3, [.int 0, .int (-1), .ref q13, .int 0, .int 0, .int 0, .int 0])), (q13, .inl (cy 0, 400, .inl (fun _ => 0)))] [1, 0] (by decide) rfl rfl ?_
  refine g_vret dX3_init_18 ?_
  exact ⟨q13, rfl, rfl⟩

set_option maxHeartbeats 4000000 in
set_option maxRecDepth 100000 in
/-- the constructor of ChangerFair$Parting -/
theorem I_X4 (l : Launch) (D : va_G) (cy : Nat → ClassId) (q0 : Nat) : CtE E0 l D clx (tyx cy) yX4_init wsX4_init (rmI 1 2 20) 2 20 [.ref q0] [(q0, .inr (4, [.null, .null]))] (fun r9 w9 => ∃ (e0 : Nat) (e1 : Nat), r9 = none ∧ w9 = [(q0, .inr (4, [.ref e0, .ref e1])), (e0, .inl (cy 1, 10, .inr (.inl (fun _ => 0)))), (e1, .inl (cy 1, 10, .inr (.inl (fun _ => 0))))]) := by
  refine g_startE (cc := cX4_init) (maxL := 1) (ret := none) (by decide) rfl (Nat.le_of_ble_eq_true rfl) (fun v w1 h => by obtain ⟨_, _, rfl, -⟩ := h; exact rfl) (fun Γ hlΓ hnm hE0 => ?_)
  subst hlΓ
  refine g_aload_n (i := 0) dX4_init_0 rfl rfl ?_
  refine g_oinit dX4_init_1 (List.mem_of_getElem? (i := 1) rfl) (List.mem_of_getElem? (i := 2) rfl) (List.mem_of_getElem? (i := 3) rfl) (Nat.le_of_ble_eq_true rfl) (by exact Nat.le_of_ble_eq_true rfl) ?_
  refine g_aload_n (i := 0) dX4_init_4 rfl rfl ?_
  refine g_bipush (10) rfl dX4_init_5 ?_
  refine g_newa (N := 10) (z := .inr (.inl (fun _ => 0))) 1 dX4_init_7 rfl (Or.inr (Or.inl rfl)) (List.mem_of_getElem? (i := 4) rfl) rfl (fun _ => rfl) (by decide) (by decide) (by decide) (Nat.le_of_ble_eq_true rfl) (Nat.le_of_ble_eq_true rfl) (fun q7 => ?_)
  refine g_putF 1 0 [(q7, .inl (cy 1, 10, .inr (.inl (fun _ => 0)))), (q0, .inr (4, [.ref q7, .null]))] tyX4 tyX4_ok nmX4 hnm dX4_init_9 (List.mem_of_getElem? (i := 5) rfl) (fun w h => List.mem_cons_of_mem _ (List.mem_append_right _ h)) rfl rfl (by decide) rfl rfl (tyX4_ok 0 (by decide)) rfl rfl (Nat.le_of_ble_eq_true rfl) rfl ?_
  refine g_aload_n (i := 0) dX4_init_12 rfl rfl ?_
  refine g_bipush (10) rfl dX4_init_13 ?_
  refine g_newa (N := 10) (z := .inr (.inl (fun _ => 0))) 1 dX4_init_15 rfl (Or.inr (Or.inl rfl)) (List.mem_of_getElem? (i := 4) rfl) rfl (fun _ => rfl) (by decide) (by decide) (by decide) (Nat.le_of_ble_eq_true rfl) (Nat.le_of_ble_eq_true rfl) (fun q15 => ?_)
  refine g_putF 2 1 [(q15, .inl (cy 1, 10, .inr (.inl (fun _ => 0)))), (q7, .inl (cy 1, 10, .inr (.inl (fun _ => 0)))), (q0, .inr (4, [.ref q7, .ref q15]))] tyX4 tyX4_ok nmX4 hnm dX4_init_17 (List.mem_of_getElem? (i := 6) rfl) (fun w h => List.mem_cons_of_mem _ (List.mem_append_right _ h)) rfl rfl (by decide) rfl rfl (tyX4_ok 1 (by decide)) rfl rfl (Nat.le_of_ble_eq_true rfl) rfl ?_
  refine g_wsub [(q0, .inr (4, [.ref q7, .ref q15])), (q7, .inl (cy 1, 10, .inr (.inl (fun _ => 0)))), (q15, .inl (cy 1, 10, .inr (.inl (fun _ => 0))))] [2, 1, 0] (by decide) rfl rfl ?_
  refine g_vret dX4_init_20 ?_
  exact ⟨q7, q15, rfl, rfl⟩

set_option maxHeartbeats 4000000 in
set_option maxRecDepth 100000 in
/-- the constructor of ChangerFair$Plan -/
theorem I_X5 (l : Launch) (D : va_G) (cy : Nat → ClassId) (q0 : Nat) : CtE E0 l D clx (tyx cy) yX5_init wsX5_init (rmI 1 7 3112) 7 3112 [.ref q0] [(q0, .inr (5, [.int 0, .int 0, .null, .null, .null, .null, .null, .null, .null, .int 0, .long 0]))] (fun r9 w9 => ∃ (e2 : Nat) (e3 : Nat) (e4 : Nat) (e5 : Nat) (e6 : Nat) (e7 : Nat) (e8 : Nat), r9 = none ∧ w9 = [(q0, .inr (5, [.int 0, .int 0, .ref e2, .ref e3, .ref e4, .ref e5, .ref e6, .ref e7, .ref e8, .int 0, .long (-1)])), (e2, .inl (cy 1, 10, .inr (.inl (fun _ => 0)))), (e3, .inl (cy 1, 1024, .inr (.inl (fun _ => 0)))), (e4, .inl (cy 0, 1024, .inl (fun _ => 0))), (e5, .inl (cy 0, 1024, .inl (fun _ => 0))), (e6, .inl (cy 0, 10, .inl (fun _ => 0))), (e7, .inl (cy 0, 10, .inl (fun _ => 0))), (e8, .inl (cy 1, 10, .inr (.inl (fun _ => 0))))]) := by
  refine g_startE (cc := cX5_init) (maxL := 1) (ret := none) (by decide) rfl (Nat.le_of_ble_eq_true rfl) (fun v w1 h => by obtain ⟨_, _, _, _, _, _, _, rfl, -⟩ := h; exact rfl) (fun Γ hlΓ hnm hE0 => ?_)
  subst hlΓ
  refine g_aload_n (i := 0) dX5_init_0 rfl rfl ?_
  refine g_oinit dX5_init_1 (List.mem_of_getElem? (i := 1) rfl) (List.mem_of_getElem? (i := 2) rfl) (List.mem_of_getElem? (i := 3) rfl) (Nat.le_of_ble_eq_true rfl) (by exact Nat.le_of_ble_eq_true rfl) ?_
  refine g_aload_n (i := 0) dX5_init_4 rfl rfl ?_
  refine g_bipush (10) rfl dX5_init_5 ?_
  refine g_newa (N := 10) (z := .inr (.inl (fun _ => 0))) 1 dX5_init_7 rfl (Or.inr (Or.inl rfl)) (List.mem_of_getElem? (i := 4) rfl) rfl (fun _ => rfl) (by decide) (by decide) (by decide) (Nat.le_of_ble_eq_true rfl) (Nat.le_of_ble_eq_true rfl) (fun q7 => ?_)
  refine g_putF 1 2 [(q7, .inl (cy 1, 10, .inr (.inl (fun _ => 0)))), (q0, .inr (5, [.int 0, .int 0, .ref q7, .null, .null, .null, .null, .null, .null, .int 0, .long 0]))] tyX5 tyX5_ok nmX5 hnm dX5_init_9 (List.mem_of_getElem? (i := 5) rfl) (fun w h => List.mem_cons_of_mem _ (List.mem_append_right _ h)) rfl rfl (by decide) rfl rfl (tyX5_ok 2 (by decide)) rfl rfl (Nat.le_of_ble_eq_true rfl) rfl ?_
  refine g_aload_n (i := 0) dX5_init_12 rfl rfl ?_
  refine g_sipush (1024) rfl dX5_init_13 ?_
  refine g_newa (N := 1024) (z := .inr (.inl (fun _ => 0))) 1 dX5_init_16 rfl (Or.inr (Or.inl rfl)) (List.mem_of_getElem? (i := 4) rfl) rfl (fun _ => rfl) (by decide) (by decide) (by decide) (Nat.le_of_ble_eq_true rfl) (Nat.le_of_ble_eq_true rfl) (fun q16 => ?_)
  refine g_putF 2 3 [(q16, .inl (cy 1, 1024, .inr (.inl (fun _ => 0)))), (q7, .inl (cy 1, 10, .inr (.inl (fun _ => 0)))), (q0, .inr (5, [.int 0, .int 0, .ref q7, .ref q16, .null, .null, .null, .null, .null, .int 0, .long 0]))] tyX5 tyX5_ok nmX5 hnm dX5_init_18 (List.mem_of_getElem? (i := 6) rfl) (fun w h => List.mem_cons_of_mem _ (List.mem_append_right _ h)) rfl rfl (by decide) rfl rfl (tyX5_ok 3 (by decide)) rfl rfl (Nat.le_of_ble_eq_true rfl) rfl ?_
  refine g_aload_n (i := 0) dX5_init_21 rfl rfl ?_
  refine g_sipush (1024) rfl dX5_init_22 ?_
  refine g_newa (N := 1024) (z := .inl (fun _ => 0)) 0 dX5_init_25 rfl (Or.inl rfl) (List.mem_of_getElem? (i := 7) rfl) rfl (fun _ => rfl) (by decide) (by decide) (by decide) (Nat.le_of_ble_eq_true rfl) (Nat.le_of_ble_eq_true rfl) (fun q25 => ?_)
  refine g_putF 3 4 [(q25, .inl (cy 0, 1024, .inl (fun _ => 0))), (q16, .inl (cy 1, 1024, .inr (.inl (fun _ => 0)))), (q7, .inl (cy 1, 10, .inr (.inl (fun _ => 0)))), (q0, .inr (5, [.int 0, .int 0, .ref q7, .ref q16, .ref q25, .null, .null, .null, .null, .int 0, .long 0]))] tyX5 tyX5_ok nmX5 hnm dX5_init_27 (List.mem_of_getElem? (i := 8) rfl) (fun w h => List.mem_cons_of_mem _ (List.mem_append_right _ h)) rfl rfl (by decide) rfl rfl (tyX5_ok 4 (by decide)) rfl rfl (Nat.le_of_ble_eq_true rfl) rfl ?_
  refine g_aload_n (i := 0) dX5_init_30 rfl rfl ?_
  refine g_sipush (1024) rfl dX5_init_31 ?_
  refine g_newa (N := 1024) (z := .inl (fun _ => 0)) 0 dX5_init_34 rfl (Or.inl rfl) (List.mem_of_getElem? (i := 7) rfl) rfl (fun _ => rfl) (by decide) (by decide) (by decide) (Nat.le_of_ble_eq_true rfl) (Nat.le_of_ble_eq_true rfl) (fun q34 => ?_)
  refine g_putF 4 5 [(q34, .inl (cy 0, 1024, .inl (fun _ => 0))), (q25, .inl (cy 0, 1024, .inl (fun _ => 0))), (q16, .inl (cy 1, 1024, .inr (.inl (fun _ => 0)))), (q7, .inl (cy 1, 10, .inr (.inl (fun _ => 0)))), (q0, .inr (5, [.int 0, .int 0, .ref q7, .ref q16, .ref q25, .ref q34, .null, .null, .null, .int 0, .long 0]))] tyX5 tyX5_ok nmX5 hnm dX5_init_36 (List.mem_of_getElem? (i := 9) rfl) (fun w h => List.mem_cons_of_mem _ (List.mem_append_right _ h)) rfl rfl (by decide) rfl rfl (tyX5_ok 5 (by decide)) rfl rfl (Nat.le_of_ble_eq_true rfl) rfl ?_
  refine g_aload_n (i := 0) dX5_init_39 rfl rfl ?_
  refine g_bipush (10) rfl dX5_init_40 ?_
  refine g_newa (N := 10) (z := .inl (fun _ => 0)) 0 dX5_init_42 rfl (Or.inl rfl) (List.mem_of_getElem? (i := 7) rfl) rfl (fun _ => rfl) (by decide) (by decide) (by decide) (Nat.le_of_ble_eq_true rfl) (Nat.le_of_ble_eq_true rfl) (fun q42 => ?_)
  refine g_putF 5 6 [(q42, .inl (cy 0, 10, .inl (fun _ => 0))), (q34, .inl (cy 0, 1024, .inl (fun _ => 0))), (q25, .inl (cy 0, 1024, .inl (fun _ => 0))), (q16, .inl (cy 1, 1024, .inr (.inl (fun _ => 0)))), (q7, .inl (cy 1, 10, .inr (.inl (fun _ => 0)))), (q0, .inr (5, [.int 0, .int 0, .ref q7, .ref q16, .ref q25, .ref q34, .ref q42, .null, .null, .int 0, .long 0]))] tyX5 tyX5_ok nmX5 hnm dX5_init_44 (List.mem_of_getElem? (i := 10) rfl) (fun w h => List.mem_cons_of_mem _ (List.mem_append_right _ h)) rfl rfl (by decide) rfl rfl (tyX5_ok 6 (by decide)) rfl rfl (Nat.le_of_ble_eq_true rfl) rfl ?_
  refine g_aload_n (i := 0) dX5_init_47 rfl rfl ?_
  refine g_bipush (10) rfl dX5_init_48 ?_
  refine g_newa (N := 10) (z := .inl (fun _ => 0)) 0 dX5_init_50 rfl (Or.inl rfl) (List.mem_of_getElem? (i := 7) rfl) rfl (fun _ => rfl) (by decide) (by decide) (by decide) (Nat.le_of_ble_eq_true rfl) (Nat.le_of_ble_eq_true rfl) (fun q50 => ?_)
  refine g_putF 6 7 [(q50, .inl (cy 0, 10, .inl (fun _ => 0))), (q42, .inl (cy 0, 10, .inl (fun _ => 0))), (q34, .inl (cy 0, 1024, .inl (fun _ => 0))), (q25, .inl (cy 0, 1024, .inl (fun _ => 0))), (q16, .inl (cy 1, 1024, .inr (.inl (fun _ => 0)))), (q7, .inl (cy 1, 10, .inr (.inl (fun _ => 0)))), (q0, .inr (5, [.int 0, .int 0, .ref q7, .ref q16, .ref q25, .ref q34, .ref q42, .ref q50, .null, .int 0, .long 0]))] tyX5 tyX5_ok nmX5 hnm dX5_init_52 (List.mem_of_getElem? (i := 11) rfl) (fun w h => List.mem_cons_of_mem _ (List.mem_append_right _ h)) rfl rfl (by decide) rfl rfl (tyX5_ok 7 (by decide)) rfl rfl (Nat.le_of_ble_eq_true rfl) rfl ?_
  refine g_aload_n (i := 0) dX5_init_55 rfl rfl ?_
  refine g_bipush (10) rfl dX5_init_56 ?_
  refine g_newa (N := 10) (z := .inr (.inl (fun _ => 0))) 1 dX5_init_58 rfl (Or.inr (Or.inl rfl)) (List.mem_of_getElem? (i := 4) rfl) rfl (fun _ => rfl) (by decide) (by decide) (by decide) (Nat.le_of_ble_eq_true rfl) (Nat.le_of_ble_eq_true rfl) (fun q58 => ?_)
  refine g_putF 7 8 [(q58, .inl (cy 1, 10, .inr (.inl (fun _ => 0)))), (q50, .inl (cy 0, 10, .inl (fun _ => 0))), (q42, .inl (cy 0, 10, .inl (fun _ => 0))), (q34, .inl (cy 0, 1024, .inl (fun _ => 0))), (q25, .inl (cy 0, 1024, .inl (fun _ => 0))), (q16, .inl (cy 1, 1024, .inr (.inl (fun _ => 0)))), (q7, .inl (cy 1, 10, .inr (.inl (fun _ => 0)))), (q0, .inr (5, [.int 0, .int 0, .ref q7, .ref q16, .ref q25, .ref q34, .ref q42, .ref q50, .ref q58, .int 0, .long 0]))] tyX5 tyX5_ok nmX5 hnm dX5_init_60 (List.mem_of_getElem? (i := 12) rfl) (fun w h => List.mem_cons_of_mem _ (List.mem_append_right _ h)) rfl rfl (by decide) rfl rfl (tyX5_ok 8 (by decide)) rfl rfl (Nat.le_of_ble_eq_true rfl) rfl ?_
  refine g_aload_n (i := 0) dX5_init_63 rfl rfl ?_
  refine g_ldc2 (-1) (List.mem_of_getElem? (i := 13) rfl) dX5_init_64 ?_
  refine g_put 7 10 [(q58, .inl (cy 1, 10, .inr (.inl (fun _ => 0)))), (q50, .inl (cy 0, 10, .inl (fun _ => 0))), (q42, .inl (cy 0, 10, .inl (fun _ => 0))), (q34, .inl (cy 0, 1024, .inl (fun _ => 0))), (q25, .inl (cy 0, 1024, .inl (fun _ => 0))), (q16, .inl (cy 1, 1024, .inr (.inl (fun _ => 0)))), (q7, .inl (cy 1, 10, .inr (.inl (fun _ => 0)))), (q0, .inr (5, [.int 0, .int 0, .ref q7, .ref q16, .ref q25, .ref q34, .ref q42, .ref q50, .ref q58, .int 0, .long (-1)]))] tyX5 tyX5_ok nmX5 dX5_init_67 (List.mem_of_getElem? (i := 14) rfl) (fun w h => List.mem_cons_of_mem _ (List.mem_append_right _ h)) rfl rfl (by decide) rfl (tyX5_ok 10 (by decide)) rfl rfl (Nat.le_of_ble_eq_true rfl) rfl ?_
  refine g_wsub [(q0, .inr (5, [.int 0, .int 0, .ref q7, .ref q16, .ref q25, .ref q34, .ref q42, .ref q50, .ref q58, .int 0, .long (-1)])), (q7, .inl (cy 1, 10, .inr (.inl (fun _ => 0)))), (q16, .inl (cy 1, 1024, .inr (.inl (fun _ => 0)))), (q25, .inl (cy 0, 1024, .inl (fun _ => 0))), (q34, .inl (cy 0, 1024, .inl (fun _ => 0))), (q42, .inl (cy 0, 10, .inl (fun _ => 0))), (q50, .inl (cy 0, 10, .inl (fun _ => 0))), (q58, .inl (cy 1, 10, .inr (.inl (fun _ => 0))))] [7, 6, 5, 4, 3, 2, 1, 0] (by decide) rfl rfl ?_
  refine g_vret dX5_init_70 ?_
  exact ⟨q7, q16, q25, q34, q42, q50, q58, rfl, rfl⟩

set_option maxHeartbeats 4000000 in
set_option maxRecDepth 100000 in
/-- the constructor of ChangerFair$Purses -/
theorem I_X6 (l : Launch) (D : va_G) (cy : Nat → ClassId) (q0 : Nat) : CtE E0 l D clx (tyx cy) yX6_init wsX6_init (rmI 1 12 54) 12 54 [.ref q0] [(q0, .inr (6, [.null, .null]))] (fun r9 w9 => ∃ (e0 : Nat) (e1 : Nat) (s1 : Nat → Nat), r9 = none ∧ w9 = [(q0, .inr (6, [.ref e0, .ref e1])), (e0, .inl (cy 0, 4, .inl (fun _ => 0))), (e1, .inl (cy 4, 10, .inr (.inr (.inr (.inr (fun i => if i < 10 then some (s1 i) else none)))))), ((s1 0), .inl (cy 0, 4, .inl (fun _ => 0))), ((s1 1), .inl (cy 0, 4, .inl (fun _ => 0))), ((s1 2), .inl (cy 0, 4, .inl (fun _ => 0))), ((s1 3), .inl (cy 0, 4, .inl (fun _ => 0))), ((s1 4), .inl (cy 0, 4, .inl (fun _ => 0))), ((s1 5), .inl (cy 0, 4, .inl (fun _ => 0))), ((s1 6), .inl (cy 0, 4, .inl (fun _ => 0))), ((s1 7), .inl (cy 0, 4, .inl (fun _ => 0))), ((s1 8), .inl (cy 0, 4, .inl (fun _ => 0))), ((s1 9), .inl (cy 0, 4, .inl (fun _ => 0)))]) := by
  refine g_startE (cc := cX6_init) (maxL := 1) (ret := none) (by decide) rfl (Nat.le_of_ble_eq_true rfl) (fun v w1 h => by obtain ⟨_, _, _, rfl, -⟩ := h; exact rfl) (fun Γ hlΓ hnm hE0 => ?_)
  subst hlΓ
  refine g_aload_n (i := 0) dX6_init_0 rfl rfl ?_
  refine g_oinit dX6_init_1 (List.mem_of_getElem? (i := 1) rfl) (List.mem_of_getElem? (i := 2) rfl) (List.mem_of_getElem? (i := 3) rfl) (Nat.le_of_ble_eq_true rfl) (by exact Nat.le_of_ble_eq_true rfl) ?_
  refine g_aload_n (i := 0) dX6_init_4 rfl rfl ?_
  refine g_iconst (4) rfl dX6_init_5 ?_
  refine g_newa (N := 4) (z := .inl (fun _ => 0)) 0 dX6_init_6 rfl (Or.inl rfl) (List.mem_of_getElem? (i := 4) rfl) rfl (fun _ => rfl) (by decide) (by decide) (by decide) (Nat.le_of_ble_eq_true rfl) (Nat.le_of_ble_eq_true rfl) (fun q6 => ?_)
  refine g_putF 1 0 [(q6, .inl (cy 0, 4, .inl (fun _ => 0))), (q0, .inr (6, [.ref q6, .null]))] tyX6 tyX6_ok nmX6 hnm dX6_init_8 (List.mem_of_getElem? (i := 5) rfl) (fun w h => List.mem_cons_of_mem _ (List.mem_append_right _ h)) rfl rfl (by decide) rfl rfl (tyX6_ok 0 (by decide)) rfl rfl (Nat.le_of_ble_eq_true rfl) rfl ?_
  refine g_aload_n (i := 0) dX6_init_11 rfl rfl ?_
  refine g_bipush (10) rfl dX6_init_12 ?_
  refine g_iconst (4) rfl dX6_init_14 ?_
  refine g_mna (N := 10) (K := 4) (z := (4, .inl (fun _ => 0))) 0 4 dX6_init_15 (List.mem_of_getElem? (i := 6) rfl) hE0.2.1 (List.mem_of_getElem? (i := 4) rfl) (Or.inl rfl) rfl rfl (fun _ => inner_i _ _) (by decide) (by decide) (by decide) (by decide) (by decide) (by decide) (by decide) (Nat.le_of_ble_eq_true rfl) (Nat.le_of_ble_eq_true rfl) (fun q15 r15 => ?_)
  refine g_weq [(q15, .inl (cy 4, 10, .inr (.inr (.inr (.inr (fun i => if i < 10 then some (r15 i) else none)))))), ((r15 0), .inl (cy 0, 4, .inl (fun _ => 0))), ((r15 1), .inl (cy 0, 4, .inl (fun _ => 0))), ((r15 2), .inl (cy 0, 4, .inl (fun _ => 0))), ((r15 3), .inl (cy 0, 4, .inl (fun _ => 0))), ((r15 4), .inl (cy 0, 4, .inl (fun _ => 0))), ((r15 5), .inl (cy 0, 4, .inl (fun _ => 0))), ((r15 6), .inl (cy 0, 4, .inl (fun _ => 0))), ((r15 7), .inl (cy 0, 4, .inl (fun _ => 0))), ((r15 8), .inl (cy 0, 4, .inl (fun _ => 0))), ((r15 9), .inl (cy 0, 4, .inl (fun _ => 0))), (q6, .inl (cy 0, 4, .inl (fun _ => 0))), (q0, .inr (6, [.ref q6, .null]))] rfl ?_
  refine g_putF 12 1 [(q15, .inl (cy 4, 10, .inr (.inr (.inr (.inr (fun i => if i < 10 then some (r15 i) else none)))))), ((r15 0), .inl (cy 0, 4, .inl (fun _ => 0))), ((r15 1), .inl (cy 0, 4, .inl (fun _ => 0))), ((r15 2), .inl (cy 0, 4, .inl (fun _ => 0))), ((r15 3), .inl (cy 0, 4, .inl (fun _ => 0))), ((r15 4), .inl (cy 0, 4, .inl (fun _ => 0))), ((r15 5), .inl (cy 0, 4, .inl (fun _ => 0))), ((r15 6), .inl (cy 0, 4, .inl (fun _ => 0))), ((r15 7), .inl (cy 0, 4, .inl (fun _ => 0))), ((r15 8), .inl (cy 0, 4, .inl (fun _ => 0))), ((r15 9), .inl (cy 0, 4, .inl (fun _ => 0))), (q6, .inl (cy 0, 4, .inl (fun _ => 0))), (q0, .inr (6, [.ref q6, .ref q15]))] tyX6 tyX6_ok nmX6 hnm dX6_init_19 (List.mem_of_getElem? (i := 7) rfl) (fun w h => List.mem_cons_of_mem _ (List.mem_append_right _ h)) rfl rfl (by decide) rfl rfl (tyX6_ok 1 (by decide)) rfl rfl (Nat.le_of_ble_eq_true rfl) rfl ?_
  refine g_wsub [(q0, .inr (6, [.ref q6, .ref q15])), (q6, .inl (cy 0, 4, .inl (fun _ => 0))), (q15, .inl (cy 4, 10, .inr (.inr (.inr (.inr (fun i => if i < 10 then some (r15 i) else none)))))), ((r15 0), .inl (cy 0, 4, .inl (fun _ => 0))), ((r15 1), .inl (cy 0, 4, .inl (fun _ => 0))), ((r15 2), .inl (cy 0, 4, .inl (fun _ => 0))), ((r15 3), .inl (cy 0, 4, .inl (fun _ => 0))), ((r15 4), .inl (cy 0, 4, .inl (fun _ => 0))), ((r15 5), .inl (cy 0, 4, .inl (fun _ => 0))), ((r15 6), .inl (cy 0, 4, .inl (fun _ => 0))), ((r15 7), .inl (cy 0, 4, .inl (fun _ => 0))), ((r15 8), .inl (cy 0, 4, .inl (fun _ => 0))), ((r15 9), .inl (cy 0, 4, .inl (fun _ => 0)))] [12, 11, 0, 1, 2, 3, 4, 5, 6, 7, 8, 9, 10] (by decide) rfl rfl ?_
  refine g_vret dX6_init_22 ?_
  exact ⟨q6, q15, r15, rfl, rfl⟩

set_option maxHeartbeats 4000000 in
set_option maxRecDepth 100000 in
/-- the constructor of ChangerFair$Rates -/
theorem I_X7 (l : Launch) (D : va_G) (cy : Nat → ClassId) (q0 : Nat) : CtE E0 l D clx (tyx cy) yX7_init wsX7_init (rmI 1 13 95) 13 95 [.ref q0] [(q0, .inr (7, [.null, .null, .null]))] (fun r9 w9 => ∃ (e0 : Nat) (s0 : Nat → Nat) (e1 : Nat) (s1 : Nat → Nat) (e2 : Nat), r9 = none ∧ w9 = [(q0, .inr (7, [.ref e0, .ref e1, .ref e2])), (e0, .inl (cy 4, 5, .inr (.inr (.inr (.inr (fun i => if i < 5 then some (s0 i) else none)))))), ((s0 0), .inl (cy 0, 10, .inl (fun _ => 0))), ((s0 1), .inl (cy 0, 10, .inl (fun _ => 0))), ((s0 2), .inl (cy 0, 10, .inl (fun _ => 0))), ((s0 3), .inl (cy 0, 10, .inl (fun _ => 0))), ((s0 4), .inl (cy 0, 10, .inl (fun _ => 0))), (e1, .inl (cy 4, 5, .inr (.inr (.inr (.inr (fun i => if i < 5 then some (s1 i) else none)))))), ((s1 0), .inl (cy 0, 5, .inl (fun _ => 0))), ((s1 1), .inl (cy 0, 5, .inl (fun _ => 0))), ((s1 2), .inl (cy 0, 5, .inl (fun _ => 0))), ((s1 3), .inl (cy 0, 5, .inl (fun _ => 0))), ((s1 4), .inl (cy 0, 5, .inl (fun _ => 0))), (e2, .inl (cy 0, 10, .inl (fun _ => 0)))]) := by
  refine g_startE (cc := cX7_init) (maxL := 1) (ret := none) (by decide) rfl (Nat.le_of_ble_eq_true rfl) (fun v w1 h => by obtain ⟨_, _, _, _, _, rfl, -⟩ := h; exact rfl) (fun Γ hlΓ hnm hE0 => ?_)
  subst hlΓ
  refine g_aload_n (i := 0) dX7_init_0 rfl rfl ?_
  refine g_oinit dX7_init_1 (List.mem_of_getElem? (i := 1) rfl) (List.mem_of_getElem? (i := 2) rfl) (List.mem_of_getElem? (i := 3) rfl) (Nat.le_of_ble_eq_true rfl) (by exact Nat.le_of_ble_eq_true rfl) ?_
  refine g_aload_n (i := 0) dX7_init_4 rfl rfl ?_
  refine g_iconst (5) rfl dX7_init_5 ?_
  refine g_bipush (10) rfl dX7_init_6 ?_
  refine g_mna (N := 5) (K := 10) (z := (10, .inl (fun _ => 0))) 0 4 dX7_init_8 (List.mem_of_getElem? (i := 4) rfl) hE0.2.1 (List.mem_of_getElem? (i := 5) rfl) (Or.inl rfl) rfl rfl (fun _ => inner_i _ _) (by decide) (by decide) (by decide) (by decide) (by decide) (by decide) (by decide) (Nat.le_of_ble_eq_true rfl) (Nat.le_of_ble_eq_true rfl) (fun q8 r8 => ?_)
  refine g_weq [(q8, .inl (cy 4, 5, .inr (.inr (.inr (.inr (fun i => if i < 5 then some (r8 i) else none)))))), ((r8 0), .inl (cy 0, 10, .inl (fun _ => 0))), ((r8 1), .inl (cy 0, 10, .inl (fun _ => 0))), ((r8 2), .inl (cy 0, 10, .inl (fun _ => 0))), ((r8 3), .inl (cy 0, 10, .inl (fun _ => 0))), ((r8 4), .inl (cy 0, 10, .inl (fun _ => 0))), (q0, .inr (7, [.null, .null, .null]))] rfl ?_
  refine g_putF 6 0 [(q8, .inl (cy 4, 5, .inr (.inr (.inr (.inr (fun i => if i < 5 then some (r8 i) else none)))))), ((r8 0), .inl (cy 0, 10, .inl (fun _ => 0))), ((r8 1), .inl (cy 0, 10, .inl (fun _ => 0))), ((r8 2), .inl (cy 0, 10, .inl (fun _ => 0))), ((r8 3), .inl (cy 0, 10, .inl (fun _ => 0))), ((r8 4), .inl (cy 0, 10, .inl (fun _ => 0))), (q0, .inr (7, [.ref q8, .null, .null]))] tyX7 tyX7_ok nmX7 hnm dX7_init_12 (List.mem_of_getElem? (i := 6) rfl) (fun w h => List.mem_cons_of_mem _ (List.mem_append_right _ h)) rfl rfl (by decide) rfl rfl (tyX7_ok 0 (by decide)) rfl rfl (Nat.le_of_ble_eq_true rfl) rfl ?_
  refine g_aload_n (i := 0) dX7_init_15 rfl rfl ?_
  refine g_iconst (5) rfl dX7_init_16 ?_
  refine g_iconst (5) rfl dX7_init_17 ?_
  refine g_mna (N := 5) (K := 5) (z := (5, .inl (fun _ => 0))) 0 4 dX7_init_18 (List.mem_of_getElem? (i := 4) rfl) hE0.2.1 (List.mem_of_getElem? (i := 5) rfl) (Or.inl rfl) rfl rfl (fun _ => inner_i _ _) (by decide) (by decide) (by decide) (by decide) (by decide) (by decide) (by decide) (Nat.le_of_ble_eq_true rfl) (Nat.le_of_ble_eq_true rfl) (fun q18 r18 => ?_)
  refine g_weq [(q18, .inl (cy 4, 5, .inr (.inr (.inr (.inr (fun i => if i < 5 then some (r18 i) else none)))))), ((r18 0), .inl (cy 0, 5, .inl (fun _ => 0))), ((r18 1), .inl (cy 0, 5, .inl (fun _ => 0))), ((r18 2), .inl (cy 0, 5, .inl (fun _ => 0))), ((r18 3), .inl (cy 0, 5, .inl (fun _ => 0))), ((r18 4), .inl (cy 0, 5, .inl (fun _ => 0))), (q8, .inl (cy 4, 5, .inr (.inr (.inr (.inr (fun i => if i < 5 then some (r8 i) else none)))))), ((r8 0), .inl (cy 0, 10, .inl (fun _ => 0))), ((r8 1), .inl (cy 0, 10, .inl (fun _ => 0))), ((r8 2), .inl (cy 0, 10, .inl (fun _ => 0))), ((r8 3), .inl (cy 0, 10, .inl (fun _ => 0))), ((r8 4), .inl (cy 0, 10, .inl (fun _ => 0))), (q0, .inr (7, [.ref q8, .null, .null]))] rfl ?_
  refine g_putF 12 1 [(q18, .inl (cy 4, 5, .inr (.inr (.inr (.inr (fun i => if i < 5 then some (r18 i) else none)))))), ((r18 0), .inl (cy 0, 5, .inl (fun _ => 0))), ((r18 1), .inl (cy 0, 5, .inl (fun _ => 0))), ((r18 2), .inl (cy 0, 5, .inl (fun _ => 0))), ((r18 3), .inl (cy 0, 5, .inl (fun _ => 0))), ((r18 4), .inl (cy 0, 5, .inl (fun _ => 0))), (q8, .inl (cy 4, 5, .inr (.inr (.inr (.inr (fun i => if i < 5 then some (r8 i) else none)))))), ((r8 0), .inl (cy 0, 10, .inl (fun _ => 0))), ((r8 1), .inl (cy 0, 10, .inl (fun _ => 0))), ((r8 2), .inl (cy 0, 10, .inl (fun _ => 0))), ((r8 3), .inl (cy 0, 10, .inl (fun _ => 0))), ((r8 4), .inl (cy 0, 10, .inl (fun _ => 0))), (q0, .inr (7, [.ref q8, .ref q18, .null]))] tyX7 tyX7_ok nmX7 hnm dX7_init_22 (List.mem_of_getElem? (i := 7) rfl) (fun w h => List.mem_cons_of_mem _ (List.mem_append_right _ h)) rfl rfl (by decide) rfl rfl (tyX7_ok 1 (by decide)) rfl rfl (Nat.le_of_ble_eq_true rfl) rfl ?_
  refine g_aload_n (i := 0) dX7_init_25 rfl rfl ?_
  refine g_bipush (10) rfl dX7_init_26 ?_
  refine g_newa (N := 10) (z := .inl (fun _ => 0)) 0 dX7_init_28 rfl (Or.inl rfl) (List.mem_of_getElem? (i := 5) rfl) rfl (fun _ => rfl) (by decide) (by decide) (by decide) (Nat.le_of_ble_eq_true rfl) (Nat.le_of_ble_eq_true rfl) (fun q28 => ?_)
  refine g_putF 13 2 [(q28, .inl (cy 0, 10, .inl (fun _ => 0))), (q18, .inl (cy 4, 5, .inr (.inr (.inr (.inr (fun i => if i < 5 then some (r18 i) else none)))))), ((r18 0), .inl (cy 0, 5, .inl (fun _ => 0))), ((r18 1), .inl (cy 0, 5, .inl (fun _ => 0))), ((r18 2), .inl (cy 0, 5, .inl (fun _ => 0))), ((r18 3), .inl (cy 0, 5, .inl (fun _ => 0))), ((r18 4), .inl (cy 0, 5, .inl (fun _ => 0))), (q8, .inl (cy 4, 5, .inr (.inr (.inr (.inr (fun i => if i < 5 then some (r8 i) else none)))))), ((r8 0), .inl (cy 0, 10, .inl (fun _ => 0))), ((r8 1), .inl (cy 0, 10, .inl (fun _ => 0))), ((r8 2), .inl (cy 0, 10, .inl (fun _ => 0))), ((r8 3), .inl (cy 0, 10, .inl (fun _ => 0))), ((r8 4), .inl (cy 0, 10, .inl (fun _ => 0))), (q0, .inr (7, [.ref q8, .ref q18, .ref q28]))] tyX7 tyX7_ok nmX7 hnm dX7_init_30 (List.mem_of_getElem? (i := 8) rfl) (fun w h => List.mem_cons_of_mem _ (List.mem_append_right _ h)) rfl rfl (by decide) rfl rfl (tyX7_ok 2 (by decide)) rfl rfl (Nat.le_of_ble_eq_true rfl) rfl ?_
  refine g_wsub [(q0, .inr (7, [.ref q8, .ref q18, .ref q28])), (q8, .inl (cy 4, 5, .inr (.inr (.inr (.inr (fun i => if i < 5 then some (r8 i) else none)))))), ((r8 0), .inl (cy 0, 10, .inl (fun _ => 0))), ((r8 1), .inl (cy 0, 10, .inl (fun _ => 0))), ((r8 2), .inl (cy 0, 10, .inl (fun _ => 0))), ((r8 3), .inl (cy 0, 10, .inl (fun _ => 0))), ((r8 4), .inl (cy 0, 10, .inl (fun _ => 0))), (q18, .inl (cy 4, 5, .inr (.inr (.inr (.inr (fun i => if i < 5 then some (r18 i) else none)))))), ((r18 0), .inl (cy 0, 5, .inl (fun _ => 0))), ((r18 1), .inl (cy 0, 5, .inl (fun _ => 0))), ((r18 2), .inl (cy 0, 5, .inl (fun _ => 0))), ((r18 3), .inl (cy 0, 5, .inl (fun _ => 0))), ((r18 4), .inl (cy 0, 5, .inl (fun _ => 0))), (q28, .inl (cy 0, 10, .inl (fun _ => 0)))] [13, 7, 8, 9, 10, 11, 12, 1, 2, 3, 4, 5, 6, 0] (by decide) rfl rfl ?_
  refine g_vret dX7_init_33 ?_
  exact ⟨q8, r8, q18, r18, q28, rfl, rfl⟩

set_option maxHeartbeats 4000000 in
set_option maxRecDepth 100000 in
/-- the constructor of ChangerFair$Bill -/
theorem I_X0 (l : Launch) (D : va_G) (cy : Nat → ClassId) (q0 : Nat) (kd dr de py am : Int32) : CtE (fun _ => True) l D clx (tyx cy) yX0_init wsX0_init (rmI 1 2 9) 2 9 [.ref q0, .int kd, .int dr, .int de, .int py, .int am] [(q0, .inr (0, [.int 0, .int 0, .int 0, .int 0, .int 0, .int 0, .int 0, .int 0, .null, .null]))] (fun r9 w9 => ∃ (e8 : Nat) (e9 : Nat), r9 = none ∧ w9 = [(q0, .inr (0, [.int kd, .int dr, .int de, .int am, .int py, .int 0, .int 0, .int 0, .ref e8, .ref e9])), (e8, .inl (cy 0, 4, .inl (fun _ => 0))), (e9, .inl (cy 0, 5, .inl (upd (upd (upd (upd (upd (fun _ => 0) 0 (-1)) 1 (-1)) 2 (-1)) 3 (-1)) 4 (-1))))]) := by
  refine g_startE (cc := cX0_init) (maxL := 7) (ret := none) (by decide) rfl (Nat.le_of_ble_eq_true rfl) (fun v w1 h => by obtain ⟨_, _, rfl, -⟩ := h; exact rfl) (fun Γ hlΓ hnm hE0 => ?_)
  subst hlΓ
  refine g_aload_n (i := 0) dX0_init_0 rfl rfl ?_
  refine g_oinit dX0_init_1 (List.mem_of_getElem? (i := 1) rfl) (List.mem_of_getElem? (i := 2) rfl) (List.mem_of_getElem? (i := 3) rfl) (Nat.le_of_ble_eq_true rfl) (by exact Nat.le_of_ble_eq_true rfl) ?_
  refine g_aload_n (i := 0) dX0_init_4 rfl rfl ?_
  refine g_iconst (4) rfl dX0_init_5 ?_
  refine g_newa (N := 4) (z := .inl (fun _ => 0)) 0 dX0_init_6 rfl (Or.inl rfl) (List.mem_of_getElem? (i := 4) rfl) rfl (fun _ => rfl) (by decide) (by decide) (by decide) (Nat.le_of_ble_eq_true rfl) (Nat.le_of_ble_eq_true rfl) (fun q6 => ?_)
  refine g_putF 1 8 [(q6, .inl (cy 0, 4, .inl (fun _ => 0))), (q0, .inr (0, [.int 0, .int 0, .int 0, .int 0, .int 0, .int 0, .int 0, .int 0, .ref q6, .null]))] tyX0 tyX0_ok nmX0 hnm dX0_init_8 (List.mem_of_getElem? (i := 5) rfl) (fun w h => List.mem_cons_of_mem _ (List.mem_append_right _ h)) rfl rfl (by decide) rfl rfl (tyX0_ok 8 (by decide)) rfl rfl (Nat.le_of_ble_eq_true rfl) rfl ?_
  refine g_aload_n (i := 0) dX0_init_11 rfl rfl ?_
  refine g_iconst (5) rfl dX0_init_12 ?_
  refine g_newa (N := 5) (z := .inl (fun _ => 0)) 0 dX0_init_13 rfl (Or.inl rfl) (List.mem_of_getElem? (i := 4) rfl) rfl (fun _ => rfl) (by decide) (by decide) (by decide) (Nat.le_of_ble_eq_true rfl) (Nat.le_of_ble_eq_true rfl) (fun q13 => ?_)
  refine g_putF 2 9 [(q13, .inl (cy 0, 5, .inl (fun _ => 0))), (q6, .inl (cy 0, 4, .inl (fun _ => 0))), (q0, .inr (0, [.int 0, .int 0, .int 0, .int 0, .int 0, .int 0, .int 0, .int 0, .ref q6, .ref q13]))] tyX0 tyX0_ok nmX0 hnm dX0_init_15 (List.mem_of_getElem? (i := 6) rfl) (fun w h => List.mem_cons_of_mem _ (List.mem_append_right _ h)) rfl rfl (by decide) rfl rfl (tyX0_ok 9 (by decide)) rfl rfl (Nat.le_of_ble_eq_true rfl) rfl ?_
  refine g_aload_n (i := 0) dX0_init_18 rfl rfl ?_
  refine g_iload_n (i := 1) dX0_init_19 rfl rfl ?_
  refine g_putF 2 0 [(q13, .inl (cy 0, 5, .inl (fun _ => 0))), (q6, .inl (cy 0, 4, .inl (fun _ => 0))), (q0, .inr (0, [.int kd, .int 0, .int 0, .int 0, .int 0, .int 0, .int 0, .int 0, .ref q6, .ref q13]))] tyX0 tyX0_ok nmX0 hnm dX0_init_20 (List.mem_of_getElem? (i := 7) rfl) (fun w h => List.mem_cons_of_mem _ (List.mem_append_right _ h)) rfl rfl (by decide) rfl rfl (tyX0_ok 0 (by decide)) rfl rfl (Nat.le_of_ble_eq_true rfl) rfl ?_
  refine g_aload_n (i := 0) dX0_init_23 rfl rfl ?_
  refine g_iload_n (i := 2) dX0_init_24 rfl rfl ?_
  refine g_putF 2 1 [(q13, .inl (cy 0, 5, .inl (fun _ => 0))), (q6, .inl (cy 0, 4, .inl (fun _ => 0))), (q0, .inr (0, [.int kd, .int dr, .int 0, .int 0, .int 0, .int 0, .int 0, .int 0, .ref q6, .ref q13]))] tyX0 tyX0_ok nmX0 hnm dX0_init_25 (List.mem_of_getElem? (i := 8) rfl) (fun w h => List.mem_cons_of_mem _ (List.mem_append_right _ h)) rfl rfl (by decide) rfl rfl (tyX0_ok 1 (by decide)) rfl rfl (Nat.le_of_ble_eq_true rfl) rfl ?_
  refine g_aload_n (i := 0) dX0_init_28 rfl rfl ?_
  refine g_iload_n (i := 3) dX0_init_29 rfl rfl ?_
  refine g_putF 2 2 [(q13, .inl (cy 0, 5, .inl (fun _ => 0))), (q6, .inl (cy 0, 4, .inl (fun _ => 0))), (q0, .inr (0, [.int kd, .int dr, .int de, .int 0, .int 0, .int 0, .int 0, .int 0, .ref q6, .ref q13]))] tyX0 tyX0_ok nmX0 hnm dX0_init_30 (List.mem_of_getElem? (i := 9) rfl) (fun w h => List.mem_cons_of_mem _ (List.mem_append_right _ h)) rfl rfl (by decide) rfl rfl (tyX0_ok 2 (by decide)) rfl rfl (Nat.le_of_ble_eq_true rfl) rfl ?_
  refine g_aload_n (i := 0) dX0_init_33 rfl rfl ?_
  refine g_iload dX0_init_34 rfl ?_
  refine g_put 2 4 [(q13, .inl (cy 0, 5, .inl (fun _ => 0))), (q6, .inl (cy 0, 4, .inl (fun _ => 0))), (q0, .inr (0, [.int kd, .int dr, .int de, .int 0, .int py, .int 0, .int 0, .int 0, .ref q6, .ref q13]))] tyX0 tyX0_ok nmX0 dX0_init_36 (List.mem_of_getElem? (i := 10) rfl) (fun w h => List.mem_cons_of_mem _ (List.mem_append_right _ h)) rfl rfl (by decide) rfl (tyX0_ok 4 (by decide)) rfl rfl (Nat.le_of_ble_eq_true rfl) rfl ?_
  refine g_aload_n (i := 0) dX0_init_39 rfl rfl ?_
  refine g_iload dX0_init_40 rfl ?_
  refine g_putF 2 3 [(q13, .inl (cy 0, 5, .inl (fun _ => 0))), (q6, .inl (cy 0, 4, .inl (fun _ => 0))), (q0, .inr (0, [.int kd, .int dr, .int de, .int am, .int py, .int 0, .int 0, .int 0, .ref q6, .ref q13]))] tyX0 tyX0_ok nmX0 hnm dX0_init_42 (List.mem_of_getElem? (i := 11) rfl) (fun w h => List.mem_cons_of_mem _ (List.mem_append_right _ h)) rfl rfl (by decide) rfl rfl (tyX0_ok 3 (by decide)) rfl rfl (Nat.le_of_ble_eq_true rfl) rfl ?_
  refine g_iconst (0) rfl dX0_init_45 ?_
  refine g_istore dX0_init_46 (by decide) ?_
  refine g_iload dX0_init_48 rfl ?_
  refine g_iconst (4) rfl dX0_init_50 ?_
  refine g_icmp_gt 68 dX0_init_51 (by decide) (fun h9 => absurd h9 (by decide)) (fun _ => ?_)
  refine g_aload_n (i := 0) dX0_init_54 rfl rfl ?_
  refine g_get 2 9 dX0_init_55 (List.mem_of_getElem? (i := 6) rfl) (fun w h => List.mem_cons_of_mem _ (List.mem_append_right _ h)) rfl rfl (by decide) rfl ?_
  refine g_iload dX0_init_58 rfl ?_
  refine g_iconst (-1) rfl dX0_init_60 ?_
  refine g_iast 0 0 [(q13, .inl (cy 0, 5, .inl (upd (fun _ => 0) 0 (-1)))), (q6, .inl (cy 0, 4, .inl (fun _ => 0))), (q0, .inr (0, [.int kd, .int dr, .int de, .int am, .int py, .int 0, .int 0, .int 0, .ref q6, .ref q13]))] dX0_init_61 rfl rfl (by unfold vp_in; decide) rfl ?_
  refine g_iinc (1) dX0_init_62 rfl rfl (by decide) ?_
  refine g_goto 48 dX0_init_65 (by decide) ?_
  refine g_iload dX0_init_48 rfl ?_
  refine g_iconst (4) rfl dX0_init_50 ?_
  refine g_icmp_gt 68 dX0_init_51 (by decide) (fun h9 => absurd h9 (by decide)) (fun _ => ?_)
  refine g_aload_n (i := 0) dX0_init_54 rfl rfl ?_
  refine g_get 2 9 dX0_init_55 (List.mem_of_getElem? (i := 6) rfl) (fun w h => List.mem_cons_of_mem _ (List.mem_append_right _ h)) rfl rfl (by decide) rfl ?_
  refine g_iload dX0_init_58 rfl ?_
  refine g_iconst (-1) rfl dX0_init_60 ?_
  refine g_iast 0 0 [(q13, .inl (cy 0, 5, .inl (upd (upd (fun _ => 0) 0 (-1)) 1 (-1)))), (q6, .inl (cy 0, 4, .inl (fun _ => 0))), (q0, .inr (0, [.int kd, .int dr, .int de, .int am, .int py, .int 0, .int 0, .int 0, .ref q6, .ref q13]))] dX0_init_61 rfl rfl (by unfold vp_in; decide) rfl ?_
  refine g_iinc (1) dX0_init_62 rfl rfl (by decide) ?_
  refine g_goto 48 dX0_init_65 (by decide) ?_
  refine g_iload dX0_init_48 rfl ?_
  refine g_iconst (4) rfl dX0_init_50 ?_
  refine g_icmp_gt 68 dX0_init_51 (by decide) (fun h9 => absurd h9 (by decide)) (fun _ => ?_)
  refine g_aload_n (i := 0) dX0_init_54 rfl rfl ?_
  refine g_get 2 9 dX0_init_55 (List.mem_of_getElem? (i := 6) rfl) (fun w h => List.mem_cons_of_mem _ (List.mem_append_right _ h)) rfl rfl (by decide) rfl ?_
  refine g_iload dX0_init_58 rfl ?_
  refine g_iconst (-1) rfl dX0_init_60 ?_
  refine g_iast 0 0 [(q13, .inl (cy 0, 5, .inl (upd (upd (upd (fun _ => 0) 0 (-1)) 1 (-1)) 2 (-1)))), (q6, .inl (cy 0, 4, .inl (fun _ => 0))), (q0, .inr (0, [.int kd, .int dr, .int de, .int am, .int py, .int 0, .int 0, .int 0, .ref q6, .ref q13]))] dX0_init_61 rfl rfl (by unfold vp_in; decide) rfl ?_
  refine g_iinc (1) dX0_init_62 rfl rfl (by decide) ?_
  refine g_goto 48 dX0_init_65 (by decide) ?_
  refine g_iload dX0_init_48 rfl ?_
  refine g_iconst (4) rfl dX0_init_50 ?_
  refine g_icmp_gt 68 dX0_init_51 (by decide) (fun h9 => absurd h9 (by decide)) (fun _ => ?_)
  refine g_aload_n (i := 0) dX0_init_54 rfl rfl ?_
  refine g_get 2 9 dX0_init_55 (List.mem_of_getElem? (i := 6) rfl) (fun w h => List.mem_cons_of_mem _ (List.mem_append_right _ h)) rfl rfl (by decide) rfl ?_
  refine g_iload dX0_init_58 rfl ?_
  refine g_iconst (-1) rfl dX0_init_60 ?_
  refine g_iast 0 0 [(q13, .inl (cy 0, 5, .inl (upd (upd (upd (upd (fun _ => 0) 0 (-1)) 1 (-1)) 2 (-1)) 3 (-1)))), (q6, .inl (cy 0, 4, .inl (fun _ => 0))), (q0, .inr (0, [.int kd, .int dr, .int de, .int am, .int py, .int 0, .int 0, .int 0, .ref q6, .ref q13]))] dX0_init_61 rfl rfl (by unfold vp_in; decide) rfl ?_
  refine g_iinc (1) dX0_init_62 rfl rfl (by decide) ?_
  refine g_goto 48 dX0_init_65 (by decide) ?_
  refine g_iload dX0_init_48 rfl ?_
  refine g_iconst (4) rfl dX0_init_50 ?_
  refine g_icmp_gt 68 dX0_init_51 (by decide) (fun h9 => absurd h9 (by decide)) (fun _ => ?_)
  refine g_aload_n (i := 0) dX0_init_54 rfl rfl ?_
  refine g_get 2 9 dX0_init_55 (List.mem_of_getElem? (i := 6) rfl) (fun w h => List.mem_cons_of_mem _ (List.mem_append_right _ h)) rfl rfl (by decide) rfl ?_
  refine g_iload dX0_init_58 rfl ?_
  refine g_iconst (-1) rfl dX0_init_60 ?_
  refine g_iast 0 0 [(q13, .inl (cy 0, 5, .inl (upd (upd (upd (upd (upd (fun _ => 0) 0 (-1)) 1 (-1)) 2 (-1)) 3 (-1)) 4 (-1)))), (q6, .inl (cy 0, 4, .inl (fun _ => 0))), (q0, .inr (0, [.int kd, .int dr, .int de, .int am, .int py, .int 0, .int 0, .int 0, .ref q6, .ref q13]))] dX0_init_61 rfl rfl (by unfold vp_in; decide) rfl ?_
  refine g_iinc (1) dX0_init_62 rfl rfl (by decide) ?_
  refine g_goto 48 dX0_init_65 (by decide) ?_
  refine g_iload dX0_init_48 rfl ?_
  refine g_iconst (4) rfl dX0_init_50 ?_
  refine g_icmp_gt 68 dX0_init_51 (by decide) (fun _ => ?_) (fun h9 => absurd h9 (by decide))
  refine g_wsub [(q0, .inr (0, [.int kd, .int dr, .int de, .int am, .int py, .int 0, .int 0, .int 0, .ref q6, .ref q13])), (q6, .inl (cy 0, 4, .inl (fun _ => 0))), (q13, .inl (cy 0, 5, .inl (upd (upd (upd (upd (upd (fun _ => 0) 0 (-1)) 1 (-1)) 2 (-1)) 3 (-1)) 4 (-1))))] [2, 1, 0] (by decide) rfl rfl ?_
  refine g_vret dX0_init_68 ?_
  exact ⟨q6, q13, rfl, rfl⟩

