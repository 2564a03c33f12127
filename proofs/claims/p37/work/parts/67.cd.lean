section GL5
variable {Γ : gT} {R : Room} {cc : ByteArray} {own : String} {Ts : List Cond} {nL : Nat} {D : va_G} {cl : List vw_C} {tys : List (ClassId × FieldType)} {mc ms : Nat} {post : Option Value → va_W → Prop} {k n : Nat} {ws : va_W} {pc : Nat} {lv : List (Nat × Value)} {st : List Value}
theorem g_tlR (X W : va_W) : ((List.range W.length).map (fun i => i + X.length)).map (fun i => (X ++ W)[i]?) = W.map some := by
  rw [List.map_map]
  have e : ((fun i => (X ++ W)[i]?) ∘ (fun i => i + X.length)) = fun i => W[i]? := by
    funext i
    show (X ++ W)[i + X.length]? = _
    rw [List.getElem?_append_right (by omega)]
    congr 1
    omega
  rw [e]
  exact g_len W
theorem g_tlN (m n : Nat) : va_nd ((List.range n).map (fun i => i + m)) = true := by
  apply g_nd
  rw [List.Nodup, List.pairwise_map]
  exact List.nodup_range.imp (fun h e => h (by omega))
theorem g_tlD (m n : Nat) : ∀ i ∈ (List.range n).map (fun i => i + m), i ∉ List.range m := by
  intro i hi h
  obtain ⟨j, -, rfl⟩ := List.mem_map.mp hi
  have := List.mem_range.mp h
  omega
/-- a constructor of the newest object, whose cell alone it gets -/
theorem g_callI1 {y : MethodName} {bytes : ByteArray} {maxL ix mc1 ms1 b : Nat} {wy wy' : List Cond} {rm : Room} {post1 : Option Value → va_W → Prop} {As rest : List Value} {x : Nat × va_E} (nn : Nat) (hg : GoodIn Ts wy) (hlk : Cond.methodLink own ix y ∈ Ts) (him : Cond.instanceMethod y ∈ Ts) (hini : Cond.initialized y.cls ∈ Ts) (hw : wy = Cond.code y bytes maxL none :: wy') (hrc : rm.cells = mc1) (hrs : rm.slots = ms1) (hR1 : rm.frames + 1 ≤ R.frames ∧ 8 + (maxL + 11) + rm.locals ≤ R.locals) (hcs : k + mc1 ≤ R.cells ∧ n + ms1 ≤ R.slots) (hst : (rest.map fun v => v.category).sum ≤ 8) (hy1 : y.name = "<init>") (hdn : y.cls ≠ "java/lang/invoke/MethodHandle" ∧ y.cls ≠ "java/lang/invoke/VarHandle" ∧ (parseMethodDescriptor y.desc).map (fun d => d.parameters.length) = some nn) (hn : As.length = nn) (hd : decode cc pc = .ok (.invokespecial ix, 3)) (hct : CtE (fun _ => True) Γ.2.1 D cl tys y wy rm mc1 ms1 (.ref b :: As) [x] post1) (hstk : st = As.reverse ++ .ref b :: rest)
    (kk : ∀ (v : Option Value) (w1 : va_W), post1 v w1 → G Γ R cc own Ts nL D cl tys mc ms post (k + mc1) (n + ms1) (ws ++ w1) (pc + 3) lv (v.toList ++ rest)) : G Γ R cc own Ts nL D cl tys mc ms post k n (x :: ws) pc lv st :=
  g_callI (E := fun _ => True) nn ⟨fun _ _ _ _ => trivial, fun _ _ _ _ => trivial⟩ trivial hg hlk him hini hw hrc hrs hR1 hcs hst hy1 hdn hn [0] ((List.range ws.length).map (fun i => i + 1)) [x] ws rfl rfl rfl (g_tlR [x] ws) (g_tlN 1 _) (g_tlD 1 _) hd hct hstk kk
/-- a call of the first object that gets the first three cells alone -/
theorem g_callV3 {y : MethodName} {bytes : ByteArray} {maxL ix mc1 ms1 : Nat} {ret : Option FieldType} {wy wy' : List Cond} {rm : Room} {post1 : Option Value → va_W → Prop} {As rest : List Value} {C : String} {b ci : Nat} {T : u_T} {N : Nat} {fs : List Value} {y3 z3 : Nat × va_E} (nn : Nat) (hg : GoodIn Ts (wsV own ix C y wy)) (hw : wy = Cond.code y bytes maxL ret :: wy') (hrc : rm.cells = mc1) (hrs : rm.slots = ms1) (hR1 : rm.frames + 1 ≤ R.frames ∧ 8 + (maxL + 11) + rm.locals ≤ R.locals) (hcs : k + mc1 ≤ R.cells ∧ n + ms1 ≤ R.slots) (hst : (rest.map fun v => v.category).sum ≤ 8) (hdn : y.cls = C ∧ y.cls ≠ "java/lang/invoke/MethodHandle" ∧ y.cls ≠ "java/lang/invoke/VarHandle" ∧ (parseMethodDescriptor y.desc).map (fun d => d.parameters.length) = some nn) (hn : As.length = nn) (hc : cl[ci]? = some (C, T, N)) (hd : decode cc pc = .ok (.invokevirtual ix, 3)) (hct : Ct Γ.2.1 D cl tys y wy rm mc1 ms1 (.ref b :: As) [(b, .inr (ci, fs)), y3, z3] post1) (hstk : st = As.reverse ++ .ref b :: rest)
    (kk : ∀ (v : Option Value) (w1 : va_W), post1 v w1 → G Γ R cc own Ts nL D cl tys mc ms post (k + mc1) (n + ms1) (ws ++ w1) (pc + 3) lv (v.toList ++ rest)) : G Γ R cc own Ts nL D cl tys mc ms post k n ((b, .inr (ci, fs)) :: y3 :: z3 :: ws) pc lv st :=
  g_callV nn 0 hg hw hrc hrs hR1 hcs hst hdn hn rfl hc [0, 1, 2] ((List.range ws.length).map (fun i => i + 3)) [(b, .inr (ci, fs)), y3, z3] ws rfl rfl rfl (g_tlR [(b, .inr (ci, fs)), y3, z3] ws) (g_tlN 3 _) (g_tlD 3 _) hd hct hstk kk
end GL5
set_option maxHeartbeats 4000000 in
set_option maxRecDepth 100000 in
/-- become of a bill that lies in no row yet -/
theorem K_becN (l : Launch) (D : va_G) (cy : Nat → ClassId) (q e g : Nat) (kd dr de py am d : Int32) (f : Nat → Int32) : Ct l D clx (tyx cy) yX0_become wsX0_become (rmC 0) 0 0 [.ref q, .int 0, .int d] [(q, .inr (0, [.int kd, .int dr, .int de, .int am, .int py, .int 0, .int 0, .int 0, .ref e, .ref g])), (e, .inl (cy 0, 4, .inl (fun _ => 0))), (g, .inl (cy 0, 5, .inl f))] (fun r9 w9 => r9 = none ∧ w9 = [(q, .inr (0, [.int kd, .int dr, .int de, .int am, .int py, .int 0, .int 0, .int 0, .ref e, .ref g])), (e, .inl (cy 0, 4, .inl (fun _ => 0))), (g, .inl (cy 0, 5, .inl (upd f 0 d)))]) := by
  refine g_start (cc := cX0_become) (maxL := 3) (ret := none) (by decide) rfl (Nat.le_of_ble_eq_true rfl) (fun v w1 h => by obtain ⟨rfl, -⟩ := h; exact rfl) (fun Γ hlΓ => ?_)
  subst hlΓ
  refine g_aload_n (i := 0) dX0_become_0 rfl rfl ?_
  refine g_iload_n (i := 1) dX0_become_1 rfl rfl ?_
  refine g_put 0 5 [(q, .inr (0, [.int kd, .int dr, .int de, .int am, .int py, .int 0, .int 0, .int 0, .ref e, .ref g])), (e, .inl (cy 0, 4, .inl (fun _ => 0))), (g, .inl (cy 0, 5, .inl f))] tyX0 tyX0_ok nmX0 dX0_become_2 (List.mem_of_getElem? (i := 1) rfl) (fun w h => List.mem_cons_of_mem _ (List.mem_append_right _ h)) rfl rfl (by decide) rfl (tyX0_ok 5 (by decide)) rfl rfl (Nat.le_of_ble_eq_true rfl) rfl ?_
  refine g_aload_n (i := 0) dX0_become_5 rfl rfl ?_
  refine g_get 0 9 dX0_become_6 (List.mem_of_getElem? (i := 2) rfl) (fun w h => List.mem_cons_of_mem _ (List.mem_append_right _ h)) rfl rfl (by decide) rfl ?_
  refine g_iload_n (i := 1) dX0_become_9 rfl rfl ?_
  refine g_iload_n (i := 2) dX0_become_10 rfl rfl ?_
  refine g_iast 2 0 [(q, .inr (0, [.int kd, .int dr, .int de, .int am, .int py, .int 0, .int 0, .int 0, .ref e, .ref g])), (e, .inl (cy 0, 4, .inl (fun _ => 0))), (g, .inl (cy 0, 5, .inl (upd f 0 d)))] dX0_become_11 rfl rfl (by unfold vp_in; decide) rfl ?_
  refine g_vret dX0_become_12 ?_
  exact ⟨rfl, rfl⟩
/-- a bill as it is drawn -/
def bnew (q e g : Nat) (kd dr de py am d : Int32) : BL := (fun i => if i = 0 then q else if i = 8 then e else g, fun j => if j = 0 then kd else if j = 1 then dr else if j = 2 then de else if j = 3 then am else if j = 4 then py else 0, fun j => if j = 8 then (fun _ => 0) else upd (upd (upd (upd (upd (upd (fun _ => 0) 0 (-1)) 1 (-1)) 2 (-1)) 3 (-1)) 4 (-1)) 0 d)
theorem bnew_c (cy : Nat → ClassId) (q e g : Nat) (kd dr de py am d : Int32) : [(q, .inr (0, [.int kd, .int dr, .int de, .int am, .int py, .int 0, .int 0, .int 0, .ref e, .ref g])), (e, .inl (cy 0, 4, .inl (fun _ => 0))), (g, .inl (cy 0, 5, .inl (upd (upd (upd (upd (upd (upd (fun _ => 0) 0 (-1)) 1 (-1)) 2 (-1)) 3 (-1)) 4 (-1)) 0 d)))] = bcs cy (bnew q e g kd dr de py am d) := rfl
theorem bref_app (B : List BL) (b : BL) : va_up (bref B) B.length (some (b.1 0)) = bref (B ++ [b]) := by
  funext i
  unfold va_up bref
  by_cases h : i = B.length
  · subst h
    rw [if_pos rfl, List.getElem?_append_right (Nat.le_refl _), Nat.sub_self]
    rfl
  · rw [if_neg h]
    by_cases h2 : i < B.length
    · rw [List.getElem?_append_left h2]
    · rw [List.getElem?_eq_none (by omega), List.getElem?_eq_none (by rw [List.length_append]; show B.length + 1 ≤ i; omega)]
theorem bw_new (cy : Nat → ClassId) (a : Nat → Nat) (T : MS) (B : List BL) (b : BL) : CW cy a T B ++ bcs cy b = CF cy a T (bref B) ++ bcells cy (B ++ [b]) := by
  rw [CW_eq, bcells_app, List.append_assoc]
  show _ = CF cy a T (bref B) ++ (bcells cy B ++ (bcs cy b ++ []))
  rw [List.append_nil]
theorem bw_at (cy : Nat → ClassId) (a : Nat → Nat) (T : MS) (B : List BL) (b : BL) : (CF cy a T (bref B) ++ bcells cy (B ++ [b]))[71 + 3 * B.length]? = some (b.1 0, .inr (0, BO b)) := by
  rw [List.getElem?_append_right (by rw [CF_len]; omega), CF_len, show 71 + 3 * B.length - 71 = 3 * B.length by omega, bcells_app, List.getElem?_append_right (by rw [bcells_len]; omega), bcells_len, Nat.sub_self]
  rfl
theorem bw_set (cy : Nat → ClassId) (a : Nat → Nat) (T : MS) (B : List BL) (b : BL) : (CF cy a T (bref B) ++ bcells cy (B ++ [b])).set 4 (a 3, .inl (cy 3, 40, .inr (.inr (.inr (.inr (va_up (bref B) B.length (some (b.1 0)))))))) = CW cy a T (B ++ [b]) := by
  rw [CW_eq, ← bref_app]
  rfl
abbrev dcnd (kd dr de py am : Int32) : Prop := (0 ≤ kd ∧ kd ≤ 2) ∧ (0 ≤ dr ∧ dr ≤ 9) ∧ (0 ≤ de ∧ de ≤ 9) ∧ (0 ≤ py ∧ py ≤ 9) ∧ (1 ≤ am ∧ am ≤ 100000)
theorem dvp {T : MS} {B : List BL} (hI : ciB T B) (h : T.1 16 < 40) : vp_in (T.1 16) 40 ∧ (T.1 16).toNatClampNeg = B.length := by
  obtain ⟨e, h2, -⟩ := hI
  rw [e] at h ⊢
  rw [Int32.lt_iff_toInt_lt, nI_toInt (by omega)] at h
  have : (40 : Int32).toInt = 40 := by decide
  exact ⟨vp_in_nI (by omega) (by decide), nI_clamp (by omega)⟩
set_option maxHeartbeats 4000000 in
set_option maxRecDepth 100000 in
/-- draw -/
theorem K_draw (l : Launch) (D : va_G) (cy : Nat → ClassId) (a : Nat → Nat) (T : MS) (B : List BL) (hI : ciB T B) (kd dr de py am : Int32) : Ct l D clx (tyx cy) yX8_draw wsX8_draw (rmI 3 3 19) 3 19 [.ref (a 200), .int kd, .int dr, .int de, .int py, .int am] (CW cy a T B) (fun r9 w9 => (¬ dcnd kd dr de py am ∧ r9 = some (.long (cf_fd T 1).1) ∧ w9 = CW cy a (cf_fd T 1).2 B) ∨ (dcnd kd dr de py am ∧ dr = py ∧ r9 = some (.long (cf_fd T 5).1) ∧ w9 = CW cy a (cf_fd T 5).2 B) ∨ (dcnd kd dr de py am ∧ ¬ dr = py ∧ ¬ T.1 16 < 40 ∧ r9 = some (.long (cf_fd T 4).1) ∧ w9 = CW cy a (cf_fd T 4).2 B) ∨ (dcnd kd dr de py am ∧ ¬ dr = py ∧ T.1 16 < 40 ∧ ∃ q e g, r9 = some (.long (T.1 16 + 1 - 1).toInt64) ∧ w9 = CW cy a (sI T 16 (T.1 16 + 1)) (B ++ [bnew q e g kd dr de py am (T.1 14)]))) := by
  refine g_start (cc := cX8_draw) (maxL := 7) (ret := (some .long)) (by decide) rfl (Nat.le_of_ble_eq_true rfl) (fun v w1 h => by rcases h with ⟨-, rfl, -⟩ | ⟨-, -, rfl, -⟩ | ⟨-, -, -, rfl, -⟩ | ⟨-, -, -, _, _, _, rfl, -⟩ <;> exact rfl) (fun Γ hlΓ => ?_)
  subst hlΓ
  refine g_iload_n (i := 1) dX8_draw_0 rfl rfl ?_
  refine g_callSf 1 gX8_draw_X8_isBillKind rfl rfl rfl ⟨Nat.le_of_ble_eq_true rfl, Nat.le_of_ble_eq_true rfl⟩ ⟨Nat.le_of_ble_eq_true rfl, Nat.le_of_ble_eq_true rfl⟩ (by exact Nat.le_of_ble_eq_true rfl) (by decide +kernel) rfl dX8_draw_1 (K_isBillKind _ D cy a _ _ _) rfl (fun vu_1 wu_1 hu_1 => ?_)
  rcases hu_1 with ⟨rfl, hu_1, rfl⟩ | ⟨rfl, hu_1, rfl⟩
  · skip
    refine g_if_eq 42 dX8_draw_4 (by decide) (fun h9 => absurd h9 (by decide)) (fun _ => ?_)
    refine g_iload_n (i := 2) dX8_draw_7 rfl rfl ?_
    refine g_callSf 1 gX8_draw_X8_isHouse rfl rfl rfl ⟨Nat.le_of_ble_eq_true rfl, Nat.le_of_ble_eq_true rfl⟩ ⟨Nat.le_of_ble_eq_true rfl, Nat.le_of_ble_eq_true rfl⟩ (by exact Nat.le_of_ble_eq_true rfl) (by decide +kernel) rfl dX8_draw_8 (K_isHouse _ D cy a _ _ _) rfl (fun vu_3 wu_3 hu_3 => ?_)
    rcases hu_3 with ⟨rfl, hu_3, rfl⟩ | ⟨rfl, hu_3, rfl⟩
    · skip
      refine g_if_eq 42 dX8_draw_11 (by decide) (fun h9 => absurd h9 (by decide)) (fun _ => ?_)
      refine g_iload_n (i := 3) dX8_draw_14 rfl rfl ?_
      refine g_callSf 1 gX8_draw_X8_isHouse rfl rfl rfl ⟨Nat.le_of_ble_eq_true rfl, Nat.le_of_ble_eq_true rfl⟩ ⟨Nat.le_of_ble_eq_true rfl, Nat.le_of_ble_eq_true rfl⟩ (by exact Nat.le_of_ble_eq_true rfl) (by decide +kernel) rfl dX8_draw_15 (K_isHouse _ D cy a _ _ _) rfl (fun vu_5 wu_5 hu_5 => ?_)
      rcases hu_5 with ⟨rfl, hu_5, rfl⟩ | ⟨rfl, hu_5, rfl⟩
      · skip
        refine g_if_eq 42 dX8_draw_18 (by decide) (fun h9 => absurd h9 (by decide)) (fun _ => ?_)
        refine g_iload dX8_draw_21 rfl ?_
        refine g_callSf 1 gX8_draw_X8_isHouse rfl rfl rfl ⟨Nat.le_of_ble_eq_true rfl, Nat.le_of_ble_eq_true rfl⟩ ⟨Nat.le_of_ble_eq_true rfl, Nat.le_of_ble_eq_true rfl⟩ (by exact Nat.le_of_ble_eq_true rfl) (by decide +kernel) rfl dX8_draw_23 (K_isHouse _ D cy a _ _ _) rfl (fun vu_7 wu_7 hu_7 => ?_)
        rcases hu_7 with ⟨rfl, hu_7, rfl⟩ | ⟨rfl, hu_7, rfl⟩
        · skip
          refine g_if_eq 42 dX8_draw_26 (by decide) (fun h9 => absurd h9 (by decide)) (fun _ => ?_)
          refine g_iload dX8_draw_29 rfl ?_
          refine g_iconst (1) rfl dX8_draw_31 ?_
          refine g_icmp_lt 42 dX8_draw_32 (by decide) (fun c_9 => ?_) (fun c_9 => ?_)
          · skip
            refine g_aload_n (i := 0) dX8_draw_42 rfl rfl ?_
            refine g_iconst (1) rfl dX8_draw_43 ?_
            refine g_callVf 1 0 gX8_draw_X8_finding rfl rfl rfl ⟨Nat.le_of_ble_eq_true rfl, Nat.le_of_ble_eq_true rfl⟩ ⟨Nat.le_of_ble_eq_true rfl, Nat.le_of_ble_eq_true rfl⟩ (by exact Nat.le_of_ble_eq_true rfl) (by decide +kernel) rfl (cO_main _ _ _ _) rfl dX8_draw_44 (K_finding _ D cy a _ _ _ (by unfold vp_in; decide)) rfl (fun vu_10 wu_10 hu_10 => ?_)
            obtain ⟨rfl, rfl⟩ := hu_10
            refine g_widen 3 19 (by decide) (by decide) ?_
            refine g_lret dX8_draw_47 ?_
            exact Or.inl ⟨(by intro h9; first | exact absurd h9.1 (by assumption) | exact absurd h9.2.1 (by assumption) | exact absurd h9.2.2.1 (by assumption) | exact absurd h9.2.2.2.1 (by assumption) | exact absurd h9.2.2.2.2.1 (Int32.not_le.mpr (by assumption)) | exact absurd h9.2.2.2.2.2 (by assumption)), rfl, rfl⟩
          · skip
            refine g_iload dX8_draw_35 rfl ?_
            refine g_ldc (100000) (List.mem_of_getElem? (i := 1) rfl) dX8_draw_37 ?_
            refine g_icmp_le 48 dX8_draw_39 (by decide) (fun c_11 => ?_) (fun c_11 => ?_)
            · skip
              refine g_iload_n (i := 2) dX8_draw_48 rfl rfl ?_
              refine g_iload dX8_draw_49 rfl ?_
              refine g_icmp_ne 60 dX8_draw_51 (by decide) (fun c_12 => ?_) (fun c_12 => ?_)
              · skip
                refine g_aload_n (i := 0) dX8_draw_60 rfl rfl ?_
                refine g_get 0 16 dX8_draw_61 (List.mem_of_getElem? (i := 2) rfl) (fun w h => List.mem_cons_of_mem _ (List.mem_append_left _ (List.mem_append_right _ h))) (cO_main _ _ _ _) rfl (by decide) rfl ?_
                refine g_bipush (40) rfl dX8_draw_64 ?_
                refine g_icmp_lt 75 dX8_draw_66 (by decide) (fun c_13 => ?_) (fun c_13 => ?_)
                · skip
                  have hdv := dvp hI (by assumption)
                  refine g_new (C := RX0) (T := TX0) (N := 10) (ci := 0) (fs := [.int 0, .int 0, .int 0, .int 0, .int 0, .int 0, .int 0, .int 0, .null, .null]) tyX0 tyX0_ok dX8_draw_75 (fun w h => List.mem_cons_of_mem _ (List.mem_append_right _ h)) (List.mem_of_getElem? (i := 3) rfl) (List.mem_of_getElem? (i := 4) rfl) (List.mem_of_getElem? (i := 5) rfl) rfl (fun j hj => by rcases (show j = 0 ∨ j = 1 ∨ j = 2 ∨ j = 3 ∨ j = 4 ∨ j = 5 ∨ j = 6 ∨ j = 7 ∨ j = 8 ∨ j = 9 by omega) with rfl | rfl | rfl | rfl | rfl | rfl | rfl | rfl | rfl | rfl <;> rfl) (Nat.le_of_ble_eq_true rfl) (Nat.le_of_ble_eq_true rfl) (fun q => ?_)
                  refine g_dup rfl dX8_draw_78 ?_
                  refine g_iload_n (i := 1) dX8_draw_79 rfl rfl ?_
                  refine g_iload_n (i := 2) dX8_draw_80 rfl rfl ?_
                  refine g_iload_n (i := 3) dX8_draw_81 rfl rfl ?_
                  refine g_iload dX8_draw_82 rfl ?_
                  refine g_iload dX8_draw_84 rfl ?_
                  refine g_callI1 5 gX8_draw_X0_init (List.mem_of_getElem? (i := 21) rfl) (List.mem_of_getElem? (i := 22) rfl) (List.mem_of_getElem? (i := 5) rfl) rfl rfl rfl ⟨Nat.le_of_ble_eq_true rfl, Nat.le_of_ble_eq_true rfl⟩ ⟨Nat.le_of_ble_eq_true rfl, Nat.le_of_ble_eq_true rfl⟩ (by exact Nat.le_of_ble_eq_true rfl) rfl (by decide +kernel) rfl dX8_draw_86 (I_X0 _ D cy q kd dr de py am) rfl (fun v1 w1 h1 => ?_)
                  obtain ⟨e, g, rfl, rfl⟩ := h1
                  refine g_perm ([(q, .inr (0, [.int kd, .int dr, .int de, .int am, .int py, .int 0, .int 0, .int 0, .ref e, .ref g])), (e, .inl (cy 0, 4, .inl (fun _ => 0))), (g, .inl (cy 0, 5, .inl (upd (upd (upd (upd (upd (fun _ => 0) 0 (-1)) 1 (-1)) 2 (-1)) 3 (-1)) 4 (-1))))] ++ CW cy a T B) List.perm_append_comm ?_
                  refine g_astore dX8_draw_89 (by decide) ?_
                  refine g_aload dX8_draw_91 rfl ?_
                  refine g_iconst (0) rfl dX8_draw_93 ?_
                  refine g_aload_n (i := 0) dX8_draw_94 rfl rfl ?_
                  refine g_get 3 14 dX8_draw_95 (List.mem_of_getElem? (i := 6) rfl) (fun w h => List.mem_cons_of_mem _ (List.mem_append_left _ (List.mem_append_right _ h))) rfl rfl (by decide) rfl ?_
                  refine g_callV3 2 gX8_draw_X0_become rfl rfl rfl ⟨Nat.le_of_ble_eq_true rfl, Nat.le_of_ble_eq_true rfl⟩ ⟨Nat.le_of_ble_eq_true rfl, Nat.le_of_ble_eq_true rfl⟩ (by exact Nat.le_of_ble_eq_true rfl) (by decide +kernel) rfl rfl dX8_draw_98 (K_becN _ D cy q e g kd dr de py am _ (upd (upd (upd (upd (upd (fun _ => 0) 0 (-1)) 1 (-1)) 2 (-1)) 3 (-1)) 4 (-1))) rfl (fun v2 w2 h2 => ?_)
                  obtain ⟨rfl, rfl⟩ := h2
                  refine g_weq (CF cy a T (bref B) ++ bcells cy (B ++ [bnew q e g kd dr de py am (T.1 14)])) (bw_new cy a T B (bnew q e g kd dr de py am (T.1 14))) ?_
                  refine g_aload_n (i := 0) dX8_draw_101 rfl rfl ?_
                  refine g_get 0 3 dX8_draw_102 (List.mem_of_getElem? (i := 7) rfl) (fun w h => List.mem_cons_of_mem _ (List.mem_append_left _ (List.mem_append_right _ h))) rfl rfl (by decide) rfl ?_
                  refine g_aload_n (i := 0) dX8_draw_105 rfl rfl ?_
                  refine g_get 0 16 dX8_draw_106 (List.mem_of_getElem? (i := 2) rfl) (fun w h => List.mem_cons_of_mem _ (List.mem_append_left _ (List.mem_append_right _ h))) rfl rfl (by decide) rfl ?_
                  refine g_aload dX8_draw_109 rfl ?_
                  refine g_astq 4 3 (71 + 3 * B.length) (CW cy a T (B ++ [bnew q e g kd dr de py am (T.1 14)])) dX8_draw_111 rfl rfl (bw_at cy a T B (bnew q e g kd dr de py am (T.1 14))) rfl hdv.1 (by rw [hdv.2]; exact bw_set cy a T B _) ?_
                  refine g_aload_n (i := 0) dX8_draw_112 rfl rfl ?_
                  refine g_dup rfl dX8_draw_113 ?_
                  refine g_get 0 16 dX8_draw_114 (List.mem_of_getElem? (i := 2) rfl) (fun w h => List.mem_cons_of_mem _ (List.mem_append_left _ (List.mem_append_right _ h))) (cO_main _ _ _ _) rfl (by decide) rfl ?_
                  refine g_iconst (1) rfl dX8_draw_117 ?_
                  refine g_iadd dX8_draw_118 ?_
                  refine g_put 0 16 _ tyX8 tyX8_ok nmX8 dX8_draw_119 (List.mem_of_getElem? (i := 2) rfl) (fun w h => List.mem_cons_of_mem _ (List.mem_append_left _ (List.mem_append_right _ h))) (cO_main _ _ _ _) rfl (by decide) rfl (tyX8_ok 16 (by decide)) rfl rfl (Nat.le_of_ble_eq_true rfl) (cwI_16 _ _ _ _ _) ?_
                  refine g_aload_n (i := 0) dX8_draw_122 rfl rfl ?_
                  refine g_get 0 16 dX8_draw_123 (List.mem_of_getElem? (i := 2) rfl) (fun w h => List.mem_cons_of_mem _ (List.mem_append_left _ (List.mem_append_right _ h))) (cO_main _ _ _ _) rfl (by decide) rfl ?_
                  refine g_iconst (1) rfl dX8_draw_126 ?_
                  refine g_isub dX8_draw_127 ?_
                  refine g_i2l dX8_draw_128 ?_
                  refine g_lret dX8_draw_129 ?_
                  exact Or.inr (Or.inr (Or.inr ⟨⟨by assumption, by assumption, by assumption, by assumption, Int32.not_lt.mp (by assumption), by assumption⟩, by assumption, by assumption, q, e, g, rfl, rfl⟩))
                · skip
                  refine g_aload_n (i := 0) dX8_draw_69 rfl rfl ?_
                  refine g_iconst (4) rfl dX8_draw_70 ?_
                  refine g_callVf 1 0 gX8_draw_X8_finding rfl rfl rfl ⟨Nat.le_of_ble_eq_true rfl, Nat.le_of_ble_eq_true rfl⟩ ⟨Nat.le_of_ble_eq_true rfl, Nat.le_of_ble_eq_true rfl⟩ (by exact Nat.le_of_ble_eq_true rfl) (by decide +kernel) rfl (cO_main _ _ _ _) rfl dX8_draw_71 (K_finding _ D cy a _ _ _ (by unfold vp_in; decide)) rfl (fun vu_15 wu_15 hu_15 => ?_)
                  obtain ⟨rfl, rfl⟩ := hu_15
                  refine g_widen 3 19 (by decide) (by decide) ?_
                  refine g_lret dX8_draw_74 ?_
                  exact Or.inr (Or.inr (Or.inl ⟨⟨by assumption, by assumption, by assumption, by assumption, Int32.not_lt.mp (by assumption), by assumption⟩, by assumption, by assumption, rfl, rfl⟩))
              · skip
                refine g_aload_n (i := 0) dX8_draw_54 rfl rfl ?_
                refine g_iconst (5) rfl dX8_draw_55 ?_
                refine g_callVf 1 0 gX8_draw_X8_finding rfl rfl rfl ⟨Nat.le_of_ble_eq_true rfl, Nat.le_of_ble_eq_true rfl⟩ ⟨Nat.le_of_ble_eq_true rfl, Nat.le_of_ble_eq_true rfl⟩ (by exact Nat.le_of_ble_eq_true rfl) (by decide +kernel) rfl (cO_main _ _ _ _) rfl dX8_draw_56 (K_finding _ D cy a _ _ _ (by unfold vp_in; decide)) rfl (fun vu_16 wu_16 hu_16 => ?_)
                obtain ⟨rfl, rfl⟩ := hu_16
                refine g_widen 3 19 (by decide) (by decide) ?_
                refine g_lret dX8_draw_59 ?_
                exact Or.inr (Or.inl ⟨⟨by assumption, by assumption, by assumption, by assumption, Int32.not_lt.mp (by assumption), by assumption⟩, Classical.not_not.mp (by first | assumption | exact not_not_intro (by assumption)), rfl, rfl⟩)
            · skip
              refine g_aload_n (i := 0) dX8_draw_42 rfl rfl ?_
              refine g_iconst (1) rfl dX8_draw_43 ?_
              refine g_callVf 1 0 gX8_draw_X8_finding rfl rfl rfl ⟨Nat.le_of_ble_eq_true rfl, Nat.le_of_ble_eq_true rfl⟩ ⟨Nat.le_of_ble_eq_true rfl, Nat.le_of_ble_eq_true rfl⟩ (by exact Nat.le_of_ble_eq_true rfl) (by decide +kernel) rfl (cO_main _ _ _ _) rfl dX8_draw_44 (K_finding _ D cy a _ _ _ (by unfold vp_in; decide)) rfl (fun vu_17 wu_17 hu_17 => ?_)
              obtain ⟨rfl, rfl⟩ := hu_17
              refine g_widen 3 19 (by decide) (by decide) ?_
              refine g_lret dX8_draw_47 ?_
              exact Or.inl ⟨(by intro h9; first | exact absurd h9.1 (by assumption) | exact absurd h9.2.1 (by assumption) | exact absurd h9.2.2.1 (by assumption) | exact absurd h9.2.2.2.1 (by assumption) | exact absurd h9.2.2.2.2.1 (Int32.not_le.mpr (by assumption)) | exact absurd h9.2.2.2.2.2 (by assumption)), rfl, rfl⟩
        · skip
          refine g_if_eq 42 dX8_draw_26 (by decide) (fun _ => ?_) (fun h9 => absurd h9 (by decide))
          refine g_aload_n (i := 0) dX8_draw_42 rfl rfl ?_
          refine g_iconst (1) rfl dX8_draw_43 ?_
          refine g_callVf 1 0 gX8_draw_X8_finding rfl rfl rfl ⟨Nat.le_of_ble_eq_true rfl, Nat.le_of_ble_eq_true rfl⟩ ⟨Nat.le_of_ble_eq_true rfl, Nat.le_of_ble_eq_true rfl⟩ (by exact Nat.le_of_ble_eq_true rfl) (by decide +kernel) rfl (cO_main _ _ _ _) rfl dX8_draw_44 (K_finding _ D cy a _ _ _ (by unfold vp_in; decide)) rfl (fun vu_19 wu_19 hu_19 => ?_)
          obtain ⟨rfl, rfl⟩ := hu_19
          refine g_widen 3 19 (by decide) (by decide) ?_
          refine g_lret dX8_draw_47 ?_
          exact Or.inl ⟨(by intro h9; first | exact absurd h9.1 (by assumption) | exact absurd h9.2.1 (by assumption) | exact absurd h9.2.2.1 (by assumption) | exact absurd h9.2.2.2.1 (by assumption) | exact absurd h9.2.2.2.2.1 (Int32.not_le.mpr (by assumption)) | exact absurd h9.2.2.2.2.2 (by assumption)), rfl, rfl⟩
      · skip
        refine g_if_eq 42 dX8_draw_18 (by decide) (fun _ => ?_) (fun h9 => absurd h9 (by decide))
        refine g_aload_n (i := 0) dX8_draw_42 rfl rfl ?_
        refine g_iconst (1) rfl dX8_draw_43 ?_
        refine g_callVf 1 0 gX8_draw_X8_finding rfl rfl rfl ⟨Nat.le_of_ble_eq_true rfl, Nat.le_of_ble_eq_true rfl⟩ ⟨Nat.le_of_ble_eq_true rfl, Nat.le_of_ble_eq_true rfl⟩ (by exact Nat.le_of_ble_eq_true rfl) (by decide +kernel) rfl (cO_main _ _ _ _) rfl dX8_draw_44 (K_finding _ D cy a _ _ _ (by unfold vp_in; decide)) rfl (fun vu_21 wu_21 hu_21 => ?_)
        obtain ⟨rfl, rfl⟩ := hu_21
        refine g_widen 3 19 (by decide) (by decide) ?_
        refine g_lret dX8_draw_47 ?_
        exact Or.inl ⟨(by intro h9; first | exact absurd h9.1 (by assumption) | exact absurd h9.2.1 (by assumption) | exact absurd h9.2.2.1 (by assumption) | exact absurd h9.2.2.2.1 (by assumption) | exact absurd h9.2.2.2.2.1 (Int32.not_le.mpr (by assumption)) | exact absurd h9.2.2.2.2.2 (by assumption)), rfl, rfl⟩
    · skip
      refine g_if_eq 42 dX8_draw_11 (by decide) (fun _ => ?_) (fun h9 => absurd h9 (by decide))
      refine g_aload_n (i := 0) dX8_draw_42 rfl rfl ?_
      refine g_iconst (1) rfl dX8_draw_43 ?_
      refine g_callVf 1 0 gX8_draw_X8_finding rfl rfl rfl ⟨Nat.le_of_ble_eq_true rfl, Nat.le_of_ble_eq_true rfl⟩ ⟨Nat.le_of_ble_eq_true rfl, Nat.le_of_ble_eq_true rfl⟩ (by exact Nat.le_of_ble_eq_true rfl) (by decide +kernel) rfl (cO_main _ _ _ _) rfl dX8_draw_44 (K_finding _ D cy a _ _ _ (by unfold vp_in; decide)) rfl (fun vu_23 wu_23 hu_23 => ?_)
      obtain ⟨rfl, rfl⟩ := hu_23
      refine g_widen 3 19 (by decide) (by decide) ?_
      refine g_lret dX8_draw_47 ?_
      exact Or.inl ⟨(by intro h9; first | exact absurd h9.1 (by assumption) | exact absurd h9.2.1 (by assumption) | exact absurd h9.2.2.1 (by assumption) | exact absurd h9.2.2.2.1 (by assumption) | exact absurd h9.2.2.2.2.1 (Int32.not_le.mpr (by assumption)) | exact absurd h9.2.2.2.2.2 (by assumption)), rfl, rfl⟩
  · skip
    refine g_if_eq 42 dX8_draw_4 (by decide) (fun _ => ?_) (fun h9 => absurd h9 (by decide))
    refine g_aload_n (i := 0) dX8_draw_42 rfl rfl ?_
    refine g_iconst (1) rfl dX8_draw_43 ?_
    refine g_callVf 1 0 gX8_draw_X8_finding rfl rfl rfl ⟨Nat.le_of_ble_eq_true rfl, Nat.le_of_ble_eq_true rfl⟩ ⟨Nat.le_of_ble_eq_true rfl, Nat.le_of_ble_eq_true rfl⟩ (by exact Nat.le_of_ble_eq_true rfl) (by decide +kernel) rfl (cO_main _ _ _ _) rfl dX8_draw_44 (K_finding _ D cy a _ _ _ (by unfold vp_in; decide)) rfl (fun vu_25 wu_25 hu_25 => ?_)
    obtain ⟨rfl, rfl⟩ := hu_25
    refine g_widen 3 19 (by decide) (by decide) ?_
    refine g_lret dX8_draw_47 ?_
    exact Or.inl ⟨(by intro h9; first | exact absurd h9.1 (by assumption) | exact absurd h9.2.1 (by assumption) | exact absurd h9.2.2.1 (by assumption) | exact absurd h9.2.2.2.1 (by assumption) | exact absurd h9.2.2.2.2.1 (Int32.not_le.mpr (by assumption)) | exact absurd h9.2.2.2.2.2 (by assumption)), rfl, rfl⟩

