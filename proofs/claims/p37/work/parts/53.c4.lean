section GL4
variable {Γ : gT} {R : Room} {cc : ByteArray} {own : String} {Ts : List Cond} {nL : Nat} {D : va_G} {cl : List vw_C} {tys : List (ClassId × FieldType)} {mc ms : Nat} {post : Option Value → va_W → Prop} {k n : Nat} {ws : va_W} {pc : Nat} {lv : List (Nat × Value)} {st : List Value}
theorem g_aloadN {i : Nat} (hd : decode cc pc = .ok (.aload i, 2)) (hq : lv.lookup i = some .null) (kk : G Γ R cc own Ts nL D cl tys mc ms post k n ws (pc + 2) lv (.null :: st)) : G Γ R cc own Ts nL D cl tys mc ms post k n ws pc lv st := by
  intro hok H locs ls hS hl
  have h9 := kk hok H locs ls hS hl
  obtain ⟨p, l, e, s, m, args, below, meth, c, Q, A, H0⟩ := Γ
  obtain ⟨hx, hb, hml, hown, hts, hK, hA, hin, hret⟩ := hok
  exact lv_aloadN hx hb hd (g_lk hl hq) h9
theorem g_astoreN {i : Nat} (hd : decode cc pc = .ok (.astore i, 2)) (hn : i < nL) (kk : G Γ R cc own Ts nL D cl tys mc ms post k n ws (pc + 2) (gset1 lv i .null) st) : G Γ R cc own Ts nL D cl tys mc ms post k n ws pc lv (.null :: st) := by
  intro hok H locs ls hS hl
  have h9 := fun ls2 hl2 => kk hok H locs ls2 hS hl2
  obtain ⟨p, l, e, s, m, args, below, meth, c, Q, A, H0⟩ := Γ
  obtain ⟨hx, hb, hml, hown, hts, hK, hA, hin, hret⟩ := hok
  exact lv_astoreN hx hb hd hl hn rfl (fun ls2 hl2 => h9 ls2 hl2)
end GL4
def cf_gain (T : MS) (v : Int32) : Int64 × MS := if 0 ≤ v ∧ v ≤ 200 then ((T.1 15).toInt64, sI T 15 v) else cf_fd T 1
set_option maxHeartbeats 4000000 in
set_option maxRecDepth 100000 in
/-- gain -/
theorem K_gain (l : Launch) (D : va_G) (cy : Nat → ClassId) (a : Nat → Nat) (T : MS) (B : List BL) (v : Int32) : Ct l D clx (tyx cy) yX8_gain wsX8_gain (rmC 3) 0 0 [.ref (a 200), .int v] (CW cy a T B) (fun r9 w9 => r9 = some (.long (cf_gain T v).1) ∧ w9 = CW cy a (cf_gain T v).2 B) := by
  refine g_start (cc := cX8_gain) (maxL := 3) (ret := (some .long)) (by decide) rfl (Nat.le_of_ble_eq_true rfl) (fun v w1 h => by obtain ⟨rfl, -⟩ := h; exact rfl) (fun Γ hlΓ => ?_)
  subst hlΓ
  refine g_iload_n (i := 1) dX8_gain_0 rfl rfl ?_
  refine g_if_lt 11 dX8_gain_1 (by decide) (fun c_1 => ?_) (fun c_1 => ?_)
  · skip
    refine g_aload_n (i := 0) dX8_gain_11 rfl rfl ?_
    refine g_iconst (1) rfl dX8_gain_12 ?_
    refine g_callVf 1 0 gX8_gain_X8_finding rfl rfl rfl ⟨Nat.le_of_ble_eq_true rfl, Nat.le_of_ble_eq_true rfl⟩ ⟨Nat.le_of_ble_eq_true rfl, Nat.le_of_ble_eq_true rfl⟩ (by exact Nat.le_of_ble_eq_true rfl) (by decide +kernel) rfl (cO_main _ _ _ _) rfl dX8_gain_13 (K_finding _ D cy a _ _ _ (by unfold vp_in; decide)) rfl (fun vu_2 wu_2 hu_2 => ?_)
    obtain ⟨rfl, rfl⟩ := hu_2
    refine g_lret dX8_gain_16 ?_
    unfold cf_gain; (repeat' split) <;> first | contradiction | (with_reducible exact ⟨rfl, rfl⟩) | (exfalso; rename_i h9; first | exact absurd h9.1 (by assumption) | exact absurd h9.2 (by assumption) | exact absurd h9.2.1 (by assumption) | exact absurd h9.2.2 (by assumption) | exact absurd h9.2.2.1 (by assumption) | exact absurd h9.2.2.2 (by assumption) | exact h9 ⟨by assumption, by assumption⟩ | exact h9 ⟨by assumption, by assumption, by assumption⟩) | (exfalso; simp_all; done) | (exfalso; simp only [Int32.le_iff_toInt_le, Int32.lt_iff_toInt_lt, Int32.reduceToInt] at *; omega) | exact ⟨rfl, rfl⟩
  · skip
    refine g_iload_n (i := 1) dX8_gain_4 rfl rfl ?_
    refine g_sipush (200) rfl dX8_gain_5 ?_
    refine g_icmp_le 17 dX8_gain_8 (by decide) (fun c_3 => ?_) (fun c_3 => ?_)
    · skip
      refine g_aload_n (i := 0) dX8_gain_17 rfl rfl ?_
      refine g_get 0 15 dX8_gain_18 (List.mem_of_getElem? (i := 1) rfl) (fun w h => List.mem_cons_of_mem _ (List.mem_append_right _ h)) (cO_main _ _ _ _) rfl (by decide) rfl ?_
      refine g_istore_n (i := 2) dX8_gain_21 rfl (by decide) ?_
      refine g_aload_n (i := 0) dX8_gain_22 rfl rfl ?_
      refine g_iload_n (i := 1) dX8_gain_23 rfl rfl ?_
      refine g_put 0 15 _ tyX8 tyX8_ok nmX8 dX8_gain_24 (List.mem_of_getElem? (i := 1) rfl) (fun w h => List.mem_cons_of_mem _ (List.mem_append_right _ h)) (cO_main _ _ _ _) rfl (by decide) rfl (tyX8_ok 15 (by decide)) rfl rfl (Nat.le_of_ble_eq_true rfl) (cwI_15 _ _ _ _ _) ?_
      refine g_iload_n (i := 2) dX8_gain_27 rfl rfl ?_
      refine g_i2l dX8_gain_28 ?_
      refine g_lret dX8_gain_29 ?_
      unfold cf_gain; (repeat' split) <;> first | contradiction | (with_reducible exact ⟨rfl, rfl⟩) | (exfalso; rename_i h9; first | exact absurd h9.1 (by assumption) | exact absurd h9.2 (by assumption) | exact absurd h9.2.1 (by assumption) | exact absurd h9.2.2 (by assumption) | exact absurd h9.2.2.1 (by assumption) | exact absurd h9.2.2.2 (by assumption) | exact h9 ⟨by assumption, by assumption⟩ | exact h9 ⟨by assumption, by assumption, by assumption⟩) | (exfalso; simp_all; done) | (exfalso; simp only [Int32.le_iff_toInt_le, Int32.lt_iff_toInt_lt, Int32.reduceToInt] at *; omega) | exact ⟨rfl, rfl⟩
    · skip
      refine g_aload_n (i := 0) dX8_gain_11 rfl rfl ?_
      refine g_iconst (1) rfl dX8_gain_12 ?_
      refine g_callVf 1 0 gX8_gain_X8_finding rfl rfl rfl ⟨Nat.le_of_ble_eq_true rfl, Nat.le_of_ble_eq_true rfl⟩ ⟨Nat.le_of_ble_eq_true rfl, Nat.le_of_ble_eq_true rfl⟩ (by exact Nat.le_of_ble_eq_true rfl) (by decide +kernel) rfl (cO_main _ _ _ _) rfl dX8_gain_13 (K_finding _ D cy a _ _ _ (by unfold vp_in; decide)) rfl (fun vu_4 wu_4 hu_4 => ?_)
      obtain ⟨rfl, rfl⟩ := hu_4
      refine g_lret dX8_gain_16 ?_
      unfold cf_gain; (repeat' split) <;> first | contradiction | (with_reducible exact ⟨rfl, rfl⟩) | (exfalso; rename_i h9; first | exact absurd h9.1 (by assumption) | exact absurd h9.2 (by assumption) | exact absurd h9.2.1 (by assumption) | exact absurd h9.2.2 (by assumption) | exact absurd h9.2.2.1 (by assumption) | exact absurd h9.2.2.2 (by assumption) | exact h9 ⟨by assumption, by assumption⟩ | exact h9 ⟨by assumption, by assumption, by assumption⟩) | (exfalso; simp_all; done) | (exfalso; simp only [Int32.le_iff_toInt_le, Int32.lt_iff_toInt_lt, Int32.reduceToInt] at *; omega) | exact ⟨rfl, rfl⟩

def cf_road (T : MS) (t v : Int32) : Int64 × MS := if (1 ≤ t ∧ t ≤ 4) ∧ (0 ≤ v ∧ v ≤ 30) then ((T.2.2.1 1 t.toNatClampNeg).toInt64, sA T 1 t.toNatClampNeg v) else cf_fd T 1
theorem tw1 {t : Int32} (h0 : ¬ t = 0) (h : 0 ≤ t ∧ t ≤ 4) : 1 ≤ t ∧ t ≤ 4 := by
  refine ⟨?_, h.2⟩
  have h1 := h.1
  rw [Int32.le_iff_toInt_le] at h1 ⊢
  have e1 : (1 : Int32).toInt = 1 := by decide
  have e0 : (0 : Int32).toInt = 0 := by decide
  have : t.toInt ≠ 0 := fun e => h0 (Int32.toInt_inj.mp (e.trans e0.symm))
  omega
theorem tw2 {t : Int32} (h : t = 0) : ¬ (1 ≤ t ∧ t ≤ 4) := by subst h; decide
theorem tw3 {t : Int32} (h : ¬ (0 ≤ t ∧ t ≤ 4)) : ¬ (1 ≤ t ∧ t ≤ 4) := by
  intro h2
  refine h ⟨?_, h2.2⟩
  have h1 := h2.1
  rw [Int32.le_iff_toInt_le] at h1 ⊢
  have e1 : (1 : Int32).toInt = 1 := by decide
  have e0 : (0 : Int32).toInt = 0 := by decide
  omega
set_option maxHeartbeats 4000000 in
set_option maxRecDepth 100000 in
/-- road -/
theorem K_road (l : Launch) (D : va_G) (cy : Nat → ClassId) (a : Nat → Nat) (T : MS) (B : List BL) (t v : Int32) : Ct l D clx (tyx cy) yX8_road wsX8_road (rmC 3) 0 0 [.ref (a 200), .int t, .int v] (CW cy a T B) (fun r9 w9 => r9 = some (.long (cf_road T t v).1) ∧ w9 = CW cy a (cf_road T t v).2 B) := by
  refine g_start (cc := cX8_road) (maxL := 4) (ret := (some .long)) (by decide) rfl (Nat.le_of_ble_eq_true rfl) (fun v w1 h => by obtain ⟨rfl, -⟩ := h; exact rfl) (fun Γ hlΓ => ?_)
  subst hlΓ
  refine g_iload_n (i := 1) dX8_road_0 rfl rfl ?_
  refine g_if_eq 21 dX8_road_1 (by decide) (fun c_1 => ?_) (fun c_1 => ?_)
  · skip
    refine g_aload_n (i := 0) dX8_road_21 rfl rfl ?_
    refine g_iconst (1) rfl dX8_road_22 ?_
    refine g_callVf 1 0 gX8_road_X8_finding rfl rfl rfl ⟨Nat.le_of_ble_eq_true rfl, Nat.le_of_ble_eq_true rfl⟩ ⟨Nat.le_of_ble_eq_true rfl, Nat.le_of_ble_eq_true rfl⟩ (by exact Nat.le_of_ble_eq_true rfl) (by decide +kernel) rfl (cO_main _ _ _ _) rfl dX8_road_23 (K_finding _ D cy a _ _ _ (by unfold vp_in; decide)) rfl (fun vu_2 wu_2 hu_2 => ?_)
    obtain ⟨rfl, rfl⟩ := hu_2
    refine g_lret dX8_road_26 ?_
    unfold cf_road; first | (rw [if_pos ⟨tw1 (by assumption) (by assumption), Int32.not_lt.mp (by assumption), by first | assumption | exact Int32.not_lt.mp (by assumption)⟩]; exact ⟨rfl, rfl⟩) | (rw [if_neg (by intro h9; exact tw2 (by assumption) h9.1)]; exact ⟨rfl, rfl⟩) | (rw [if_neg (by intro h9; exact tw3 (by assumption) h9.1)]; exact ⟨rfl, rfl⟩) | (rw [if_neg (by intro h9; exact absurd h9.2.1 (Int32.not_le.mpr (by assumption)))]; exact ⟨rfl, rfl⟩) | (rw [if_neg (by intro h9; exact absurd h9.2.2 (by assumption))]; exact ⟨rfl, rfl⟩)
  · skip
    refine g_iload_n (i := 1) dX8_road_4 rfl rfl ?_
    refine g_callSf 1 gX8_road_X8_isTown rfl rfl rfl ⟨Nat.le_of_ble_eq_true rfl, Nat.le_of_ble_eq_true rfl⟩ ⟨Nat.le_of_ble_eq_true rfl, Nat.le_of_ble_eq_true rfl⟩ (by exact Nat.le_of_ble_eq_true rfl) (by decide +kernel) rfl dX8_road_5 (K_isTown _ D cy a _ _ _) rfl (fun vu_3 wu_3 hu_3 => ?_)
    rcases hu_3 with ⟨rfl, hu_3, rfl⟩ | ⟨rfl, hu_3, rfl⟩
    · skip
      refine g_if_eq 21 dX8_road_8 (by decide) (fun h9 => absurd h9 (by decide)) (fun _ => ?_)
      refine g_iload_n (i := 2) dX8_road_11 rfl rfl ?_
      refine g_if_lt 21 dX8_road_12 (by decide) (fun c_5 => ?_) (fun c_5 => ?_)
      · skip
        refine g_aload_n (i := 0) dX8_road_21 rfl rfl ?_
        refine g_iconst (1) rfl dX8_road_22 ?_
        refine g_callVf 1 0 gX8_road_X8_finding rfl rfl rfl ⟨Nat.le_of_ble_eq_true rfl, Nat.le_of_ble_eq_true rfl⟩ ⟨Nat.le_of_ble_eq_true rfl, Nat.le_of_ble_eq_true rfl⟩ (by exact Nat.le_of_ble_eq_true rfl) (by decide +kernel) rfl (cO_main _ _ _ _) rfl dX8_road_23 (K_finding _ D cy a _ _ _ (by unfold vp_in; decide)) rfl (fun vu_6 wu_6 hu_6 => ?_)
        obtain ⟨rfl, rfl⟩ := hu_6
        refine g_lret dX8_road_26 ?_
        unfold cf_road; first | (rw [if_pos ⟨tw1 (by assumption) (by assumption), Int32.not_lt.mp (by assumption), by first | assumption | exact Int32.not_lt.mp (by assumption)⟩]; exact ⟨rfl, rfl⟩) | (rw [if_neg (by intro h9; exact tw2 (by assumption) h9.1)]; exact ⟨rfl, rfl⟩) | (rw [if_neg (by intro h9; exact tw3 (by assumption) h9.1)]; exact ⟨rfl, rfl⟩) | (rw [if_neg (by intro h9; exact absurd h9.2.1 (Int32.not_le.mpr (by assumption)))]; exact ⟨rfl, rfl⟩) | (rw [if_neg (by intro h9; exact absurd h9.2.2 (by assumption))]; exact ⟨rfl, rfl⟩)
      · skip
        refine g_iload_n (i := 2) dX8_road_15 rfl rfl ?_
        refine g_bipush (30) rfl dX8_road_16 ?_
        refine g_icmp_le 27 dX8_road_18 (by decide) (fun c_7 => ?_) (fun c_7 => ?_)
        · skip
          refine g_aload_n (i := 0) dX8_road_27 rfl rfl ?_
          refine g_get 0 1 dX8_road_28 (List.mem_of_getElem? (i := 1) rfl) (fun w h => List.mem_cons_of_mem _ (List.mem_append_right _ h)) (cO_main _ _ _ _) rfl (by decide) rfl ?_
          refine g_iload_n (i := 1) dX8_road_31 rfl rfl ?_
          refine c_ald_1 dX8_road_32 (vpi5 (by assumption)) ?_
          refine g_istore_n (i := 3) dX8_road_33 rfl (by decide) ?_
          refine g_aload_n (i := 0) dX8_road_34 rfl rfl ?_
          refine g_get 0 1 dX8_road_35 (List.mem_of_getElem? (i := 1) rfl) (fun w h => List.mem_cons_of_mem _ (List.mem_append_right _ h)) (cO_main _ _ _ _) rfl (by decide) rfl ?_
          refine g_iload_n (i := 1) dX8_road_38 rfl rfl ?_
          refine g_iload_n (i := 2) dX8_road_39 rfl rfl ?_
          refine c_ast_1 dX8_road_40 (vpi5 (by assumption)) ?_
          refine g_iload_n (i := 3) dX8_road_41 rfl rfl ?_
          refine g_i2l dX8_road_42 ?_
          refine g_lret dX8_road_43 ?_
          unfold cf_road; first | (rw [if_pos ⟨tw1 (by assumption) (by assumption), Int32.not_lt.mp (by assumption), by first | assumption | exact Int32.not_lt.mp (by assumption)⟩]; exact ⟨rfl, rfl⟩) | (rw [if_neg (by intro h9; exact tw2 (by assumption) h9.1)]; exact ⟨rfl, rfl⟩) | (rw [if_neg (by intro h9; exact tw3 (by assumption) h9.1)]; exact ⟨rfl, rfl⟩) | (rw [if_neg (by intro h9; exact absurd h9.2.1 (Int32.not_le.mpr (by assumption)))]; exact ⟨rfl, rfl⟩) | (rw [if_neg (by intro h9; exact absurd h9.2.2 (by assumption))]; exact ⟨rfl, rfl⟩)
        · skip
          refine g_aload_n (i := 0) dX8_road_21 rfl rfl ?_
          refine g_iconst (1) rfl dX8_road_22 ?_
          refine g_callVf 1 0 gX8_road_X8_finding rfl rfl rfl ⟨Nat.le_of_ble_eq_true rfl, Nat.le_of_ble_eq_true rfl⟩ ⟨Nat.le_of_ble_eq_true rfl, Nat.le_of_ble_eq_true rfl⟩ (by exact Nat.le_of_ble_eq_true rfl) (by decide +kernel) rfl (cO_main _ _ _ _) rfl dX8_road_23 (K_finding _ D cy a _ _ _ (by unfold vp_in; decide)) rfl (fun vu_8 wu_8 hu_8 => ?_)
          obtain ⟨rfl, rfl⟩ := hu_8
          refine g_lret dX8_road_26 ?_
          unfold cf_road; first | (rw [if_pos ⟨tw1 (by assumption) (by assumption), Int32.not_lt.mp (by assumption), by first | assumption | exact Int32.not_lt.mp (by assumption)⟩]; exact ⟨rfl, rfl⟩) | (rw [if_neg (by intro h9; exact tw2 (by assumption) h9.1)]; exact ⟨rfl, rfl⟩) | (rw [if_neg (by intro h9; exact tw3 (by assumption) h9.1)]; exact ⟨rfl, rfl⟩) | (rw [if_neg (by intro h9; exact absurd h9.2.1 (Int32.not_le.mpr (by assumption)))]; exact ⟨rfl, rfl⟩) | (rw [if_neg (by intro h9; exact absurd h9.2.2 (by assumption))]; exact ⟨rfl, rfl⟩)
    · skip
      refine g_if_eq 21 dX8_road_8 (by decide) (fun _ => ?_) (fun h9 => absurd h9 (by decide))
      refine g_aload_n (i := 0) dX8_road_21 rfl rfl ?_
      refine g_iconst (1) rfl dX8_road_22 ?_
      refine g_callVf 1 0 gX8_road_X8_finding rfl rfl rfl ⟨Nat.le_of_ble_eq_true rfl, Nat.le_of_ble_eq_true rfl⟩ ⟨Nat.le_of_ble_eq_true rfl, Nat.le_of_ble_eq_true rfl⟩ (by exact Nat.le_of_ble_eq_true rfl) (by decide +kernel) rfl (cO_main _ _ _ _) rfl dX8_road_23 (K_finding _ D cy a _ _ _ (by unfold vp_in; decide)) rfl (fun vu_10 wu_10 hu_10 => ?_)
      obtain ⟨rfl, rfl⟩ := hu_10
      refine g_lret dX8_road_26 ?_
      unfold cf_road; first | (rw [if_pos ⟨tw1 (by assumption) (by assumption), Int32.not_lt.mp (by assumption), by first | assumption | exact Int32.not_lt.mp (by assumption)⟩]; exact ⟨rfl, rfl⟩) | (rw [if_neg (by intro h9; exact tw2 (by assumption) h9.1)]; exact ⟨rfl, rfl⟩) | (rw [if_neg (by intro h9; exact tw3 (by assumption) h9.1)]; exact ⟨rfl, rfl⟩) | (rw [if_neg (by intro h9; exact absurd h9.2.1 (Int32.not_le.mpr (by assumption)))]; exact ⟨rfl, rfl⟩) | (rw [if_neg (by intro h9; exact absurd h9.2.2 (by assumption))]; exact ⟨rfl, rfl⟩)

def cf_seat (T : MS) (h t : Int32) : Int64 × MS := if (0 ≤ h ∧ h ≤ 9) ∧ (0 ≤ t ∧ t ≤ 4) then ((T.2.2.1 2 h.toNatClampNeg).toInt64, sA T 2 h.toNatClampNeg t) else cf_fd T 1
set_option maxHeartbeats 4000000 in
set_option maxRecDepth 100000 in
/-- seat -/
theorem K_seat (l : Launch) (D : va_G) (cy : Nat → ClassId) (a : Nat → Nat) (T : MS) (B : List BL) (h t : Int32) : Ct l D clx (tyx cy) yX8_seat wsX8_seat (rmC 3) 0 0 [.ref (a 200), .int h, .int t] (CW cy a T B) (fun r9 w9 => r9 = some (.long (cf_seat T h t).1) ∧ w9 = CW cy a (cf_seat T h t).2 B) := by
  refine g_start (cc := cX8_seat) (maxL := 4) (ret := (some .long)) (by decide) rfl (Nat.le_of_ble_eq_true rfl) (fun v w1 h => by obtain ⟨rfl, -⟩ := h; exact rfl) (fun Γ hlΓ => ?_)
  subst hlΓ
  refine g_iload_n (i := 1) dX8_seat_0 rfl rfl ?_
  refine g_callSf 1 gX8_seat_X8_isHouse rfl rfl rfl ⟨Nat.le_of_ble_eq_true rfl, Nat.le_of_ble_eq_true rfl⟩ ⟨Nat.le_of_ble_eq_true rfl, Nat.le_of_ble_eq_true rfl⟩ (by exact Nat.le_of_ble_eq_true rfl) (by decide +kernel) rfl dX8_seat_1 (K_isHouse _ D cy a _ _ _) rfl (fun vu_1 wu_1 hu_1 => ?_)
  rcases hu_1 with ⟨rfl, hu_1, rfl⟩ | ⟨rfl, hu_1, rfl⟩
  · skip
    refine g_if_eq 14 dX8_seat_4 (by decide) (fun h9 => absurd h9 (by decide)) (fun _ => ?_)
    refine g_iload_n (i := 2) dX8_seat_7 rfl rfl ?_
    refine g_callSf 1 gX8_seat_X8_isTown rfl rfl rfl ⟨Nat.le_of_ble_eq_true rfl, Nat.le_of_ble_eq_true rfl⟩ ⟨Nat.le_of_ble_eq_true rfl, Nat.le_of_ble_eq_true rfl⟩ (by exact Nat.le_of_ble_eq_true rfl) (by decide +kernel) rfl dX8_seat_8 (K_isTown _ D cy a _ _ _) rfl (fun vu_3 wu_3 hu_3 => ?_)
    rcases hu_3 with ⟨rfl, hu_3, rfl⟩ | ⟨rfl, hu_3, rfl⟩
    · skip
      refine g_if_ne 20 dX8_seat_11 (by decide) (fun _ => ?_) (fun h9 => absurd h9 (by decide))
      refine g_aload_n (i := 0) dX8_seat_20 rfl rfl ?_
      refine g_get 0 2 dX8_seat_21 (List.mem_of_getElem? (i := 1) rfl) (fun w h => List.mem_cons_of_mem _ (List.mem_append_right _ h)) (cO_main _ _ _ _) rfl (by decide) rfl ?_
      refine g_iload_n (i := 1) dX8_seat_24 rfl rfl ?_
      refine c_ald_2 dX8_seat_25 (vpi10 (by assumption)) ?_
      refine g_istore_n (i := 3) dX8_seat_26 rfl (by decide) ?_
      refine g_aload_n (i := 0) dX8_seat_27 rfl rfl ?_
      refine g_get 0 2 dX8_seat_28 (List.mem_of_getElem? (i := 1) rfl) (fun w h => List.mem_cons_of_mem _ (List.mem_append_right _ h)) (cO_main _ _ _ _) rfl (by decide) rfl ?_
      refine g_iload_n (i := 1) dX8_seat_31 rfl rfl ?_
      refine g_iload_n (i := 2) dX8_seat_32 rfl rfl ?_
      refine c_ast_2 dX8_seat_33 (vpi10 (by assumption)) ?_
      refine g_iload_n (i := 3) dX8_seat_34 rfl rfl ?_
      refine g_i2l dX8_seat_35 ?_
      refine g_lret dX8_seat_36 ?_
      unfold cf_seat; (repeat' split) <;> first | contradiction | (with_reducible exact ⟨rfl, rfl⟩) | (exfalso; rename_i h9; first | exact absurd h9.1 (by assumption) | exact absurd h9.2 (by assumption) | exact absurd h9.2.1 (by assumption) | exact absurd h9.2.2 (by assumption) | exact absurd h9.2.2.1 (by assumption) | exact absurd h9.2.2.2 (by assumption) | exact h9 ⟨by assumption, by assumption⟩ | exact h9 ⟨by assumption, by assumption, by assumption⟩) | (exfalso; simp_all; done) | (exfalso; simp only [Int32.le_iff_toInt_le, Int32.lt_iff_toInt_lt, Int32.reduceToInt] at *; omega) | exact ⟨rfl, rfl⟩
    · skip
      refine g_if_ne 20 dX8_seat_11 (by decide) (fun h9 => absurd h9 (by decide)) (fun _ => ?_)
      refine g_aload_n (i := 0) dX8_seat_14 rfl rfl ?_
      refine g_iconst (1) rfl dX8_seat_15 ?_
      refine g_callVf 1 0 gX8_seat_X8_finding rfl rfl rfl ⟨Nat.le_of_ble_eq_true rfl, Nat.le_of_ble_eq_true rfl⟩ ⟨Nat.le_of_ble_eq_true rfl, Nat.le_of_ble_eq_true rfl⟩ (by exact Nat.le_of_ble_eq_true rfl) (by decide +kernel) rfl (cO_main _ _ _ _) rfl dX8_seat_16 (K_finding _ D cy a _ _ _ (by unfold vp_in; decide)) rfl (fun vu_6 wu_6 hu_6 => ?_)
      obtain ⟨rfl, rfl⟩ := hu_6
      refine g_lret dX8_seat_19 ?_
      unfold cf_seat; (repeat' split) <;> first | contradiction | (with_reducible exact ⟨rfl, rfl⟩) | (exfalso; rename_i h9; first | exact absurd h9.1 (by assumption) | exact absurd h9.2 (by assumption) | exact absurd h9.2.1 (by assumption) | exact absurd h9.2.2 (by assumption) | exact absurd h9.2.2.1 (by assumption) | exact absurd h9.2.2.2 (by assumption) | exact h9 ⟨by assumption, by assumption⟩ | exact h9 ⟨by assumption, by assumption, by assumption⟩) | (exfalso; simp_all; done) | (exfalso; simp only [Int32.le_iff_toInt_le, Int32.lt_iff_toInt_lt, Int32.reduceToInt] at *; omega) | exact ⟨rfl, rfl⟩
  · skip
    refine g_if_eq 14 dX8_seat_4 (by decide) (fun _ => ?_) (fun h9 => absurd h9 (by decide))
    refine g_aload_n (i := 0) dX8_seat_14 rfl rfl ?_
    refine g_iconst (1) rfl dX8_seat_15 ?_
    refine g_callVf 1 0 gX8_seat_X8_finding rfl rfl rfl ⟨Nat.le_of_ble_eq_true rfl, Nat.le_of_ble_eq_true rfl⟩ ⟨Nat.le_of_ble_eq_true rfl, Nat.le_of_ble_eq_true rfl⟩ (by exact Nat.le_of_ble_eq_true rfl) (by decide +kernel) rfl (cO_main _ _ _ _) rfl dX8_seat_16 (K_finding _ D cy a _ _ _ (by unfold vp_in; decide)) rfl (fun vu_8 wu_8 hu_8 => ?_)
    obtain ⟨rfl, rfl⟩ := hu_8
    refine g_lret dX8_seat_19 ?_
    unfold cf_seat; (repeat' split) <;> first | contradiction | (with_reducible exact ⟨rfl, rfl⟩) | (exfalso; rename_i h9; first | exact absurd h9.1 (by assumption) | exact absurd h9.2 (by assumption) | exact absurd h9.2.1 (by assumption) | exact absurd h9.2.2 (by assumption) | exact absurd h9.2.2.1 (by assumption) | exact absurd h9.2.2.2 (by assumption) | exact h9 ⟨by assumption, by assumption⟩ | exact h9 ⟨by assumption, by assumption, by assumption⟩) | (exfalso; simp_all; done) | (exfalso; simp only [Int32.le_iff_toInt_le, Int32.lt_iff_toInt_lt, Int32.reduceToInt] at *; omega) | exact ⟨rfl, rfl⟩

abbrev cdok (T : MS) : Prop := cday T = 27 → ccok T (T.1 15)
def cdOne (T : MS) : MS := if cday T = 27 then sI (cf_carry T (T.1 15)) 14 ((cf_carry T (T.1 15)).1 14 + 1) else sI T 14 (T.1 14 + 1)
def cdF (T : MS) : Nat → MS
  | 0 => T
  | i + 1 => cdOne (cdF T i)
def cdRun : Nat → MS → Int64 × MS
  | 0, T => ((T.1 14).toInt64, T)
  | j + 1, T => if cdok T then cdRun j (cdOne T) else cf_fd T 4
def cf_days (T : MS) (n : Int32) : Int64 × MS := if 1 ≤ n ∧ n ≤ 60 then cdRun n.toNatClampNeg T else cf_fd T 1
theorem cdR1 {T : MS} {N i : Nat} (hi : i < N) (h : cdok (cdF T i)) (g : cdRun (N - i) (cdF T i) = cdRun N T) : cdRun (N - (i + 1)) (cdF T (i + 1)) = cdRun N T := by
  rw [← g, show N - i = (N - (i + 1)) + 1 by omega]
  exact (if_pos h).symm
theorem cdR2 {T : MS} {N i : Nat} (hi : i < N) (h : ¬ cdok (cdF T i)) (g : cdRun (N - i) (cdF T i) = cdRun N T) : cf_fd (cdF T i) 4 = cdRun N T := by
  rw [← g, show N - i = (N - (i + 1)) + 1 by omega]
  exact (if_neg h).symm
theorem cdR3 {T : MS} {N : Nat} (g : cdRun (N - N) (cdF T N) = cdRun N T) : (((cdF T N).1 14).toInt64, cdF T N) = cdRun N T := by
  rw [← g, Nat.sub_self]
  rfl
set_option maxHeartbeats 4000000 in
set_option maxRecDepth 100000 in
/-- days -/
theorem K_days (l : Launch) (D : va_G) (cy : Nat → ClassId) (a : Nat → Nat) (T : MS) (B : List BL) (n : Int32) : Ct l D clx (tyx cy) yX8_days wsX8_days (rmC 3) 0 0 [.ref (a 200), .int n] (CW cy a T B) (fun r9 w9 => r9 = some (.long (cf_days T n).1) ∧ w9 = CW cy a (cf_days T n).2 B) := by
  refine g_start (cc := cX8_days) (maxL := 3) (ret := (some .long)) (by decide) rfl (Nat.le_of_ble_eq_true rfl) (fun v w1 h => by obtain ⟨rfl, -⟩ := h; exact rfl) (fun Γ hlΓ => ?_)
  subst hlΓ
  refine g_iload_n (i := 1) dX8_days_0 rfl rfl ?_
  refine g_iconst (1) rfl dX8_days_1 ?_
  refine g_icmp_lt 11 dX8_days_2 (by decide) (fun c_1 => ?_) (fun c_1 => ?_)
  · skip
    refine g_aload_n (i := 0) dX8_days_11 rfl rfl ?_
    refine g_iconst (1) rfl dX8_days_12 ?_
    refine g_callVf 1 0 gX8_days_X8_finding rfl rfl rfl ⟨Nat.le_of_ble_eq_true rfl, Nat.le_of_ble_eq_true rfl⟩ ⟨Nat.le_of_ble_eq_true rfl, Nat.le_of_ble_eq_true rfl⟩ (by exact Nat.le_of_ble_eq_true rfl) (by decide +kernel) rfl (cO_main _ _ _ _) rfl dX8_days_13 (K_finding _ D cy a _ _ _ (by unfold vp_in; decide)) rfl (fun vu_2 wu_2 hu_2 => ?_)
    obtain ⟨rfl, rfl⟩ := hu_2
    refine g_lret dX8_days_16 ?_
    unfold cf_days; rw [if_neg (by intro h9; first | exact absurd h9.1 (Int32.not_le.mpr (by assumption)) | exact absurd h9.2 (by assumption))]; exact ⟨rfl, rfl⟩
  · skip
    refine g_iload_n (i := 1) dX8_days_5 rfl rfl ?_
    refine g_bipush (60) rfl dX8_days_6 ?_
    refine g_icmp_le 17 dX8_days_8 (by decide) (fun c_3 => ?_) (fun c_3 => ?_)
    · skip
      have hn9 : 1 ≤ n ∧ n ≤ 60 := ⟨Int32.not_lt.mp (by assumption), by assumption⟩
      obtain ⟨N9, hN9, rfl⟩ := vpN hn9 (by decide)
      have hN8 : N9 ≤ 60 := (by have e9 : (60 : Int32).toInt = 60 := (by decide); omega)
      refine g_iconst (0) rfl dX8_days_17 ?_
      refine g_istore_n (i := 2) dX8_days_18 rfl (by decide) ?_
      refine g_cnt N9 (fun i => cdRun (N9 - i) (cdF T i) = cdRun N9 T) (fun i => CW cy a (cdF T i) B) (fun i => [(0, .ref (a 200)), (1, .int (nI N9)), (2, .int (nI i))]) 0 (by first | decide | omega) rfl (by rfl) (by refine ⟨rfl, rfl, rfl, trivial⟩) ?_ (fun i4 hi4 gi4 ihi4 => ?_)
      · intro gNi4
        refine g_iload_n (i := 2) dX8_days_19 rfl rfl ?_
        refine g_iload_n (i := 1) dX8_days_20 rfl rfl ?_
        refine g_icmp_ge 83 dX8_days_21 (by decide) (fun c_5 => ?_) (fun c_5 => ?_)
        · skip
          refine g_aload_n (i := 0) dX8_days_83 rfl rfl ?_
          refine g_get 0 14 dX8_days_84 (List.mem_of_getElem? (i := 1) rfl) (fun w h => List.mem_cons_of_mem _ (List.mem_append_left _ (List.mem_append_right _ h))) (cO_main _ _ _ _) rfl (by decide) rfl ?_
          refine g_i2l dX8_days_87 ?_
          refine g_lret dX8_days_88 ?_
          unfold cf_days; rw [if_pos hn9, nI_clamp (by omega), ← cdR3 (by assumption)]; exact ⟨rfl, rfl⟩
        · skip
          exact absurd (nI_le (Nat.le_refl _) (by first | decide | omega)) c_5
      · skip
        refine g_iload_n (i := 2) dX8_days_19 rfl rfl ?_
        refine g_iload_n (i := 1) dX8_days_20 rfl rfl ?_
        refine g_icmp_ge 83 dX8_days_21 (by decide) (fun c_6 => ?_) (fun c_6 => ?_)
        · skip
          exact absurd c_6 (nI_ge hi4 (by first | decide | omega))
        · skip
          refine g_aload_n (i := 0) dX8_days_24 rfl rfl ?_
          refine g_get 0 14 dX8_days_25 (List.mem_of_getElem? (i := 1) rfl) (fun w h => List.mem_cons_of_mem _ (List.mem_append_left _ (List.mem_append_right _ h))) (cO_main _ _ _ _) rfl (by decide) rfl ?_
          refine g_bipush (28) rfl dX8_days_28 ?_
          refine g_irem (by decide) dX8_days_30 ?_
          refine g_bipush (27) rfl dX8_days_31 ?_
          refine g_icmp_ne 67 dX8_days_33 (by decide) (fun c_7 => ?_) (fun c_7 => ?_)
          · skip
            refine g_aload_n (i := 0) dX8_days_67 rfl rfl ?_
            refine g_dup rfl dX8_days_68 ?_
            refine g_get 0 14 dX8_days_69 (List.mem_of_getElem? (i := 1) rfl) (fun w h => List.mem_cons_of_mem _ (List.mem_append_left _ (List.mem_append_right _ h))) (cO_main _ _ _ _) rfl (by decide) rfl ?_
            refine g_iconst (1) rfl dX8_days_72 ?_
            refine g_iadd dX8_days_73 ?_
            refine g_put 0 14 _ tyX8 tyX8_ok nmX8 dX8_days_74 (List.mem_of_getElem? (i := 1) rfl) (fun w h => List.mem_cons_of_mem _ (List.mem_append_left _ (List.mem_append_right _ h))) (cO_main _ _ _ _) rfl (by decide) rfl (tyX8_ok 14 (by decide)) rfl rfl (Nat.le_of_ble_eq_true rfl) (cwI_14 _ _ _ _ _) ?_
            refine g_iinc (1) dX8_days_77 rfl rfl (by decide) ?_
            refine g_goto 19 dX8_days_80 (by decide) ?_
            refine g_to _ _ (ihi4 (cdR1 hi4 (by first | exact fun _ => Classical.not_not.mp (by assumption) | exact fun h9 => absurd h9 (by assumption)) gi4)) (by show _ = CW cy a (cdOne (cdF T i4)) B; unfold cdOne; first | rw [if_pos (by assumption)] | rw [if_neg (by assumption)]) (by refine ⟨(by first | rfl | (rw [← nI_1]; rfl)), (by first | rfl | (rw [← nI_1]; rfl)), (by first | rfl | (rw [← nI_1]; rfl)), trivial⟩)
          · skip
            refine g_aload_n (i := 0) dX8_days_36 rfl rfl ?_
            refine g_get 0 7 dX8_days_37 (List.mem_of_getElem? (i := 2) rfl) (fun w h => List.mem_cons_of_mem _ (List.mem_append_left _ (List.mem_append_right _ h))) (cO_main _ _ _ _) rfl (by decide) rfl ?_
            refine g_aload_n (i := 0) dX8_days_40 rfl rfl ?_
            refine g_get 0 15 dX8_days_41 (List.mem_of_getElem? (i := 3) rfl) (fun w h => List.mem_cons_of_mem _ (List.mem_append_left _ (List.mem_append_right _ h))) (cO_main _ _ _ _) rfl (by decide) rfl ?_
            refine g_callVf 1 9 gX8_days_X1_carryOverfills rfl rfl rfl ⟨Nat.le_of_ble_eq_true rfl, Nat.le_of_ble_eq_true rfl⟩ ⟨Nat.le_of_ble_eq_true rfl, Nat.le_of_ble_eq_true rfl⟩ (by exact Nat.le_of_ble_eq_true rfl) (by decide +kernel) rfl (cO_book _ _ _ _) rfl dX8_days_44 (K_carryOv _ D cy a _ _ _) rfl (fun vu_8 wu_8 hu_8 => ?_)
            rcases hu_8 with ⟨rfl, hu_8, rfl⟩ | ⟨rfl, hu_8, rfl⟩
            · skip
              refine g_if_eq 56 dX8_days_47 (by decide) (fun h9 => absurd h9 (by decide)) (fun _ => ?_)
              refine g_aload_n (i := 0) dX8_days_50 rfl rfl ?_
              refine g_iconst (4) rfl dX8_days_51 ?_
              refine g_callVf 1 0 gX8_days_X8_finding rfl rfl rfl ⟨Nat.le_of_ble_eq_true rfl, Nat.le_of_ble_eq_true rfl⟩ ⟨Nat.le_of_ble_eq_true rfl, Nat.le_of_ble_eq_true rfl⟩ (by exact Nat.le_of_ble_eq_true rfl) (by decide +kernel) rfl (cO_main _ _ _ _) rfl dX8_days_52 (K_finding _ D cy a _ _ _ (by unfold vp_in; decide)) rfl (fun vu_10 wu_10 hu_10 => ?_)
              obtain ⟨rfl, rfl⟩ := hu_10
              refine g_lret dX8_days_55 ?_
              unfold cf_days; rw [if_pos hn9, nI_clamp (by omega), ← cdR2 (by assumption) (fun h9 => absurd (h9 (by assumption)) (by assumption)) (by assumption)]; exact ⟨rfl, rfl⟩
            · skip
              refine g_if_eq 56 dX8_days_47 (by decide) (fun _ => ?_) (fun h9 => absurd h9 (by decide))
              refine g_aload_n (i := 0) dX8_days_56 rfl rfl ?_
              refine g_get 0 7 dX8_days_57 (List.mem_of_getElem? (i := 2) rfl) (fun w h => List.mem_cons_of_mem _ (List.mem_append_left _ (List.mem_append_right _ h))) (cO_main _ _ _ _) rfl (by decide) rfl ?_
              refine g_aload_n (i := 0) dX8_days_60 rfl rfl ?_
              refine g_get 0 15 dX8_days_61 (List.mem_of_getElem? (i := 3) rfl) (fun w h => List.mem_cons_of_mem _ (List.mem_append_left _ (List.mem_append_right _ h))) (cO_main _ _ _ _) rfl (by decide) rfl ?_
              refine g_callVf 1 9 gX8_days_X1_carry rfl rfl rfl ⟨Nat.le_of_ble_eq_true rfl, Nat.le_of_ble_eq_true rfl⟩ ⟨Nat.le_of_ble_eq_true rfl, Nat.le_of_ble_eq_true rfl⟩ (by exact Nat.le_of_ble_eq_true rfl) (by decide +kernel) rfl (cO_book _ _ _ _) rfl dX8_days_64 (K_carry _ D cy a _ _ _) rfl (fun vu_12 wu_12 hu_12 => ?_)
              obtain ⟨rfl, rfl⟩ := hu_12
              refine g_aload_n (i := 0) dX8_days_67 rfl rfl ?_
              refine g_dup rfl dX8_days_68 ?_
              refine g_get 0 14 dX8_days_69 (List.mem_of_getElem? (i := 1) rfl) (fun w h => List.mem_cons_of_mem _ (List.mem_append_left _ (List.mem_append_right _ h))) (cO_main _ _ _ _) rfl (by decide) rfl ?_
              refine g_iconst (1) rfl dX8_days_72 ?_
              refine g_iadd dX8_days_73 ?_
              refine g_put 0 14 _ tyX8 tyX8_ok nmX8 dX8_days_74 (List.mem_of_getElem? (i := 1) rfl) (fun w h => List.mem_cons_of_mem _ (List.mem_append_left _ (List.mem_append_right _ h))) (cO_main _ _ _ _) rfl (by decide) rfl (tyX8_ok 14 (by decide)) rfl rfl (Nat.le_of_ble_eq_true rfl) (cwI_14 _ _ _ _ _) ?_
              refine g_iinc (1) dX8_days_77 rfl rfl (by decide) ?_
              refine g_goto 19 dX8_days_80 (by decide) ?_
              refine g_to _ _ (ihi4 (cdR1 hi4 (by first | exact fun _ => Classical.not_not.mp (by assumption) | exact fun h9 => absurd h9 (by assumption)) gi4)) (by show _ = CW cy a (cdOne (cdF T i4)) B; unfold cdOne; first | rw [if_pos (by assumption)] | rw [if_neg (by assumption)]) (by refine ⟨(by first | rfl | (rw [← nI_1]; rfl)), (by first | rfl | (rw [← nI_1]; rfl)), (by first | rfl | (rw [← nI_1]; rfl)), trivial⟩)
    · skip
      refine g_aload_n (i := 0) dX8_days_11 rfl rfl ?_
      refine g_iconst (1) rfl dX8_days_12 ?_
      refine g_callVf 1 0 gX8_days_X8_finding rfl rfl rfl ⟨Nat.le_of_ble_eq_true rfl, Nat.le_of_ble_eq_true rfl⟩ ⟨Nat.le_of_ble_eq_true rfl, Nat.le_of_ble_eq_true rfl⟩ (by exact Nat.le_of_ble_eq_true rfl) (by decide +kernel) rfl (cO_main _ _ _ _) rfl dX8_days_13 (K_finding _ D cy a _ _ _ (by unfold vp_in; decide)) rfl (fun vu_13 wu_13 hu_13 => ?_)
      obtain ⟨rfl, rfl⟩ := hu_13
      refine g_lret dX8_days_16 ?_
      unfold cf_days; rw [if_neg (by intro h9; first | exact absurd h9.1 (Int32.not_le.mpr (by assumption)) | exact absurd h9.2 (by assumption))]; exact ⟨rfl, rfl⟩

set_option maxHeartbeats 4000000 in
set_option maxRecDepth 100000 in
/-- billAt -/
theorem K_billAt (l : Launch) (D : va_G) (cy : Nat → ClassId) (a : Nat → Nat) (T : MS) (B : List BL) (x : Int32) (hI : ciB T B) : Ct l D clx (tyx cy) yX8_billAt wsX8_billAt (rmC 0) 0 0 [.ref (a 200), .int x] (CW cy a T B) (fun r9 w9 => w9 = CW cy a T B ∧ ((r9 = some .null ∧ ¬ bcnd T x) ∨ (r9 = some (.ref ((bat B x).1 0)) ∧ bcnd T x))) := by
  refine g_start (cc := cX8_billAt) (maxL := 2) (ret := (some (.object "ChangerFair$Bill"))) (by decide) rfl (Nat.le_of_ble_eq_true rfl) (fun v w1 h => by obtain ⟨-, ⟨rfl, -⟩ | ⟨rfl, -⟩⟩ := h <;> exact ⟨_, rfl, Or.inl ⟨_, rfl⟩⟩) (fun Γ hlΓ => ?_)
  subst hlΓ
  refine g_iload_n (i := 1) dX8_billAt_0 rfl rfl ?_
  refine g_if_lt 21 dX8_billAt_1 (by decide) (fun c_1 => ?_) (fun c_1 => ?_)
  · skip
    refine g_null dX8_billAt_21 ?_
    refine g_nret dX8_billAt_22 ?_
    first | exact ⟨rfl, Or.inr ⟨rfl, hbn⟩⟩ | exact ⟨rfl, Or.inl ⟨rfl, fun h9 => absurd h9.1 (Int32.not_le.mpr c_1)⟩⟩ | exact ⟨rfl, Or.inl ⟨rfl, fun h9 => absurd h9.2 (Int32.not_lt.mpr c_2)⟩⟩
  · skip
    refine g_iload_n (i := 1) dX8_billAt_4 rfl rfl ?_
    refine g_aload_n (i := 0) dX8_billAt_5 rfl rfl ?_
    refine g_get 0 16 dX8_billAt_6 (List.mem_of_getElem? (i := 1) rfl) (fun w h => List.mem_cons_of_mem _ (List.mem_append_right _ h)) (cO_main _ _ _ _) rfl (by decide) rfl ?_
    refine g_icmp_ge 21 dX8_billAt_9 (by decide) (fun c_2 => ?_) (fun c_2 => ?_)
    · skip
      refine g_null dX8_billAt_21 ?_
      refine g_nret dX8_billAt_22 ?_
      first | exact ⟨rfl, Or.inr ⟨rfl, hbn⟩⟩ | exact ⟨rfl, Or.inl ⟨rfl, fun h9 => absurd h9.1 (Int32.not_le.mpr c_1)⟩⟩ | exact ⟨rfl, Or.inl ⟨rfl, fun h9 => absurd h9.2 (Int32.not_lt.mpr c_2)⟩⟩
    · skip
      refine g_aload_n (i := 0) dX8_billAt_12 rfl rfl ?_
      refine g_get 0 3 dX8_billAt_13 (List.mem_of_getElem? (i := 2) rfl) (fun w h => List.mem_cons_of_mem _ (List.mem_append_right _ h)) (cO_main _ _ _ _) rfl (by decide) rfl ?_
      refine g_iload_n (i := 1) dX8_billAt_16 rfl rfl ?_
      have hbn : bcnd T x := ⟨Int32.not_lt.mp c_1, Int32.not_le.mp c_2⟩
      refine g_aald 4 3 rfl dX8_billAt_17 (cA_3 _ _ _ _) rfl (bvp hI hbn) ?_
      have e9 : va_rf (bref B x.toNatClampNeg) = .ref ((bat B x).1 0) := by unfold bref bat; rw [List.getElem?_eq_getElem (bidx hI hbn)]; rfl
      rw [e9]
      refine g_goto 22 dX8_billAt_18 (by decide) ?_
      refine g_aret dX8_billAt_22 ?_
      first | exact ⟨rfl, Or.inr ⟨rfl, hbn⟩⟩ | exact ⟨rfl, Or.inl ⟨rfl, fun h9 => absurd h9.1 (Int32.not_le.mpr c_1)⟩⟩ | exact ⟨rfl, Or.inl ⟨rfl, fun h9 => absurd h9.2 (Int32.not_lt.mpr c_2)⟩⟩

def cf_pass (T : MS) (B : List BL) (x h : Int32) : Int64 × MS × List BL := if bcnd T x ∧ (0 ≤ h ∧ h ≤ 9) then (if ¬ (bat B x).2.1 5 = 0 ∧ ¬ (bat B x).2.1 5 = 1 then ((cf_fd T 3).1, (cf_fd T 3).2, B) else if (bat B x).2.1 4 = h then ((cf_fd T 5).1, (cf_fd T 5).2, B) else if (bat B x).2.1 0 = 1 ∨ (bat B x).2.1 6 < 4 then (((bf_move (bat B x) h).2.1 6).toInt64, T, B.set x.toNatClampNeg (bf_move (bat B x) h)) else ((cf_fd T 4).1, (cf_fd T 4).2, B)) else ((cf_fd T 1).1, (cf_fd T 1).2, B)
set_option maxHeartbeats 4000000 in
set_option maxRecDepth 100000 in
/-- pass -/
theorem K_pass (l : Launch) (D : va_G) (cy : Nat → ClassId) (a : Nat → Nat) (T : MS) (B : List BL) (hI : ciB T B) (x h : Int32) : Ct l D clx (tyx cy) yX8_pass wsX8_pass (rmC 3) 0 0 [.ref (a 200), .int x, .int h] (CW cy a T B) (fun r9 w9 => r9 = some (.long (cf_pass T B x h).1) ∧ w9 = CW cy a (cf_pass T B x h).2.1 (cf_pass T B x h).2.2) := by
  refine g_start (cc := cX8_pass) (maxL := 4) (ret := (some .long)) (by decide) rfl (Nat.le_of_ble_eq_true rfl) (fun v w1 h => by obtain ⟨rfl, -⟩ := h; exact rfl) (fun Γ hlΓ => ?_)
  subst hlΓ
  refine g_aload_n (i := 0) dX8_pass_0 rfl rfl ?_
  refine g_iload_n (i := 1) dX8_pass_1 rfl rfl ?_
  refine g_callVf 1 0 gX8_pass_X8_billAt rfl rfl rfl ⟨Nat.le_of_ble_eq_true rfl, Nat.le_of_ble_eq_true rfl⟩ ⟨Nat.le_of_ble_eq_true rfl, Nat.le_of_ble_eq_true rfl⟩ (by exact Nat.le_of_ble_eq_true rfl) (by decide +kernel) rfl (cO_main _ _ _ _) rfl dX8_pass_2 (K_billAt _ D cy a _ _ _ hI) rfl (fun vu_1 wu_1 hu_1 => ?_)
  obtain ⟨rfl, ⟨rfl, hbn⟩ | ⟨rfl, hbn⟩⟩ := hu_1
  · skip
    refine g_astore_nN (i := 3) dX8_pass_5 rfl (by decide) ?_
    refine g_aload_nN (i := 3) dX8_pass_6 rfl rfl ?_
    refine g_ifnullN 17 dX8_pass_7 (by decide) ?_
    refine g_aload_n (i := 0) dX8_pass_17 rfl rfl ?_
    refine g_iconst (1) rfl dX8_pass_18 ?_
    refine g_callVf 1 0 gX8_pass_X8_finding rfl rfl rfl ⟨Nat.le_of_ble_eq_true rfl, Nat.le_of_ble_eq_true rfl⟩ ⟨Nat.le_of_ble_eq_true rfl, Nat.le_of_ble_eq_true rfl⟩ (by exact Nat.le_of_ble_eq_true rfl) (by decide +kernel) rfl (cO_main _ _ _ _) rfl dX8_pass_19 (K_finding _ D cy a _ _ _ (by unfold vp_in; decide)) rfl (fun vu_2 wu_2 hu_2 => ?_)
    obtain ⟨rfl, rfl⟩ := hu_2
    refine g_lret dX8_pass_22 ?_
    unfold cf_pass; (repeat' split) <;> first | contradiction | (with_reducible exact ⟨rfl, rfl⟩) | exact ⟨rfl, by rw [bset_bat hb]; rfl⟩ | exact ⟨rfl, congrArg (CW cy a _) (bset_bat hb)⟩ | (exfalso; rename_i h9; first | exact absurd h9.1 (by assumption) | exact absurd h9.2 (by assumption) | exact absurd h9.2.1 (by assumption) | exact absurd h9.2.2 (by assumption) | exact absurd h9.2.2.1 (by assumption) | exact absurd h9.2.2.2 (by assumption) | exact h9 ⟨by assumption, by assumption⟩ | exact h9 ⟨by assumption, by assumption, by assumption⟩) | (exfalso; simp_all; done) | (exfalso; simp only [Int32.le_iff_toInt_le, Int32.lt_iff_toInt_lt, Int32.reduceToInt] at *; omega) | exact ⟨rfl, rfl⟩
  · have hb := bidx hI hbn
    have hbk := bokx hI hbn
    refine g_weq _ (congrArg (CW cy a _) (bset_bat hb).symm) ?_
    refine g_astore_n (i := 3) dX8_pass_5 rfl (by decide) ?_
    refine g_aload_n (i := 3) dX8_pass_6 rfl rfl ?_
    refine g_ifnull dX8_pass_7 ?_
    refine g_iload_n (i := 2) dX8_pass_10 rfl rfl ?_
    refine g_callSf 1 gX8_pass_X8_isHouse rfl rfl rfl ⟨Nat.le_of_ble_eq_true rfl, Nat.le_of_ble_eq_true rfl⟩ ⟨Nat.le_of_ble_eq_true rfl, Nat.le_of_ble_eq_true rfl⟩ (by exact Nat.le_of_ble_eq_true rfl) (by decide +kernel) rfl dX8_pass_11 (K_isHouse _ D cy a _ _ _) rfl (fun vu_3 wu_3 hu_3 => ?_)
    rcases hu_3 with ⟨rfl, hu_3, rfl⟩ | ⟨rfl, hu_3, rfl⟩
    · skip
      refine g_if_ne 23 dX8_pass_14 (by decide) (fun _ => ?_) (fun h9 => absurd h9 (by decide))
      refine g_aload_n (i := 3) dX8_pass_23 rfl rfl ?_
      refine c_bget 5 dX8_pass_24 (List.mem_of_getElem? (i := 1) rfl) (fun w h => List.mem_cons_of_mem _ (List.mem_append_left _ (List.mem_append_right _ h))) hb (by decide) rfl ?_
      refine g_if_eq 44 dX8_pass_27 (by decide) (fun c_5 => ?_) (fun c_5 => ?_)
      · skip
        refine g_aload_n (i := 3) dX8_pass_44 rfl rfl ?_
        refine c_bget 4 dX8_pass_45 (List.mem_of_getElem? (i := 2) rfl) (fun w h => List.mem_cons_of_mem _ (List.mem_append_left _ (List.mem_append_right _ h))) hb (by decide) rfl ?_
        refine g_iload_n (i := 2) dX8_pass_48 rfl rfl ?_
        refine g_icmp_ne 58 dX8_pass_49 (by decide) (fun c_6 => ?_) (fun c_6 => ?_)
        · skip
          refine g_aload_n (i := 3) dX8_pass_58 rfl rfl ?_
          refine g_callVf 0 (71 + (3 * _ + 0)) gX8_pass_X0_hasRoomToPass rfl rfl rfl ⟨Nat.le_of_ble_eq_true rfl, Nat.le_of_ble_eq_true rfl⟩ ⟨Nat.le_of_ble_eq_true rfl, Nat.le_of_ble_eq_true rfl⟩ (by exact Nat.le_of_ble_eq_true rfl) (by decide +kernel) rfl (cB_get _ 0 (by decide) hb) rfl dX8_pass_59 (K_hasRoom _ D cy a _ _ _ _ hb) rfl (fun vu_7 wu_7 hu_7 => ?_)
          rcases hu_7 with ⟨rfl, hu_7, rfl⟩ | ⟨rfl, hu_7, rfl⟩
          · skip
            refine g_if_ne 71 dX8_pass_62 (by decide) (fun _ => ?_) (fun h9 => absurd h9 (by decide))
            refine g_aload_n (i := 3) dX8_pass_71 rfl rfl ?_
            refine g_iload_n (i := 2) dX8_pass_72 rfl rfl ?_
            refine g_callVf 1 (71 + (3 * _ + 0)) gX8_pass_X0_moveTo rfl rfl rfl ⟨Nat.le_of_ble_eq_true rfl, Nat.le_of_ble_eq_true rfl⟩ ⟨Nat.le_of_ble_eq_true rfl, Nat.le_of_ble_eq_true rfl⟩ (by exact Nat.le_of_ble_eq_true rfl) (by decide +kernel) rfl (cB_get _ 0 (by decide) hb) rfl dX8_pass_73 (K_moveTo _ D cy a _ _ _ _ hb _ hbk.2.2.2.2.1.1) rfl (fun vu_9 wu_9 hu_9 => ?_)
            obtain ⟨rfl, rfl⟩ := hu_9
            refine g_aload_n (i := 3) dX8_pass_76 rfl rfl ?_
            refine c_bget 6 dX8_pass_77 (List.mem_of_getElem? (i := 3) rfl) (fun w h => List.mem_cons_of_mem _ (List.mem_append_left _ (List.mem_append_right _ h))) hb (by decide) rfl ?_
            refine g_i2l dX8_pass_80 ?_
            refine g_lret dX8_pass_81 ?_
            unfold cf_pass; (repeat' split) <;> first | contradiction | (with_reducible exact ⟨rfl, rfl⟩) | exact ⟨rfl, by rw [bset_bat hb]; rfl⟩ | exact ⟨rfl, congrArg (CW cy a _) (bset_bat hb)⟩ | (exfalso; rename_i h9; first | exact absurd h9.1 (by assumption) | exact absurd h9.2 (by assumption) | exact absurd h9.2.1 (by assumption) | exact absurd h9.2.2 (by assumption) | exact absurd h9.2.2.1 (by assumption) | exact absurd h9.2.2.2 (by assumption) | exact h9 ⟨by assumption, by assumption⟩ | exact h9 ⟨by assumption, by assumption, by assumption⟩) | (exfalso; simp_all; done) | (exfalso; simp only [Int32.le_iff_toInt_le, Int32.lt_iff_toInt_lt, Int32.reduceToInt] at *; omega) | exact ⟨rfl, rfl⟩
          · skip
            refine g_if_ne 71 dX8_pass_62 (by decide) (fun h9 => absurd h9 (by decide)) (fun _ => ?_)
            refine g_aload_n (i := 0) dX8_pass_65 rfl rfl ?_
            refine g_iconst (4) rfl dX8_pass_66 ?_
            refine g_callVf 1 0 gX8_pass_X8_finding rfl rfl rfl ⟨Nat.le_of_ble_eq_true rfl, Nat.le_of_ble_eq_true rfl⟩ ⟨Nat.le_of_ble_eq_true rfl, Nat.le_of_ble_eq_true rfl⟩ (by exact Nat.le_of_ble_eq_true rfl) (by decide +kernel) rfl (cO_main _ _ _ _) rfl dX8_pass_67 (K_finding _ D cy a _ _ _ (by unfold vp_in; decide)) rfl (fun vu_11 wu_11 hu_11 => ?_)
            obtain ⟨rfl, rfl⟩ := hu_11
            refine g_lret dX8_pass_70 ?_
            unfold cf_pass; (repeat' split) <;> first | contradiction | (with_reducible exact ⟨rfl, rfl⟩) | exact ⟨rfl, by rw [bset_bat hb]; rfl⟩ | exact ⟨rfl, congrArg (CW cy a _) (bset_bat hb)⟩ | (exfalso; rename_i h9; first | exact absurd h9.1 (by assumption) | exact absurd h9.2 (by assumption) | exact absurd h9.2.1 (by assumption) | exact absurd h9.2.2 (by assumption) | exact absurd h9.2.2.1 (by assumption) | exact absurd h9.2.2.2 (by assumption) | exact h9 ⟨by assumption, by assumption⟩ | exact h9 ⟨by assumption, by assumption, by assumption⟩) | (exfalso; simp_all; done) | (exfalso; simp only [Int32.le_iff_toInt_le, Int32.lt_iff_toInt_lt, Int32.reduceToInt] at *; omega) | exact ⟨rfl, rfl⟩
        · skip
          refine g_aload_n (i := 0) dX8_pass_52 rfl rfl ?_
          refine g_iconst (5) rfl dX8_pass_53 ?_
          refine g_callVf 1 0 gX8_pass_X8_finding rfl rfl rfl ⟨Nat.le_of_ble_eq_true rfl, Nat.le_of_ble_eq_true rfl⟩ ⟨Nat.le_of_ble_eq_true rfl, Nat.le_of_ble_eq_true rfl⟩ (by exact Nat.le_of_ble_eq_true rfl) (by decide +kernel) rfl (cO_main _ _ _ _) rfl dX8_pass_54 (K_finding _ D cy a _ _ _ (by unfold vp_in; decide)) rfl (fun vu_12 wu_12 hu_12 => ?_)
          obtain ⟨rfl, rfl⟩ := hu_12
          refine g_lret dX8_pass_57 ?_
          unfold cf_pass; (repeat' split) <;> first | contradiction | (with_reducible exact ⟨rfl, rfl⟩) | exact ⟨rfl, by rw [bset_bat hb]; rfl⟩ | exact ⟨rfl, congrArg (CW cy a _) (bset_bat hb)⟩ | (exfalso; rename_i h9; first | exact absurd h9.1 (by assumption) | exact absurd h9.2 (by assumption) | exact absurd h9.2.1 (by assumption) | exact absurd h9.2.2 (by assumption) | exact absurd h9.2.2.1 (by assumption) | exact absurd h9.2.2.2 (by assumption) | exact h9 ⟨by assumption, by assumption⟩ | exact h9 ⟨by assumption, by assumption, by assumption⟩) | (exfalso; simp_all; done) | (exfalso; simp only [Int32.le_iff_toInt_le, Int32.lt_iff_toInt_lt, Int32.reduceToInt] at *; omega) | exact ⟨rfl, rfl⟩
      · skip
        refine g_aload_n (i := 3) dX8_pass_30 rfl rfl ?_
        refine c_bget 5 dX8_pass_31 (List.mem_of_getElem? (i := 1) rfl) (fun w h => List.mem_cons_of_mem _ (List.mem_append_left _ (List.mem_append_right _ h))) hb (by decide) rfl ?_
        refine g_iconst (1) rfl dX8_pass_34 ?_
        refine g_icmp_eq 44 dX8_pass_35 (by decide) (fun c_13 => ?_) (fun c_13 => ?_)
        · skip
          refine g_aload_n (i := 3) dX8_pass_44 rfl rfl ?_
          refine c_bget 4 dX8_pass_45 (List.mem_of_getElem? (i := 2) rfl) (fun w h => List.mem_cons_of_mem _ (List.mem_append_left _ (List.mem_append_right _ h))) hb (by decide) rfl ?_
          refine g_iload_n (i := 2) dX8_pass_48 rfl rfl ?_
          refine g_icmp_ne 58 dX8_pass_49 (by decide) (fun c_14 => ?_) (fun c_14 => ?_)
          · skip
            refine g_aload_n (i := 3) dX8_pass_58 rfl rfl ?_
            refine g_callVf 0 (71 + (3 * _ + 0)) gX8_pass_X0_hasRoomToPass rfl rfl rfl ⟨Nat.le_of_ble_eq_true rfl, Nat.le_of_ble_eq_true rfl⟩ ⟨Nat.le_of_ble_eq_true rfl, Nat.le_of_ble_eq_true rfl⟩ (by exact Nat.le_of_ble_eq_true rfl) (by decide +kernel) rfl (cB_get _ 0 (by decide) hb) rfl dX8_pass_59 (K_hasRoom _ D cy a _ _ _ _ hb) rfl (fun vu_15 wu_15 hu_15 => ?_)
            rcases hu_15 with ⟨rfl, hu_15, rfl⟩ | ⟨rfl, hu_15, rfl⟩
            · skip
              refine g_if_ne 71 dX8_pass_62 (by decide) (fun _ => ?_) (fun h9 => absurd h9 (by decide))
              refine g_aload_n (i := 3) dX8_pass_71 rfl rfl ?_
              refine g_iload_n (i := 2) dX8_pass_72 rfl rfl ?_
              refine g_callVf 1 (71 + (3 * _ + 0)) gX8_pass_X0_moveTo rfl rfl rfl ⟨Nat.le_of_ble_eq_true rfl, Nat.le_of_ble_eq_true rfl⟩ ⟨Nat.le_of_ble_eq_true rfl, Nat.le_of_ble_eq_true rfl⟩ (by exact Nat.le_of_ble_eq_true rfl) (by decide +kernel) rfl (cB_get _ 0 (by decide) hb) rfl dX8_pass_73 (K_moveTo _ D cy a _ _ _ _ hb _ hbk.2.2.2.2.1.1) rfl (fun vu_17 wu_17 hu_17 => ?_)
              obtain ⟨rfl, rfl⟩ := hu_17
              refine g_aload_n (i := 3) dX8_pass_76 rfl rfl ?_
              refine c_bget 6 dX8_pass_77 (List.mem_of_getElem? (i := 3) rfl) (fun w h => List.mem_cons_of_mem _ (List.mem_append_left _ (List.mem_append_right _ h))) hb (by decide) rfl ?_
              refine g_i2l dX8_pass_80 ?_
              refine g_lret dX8_pass_81 ?_
              unfold cf_pass; (repeat' split) <;> first | contradiction | (with_reducible exact ⟨rfl, rfl⟩) | exact ⟨rfl, by rw [bset_bat hb]; rfl⟩ | exact ⟨rfl, congrArg (CW cy a _) (bset_bat hb)⟩ | (exfalso; rename_i h9; first | exact absurd h9.1 (by assumption) | exact absurd h9.2 (by assumption) | exact absurd h9.2.1 (by assumption) | exact absurd h9.2.2 (by assumption) | exact absurd h9.2.2.1 (by assumption) | exact absurd h9.2.2.2 (by assumption) | exact h9 ⟨by assumption, by assumption⟩ | exact h9 ⟨by assumption, by assumption, by assumption⟩) | (exfalso; simp_all; done) | (exfalso; simp only [Int32.le_iff_toInt_le, Int32.lt_iff_toInt_lt, Int32.reduceToInt] at *; omega) | exact ⟨rfl, rfl⟩
            · skip
              refine g_if_ne 71 dX8_pass_62 (by decide) (fun h9 => absurd h9 (by decide)) (fun _ => ?_)
              refine g_aload_n (i := 0) dX8_pass_65 rfl rfl ?_
              refine g_iconst (4) rfl dX8_pass_66 ?_
              refine g_callVf 1 0 gX8_pass_X8_finding rfl rfl rfl ⟨Nat.le_of_ble_eq_true rfl, Nat.le_of_ble_eq_true rfl⟩ ⟨Nat.le_of_ble_eq_true rfl, Nat.le_of_ble_eq_true rfl⟩ (by exact Nat.le_of_ble_eq_true rfl) (by decide +kernel) rfl (cO_main _ _ _ _) rfl dX8_pass_67 (K_finding _ D cy a _ _ _ (by unfold vp_in; decide)) rfl (fun vu_19 wu_19 hu_19 => ?_)
              obtain ⟨rfl, rfl⟩ := hu_19
              refine g_lret dX8_pass_70 ?_
              unfold cf_pass; (repeat' split) <;> first | contradiction | (with_reducible exact ⟨rfl, rfl⟩) | exact ⟨rfl, by rw [bset_bat hb]; rfl⟩ | exact ⟨rfl, congrArg (CW cy a _) (bset_bat hb)⟩ | (exfalso; rename_i h9; first | exact absurd h9.1 (by assumption) | exact absurd h9.2 (by assumption) | exact absurd h9.2.1 (by assumption) | exact absurd h9.2.2 (by assumption) | exact absurd h9.2.2.1 (by assumption) | exact absurd h9.2.2.2 (by assumption) | exact h9 ⟨by assumption, by assumption⟩ | exact h9 ⟨by assumption, by assumption, by assumption⟩) | (exfalso; simp_all; done) | (exfalso; simp only [Int32.le_iff_toInt_le, Int32.lt_iff_toInt_lt, Int32.reduceToInt] at *; omega) | exact ⟨rfl, rfl⟩
          · skip
            refine g_aload_n (i := 0) dX8_pass_52 rfl rfl ?_
            refine g_iconst (5) rfl dX8_pass_53 ?_
            refine g_callVf 1 0 gX8_pass_X8_finding rfl rfl rfl ⟨Nat.le_of_ble_eq_true rfl, Nat.le_of_ble_eq_true rfl⟩ ⟨Nat.le_of_ble_eq_true rfl, Nat.le_of_ble_eq_true rfl⟩ (by exact Nat.le_of_ble_eq_true rfl) (by decide +kernel) rfl (cO_main _ _ _ _) rfl dX8_pass_54 (K_finding _ D cy a _ _ _ (by unfold vp_in; decide)) rfl (fun vu_20 wu_20 hu_20 => ?_)
            obtain ⟨rfl, rfl⟩ := hu_20
            refine g_lret dX8_pass_57 ?_
            unfold cf_pass; (repeat' split) <;> first | contradiction | (with_reducible exact ⟨rfl, rfl⟩) | exact ⟨rfl, by rw [bset_bat hb]; rfl⟩ | exact ⟨rfl, congrArg (CW cy a _) (bset_bat hb)⟩ | (exfalso; rename_i h9; first | exact absurd h9.1 (by assumption) | exact absurd h9.2 (by assumption) | exact absurd h9.2.1 (by assumption) | exact absurd h9.2.2 (by assumption) | exact absurd h9.2.2.1 (by assumption) | exact absurd h9.2.2.2 (by assumption) | exact h9 ⟨by assumption, by assumption⟩ | exact h9 ⟨by assumption, by assumption, by assumption⟩) | (exfalso; simp_all; done) | (exfalso; simp only [Int32.le_iff_toInt_le, Int32.lt_iff_toInt_lt, Int32.reduceToInt] at *; omega) | exact ⟨rfl, rfl⟩
        · skip
          refine g_aload_n (i := 0) dX8_pass_38 rfl rfl ?_
          refine g_iconst (3) rfl dX8_pass_39 ?_
          refine g_callVf 1 0 gX8_pass_X8_finding rfl rfl rfl ⟨Nat.le_of_ble_eq_true rfl, Nat.le_of_ble_eq_true rfl⟩ ⟨Nat.le_of_ble_eq_true rfl, Nat.le_of_ble_eq_true rfl⟩ (by exact Nat.le_of_ble_eq_true rfl) (by decide +kernel) rfl (cO_main _ _ _ _) rfl dX8_pass_40 (K_finding _ D cy a _ _ _ (by unfold vp_in; decide)) rfl (fun vu_21 wu_21 hu_21 => ?_)
          obtain ⟨rfl, rfl⟩ := hu_21
          refine g_lret dX8_pass_43 ?_
          unfold cf_pass; (repeat' split) <;> first | contradiction | (with_reducible exact ⟨rfl, rfl⟩) | exact ⟨rfl, by rw [bset_bat hb]; rfl⟩ | exact ⟨rfl, congrArg (CW cy a _) (bset_bat hb)⟩ | (exfalso; rename_i h9; first | exact absurd h9.1 (by assumption) | exact absurd h9.2 (by assumption) | exact absurd h9.2.1 (by assumption) | exact absurd h9.2.2 (by assumption) | exact absurd h9.2.2.1 (by assumption) | exact absurd h9.2.2.2 (by assumption) | exact h9 ⟨by assumption, by assumption⟩ | exact h9 ⟨by assumption, by assumption, by assumption⟩) | (exfalso; simp_all; done) | (exfalso; simp only [Int32.le_iff_toInt_le, Int32.lt_iff_toInt_lt, Int32.reduceToInt] at *; omega) | exact ⟨rfl, rfl⟩
    · skip
      refine g_if_ne 23 dX8_pass_14 (by decide) (fun h9 => absurd h9 (by decide)) (fun _ => ?_)
      refine g_aload_n (i := 0) dX8_pass_17 rfl rfl ?_
      refine g_iconst (1) rfl dX8_pass_18 ?_
      refine g_callVf 1 0 gX8_pass_X8_finding rfl rfl rfl ⟨Nat.le_of_ble_eq_true rfl, Nat.le_of_ble_eq_true rfl⟩ ⟨Nat.le_of_ble_eq_true rfl, Nat.le_of_ble_eq_true rfl⟩ (by exact Nat.le_of_ble_eq_true rfl) (by decide +kernel) rfl (cO_main _ _ _ _) rfl dX8_pass_19 (K_finding _ D cy a _ _ _ (by unfold vp_in; decide)) rfl (fun vu_23 wu_23 hu_23 => ?_)
      obtain ⟨rfl, rfl⟩ := hu_23
      refine g_lret dX8_pass_22 ?_
      unfold cf_pass; (repeat' split) <;> first | contradiction | (with_reducible exact ⟨rfl, rfl⟩) | exact ⟨rfl, by rw [bset_bat hb]; rfl⟩ | exact ⟨rfl, congrArg (CW cy a _) (bset_bat hb)⟩ | (exfalso; rename_i h9; first | exact absurd h9.1 (by assumption) | exact absurd h9.2 (by assumption) | exact absurd h9.2.1 (by assumption) | exact absurd h9.2.2 (by assumption) | exact absurd h9.2.2.1 (by assumption) | exact absurd h9.2.2.2 (by assumption) | exact h9 ⟨by assumption, by assumption⟩ | exact h9 ⟨by assumption, by assumption, by assumption⟩) | (exfalso; simp_all; done) | (exfalso; simp only [Int32.le_iff_toInt_le, Int32.lt_iff_toInt_lt, Int32.reduceToInt] at *; omega) | exact ⟨rfl, rfl⟩

def cf_take (T : MS) (B : List BL) (x r : Int32) : Int64 × MS × List BL := if bcnd T x then (if (bat B x).2.1 5 = 0 then (if cday T ≤ 6 then (if r = 0 then ((1 : Int32).toInt64, T, B.set x.toNatClampNeg (bf_become (bat B x) 1 (T.1 14))) else ((2 : Int32).toInt64, T, B.set x.toNatClampNeg (bf_become (bat B x) 2 (T.1 14)))) else ((cf_fd T 7).1, (cf_fd T 7).2, B)) else ((cf_fd T 3).1, (cf_fd T 3).2, B)) else ((cf_fd T 1).1, (cf_fd T 1).2, B)
set_option maxHeartbeats 4000000 in
set_option maxRecDepth 100000 in
/-- take -/
theorem K_take (l : Launch) (D : va_G) (cy : Nat → ClassId) (a : Nat → Nat) (T : MS) (B : List BL) (hI : ciB T B) (x r : Int32) : Ct l D clx (tyx cy) yX8_take wsX8_take (rmC 3) 0 0 [.ref (a 200), .int x, .int r] (CW cy a T B) (fun r9 w9 => r9 = some (.long (cf_take T B x r).1) ∧ w9 = CW cy a (cf_take T B x r).2.1 (cf_take T B x r).2.2) := by
  refine g_start (cc := cX8_take) (maxL := 4) (ret := (some .long)) (by decide) rfl (Nat.le_of_ble_eq_true rfl) (fun v w1 h => by obtain ⟨rfl, -⟩ := h; exact rfl) (fun Γ hlΓ => ?_)
  subst hlΓ
  refine g_aload_n (i := 0) dX8_take_0 rfl rfl ?_
  refine g_iload_n (i := 1) dX8_take_1 rfl rfl ?_
  refine g_callVf 1 0 gX8_take_X8_billAt rfl rfl rfl ⟨Nat.le_of_ble_eq_true rfl, Nat.le_of_ble_eq_true rfl⟩ ⟨Nat.le_of_ble_eq_true rfl, Nat.le_of_ble_eq_true rfl⟩ (by exact Nat.le_of_ble_eq_true rfl) (by decide +kernel) rfl (cO_main _ _ _ _) rfl dX8_take_2 (K_billAt _ D cy a _ _ _ hI) rfl (fun vu_1 wu_1 hu_1 => ?_)
  obtain ⟨rfl, ⟨rfl, hbn⟩ | ⟨rfl, hbn⟩⟩ := hu_1
  · skip
    refine g_astore_nN (i := 3) dX8_take_5 rfl (by decide) ?_
    refine g_aload_nN (i := 3) dX8_take_6 rfl rfl ?_
    refine g_ifnonnullN dX8_take_7 ?_
    refine g_aload_n (i := 0) dX8_take_10 rfl rfl ?_
    refine g_iconst (1) rfl dX8_take_11 ?_
    refine g_callVf 1 0 gX8_take_X8_finding rfl rfl rfl ⟨Nat.le_of_ble_eq_true rfl, Nat.le_of_ble_eq_true rfl⟩ ⟨Nat.le_of_ble_eq_true rfl, Nat.le_of_ble_eq_true rfl⟩ (by exact Nat.le_of_ble_eq_true rfl) (by decide +kernel) rfl (cO_main _ _ _ _) rfl dX8_take_12 (K_finding _ D cy a _ _ _ (by unfold vp_in; decide)) rfl (fun vu_2 wu_2 hu_2 => ?_)
    obtain ⟨rfl, rfl⟩ := hu_2
    refine g_lret dX8_take_15 ?_
    unfold cf_take; (repeat' split) <;> first | contradiction | (with_reducible exact ⟨rfl, rfl⟩) | exact ⟨rfl, by rw [bset_bat hb]; rfl⟩ | exact ⟨rfl, congrArg (CW cy a _) (bset_bat hb)⟩ | (exfalso; rename_i h9; first | exact absurd h9.1 (by assumption) | exact absurd h9.2 (by assumption) | exact absurd h9.2.1 (by assumption) | exact absurd h9.2.2 (by assumption) | exact absurd h9.2.2.1 (by assumption) | exact absurd h9.2.2.2 (by assumption) | exact h9 ⟨by assumption, by assumption⟩ | exact h9 ⟨by assumption, by assumption, by assumption⟩) | (exfalso; simp_all; done) | (exfalso; simp only [Int32.le_iff_toInt_le, Int32.lt_iff_toInt_lt, Int32.reduceToInt] at *; omega) | exact ⟨rfl, rfl⟩
  · have hb := bidx hI hbn
    have hbk := bokx hI hbn
    refine g_weq _ (congrArg (CW cy a _) (bset_bat hb).symm) ?_
    refine g_astore_n (i := 3) dX8_take_5 rfl (by decide) ?_
    refine g_aload_n (i := 3) dX8_take_6 rfl rfl ?_
    refine g_ifnonnull 16 dX8_take_7 (by decide) ?_
    refine g_aload_n (i := 3) dX8_take_16 rfl rfl ?_
    refine c_bget 5 dX8_take_17 (List.mem_of_getElem? (i := 1) rfl) (fun w h => List.mem_cons_of_mem _ (List.mem_append_left _ (List.mem_append_right _ h))) hb (by decide) rfl ?_
    refine g_if_eq 29 dX8_take_20 (by decide) (fun c_3 => ?_) (fun c_3 => ?_)
    · skip
      refine g_aload_n (i := 0) dX8_take_29 rfl rfl ?_
      refine g_callVf 0 0 gX8_take_X8_isTakingDay rfl rfl rfl ⟨Nat.le_of_ble_eq_true rfl, Nat.le_of_ble_eq_true rfl⟩ ⟨Nat.le_of_ble_eq_true rfl, Nat.le_of_ble_eq_true rfl⟩ (by exact Nat.le_of_ble_eq_true rfl) (by decide +kernel) rfl (cO_main _ _ _ _) rfl dX8_take_30 (K_isTakingDay _ D cy a _ _) rfl (fun vu_4 wu_4 hu_4 => ?_)
      rcases hu_4 with ⟨rfl, hu_4, rfl⟩ | ⟨rfl, hu_4, rfl⟩
      · skip
        refine g_if_ne 43 dX8_take_33 (by decide) (fun _ => ?_) (fun h9 => absurd h9 (by decide))
        refine g_aload_n (i := 3) dX8_take_43 rfl rfl ?_
        refine g_iload_n (i := 2) dX8_take_44 rfl rfl ?_
        refine g_if_eq 52 dX8_take_45 (by decide) (fun c_6 => ?_) (fun c_6 => ?_)
        · skip
          refine g_iconst (1) rfl dX8_take_52 ?_
          refine g_aload_n (i := 0) dX8_take_53 rfl rfl ?_
          refine g_get 0 14 dX8_take_54 (List.mem_of_getElem? (i := 2) rfl) (fun w h => List.mem_cons_of_mem _ (List.mem_append_right _ h)) (cO_main _ _ _ _) rfl (by decide) rfl ?_
          refine g_callVf 2 (71 + (3 * _ + 0)) gX8_take_X0_become rfl rfl rfl ⟨Nat.le_of_ble_eq_true rfl, Nat.le_of_ble_eq_true rfl⟩ ⟨Nat.le_of_ble_eq_true rfl, Nat.le_of_ble_eq_true rfl⟩ (by exact Nat.le_of_ble_eq_true rfl) (by decide +kernel) rfl (cB_get _ 0 (by decide) hb) rfl dX8_take_57 (K_become _ D cy a _ _ _ _ hb _ _ (by unfold vp_in; decide)) rfl (fun vu_7 wu_7 hu_7 => ?_)
          obtain ⟨rfl, rfl⟩ := hu_7
          refine g_aload_n (i := 3) dX8_take_60 rfl rfl ?_
          refine c_bget 5 dX8_take_61 (List.mem_of_getElem? (i := 1) rfl) (fun w h => List.mem_cons_of_mem _ (List.mem_append_left _ (List.mem_append_right _ h))) hb (by decide) rfl ?_
          refine g_i2l dX8_take_64 ?_
          refine g_lret dX8_take_65 ?_
          unfold cf_take; (repeat' split) <;> first | contradiction | (with_reducible exact ⟨rfl, rfl⟩) | exact ⟨rfl, by rw [bset_bat hb]; rfl⟩ | exact ⟨rfl, congrArg (CW cy a _) (bset_bat hb)⟩ | (exfalso; rename_i h9; first | exact absurd h9.1 (by assumption) | exact absurd h9.2 (by assumption) | exact absurd h9.2.1 (by assumption) | exact absurd h9.2.2 (by assumption) | exact absurd h9.2.2.1 (by assumption) | exact absurd h9.2.2.2 (by assumption) | exact h9 ⟨by assumption, by assumption⟩ | exact h9 ⟨by assumption, by assumption, by assumption⟩) | (exfalso; simp_all; done) | (exfalso; simp only [Int32.le_iff_toInt_le, Int32.lt_iff_toInt_lt, Int32.reduceToInt] at *; omega) | exact ⟨rfl, rfl⟩
        · skip
          refine g_iconst (2) rfl dX8_take_48 ?_
          refine g_goto 53 dX8_take_49 (by decide) ?_
          refine g_aload_n (i := 0) dX8_take_53 rfl rfl ?_
          refine g_get 0 14 dX8_take_54 (List.mem_of_getElem? (i := 2) rfl) (fun w h => List.mem_cons_of_mem _ (List.mem_append_right _ h)) (cO_main _ _ _ _) rfl (by decide) rfl ?_
          refine g_callVf 2 (71 + (3 * _ + 0)) gX8_take_X0_become rfl rfl rfl ⟨Nat.le_of_ble_eq_true rfl, Nat.le_of_ble_eq_true rfl⟩ ⟨Nat.le_of_ble_eq_true rfl, Nat.le_of_ble_eq_true rfl⟩ (by exact Nat.le_of_ble_eq_true rfl) (by decide +kernel) rfl (cB_get _ 0 (by decide) hb) rfl dX8_take_57 (K_become _ D cy a _ _ _ _ hb _ _ (by unfold vp_in; decide)) rfl (fun vu_8 wu_8 hu_8 => ?_)
          obtain ⟨rfl, rfl⟩ := hu_8
          refine g_aload_n (i := 3) dX8_take_60 rfl rfl ?_
          refine c_bget 5 dX8_take_61 (List.mem_of_getElem? (i := 1) rfl) (fun w h => List.mem_cons_of_mem _ (List.mem_append_left _ (List.mem_append_right _ h))) hb (by decide) rfl ?_
          refine g_i2l dX8_take_64 ?_
          refine g_lret dX8_take_65 ?_
          unfold cf_take; (repeat' split) <;> first | contradiction | (with_reducible exact ⟨rfl, rfl⟩) | exact ⟨rfl, by rw [bset_bat hb]; rfl⟩ | exact ⟨rfl, congrArg (CW cy a _) (bset_bat hb)⟩ | (exfalso; rename_i h9; first | exact absurd h9.1 (by assumption) | exact absurd h9.2 (by assumption) | exact absurd h9.2.1 (by assumption) | exact absurd h9.2.2 (by assumption) | exact absurd h9.2.2.1 (by assumption) | exact absurd h9.2.2.2 (by assumption) | exact h9 ⟨by assumption, by assumption⟩ | exact h9 ⟨by assumption, by assumption, by assumption⟩) | (exfalso; simp_all; done) | (exfalso; simp only [Int32.le_iff_toInt_le, Int32.lt_iff_toInt_lt, Int32.reduceToInt] at *; omega) | exact ⟨rfl, rfl⟩
      · skip
        refine g_if_ne 43 dX8_take_33 (by decide) (fun h9 => absurd h9 (by decide)) (fun _ => ?_)
        refine g_aload_n (i := 0) dX8_take_36 rfl rfl ?_
        refine g_bipush (7) rfl dX8_take_37 ?_
        refine g_callVf 1 0 gX8_take_X8_finding rfl rfl rfl ⟨Nat.le_of_ble_eq_true rfl, Nat.le_of_ble_eq_true rfl⟩ ⟨Nat.le_of_ble_eq_true rfl, Nat.le_of_ble_eq_true rfl⟩ (by exact Nat.le_of_ble_eq_true rfl) (by decide +kernel) rfl (cO_main _ _ _ _) rfl dX8_take_39 (K_finding _ D cy a _ _ _ (by unfold vp_in; decide)) rfl (fun vu_10 wu_10 hu_10 => ?_)
        obtain ⟨rfl, rfl⟩ := hu_10
        refine g_lret dX8_take_42 ?_
        unfold cf_take; (repeat' split) <;> first | contradiction | (with_reducible exact ⟨rfl, rfl⟩) | exact ⟨rfl, by rw [bset_bat hb]; rfl⟩ | exact ⟨rfl, congrArg (CW cy a _) (bset_bat hb)⟩ | (exfalso; rename_i h9; first | exact absurd h9.1 (by assumption) | exact absurd h9.2 (by assumption) | exact absurd h9.2.1 (by assumption) | exact absurd h9.2.2 (by assumption) | exact absurd h9.2.2.1 (by assumption) | exact absurd h9.2.2.2 (by assumption) | exact h9 ⟨by assumption, by assumption⟩ | exact h9 ⟨by assumption, by assumption, by assumption⟩) | (exfalso; simp_all; done) | (exfalso; simp only [Int32.le_iff_toInt_le, Int32.lt_iff_toInt_lt, Int32.reduceToInt] at *; omega) | exact ⟨rfl, rfl⟩
    · skip
      refine g_aload_n (i := 0) dX8_take_23 rfl rfl ?_
      refine g_iconst (3) rfl dX8_take_24 ?_
      refine g_callVf 1 0 gX8_take_X8_finding rfl rfl rfl ⟨Nat.le_of_ble_eq_true rfl, Nat.le_of_ble_eq_true rfl⟩ ⟨Nat.le_of_ble_eq_true rfl, Nat.le_of_ble_eq_true rfl⟩ (by exact Nat.le_of_ble_eq_true rfl) (by decide +kernel) rfl (cO_main _ _ _ _) rfl dX8_take_25 (K_finding _ D cy a _ _ _ (by unfold vp_in; decide)) rfl (fun vu_11 wu_11 hu_11 => ?_)
      obtain ⟨rfl, rfl⟩ := hu_11
      refine g_lret dX8_take_28 ?_
      unfold cf_take; (repeat' split) <;> first | contradiction | (with_reducible exact ⟨rfl, rfl⟩) | exact ⟨rfl, by rw [bset_bat hb]; rfl⟩ | exact ⟨rfl, congrArg (CW cy a _) (bset_bat hb)⟩ | (exfalso; rename_i h9; first | exact absurd h9.1 (by assumption) | exact absurd h9.2 (by assumption) | exact absurd h9.2.1 (by assumption) | exact absurd h9.2.2 (by assumption) | exact absurd h9.2.2.1 (by assumption) | exact absurd h9.2.2.2 (by assumption) | exact h9 ⟨by assumption, by assumption⟩ | exact h9 ⟨by assumption, by assumption, by assumption⟩) | (exfalso; simp_all; done) | (exfalso; simp only [Int32.le_iff_toInt_le, Int32.lt_iff_toInt_lt, Int32.reduceToInt] at *; omega) | exact ⟨rfl, rfl⟩

abbrev covB (T : MS) (b : BL) (d : Int32) : Prop := ¬ d = b.2.1 4 ∧ 1000000000 < cabs (cwould T d (b.2.1 4) (b.2.1 3).toInt64)
def cf_chB (T : MS) (b : BL) (d : Int32) : MS := (T.1, (if d = b.2.1 4 then T else cf_charge T d (b.2.1 4) (b.2.1 3).toInt64).2)
set_option maxHeartbeats 4000000 in
set_option maxRecDepth 100000 in
/-- a bill would overfill -/
theorem K_ovB (l : Launch) (D : va_G) (cy : Nat → ClassId) (a : Nat → Nat) (T : MS) (B : List BL) (b : BL) (bi : Nat) (hb : bi < B.length) (d : Int32) (hd : vp_in d 10) (hh : vp_in (b.2.1 4) 10) : Ct l D clx (tyx cy) yX8_overfills wsX8_overfills (rmC 2) 0 0 [.ref (a 200), .ref (b.1 0), .int d] (CW cy a T (B.set bi b)) (fun r9 w9 => (r9 = some (.int 1) ∧ (covB T b d) ∧ w9 = CW cy a T (B.set bi b)) ∨ (r9 = some (.int 0) ∧ ¬ (covB T b d) ∧ w9 = CW cy a T (B.set bi b))) := by
  refine g_start (cc := cX8_overfills) (maxL := 3) (ret := (some .boolean)) (by decide) rfl (Nat.le_of_ble_eq_true rfl) (fun v w1 h => by rcases h with ⟨rfl, -, -⟩ | ⟨rfl, -, -⟩ <;> exact ⟨.boolean, rfl, rfl⟩) (fun Γ hlΓ => ?_)
  subst hlΓ
  refine g_iload_n (i := 2) dX8_overfills_0 rfl rfl ?_
  refine g_aload_n (i := 1) dX8_overfills_1 rfl rfl ?_
  refine c_bget 4 dX8_overfills_2 (List.mem_of_getElem? (i := 1) rfl) (fun w h => List.mem_cons_of_mem _ (List.mem_append_left _ (List.mem_append_left _ (List.mem_append_right _ h)))) hb (by decide) rfl ?_
  refine g_icmp_eq 32 dX8_overfills_5 (by decide) (fun c_1 => ?_) (fun c_1 => ?_)
  · skip
    refine g_iconst (0) rfl dX8_overfills_32 ?_
    refine g_iret dX8_overfills_33 ?_
    first | exact Or.inl ⟨rfl, ⟨by assumption, by assumption⟩, rfl⟩ | exact Or.inr ⟨rfl, fun h9 => absurd (by assumption) h9.1, rfl⟩ | exact Or.inr ⟨rfl, fun h9 => absurd h9.2 (by assumption), rfl⟩
  · skip
    refine g_aload_n (i := 0) dX8_overfills_8 rfl rfl ?_
    refine g_get 0 7 dX8_overfills_9 (List.mem_of_getElem? (i := 2) rfl) (fun w h => List.mem_cons_of_mem _ (List.mem_append_left _ (List.mem_append_right _ h))) (cO_main _ _ _ _) rfl (by decide) rfl ?_
    refine g_iload_n (i := 2) dX8_overfills_12 rfl rfl ?_
    refine g_aload_n (i := 1) dX8_overfills_13 rfl rfl ?_
    refine c_bget 4 dX8_overfills_14 (List.mem_of_getElem? (i := 1) rfl) (fun w h => List.mem_cons_of_mem _ (List.mem_append_left _ (List.mem_append_left _ (List.mem_append_right _ h)))) hb (by decide) rfl ?_
    refine g_aload_n (i := 1) dX8_overfills_17 rfl rfl ?_
    refine c_bget 3 dX8_overfills_18 (List.mem_of_getElem? (i := 3) rfl) (fun w h => List.mem_cons_of_mem _ (List.mem_append_left _ (List.mem_append_left _ (List.mem_append_right _ h)))) hb (by decide) rfl ?_
    refine g_i2l dX8_overfills_21 ?_
    refine g_callVf 3 9 gX8_overfills_X1_overfills rfl rfl rfl ⟨Nat.le_of_ble_eq_true rfl, Nat.le_of_ble_eq_true rfl⟩ ⟨Nat.le_of_ble_eq_true rfl, Nat.le_of_ble_eq_true rfl⟩ (by exact Nat.le_of_ble_eq_true rfl) (by decide +kernel) rfl (cO_book _ _ _ _) rfl dX8_overfills_22 (K_overfills _ D cy a _ _ _ _ hd hh _) rfl (fun vu_2 wu_2 hu_2 => ?_)
    rcases hu_2 with ⟨rfl, hu_2, rfl⟩ | ⟨rfl, hu_2, rfl⟩
    · skip
      refine g_if_eq 32 dX8_overfills_25 (by decide) (fun h9 => absurd h9 (by decide)) (fun _ => ?_)
      refine g_iconst (1) rfl dX8_overfills_28 ?_
      refine g_goto 33 dX8_overfills_29 (by decide) ?_
      refine g_iret dX8_overfills_33 ?_
      first | exact Or.inl ⟨rfl, ⟨by assumption, by assumption⟩, rfl⟩ | exact Or.inr ⟨rfl, fun h9 => absurd (by assumption) h9.1, rfl⟩ | exact Or.inr ⟨rfl, fun h9 => absurd h9.2 (by assumption), rfl⟩
    · skip
      refine g_if_eq 32 dX8_overfills_25 (by decide) (fun _ => ?_) (fun h9 => absurd h9 (by decide))
      refine g_iconst (0) rfl dX8_overfills_32 ?_
      refine g_iret dX8_overfills_33 ?_
      first | exact Or.inl ⟨rfl, ⟨by assumption, by assumption⟩, rfl⟩ | exact Or.inr ⟨rfl, fun h9 => absurd (by assumption) h9.1, rfl⟩ | exact Or.inr ⟨rfl, fun h9 => absurd h9.2 (by assumption), rfl⟩

set_option maxHeartbeats 4000000 in
set_option maxRecDepth 100000 in
/-- a bill is charged -/
theorem K_chB (l : Launch) (D : va_G) (cy : Nat → ClassId) (a : Nat → Nat) (T : MS) (B : List BL) (b : BL) (bi : Nat) (hb : bi < B.length) (d : Int32) (hd : vp_in d 10) (hh : vp_in (b.2.1 4) 10) : Ct l D clx (tyx cy) yX8_charge wsX8_charge (rmC 2) 0 0 [.ref (a 200), .ref (b.1 0), .int d] (CW cy a T (B.set bi b)) (fun r9 w9 => r9 = none ∧ w9 = CW cy a (cf_chB T b d) (B.set bi b)) := by
  refine g_start (cc := cX8_charge) (maxL := 3) (ret := none) (by decide) rfl (Nat.le_of_ble_eq_true rfl) (fun v w1 h => by obtain ⟨rfl, -⟩ := h; exact rfl) (fun Γ hlΓ => ?_)
  subst hlΓ
  refine g_iload_n (i := 2) dX8_charge_0 rfl rfl ?_
  refine g_aload_n (i := 1) dX8_charge_1 rfl rfl ?_
  refine c_bget 4 dX8_charge_2 (List.mem_of_getElem? (i := 1) rfl) (fun w h => List.mem_cons_of_mem _ (List.mem_append_left _ (List.mem_append_left _ (List.mem_append_right _ h)))) hb (by decide) rfl ?_
  refine g_icmp_eq 25 dX8_charge_5 (by decide) (fun c_1 => ?_) (fun c_1 => ?_)
  · skip
    refine g_vret dX8_charge_25 ?_
    unfold cf_chB; first | (rw [if_pos (by assumption)]; exact ⟨rfl, rfl⟩) | (rw [if_neg (by assumption)]; exact ⟨rfl, rfl⟩)
  · skip
    refine g_aload_n (i := 0) dX8_charge_8 rfl rfl ?_
    refine g_get 0 7 dX8_charge_9 (List.mem_of_getElem? (i := 2) rfl) (fun w h => List.mem_cons_of_mem _ (List.mem_append_left _ (List.mem_append_right _ h))) (cO_main _ _ _ _) rfl (by decide) rfl ?_
    refine g_iload_n (i := 2) dX8_charge_12 rfl rfl ?_
    refine g_aload_n (i := 1) dX8_charge_13 rfl rfl ?_
    refine c_bget 4 dX8_charge_14 (List.mem_of_getElem? (i := 1) rfl) (fun w h => List.mem_cons_of_mem _ (List.mem_append_left _ (List.mem_append_left _ (List.mem_append_right _ h)))) hb (by decide) rfl ?_
    refine g_aload_n (i := 1) dX8_charge_17 rfl rfl ?_
    refine c_bget 3 dX8_charge_18 (List.mem_of_getElem? (i := 3) rfl) (fun w h => List.mem_cons_of_mem _ (List.mem_append_left _ (List.mem_append_left _ (List.mem_append_right _ h)))) hb (by decide) rfl ?_
    refine g_i2l dX8_charge_21 ?_
    refine g_callVf 3 9 gX8_charge_X1_charge rfl rfl rfl ⟨Nat.le_of_ble_eq_true rfl, Nat.le_of_ble_eq_true rfl⟩ ⟨Nat.le_of_ble_eq_true rfl, Nat.le_of_ble_eq_true rfl⟩ (by exact Nat.le_of_ble_eq_true rfl) (by decide +kernel) rfl (cO_book _ _ _ _) rfl dX8_charge_22 (K_charge _ D cy a _ _ _ _ hd hh _) rfl (fun vu_2 wu_2 hu_2 => ?_)
    obtain ⟨rfl, rfl⟩ := hu_2
    refine g_vret dX8_charge_25 ?_
    unfold cf_chB; first | (rw [if_pos (by assumption)]; exact ⟨rfl, rfl⟩) | (rw [if_neg (by assumption)]; exact ⟨rfl, rfl⟩)

def cf_pay (T : MS) (B : List BL) (x : Int32) : Int64 × MS × List BL := if bcnd T x then (if (bat B x).2.1 5 = 1 then (if cday T ≤ 6 then ((cf_fd T 7).1, (cf_fd T 7).2, B) else if covB T (bat B x) ((bat B x).2.1 2) then ((cf_fd T 4).1, (cf_fd T 4).2, B) else (if (bat B x).2.1 2 = (bat B x).2.1 4 then 0 else ((bat B x).2.1 3).toInt64, cf_chB T (bat B x) ((bat B x).2.1 2), B.set x.toNatClampNeg (bI (bf_become (bat B x) 4 (T.1 14)) 7 1))) else ((cf_fd T 3).1, (cf_fd T 3).2, B)) else ((cf_fd T 1).1, (cf_fd T 1).2, B)
set_option maxHeartbeats 4000000 in
set_option maxRecDepth 100000 in
/-- pay -/
theorem K_pay (l : Launch) (D : va_G) (cy : Nat → ClassId) (a : Nat → Nat) (T : MS) (B : List BL) (hI : ciB T B) (x : Int32) : Ct l D clx (tyx cy) yX8_pay wsX8_pay (rmC 3) 0 0 [.ref (a 200), .int x] (CW cy a T B) (fun r9 w9 => r9 = some (.long (cf_pay T B x).1) ∧ w9 = CW cy a (cf_pay T B x).2.1 (cf_pay T B x).2.2) := by
  refine g_start (cc := cX8_pay) (maxL := 3) (ret := (some .long)) (by decide) rfl (Nat.le_of_ble_eq_true rfl) (fun v w1 h => by obtain ⟨rfl, -⟩ := h; exact rfl) (fun Γ hlΓ => ?_)
  subst hlΓ
  refine g_aload_n (i := 0) dX8_pay_0 rfl rfl ?_
  refine g_iload_n (i := 1) dX8_pay_1 rfl rfl ?_
  refine g_callVf 1 0 gX8_pay_X8_billAt rfl rfl rfl ⟨Nat.le_of_ble_eq_true rfl, Nat.le_of_ble_eq_true rfl⟩ ⟨Nat.le_of_ble_eq_true rfl, Nat.le_of_ble_eq_true rfl⟩ (by exact Nat.le_of_ble_eq_true rfl) (by decide +kernel) rfl (cO_main _ _ _ _) rfl dX8_pay_2 (K_billAt _ D cy a _ _ _ hI) rfl (fun vu_1 wu_1 hu_1 => ?_)
  obtain ⟨rfl, ⟨rfl, hbn⟩ | ⟨rfl, hbn⟩⟩ := hu_1
  · skip
    refine g_astore_nN (i := 2) dX8_pay_5 rfl (by decide) ?_
    refine g_aload_nN (i := 2) dX8_pay_6 rfl rfl ?_
    refine g_ifnonnullN dX8_pay_7 ?_
    refine g_aload_n (i := 0) dX8_pay_10 rfl rfl ?_
    refine g_iconst (1) rfl dX8_pay_11 ?_
    refine g_callVf 1 0 gX8_pay_X8_finding rfl rfl rfl ⟨Nat.le_of_ble_eq_true rfl, Nat.le_of_ble_eq_true rfl⟩ ⟨Nat.le_of_ble_eq_true rfl, Nat.le_of_ble_eq_true rfl⟩ (by exact Nat.le_of_ble_eq_true rfl) (by decide +kernel) rfl (cO_main _ _ _ _) rfl dX8_pay_12 (K_finding _ D cy a _ _ _ (by unfold vp_in; decide)) rfl (fun vu_2 wu_2 hu_2 => ?_)
    obtain ⟨rfl, rfl⟩ := hu_2
    refine g_lret dX8_pay_15 ?_
    unfold cf_pay; (repeat' split) <;> first | contradiction | (with_reducible exact ⟨rfl, rfl⟩) | exact ⟨rfl, by rw [bset_bat hb]; rfl⟩ | exact ⟨rfl, congrArg (CW cy a _) (bset_bat hb)⟩ | (exfalso; rename_i h9; first | exact absurd h9.1 (by assumption) | exact absurd h9.2 (by assumption) | exact absurd h9.2.1 (by assumption) | exact absurd h9.2.2 (by assumption) | exact absurd h9.2.2.1 (by assumption) | exact absurd h9.2.2.2 (by assumption) | exact h9 ⟨by assumption, by assumption⟩ | exact h9 ⟨by assumption, by assumption, by assumption⟩) | (exfalso; simp_all; done) | (exfalso; simp only [Int32.le_iff_toInt_le, Int32.lt_iff_toInt_lt, Int32.reduceToInt] at *; omega) | exact ⟨rfl, rfl⟩
  · have hb := bidx hI hbn
    have hbk := bokx hI hbn
    refine g_weq _ (congrArg (CW cy a _) (bset_bat hb).symm) ?_
    refine g_astore_n (i := 2) dX8_pay_5 rfl (by decide) ?_
    refine g_aload_n (i := 2) dX8_pay_6 rfl rfl ?_
    refine g_ifnonnull 16 dX8_pay_7 (by decide) ?_
    refine g_aload_n (i := 2) dX8_pay_16 rfl rfl ?_
    refine c_bget 5 dX8_pay_17 (List.mem_of_getElem? (i := 1) rfl) (fun w h => List.mem_cons_of_mem _ (List.mem_append_left _ (List.mem_append_left _ (List.mem_append_right _ h)))) hb (by decide) rfl ?_
    refine g_iconst (1) rfl dX8_pay_20 ?_
    refine g_icmp_eq 30 dX8_pay_21 (by decide) (fun c_3 => ?_) (fun c_3 => ?_)
    · skip
      refine g_aload_n (i := 0) dX8_pay_30 rfl rfl ?_
      refine g_callVf 0 0 gX8_pay_X8_isTakingDay rfl rfl rfl ⟨Nat.le_of_ble_eq_true rfl, Nat.le_of_ble_eq_true rfl⟩ ⟨Nat.le_of_ble_eq_true rfl, Nat.le_of_ble_eq_true rfl⟩ (by exact Nat.le_of_ble_eq_true rfl) (by decide +kernel) rfl (cO_main _ _ _ _) rfl dX8_pay_31 (K_isTakingDay _ D cy a _ _) rfl (fun vu_4 wu_4 hu_4 => ?_)
      rcases hu_4 with ⟨rfl, hu_4, rfl⟩ | ⟨rfl, hu_4, rfl⟩
      · skip
        refine g_if_eq 44 dX8_pay_34 (by decide) (fun h9 => absurd h9 (by decide)) (fun _ => ?_)
        refine g_aload_n (i := 0) dX8_pay_37 rfl rfl ?_
        refine g_bipush (7) rfl dX8_pay_38 ?_
        refine g_callVf 1 0 gX8_pay_X8_finding rfl rfl rfl ⟨Nat.le_of_ble_eq_true rfl, Nat.le_of_ble_eq_true rfl⟩ ⟨Nat.le_of_ble_eq_true rfl, Nat.le_of_ble_eq_true rfl⟩ (by exact Nat.le_of_ble_eq_true rfl) (by decide +kernel) rfl (cO_main _ _ _ _) rfl dX8_pay_40 (K_finding _ D cy a _ _ _ (by unfold vp_in; decide)) rfl (fun vu_6 wu_6 hu_6 => ?_)
        obtain ⟨rfl, rfl⟩ := hu_6
        refine g_lret dX8_pay_43 ?_
        unfold cf_pay; (repeat' split) <;> first | contradiction | (with_reducible exact ⟨rfl, rfl⟩) | exact ⟨rfl, by rw [bset_bat hb]; rfl⟩ | exact ⟨rfl, congrArg (CW cy a _) (bset_bat hb)⟩ | (exfalso; rename_i h9; first | exact absurd h9.1 (by assumption) | exact absurd h9.2 (by assumption) | exact absurd h9.2.1 (by assumption) | exact absurd h9.2.2 (by assumption) | exact absurd h9.2.2.1 (by assumption) | exact absurd h9.2.2.2 (by assumption) | exact h9 ⟨by assumption, by assumption⟩ | exact h9 ⟨by assumption, by assumption, by assumption⟩) | (exfalso; simp_all; done) | (exfalso; simp only [Int32.le_iff_toInt_le, Int32.lt_iff_toInt_lt, Int32.reduceToInt] at *; omega) | exact ⟨rfl, rfl⟩
      · skip
        refine g_if_eq 44 dX8_pay_34 (by decide) (fun _ => ?_) (fun h9 => absurd h9 (by decide))
        refine g_aload_n (i := 0) dX8_pay_44 rfl rfl ?_
        refine g_aload_n (i := 2) dX8_pay_45 rfl rfl ?_
        refine g_aload_n (i := 2) dX8_pay_46 rfl rfl ?_
        refine c_bget 2 dX8_pay_47 (List.mem_of_getElem? (i := 2) rfl) (fun w h => List.mem_cons_of_mem _ (List.mem_append_left _ (List.mem_append_left _ (List.mem_append_right _ h)))) hb (by decide) rfl ?_
        refine g_callVf 2 0 gX8_pay_X8_overfills rfl rfl rfl ⟨Nat.le_of_ble_eq_true rfl, Nat.le_of_ble_eq_true rfl⟩ ⟨Nat.le_of_ble_eq_true rfl, Nat.le_of_ble_eq_true rfl⟩ (by exact Nat.le_of_ble_eq_true rfl) (by decide +kernel) rfl (cO_main _ _ _ _) rfl dX8_pay_50 (K_ovB _ D cy a _ _ _ _ hb _ (by first | exact hbk.2.1 | assumption) hbk.2.2.1) rfl (fun vu_8 wu_8 hu_8 => ?_)
        rcases hu_8 with ⟨rfl, hu_8, rfl⟩ | ⟨rfl, hu_8, rfl⟩
        · skip
          refine g_if_eq 62 dX8_pay_53 (by decide) (fun h9 => absurd h9 (by decide)) (fun _ => ?_)
          refine g_aload_n (i := 0) dX8_pay_56 rfl rfl ?_
          refine g_iconst (4) rfl dX8_pay_57 ?_
          refine g_callVf 1 0 gX8_pay_X8_finding rfl rfl rfl ⟨Nat.le_of_ble_eq_true rfl, Nat.le_of_ble_eq_true rfl⟩ ⟨Nat.le_of_ble_eq_true rfl, Nat.le_of_ble_eq_true rfl⟩ (by exact Nat.le_of_ble_eq_true rfl) (by decide +kernel) rfl (cO_main _ _ _ _) rfl dX8_pay_58 (K_finding _ D cy a _ _ _ (by unfold vp_in; decide)) rfl (fun vu_10 wu_10 hu_10 => ?_)
          obtain ⟨rfl, rfl⟩ := hu_10
          refine g_lret dX8_pay_61 ?_
          unfold cf_pay; (repeat' split) <;> first | contradiction | (with_reducible exact ⟨rfl, rfl⟩) | exact ⟨rfl, by rw [bset_bat hb]; rfl⟩ | exact ⟨rfl, congrArg (CW cy a _) (bset_bat hb)⟩ | (exfalso; rename_i h9; first | exact absurd h9.1 (by assumption) | exact absurd h9.2 (by assumption) | exact absurd h9.2.1 (by assumption) | exact absurd h9.2.2 (by assumption) | exact absurd h9.2.2.1 (by assumption) | exact absurd h9.2.2.2 (by assumption) | exact h9 ⟨by assumption, by assumption⟩ | exact h9 ⟨by assumption, by assumption, by assumption⟩) | (exfalso; simp_all; done) | (exfalso; simp only [Int32.le_iff_toInt_le, Int32.lt_iff_toInt_lt, Int32.reduceToInt] at *; omega) | exact ⟨rfl, rfl⟩
        · skip
          refine g_if_eq 62 dX8_pay_53 (by decide) (fun _ => ?_) (fun h9 => absurd h9 (by decide))
          refine g_aload_n (i := 0) dX8_pay_62 rfl rfl ?_
          refine g_aload_n (i := 2) dX8_pay_63 rfl rfl ?_
          refine g_aload_n (i := 2) dX8_pay_64 rfl rfl ?_
          refine c_bget 2 dX8_pay_65 (List.mem_of_getElem? (i := 2) rfl) (fun w h => List.mem_cons_of_mem _ (List.mem_append_left _ (List.mem_append_left _ (List.mem_append_right _ h)))) hb (by decide) rfl ?_
          refine g_callVf 2 0 gX8_pay_X8_charge rfl rfl rfl ⟨Nat.le_of_ble_eq_true rfl, Nat.le_of_ble_eq_true rfl⟩ ⟨Nat.le_of_ble_eq_true rfl, Nat.le_of_ble_eq_true rfl⟩ (by exact Nat.le_of_ble_eq_true rfl) (by decide +kernel) rfl (cO_main _ _ _ _) rfl dX8_pay_68 (K_chB _ D cy a _ _ _ _ hb _ (by first | exact hbk.2.1 | assumption) hbk.2.2.1) rfl (fun vu_12 wu_12 hu_12 => ?_)
          obtain ⟨rfl, rfl⟩ := hu_12
          refine g_aload_n (i := 2) dX8_pay_71 rfl rfl ?_
          refine g_iconst (4) rfl dX8_pay_72 ?_
          refine g_aload_n (i := 0) dX8_pay_73 rfl rfl ?_
          refine g_get 0 14 dX8_pay_74 (List.mem_of_getElem? (i := 3) rfl) (fun w h => List.mem_cons_of_mem _ (List.mem_append_left _ (List.mem_append_right _ h))) (cO_main _ _ _ _) rfl (by decide) rfl ?_
          refine g_callVf 2 (71 + (3 * _ + 0)) gX8_pay_X0_become rfl rfl rfl ⟨Nat.le_of_ble_eq_true rfl, Nat.le_of_ble_eq_true rfl⟩ ⟨Nat.le_of_ble_eq_true rfl, Nat.le_of_ble_eq_true rfl⟩ (by exact Nat.le_of_ble_eq_true rfl) (by decide +kernel) rfl (cB_get _ 0 (by decide) hb) rfl dX8_pay_77 (K_become _ D cy a _ _ _ _ hb _ _ (by unfold vp_in; decide)) rfl (fun vu_13 wu_13 hu_13 => ?_)
          obtain ⟨rfl, rfl⟩ := hu_13
          refine g_aload_n (i := 2) dX8_pay_80 rfl rfl ?_
          refine g_iconst (1) rfl dX8_pay_81 ?_
          refine c_bput 7 dX8_pay_82 (List.mem_of_getElem? (i := 4) rfl) (fun w h => List.mem_cons_of_mem _ (List.mem_append_left _ (List.mem_append_left _ (List.mem_append_right _ h)))) hb (by decide) rfl rfl rfl rfl ?_
          refine g_aload_n (i := 2) dX8_pay_85 rfl rfl ?_
          refine c_bget 2 dX8_pay_86 (List.mem_of_getElem? (i := 2) rfl) (fun w h => List.mem_cons_of_mem _ (List.mem_append_left _ (List.mem_append_left _ (List.mem_append_right _ h)))) hb (by decide) rfl ?_
          refine g_aload_n (i := 2) dX8_pay_89 rfl rfl ?_
          refine c_bget 4 dX8_pay_90 (List.mem_of_getElem? (i := 5) rfl) (fun w h => List.mem_cons_of_mem _ (List.mem_append_left _ (List.mem_append_left _ (List.mem_append_right _ h)))) hb (by decide) rfl ?_
          refine g_icmp_ne 100 dX8_pay_93 (by decide) (fun c_14 => ?_) (fun c_14 => ?_)
          · skip
            refine g_aload_n (i := 2) dX8_pay_100 rfl rfl ?_
            refine c_bget 3 dX8_pay_101 (List.mem_of_getElem? (i := 6) rfl) (fun w h => List.mem_cons_of_mem _ (List.mem_append_left _ (List.mem_append_left _ (List.mem_append_right _ h)))) hb (by decide) rfl ?_
            refine g_i2l dX8_pay_104 ?_
            refine g_lret dX8_pay_105 ?_
            unfold cf_pay; (repeat' split) <;> first | contradiction | (with_reducible exact ⟨rfl, rfl⟩) | exact ⟨rfl, by rw [bset_bat hb]; rfl⟩ | exact ⟨rfl, congrArg (CW cy a _) (bset_bat hb)⟩ | (exfalso; rename_i h9; first | exact absurd h9.1 (by assumption) | exact absurd h9.2 (by assumption) | exact absurd h9.2.1 (by assumption) | exact absurd h9.2.2 (by assumption) | exact absurd h9.2.2.1 (by assumption) | exact absurd h9.2.2.2 (by assumption) | exact h9 ⟨by assumption, by assumption⟩ | exact h9 ⟨by assumption, by assumption, by assumption⟩) | (exfalso; simp_all; done) | (exfalso; simp only [Int32.le_iff_toInt_le, Int32.lt_iff_toInt_lt, Int32.reduceToInt] at *; omega) | exact ⟨rfl, rfl⟩
          · skip
            refine g_lconst 0 rfl dX8_pay_96 ?_
            refine g_goto 105 dX8_pay_97 (by decide) ?_
            refine g_lret dX8_pay_105 ?_
            unfold cf_pay; (repeat' split) <;> first | contradiction | (with_reducible exact ⟨rfl, rfl⟩) | exact ⟨rfl, by rw [bset_bat hb]; rfl⟩ | exact ⟨rfl, congrArg (CW cy a _) (bset_bat hb)⟩ | (exfalso; rename_i h9; first | exact absurd h9.1 (by assumption) | exact absurd h9.2 (by assumption) | exact absurd h9.2.1 (by assumption) | exact absurd h9.2.2 (by assumption) | exact absurd h9.2.2.1 (by assumption) | exact absurd h9.2.2.2 (by assumption) | exact h9 ⟨by assumption, by assumption⟩ | exact h9 ⟨by assumption, by assumption, by assumption⟩) | (exfalso; simp_all; done) | (exfalso; simp only [Int32.le_iff_toInt_le, Int32.lt_iff_toInt_lt, Int32.reduceToInt] at *; omega) | exact ⟨rfl, rfl⟩
    · skip
      refine g_aload_n (i := 0) dX8_pay_24 rfl rfl ?_
      refine g_iconst (3) rfl dX8_pay_25 ?_
      refine g_callVf 1 0 gX8_pay_X8_finding rfl rfl rfl ⟨Nat.le_of_ble_eq_true rfl, Nat.le_of_ble_eq_true rfl⟩ ⟨Nat.le_of_ble_eq_true rfl, Nat.le_of_ble_eq_true rfl⟩ (by exact Nat.le_of_ble_eq_true rfl) (by decide +kernel) rfl (cO_main _ _ _ _) rfl dX8_pay_26 (K_finding _ D cy a _ _ _ (by unfold vp_in; decide)) rfl (fun vu_15 wu_15 hu_15 => ?_)
      obtain ⟨rfl, rfl⟩ := hu_15
      refine g_lret dX8_pay_29 ?_
      unfold cf_pay; (repeat' split) <;> first | contradiction | (with_reducible exact ⟨rfl, rfl⟩) | exact ⟨rfl, by rw [bset_bat hb]; rfl⟩ | exact ⟨rfl, congrArg (CW cy a _) (bset_bat hb)⟩ | (exfalso; rename_i h9; first | exact absurd h9.1 (by assumption) | exact absurd h9.2 (by assumption) | exact absurd h9.2.1 (by assumption) | exact absurd h9.2.2 (by assumption) | exact absurd h9.2.2.1 (by assumption) | exact absurd h9.2.2.2 (by assumption) | exact h9 ⟨by assumption, by assumption⟩ | exact h9 ⟨by assumption, by assumption, by assumption⟩) | (exfalso; simp_all; done) | (exfalso; simp only [Int32.le_iff_toInt_le, Int32.lt_iff_toInt_lt, Int32.reduceToInt] at *; omega) | exact ⟨rfl, rfl⟩

def cf_protest (T : MS) (B : List BL) (x : Int32) : Int64 × MS × List BL := if bcnd T x then (if (bat B x).2.1 5 = 2 then (((bf_become (bat B x) 3 (T.1 14)).2.2 9 3 - (bf_become (bat B x) 3 (T.1 14)).2.2 9 2).toInt64, T, B.set x.toNatClampNeg (bf_become (bat B x) 3 (T.1 14))) else ((cf_fd T 3).1, (cf_fd T 3).2, B)) else ((cf_fd T 1).1, (cf_fd T 1).2, B)
set_option maxHeartbeats 4000000 in
set_option maxRecDepth 100000 in
/-- protest -/
theorem K_protest (l : Launch) (D : va_G) (cy : Nat → ClassId) (a : Nat → Nat) (T : MS) (B : List BL) (hI : ciB T B) (x : Int32) : Ct l D clx (tyx cy) yX8_protest wsX8_protest (rmC 3) 0 0 [.ref (a 200), .int x] (CW cy a T B) (fun r9 w9 => r9 = some (.long (cf_protest T B x).1) ∧ w9 = CW cy a (cf_protest T B x).2.1 (cf_protest T B x).2.2) := by
  refine g_start (cc := cX8_protest) (maxL := 3) (ret := (some .long)) (by decide) rfl (Nat.le_of_ble_eq_true rfl) (fun v w1 h => by obtain ⟨rfl, -⟩ := h; exact rfl) (fun Γ hlΓ => ?_)
  subst hlΓ
  refine g_aload_n (i := 0) dX8_protest_0 rfl rfl ?_
  refine g_iload_n (i := 1) dX8_protest_1 rfl rfl ?_
  refine g_callVf 1 0 gX8_protest_X8_billAt rfl rfl rfl ⟨Nat.le_of_ble_eq_true rfl, Nat.le_of_ble_eq_true rfl⟩ ⟨Nat.le_of_ble_eq_true rfl, Nat.le_of_ble_eq_true rfl⟩ (by exact Nat.le_of_ble_eq_true rfl) (by decide +kernel) rfl (cO_main _ _ _ _) rfl dX8_protest_2 (K_billAt _ D cy a _ _ _ hI) rfl (fun vu_1 wu_1 hu_1 => ?_)
  obtain ⟨rfl, ⟨rfl, hbn⟩ | ⟨rfl, hbn⟩⟩ := hu_1
  · skip
    refine g_astore_nN (i := 2) dX8_protest_5 rfl (by decide) ?_
    refine g_aload_nN (i := 2) dX8_protest_6 rfl rfl ?_
    refine g_ifnonnullN dX8_protest_7 ?_
    refine g_aload_n (i := 0) dX8_protest_10 rfl rfl ?_
    refine g_iconst (1) rfl dX8_protest_11 ?_
    refine g_callVf 1 0 gX8_protest_X8_finding rfl rfl rfl ⟨Nat.le_of_ble_eq_true rfl, Nat.le_of_ble_eq_true rfl⟩ ⟨Nat.le_of_ble_eq_true rfl, Nat.le_of_ble_eq_true rfl⟩ (by exact Nat.le_of_ble_eq_true rfl) (by decide +kernel) rfl (cO_main _ _ _ _) rfl dX8_protest_12 (K_finding _ D cy a _ _ _ (by unfold vp_in; decide)) rfl (fun vu_2 wu_2 hu_2 => ?_)
    obtain ⟨rfl, rfl⟩ := hu_2
    refine g_lret dX8_protest_15 ?_
    unfold cf_protest; (repeat' split) <;> first | contradiction | (with_reducible exact ⟨rfl, rfl⟩) | exact ⟨rfl, by rw [bset_bat hb]; rfl⟩ | exact ⟨rfl, congrArg (CW cy a _) (bset_bat hb)⟩ | (exfalso; rename_i h9; first | exact absurd h9.1 (by assumption) | exact absurd h9.2 (by assumption) | exact absurd h9.2.1 (by assumption) | exact absurd h9.2.2 (by assumption) | exact absurd h9.2.2.1 (by assumption) | exact absurd h9.2.2.2 (by assumption) | exact h9 ⟨by assumption, by assumption⟩ | exact h9 ⟨by assumption, by assumption, by assumption⟩) | (exfalso; simp_all; done) | (exfalso; simp only [Int32.le_iff_toInt_le, Int32.lt_iff_toInt_lt, Int32.reduceToInt] at *; omega) | exact ⟨rfl, rfl⟩
  · have hb := bidx hI hbn
    have hbk := bokx hI hbn
    refine g_weq _ (congrArg (CW cy a _) (bset_bat hb).symm) ?_
    refine g_astore_n (i := 2) dX8_protest_5 rfl (by decide) ?_
    refine g_aload_n (i := 2) dX8_protest_6 rfl rfl ?_
    refine g_ifnonnull 16 dX8_protest_7 (by decide) ?_
    refine g_aload_n (i := 2) dX8_protest_16 rfl rfl ?_
    refine c_bget 5 dX8_protest_17 (List.mem_of_getElem? (i := 1) rfl) (fun w h => List.mem_cons_of_mem _ (List.mem_append_left _ (List.mem_append_right _ h))) hb (by decide) rfl ?_
    refine g_iconst (2) rfl dX8_protest_20 ?_
    refine g_icmp_eq 30 dX8_protest_21 (by decide) (fun c_3 => ?_) (fun c_3 => ?_)
    · skip
      refine g_aload_n (i := 2) dX8_protest_30 rfl rfl ?_
      refine g_iconst (3) rfl dX8_protest_31 ?_
      refine g_aload_n (i := 0) dX8_protest_32 rfl rfl ?_
      refine g_get 0 14 dX8_protest_33 (List.mem_of_getElem? (i := 2) rfl) (fun w h => List.mem_cons_of_mem _ (List.mem_append_right _ h)) (cO_main _ _ _ _) rfl (by decide) rfl ?_
      refine g_callVf 2 (71 + (3 * _ + 0)) gX8_protest_X0_become rfl rfl rfl ⟨Nat.le_of_ble_eq_true rfl, Nat.le_of_ble_eq_true rfl⟩ ⟨Nat.le_of_ble_eq_true rfl, Nat.le_of_ble_eq_true rfl⟩ (by exact Nat.le_of_ble_eq_true rfl) (by decide +kernel) rfl (cB_get _ 0 (by decide) hb) rfl dX8_protest_36 (K_become _ D cy a _ _ _ _ hb _ _ (by unfold vp_in; decide)) rfl (fun vu_4 wu_4 hu_4 => ?_)
      obtain ⟨rfl, rfl⟩ := hu_4
      refine g_aload_n (i := 2) dX8_protest_39 rfl rfl ?_
      refine g_callVf 0 (71 + (3 * _ + 0)) gX8_protest_X0_daysLate rfl rfl rfl ⟨Nat.le_of_ble_eq_true rfl, Nat.le_of_ble_eq_true rfl⟩ ⟨Nat.le_of_ble_eq_true rfl, Nat.le_of_ble_eq_true rfl⟩ (by exact Nat.le_of_ble_eq_true rfl) (by decide +kernel) rfl (cB_get _ 0 (by decide) hb) rfl dX8_protest_40 (K_daysLate _ D cy a _ _ _ _ hb) rfl (fun vu_5 wu_5 hu_5 => ?_)
      obtain ⟨rfl, rfl⟩ := hu_5
      refine g_i2l dX8_protest_43 ?_
      refine g_lret dX8_protest_44 ?_
      unfold cf_protest; (repeat' split) <;> first | contradiction | (with_reducible exact ⟨rfl, rfl⟩) | exact ⟨rfl, by rw [bset_bat hb]; rfl⟩ | exact ⟨rfl, congrArg (CW cy a _) (bset_bat hb)⟩ | (exfalso; rename_i h9; first | exact absurd h9.1 (by assumption) | exact absurd h9.2 (by assumption) | exact absurd h9.2.1 (by assumption) | exact absurd h9.2.2 (by assumption) | exact absurd h9.2.2.1 (by assumption) | exact absurd h9.2.2.2 (by assumption) | exact h9 ⟨by assumption, by assumption⟩ | exact h9 ⟨by assumption, by assumption, by assumption⟩) | (exfalso; simp_all; done) | (exfalso; simp only [Int32.le_iff_toInt_le, Int32.lt_iff_toInt_lt, Int32.reduceToInt] at *; omega) | exact ⟨rfl, rfl⟩
    · skip
      refine g_aload_n (i := 0) dX8_protest_24 rfl rfl ?_
      refine g_iconst (3) rfl dX8_protest_25 ?_
      refine g_callVf 1 0 gX8_protest_X8_finding rfl rfl rfl ⟨Nat.le_of_ble_eq_true rfl, Nat.le_of_ble_eq_true rfl⟩ ⟨Nat.le_of_ble_eq_true rfl, Nat.le_of_ble_eq_true rfl⟩ (by exact Nat.le_of_ble_eq_true rfl) (by decide +kernel) rfl (cO_main _ _ _ _) rfl dX8_protest_26 (K_finding _ D cy a _ _ _ (by unfold vp_in; decide)) rfl (fun vu_6 wu_6 hu_6 => ?_)
      obtain ⟨rfl, rfl⟩ := hu_6
      refine g_lret dX8_protest_29 ?_
      unfold cf_protest; (repeat' split) <;> first | contradiction | (with_reducible exact ⟨rfl, rfl⟩) | exact ⟨rfl, by rw [bset_bat hb]; rfl⟩ | exact ⟨rfl, congrArg (CW cy a _) (bset_bat hb)⟩ | (exfalso; rename_i h9; first | exact absurd h9.1 (by assumption) | exact absurd h9.2 (by assumption) | exact absurd h9.2.1 (by assumption) | exact absurd h9.2.2 (by assumption) | exact absurd h9.2.2.1 (by assumption) | exact absurd h9.2.2.2 (by assumption) | exact h9 ⟨by assumption, by assumption⟩ | exact h9 ⟨by assumption, by assumption, by assumption⟩) | (exfalso; simp_all; done) | (exfalso; simp only [Int32.le_iff_toInt_le, Int32.lt_iff_toInt_lt, Int32.reduceToInt] at *; omega) | exact ⟨rfl, rfl⟩

def cf_as (T : MS) (B : List BL) (x k : Int32) : Int64 × MS × List BL := if bcnd T x ∧ (0 ≤ k ∧ k ≤ 2) then (if k = 0 then (((bat B x).2.1 3).toInt64, T, B) else if k = (bat B x).2.1 0 then (((bat B x).2.1 3).toInt64, T, B) else ((cf_fd T 5).1, (cf_fd T 5).2, B)) else ((cf_fd T 1).1, (cf_fd T 1).2, B)
set_option maxHeartbeats 4000000 in
set_option maxRecDepth 100000 in
/-- as -/
theorem K_as (l : Launch) (D : va_G) (cy : Nat → ClassId) (a : Nat → Nat) (T : MS) (B : List BL) (hI : ciB T B) (x k : Int32) : Ct l D clx (tyx cy) yX8_as wsX8_as (rmC 3) 0 0 [.ref (a 200), .int x, .int k] (CW cy a T B) (fun r9 w9 => r9 = some (.long (cf_as T B x k).1) ∧ w9 = CW cy a (cf_as T B x k).2.1 (cf_as T B x k).2.2) := by
  refine g_start (cc := cX8_as) (maxL := 4) (ret := (some .long)) (by decide) rfl (Nat.le_of_ble_eq_true rfl) (fun v w1 h => by obtain ⟨rfl, -⟩ := h; exact rfl) (fun Γ hlΓ => ?_)
  subst hlΓ
  refine g_aload_n (i := 0) dX8_as_0 rfl rfl ?_
  refine g_iload_n (i := 1) dX8_as_1 rfl rfl ?_
  refine g_callVf 1 0 gX8_as_X8_billAt rfl rfl rfl ⟨Nat.le_of_ble_eq_true rfl, Nat.le_of_ble_eq_true rfl⟩ ⟨Nat.le_of_ble_eq_true rfl, Nat.le_of_ble_eq_true rfl⟩ (by exact Nat.le_of_ble_eq_true rfl) (by decide +kernel) rfl (cO_main _ _ _ _) rfl dX8_as_2 (K_billAt _ D cy a _ _ _ hI) rfl (fun vu_1 wu_1 hu_1 => ?_)
  obtain ⟨rfl, ⟨rfl, hbn⟩ | ⟨rfl, hbn⟩⟩ := hu_1
  · skip
    refine g_astore_nN (i := 3) dX8_as_5 rfl (by decide) ?_
    refine g_aload_nN (i := 3) dX8_as_6 rfl rfl ?_
    refine g_ifnullN 17 dX8_as_7 (by decide) ?_
    refine g_aload_n (i := 0) dX8_as_17 rfl rfl ?_
    refine g_iconst (1) rfl dX8_as_18 ?_
    refine g_callVf 1 0 gX8_as_X8_finding rfl rfl rfl ⟨Nat.le_of_ble_eq_true rfl, Nat.le_of_ble_eq_true rfl⟩ ⟨Nat.le_of_ble_eq_true rfl, Nat.le_of_ble_eq_true rfl⟩ (by exact Nat.le_of_ble_eq_true rfl) (by decide +kernel) rfl (cO_main _ _ _ _) rfl dX8_as_19 (K_finding _ D cy a _ _ _ (by unfold vp_in; decide)) rfl (fun vu_2 wu_2 hu_2 => ?_)
    obtain ⟨rfl, rfl⟩ := hu_2
    refine g_lret dX8_as_22 ?_
    unfold cf_as; (repeat' split) <;> first | contradiction | (with_reducible exact ⟨rfl, rfl⟩) | exact ⟨rfl, by rw [bset_bat hb]; rfl⟩ | exact ⟨rfl, congrArg (CW cy a _) (bset_bat hb)⟩ | (exfalso; rename_i h9; first | exact absurd h9.1 (by assumption) | exact absurd h9.2 (by assumption) | exact absurd h9.2.1 (by assumption) | exact absurd h9.2.2 (by assumption) | exact absurd h9.2.2.1 (by assumption) | exact absurd h9.2.2.2 (by assumption) | exact h9 ⟨by assumption, by assumption⟩ | exact h9 ⟨by assumption, by assumption, by assumption⟩) | (exfalso; simp_all; done) | (exfalso; simp only [Int32.le_iff_toInt_le, Int32.lt_iff_toInt_lt, Int32.reduceToInt] at *; omega) | exact ⟨rfl, rfl⟩
  · have hb := bidx hI hbn
    have hbk := bokx hI hbn
    refine g_weq _ (congrArg (CW cy a _) (bset_bat hb).symm) ?_
    refine g_astore_n (i := 3) dX8_as_5 rfl (by decide) ?_
    refine g_aload_n (i := 3) dX8_as_6 rfl rfl ?_
    refine g_ifnull dX8_as_7 ?_
    refine g_iload_n (i := 2) dX8_as_10 rfl rfl ?_
    refine g_callSf 1 gX8_as_X8_isBillKind rfl rfl rfl ⟨Nat.le_of_ble_eq_true rfl, Nat.le_of_ble_eq_true rfl⟩ ⟨Nat.le_of_ble_eq_true rfl, Nat.le_of_ble_eq_true rfl⟩ (by exact Nat.le_of_ble_eq_true rfl) (by decide +kernel) rfl dX8_as_11 (K_isBillKind _ D cy a _ _ _) rfl (fun vu_3 wu_3 hu_3 => ?_)
    rcases hu_3 with ⟨rfl, hu_3, rfl⟩ | ⟨rfl, hu_3, rfl⟩
    · skip
      refine g_if_ne 23 dX8_as_14 (by decide) (fun _ => ?_) (fun h9 => absurd h9 (by decide))
      refine g_iload_n (i := 2) dX8_as_23 rfl rfl ?_
      refine g_if_eq 41 dX8_as_24 (by decide) (fun c_5 => ?_) (fun c_5 => ?_)
      · skip
        refine g_aload_n (i := 3) dX8_as_41 rfl rfl ?_
        refine c_bget 3 dX8_as_42 (List.mem_of_getElem? (i := 2) rfl) (fun w h => List.mem_cons_of_mem _ (List.mem_append_left _ (List.mem_append_right _ h))) hb (by decide) rfl ?_
        refine g_i2l dX8_as_45 ?_
        refine g_lret dX8_as_46 ?_
        unfold cf_as; (repeat' split) <;> first | contradiction | (with_reducible exact ⟨rfl, rfl⟩) | exact ⟨rfl, by rw [bset_bat hb]; rfl⟩ | exact ⟨rfl, congrArg (CW cy a _) (bset_bat hb)⟩ | (exfalso; rename_i h9; first | exact absurd h9.1 (by assumption) | exact absurd h9.2 (by assumption) | exact absurd h9.2.1 (by assumption) | exact absurd h9.2.2 (by assumption) | exact absurd h9.2.2.1 (by assumption) | exact absurd h9.2.2.2 (by assumption) | exact h9 ⟨by assumption, by assumption⟩ | exact h9 ⟨by assumption, by assumption, by assumption⟩) | (exfalso; simp_all; done) | (exfalso; simp only [Int32.le_iff_toInt_le, Int32.lt_iff_toInt_lt, Int32.reduceToInt] at *; omega) | exact ⟨rfl, rfl⟩
      · skip
        refine g_iload_n (i := 2) dX8_as_27 rfl rfl ?_
        refine g_aload_n (i := 3) dX8_as_28 rfl rfl ?_
        refine c_bget 0 dX8_as_29 (List.mem_of_getElem? (i := 1) rfl) (fun w h => List.mem_cons_of_mem _ (List.mem_append_left _ (List.mem_append_right _ h))) hb (by decide) rfl ?_
        refine g_icmp_eq 41 dX8_as_32 (by decide) (fun c_6 => ?_) (fun c_6 => ?_)
        · skip
          refine g_aload_n (i := 3) dX8_as_41 rfl rfl ?_
          refine c_bget 3 dX8_as_42 (List.mem_of_getElem? (i := 2) rfl) (fun w h => List.mem_cons_of_mem _ (List.mem_append_left _ (List.mem_append_right _ h))) hb (by decide) rfl ?_
          refine g_i2l dX8_as_45 ?_
          refine g_lret dX8_as_46 ?_
          unfold cf_as; (repeat' split) <;> first | contradiction | (with_reducible exact ⟨rfl, rfl⟩) | exact ⟨rfl, by rw [bset_bat hb]; rfl⟩ | exact ⟨rfl, congrArg (CW cy a _) (bset_bat hb)⟩ | (exfalso; rename_i h9; first | exact absurd h9.1 (by assumption) | exact absurd h9.2 (by assumption) | exact absurd h9.2.1 (by assumption) | exact absurd h9.2.2 (by assumption) | exact absurd h9.2.2.1 (by assumption) | exact absurd h9.2.2.2 (by assumption) | exact h9 ⟨by assumption, by assumption⟩ | exact h9 ⟨by assumption, by assumption, by assumption⟩) | (exfalso; simp_all; done) | (exfalso; simp only [Int32.le_iff_toInt_le, Int32.lt_iff_toInt_lt, Int32.reduceToInt] at *; omega) | exact ⟨rfl, rfl⟩
        · skip
          refine g_aload_n (i := 0) dX8_as_35 rfl rfl ?_
          refine g_iconst (5) rfl dX8_as_36 ?_
          refine g_callVf 1 0 gX8_as_X8_finding rfl rfl rfl ⟨Nat.le_of_ble_eq_true rfl, Nat.le_of_ble_eq_true rfl⟩ ⟨Nat.le_of_ble_eq_true rfl, Nat.le_of_ble_eq_true rfl⟩ (by exact Nat.le_of_ble_eq_true rfl) (by decide +kernel) rfl (cO_main _ _ _ _) rfl dX8_as_37 (K_finding _ D cy a _ _ _ (by unfold vp_in; decide)) rfl (fun vu_7 wu_7 hu_7 => ?_)
          obtain ⟨rfl, rfl⟩ := hu_7
          refine g_lret dX8_as_40 ?_
          unfold cf_as; (repeat' split) <;> first | contradiction | (with_reducible exact ⟨rfl, rfl⟩) | exact ⟨rfl, by rw [bset_bat hb]; rfl⟩ | exact ⟨rfl, congrArg (CW cy a _) (bset_bat hb)⟩ | (exfalso; rename_i h9; first | exact absurd h9.1 (by assumption) | exact absurd h9.2 (by assumption) | exact absurd h9.2.1 (by assumption) | exact absurd h9.2.2 (by assumption) | exact absurd h9.2.2.1 (by assumption) | exact absurd h9.2.2.2 (by assumption) | exact h9 ⟨by assumption, by assumption⟩ | exact h9 ⟨by assumption, by assumption, by assumption⟩) | (exfalso; simp_all; done) | (exfalso; simp only [Int32.le_iff_toInt_le, Int32.lt_iff_toInt_lt, Int32.reduceToInt] at *; omega) | exact ⟨rfl, rfl⟩
    · skip
      refine g_if_ne 23 dX8_as_14 (by decide) (fun h9 => absurd h9 (by decide)) (fun _ => ?_)
      refine g_aload_n (i := 0) dX8_as_17 rfl rfl ?_
      refine g_iconst (1) rfl dX8_as_18 ?_
      refine g_callVf 1 0 gX8_as_X8_finding rfl rfl rfl ⟨Nat.le_of_ble_eq_true rfl, Nat.le_of_ble_eq_true rfl⟩ ⟨Nat.le_of_ble_eq_true rfl, Nat.le_of_ble_eq_true rfl⟩ (by exact Nat.le_of_ble_eq_true rfl) (by decide +kernel) rfl (cO_main _ _ _ _) rfl dX8_as_19 (K_finding _ D cy a _ _ _ (by unfold vp_in; decide)) rfl (fun vu_9 wu_9 hu_9 => ?_)
      obtain ⟨rfl, rfl⟩ := hu_9
      refine g_lret dX8_as_22 ?_
      unfold cf_as; (repeat' split) <;> first | contradiction | (with_reducible exact ⟨rfl, rfl⟩) | exact ⟨rfl, by rw [bset_bat hb]; rfl⟩ | exact ⟨rfl, congrArg (CW cy a _) (bset_bat hb)⟩ | (exfalso; rename_i h9; first | exact absurd h9.1 (by assumption) | exact absurd h9.2 (by assumption) | exact absurd h9.2.1 (by assumption) | exact absurd h9.2.2 (by assumption) | exact absurd h9.2.2.1 (by assumption) | exact absurd h9.2.2.2 (by assumption) | exact h9 ⟨by assumption, by assumption⟩ | exact h9 ⟨by assumption, by assumption, by assumption⟩) | (exfalso; simp_all; done) | (exfalso; simp only [Int32.le_iff_toInt_le, Int32.lt_iff_toInt_lt, Int32.reduceToInt] at *; omega) | exact ⟨rfl, rfl⟩

theorem tswo {q : Int32} (h : ¬ (0 ≤ q ∧ q ≤ 11)) : q.toInt < 0 ∨ 11 < q.toInt := by
  rw [Int32.le_iff_toInt_le, Int32.le_iff_toInt_le] at h
  have e1 : (11 : Int32).toInt = 11 := by decide
  have e0 : (0 : Int32).toInt = 0 := by decide
  omega
def cab (T : MS) (B : List BL) (x q : Int32) : Int64 × MS × List BL := if 0 ≤ q - 7 ∧ q - 7 < (bat B x).2.1 6 then ((bf_end (bat B x) (q - 7)).toInt64, T, B) else ((cf_fd T 2).1, (cf_fd T 2).2, B)
def cf_about (T : MS) (B : List BL) (x q : Int32) : Int64 × MS × List BL := if bcnd T x ∧ (0 ≤ q ∧ q ≤ 11) then (if q = 0 then (((bat B x).2.1 0).toInt64, T, B) else if q = 1 then (((bat B x).2.1 1).toInt64, T, B) else if q = 2 then (((bat B x).2.1 2).toInt64, T, B) else if q = 3 then (((bat B x).2.1 4).toInt64, T, B) else if q = 4 then (((bat B x).2.1 3).toInt64, T, B) else if q = 5 then (((bat B x).2.1 5).toInt64, T, B) else if q = 6 then (((bat B x).2.1 6).toInt64, T, B) else if q = 11 then (((bat B x).2.2 9 ((bat B x).2.1 5).toNatClampNeg).toInt64, T, B) else cab T B x q) else ((cf_fd T 1).1, (cf_fd T 1).2, B)
theorem ab_0 {T : MS} {B : List BL} {x : Int32} (h : bcnd T x) : cf_about T B x 0 = (((bat B x).2.1 0).toInt64, T, B) := by
  unfold cf_about
  rw [if_pos ⟨h, by decide⟩, if_pos rfl]
theorem ab_1 {T : MS} {B : List BL} {x : Int32} (h : bcnd T x) : cf_about T B x 1 = (((bat B x).2.1 1).toInt64, T, B) := by
  unfold cf_about
  rw [if_pos ⟨h, by decide⟩, if_neg (by decide), if_pos rfl]
theorem ab_2 {T : MS} {B : List BL} {x : Int32} (h : bcnd T x) : cf_about T B x 2 = (((bat B x).2.1 2).toInt64, T, B) := by
  unfold cf_about
  rw [if_pos ⟨h, by decide⟩, if_neg (by decide), if_neg (by decide), if_pos rfl]
theorem ab_3 {T : MS} {B : List BL} {x : Int32} (h : bcnd T x) : cf_about T B x 3 = (((bat B x).2.1 4).toInt64, T, B) := by
  unfold cf_about
  rw [if_pos ⟨h, by decide⟩, if_neg (by decide), if_neg (by decide), if_neg (by decide), if_pos rfl]
theorem ab_4 {T : MS} {B : List BL} {x : Int32} (h : bcnd T x) : cf_about T B x 4 = (((bat B x).2.1 3).toInt64, T, B) := by
  unfold cf_about
  rw [if_pos ⟨h, by decide⟩, if_neg (by decide), if_neg (by decide), if_neg (by decide), if_neg (by decide), if_pos rfl]
theorem ab_5 {T : MS} {B : List BL} {x : Int32} (h : bcnd T x) : cf_about T B x 5 = (((bat B x).2.1 5).toInt64, T, B) := by
  unfold cf_about
  rw [if_pos ⟨h, by decide⟩, if_neg (by decide), if_neg (by decide), if_neg (by decide), if_neg (by decide), if_neg (by decide), if_pos rfl]
theorem ab_6 {T : MS} {B : List BL} {x : Int32} (h : bcnd T x) : cf_about T B x 6 = (((bat B x).2.1 6).toInt64, T, B) := by
  unfold cf_about
  rw [if_pos ⟨h, by decide⟩, if_neg (by decide), if_neg (by decide), if_neg (by decide), if_neg (by decide), if_neg (by decide), if_neg (by decide), if_pos rfl]
theorem ab_7 {T : MS} {B : List BL} {x : Int32} (h : bcnd T x) : cf_about T B x 7 = cab T B x 7 := by
  unfold cf_about
  rw [if_pos ⟨h, by decide⟩, if_neg (by decide), if_neg (by decide), if_neg (by decide), if_neg (by decide), if_neg (by decide), if_neg (by decide), if_neg (by decide), if_neg (by decide)]
theorem ab_8 {T : MS} {B : List BL} {x : Int32} (h : bcnd T x) : cf_about T B x 8 = cab T B x 8 := by
  unfold cf_about
  rw [if_pos ⟨h, by decide⟩, if_neg (by decide), if_neg (by decide), if_neg (by decide), if_neg (by decide), if_neg (by decide), if_neg (by decide), if_neg (by decide), if_neg (by decide)]
theorem ab_9 {T : MS} {B : List BL} {x : Int32} (h : bcnd T x) : cf_about T B x 9 = cab T B x 9 := by
  unfold cf_about
  rw [if_pos ⟨h, by decide⟩, if_neg (by decide), if_neg (by decide), if_neg (by decide), if_neg (by decide), if_neg (by decide), if_neg (by decide), if_neg (by decide), if_neg (by decide)]
theorem ab_10 {T : MS} {B : List BL} {x : Int32} (h : bcnd T x) : cf_about T B x 10 = cab T B x 10 := by
  unfold cf_about
  rw [if_pos ⟨h, by decide⟩, if_neg (by decide), if_neg (by decide), if_neg (by decide), if_neg (by decide), if_neg (by decide), if_neg (by decide), if_neg (by decide), if_neg (by decide)]
theorem ab_11 {T : MS} {B : List BL} {x : Int32} (h : bcnd T x) : cf_about T B x 11 = (((bat B x).2.2 9 ((bat B x).2.1 5).toNatClampNeg).toInt64, T, B) := by
  unfold cf_about
  rw [if_pos ⟨h, by decide⟩, if_neg (by decide), if_neg (by decide), if_neg (by decide), if_neg (by decide), if_neg (by decide), if_neg (by decide), if_neg (by decide), if_pos rfl]
set_option maxHeartbeats 4000000 in
set_option maxRecDepth 100000 in
/-- about -/
theorem K_about (l : Launch) (D : va_G) (cy : Nat → ClassId) (a : Nat → Nat) (T : MS) (B : List BL) (hI : ciB T B) (x q : Int32) : Ct l D clx (tyx cy) yX8_about wsX8_about (rmC 3) 0 0 [.ref (a 200), .int x, .int q] (CW cy a T B) (fun r9 w9 => r9 = some (.long (cf_about T B x q).1) ∧ w9 = CW cy a (cf_about T B x q).2.1 (cf_about T B x q).2.2) := by
  refine g_start (cc := cX8_about) (maxL := 4) (ret := (some .long)) (by decide) rfl (Nat.le_of_ble_eq_true rfl) (fun v w1 h => by obtain ⟨rfl, -⟩ := h; exact rfl) (fun Γ hlΓ => ?_)
  subst hlΓ
  refine g_aload_n (i := 0) dX8_about_0 rfl rfl ?_
  refine g_iload_n (i := 1) dX8_about_1 rfl rfl ?_
  refine g_callVf 1 0 gX8_about_X8_billAt rfl rfl rfl ⟨Nat.le_of_ble_eq_true rfl, Nat.le_of_ble_eq_true rfl⟩ ⟨Nat.le_of_ble_eq_true rfl, Nat.le_of_ble_eq_true rfl⟩ (by exact Nat.le_of_ble_eq_true rfl) (by decide +kernel) rfl (cO_main _ _ _ _) rfl dX8_about_2 (K_billAt _ D cy a _ _ _ hI) rfl (fun vu_1 wu_1 hu_1 => ?_)
  obtain ⟨rfl, ⟨rfl, hbn⟩ | ⟨rfl, hbn⟩⟩ := hu_1
  · skip
    refine g_astore_nN (i := 3) dX8_about_5 rfl (by decide) ?_
    refine g_aload_nN (i := 3) dX8_about_6 rfl rfl ?_
    refine g_ifnonnullN dX8_about_7 ?_
    refine g_aload_n (i := 0) dX8_about_10 rfl rfl ?_
    refine g_iconst (1) rfl dX8_about_11 ?_
    refine g_callVf 1 0 gX8_about_X8_finding rfl rfl rfl ⟨Nat.le_of_ble_eq_true rfl, Nat.le_of_ble_eq_true rfl⟩ ⟨Nat.le_of_ble_eq_true rfl, Nat.le_of_ble_eq_true rfl⟩ (by exact Nat.le_of_ble_eq_true rfl) (by decide +kernel) rfl (cO_main _ _ _ _) rfl dX8_about_12 (K_finding _ D cy a _ _ _ (by unfold vp_in; decide)) rfl (fun vu_2 wu_2 hu_2 => ?_)
    obtain ⟨rfl, rfl⟩ := hu_2
    refine g_lret dX8_about_15 ?_
    unfold cf_about; rw [if_neg (by intro h9; exact absurd h9.1 (by assumption))]; exact ⟨rfl, rfl⟩
  · have hb := bidx hI hbn
    have hbk := bokx hI hbn
    refine g_weq _ (congrArg (CW cy a _) (bset_bat hb).symm) ?_
    refine g_astore_n (i := 3) dX8_about_5 rfl (by decide) ?_
    refine g_aload_n (i := 3) dX8_about_6 rfl rfl ?_
    refine g_ifnonnull 16 dX8_about_7 (by decide) ?_
    refine g_iload_n (i := 2) dX8_about_16 rfl rfl ?_
    by_cases hx : 0 ≤ q ∧ q ≤ 11
    · rcases tsw12 q hx with rfl | rfl | rfl | rfl | rfl | rfl | rfl | rfl | rfl | rfl | rfl | rfl
      · skip
        refine g_tabIn 80 dX8_about_17 (by decide) (by decide) rfl (by decide) ?_
        refine g_aload_n (i := 3) dX8_about_80 rfl rfl ?_
        refine c_bget 0 dX8_about_81 (List.mem_of_getElem? (i := 1) rfl) (fun w h => List.mem_cons_of_mem _ (List.mem_append_left _ (List.mem_append_right _ h))) hb (by decide) rfl ?_
        refine g_i2l dX8_about_84 ?_
        refine g_lret dX8_about_85 ?_
        rw [ab_0 hbn]; exact ⟨rfl, congrArg (CW cy a _) (bset_bat hb)⟩
      · skip
        refine g_tabIn 86 dX8_about_17 (by decide) (by decide) rfl (by decide) ?_
        refine g_aload_n (i := 3) dX8_about_86 rfl rfl ?_
        refine c_bget 1 dX8_about_87 (List.mem_of_getElem? (i := 2) rfl) (fun w h => List.mem_cons_of_mem _ (List.mem_append_left _ (List.mem_append_right _ h))) hb (by decide) rfl ?_
        refine g_i2l dX8_about_90 ?_
        refine g_lret dX8_about_91 ?_
        rw [ab_1 hbn]; exact ⟨rfl, congrArg (CW cy a _) (bset_bat hb)⟩
      · skip
        refine g_tabIn 92 dX8_about_17 (by decide) (by decide) rfl (by decide) ?_
        refine g_aload_n (i := 3) dX8_about_92 rfl rfl ?_
        refine c_bget 2 dX8_about_93 (List.mem_of_getElem? (i := 3) rfl) (fun w h => List.mem_cons_of_mem _ (List.mem_append_left _ (List.mem_append_right _ h))) hb (by decide) rfl ?_
        refine g_i2l dX8_about_96 ?_
        refine g_lret dX8_about_97 ?_
        rw [ab_2 hbn]; exact ⟨rfl, congrArg (CW cy a _) (bset_bat hb)⟩
      · skip
        refine g_tabIn 98 dX8_about_17 (by decide) (by decide) rfl (by decide) ?_
        refine g_aload_n (i := 3) dX8_about_98 rfl rfl ?_
        refine c_bget 4 dX8_about_99 (List.mem_of_getElem? (i := 4) rfl) (fun w h => List.mem_cons_of_mem _ (List.mem_append_left _ (List.mem_append_right _ h))) hb (by decide) rfl ?_
        refine g_i2l dX8_about_102 ?_
        refine g_lret dX8_about_103 ?_
        rw [ab_3 hbn]; exact ⟨rfl, congrArg (CW cy a _) (bset_bat hb)⟩
      · skip
        refine g_tabIn 104 dX8_about_17 (by decide) (by decide) rfl (by decide) ?_
        refine g_aload_n (i := 3) dX8_about_104 rfl rfl ?_
        refine c_bget 3 dX8_about_105 (List.mem_of_getElem? (i := 5) rfl) (fun w h => List.mem_cons_of_mem _ (List.mem_append_left _ (List.mem_append_right _ h))) hb (by decide) rfl ?_
        refine g_i2l dX8_about_108 ?_
        refine g_lret dX8_about_109 ?_
        rw [ab_4 hbn]; exact ⟨rfl, congrArg (CW cy a _) (bset_bat hb)⟩
      · skip
        refine g_tabIn 110 dX8_about_17 (by decide) (by decide) rfl (by decide) ?_
        refine g_aload_n (i := 3) dX8_about_110 rfl rfl ?_
        refine c_bget 5 dX8_about_111 (List.mem_of_getElem? (i := 6) rfl) (fun w h => List.mem_cons_of_mem _ (List.mem_append_left _ (List.mem_append_right _ h))) hb (by decide) rfl ?_
        refine g_i2l dX8_about_114 ?_
        refine g_lret dX8_about_115 ?_
        rw [ab_5 hbn]; exact ⟨rfl, congrArg (CW cy a _) (bset_bat hb)⟩
      · skip
        refine g_tabIn 116 dX8_about_17 (by decide) (by decide) rfl (by decide) ?_
        refine g_aload_n (i := 3) dX8_about_116 rfl rfl ?_
        refine c_bget 6 dX8_about_117 (List.mem_of_getElem? (i := 7) rfl) (fun w h => List.mem_cons_of_mem _ (List.mem_append_left _ (List.mem_append_right _ h))) hb (by decide) rfl ?_
        refine g_i2l dX8_about_120 ?_
        refine g_lret dX8_about_121 ?_
        rw [ab_6 hbn]; exact ⟨rfl, congrArg (CW cy a _) (bset_bat hb)⟩
      · skip
        refine g_tabIn 122 dX8_about_17 (by decide) (by decide) rfl (by decide) ?_
        refine g_aload_n (i := 3) dX8_about_122 rfl rfl ?_
        refine g_iload_n (i := 2) dX8_about_123 rfl rfl ?_
        refine g_bipush (7) rfl dX8_about_124 ?_
        refine g_isub dX8_about_126 ?_
        refine g_callVf 1 (71 + (3 * _ + 0)) gX8_about_X0_hasEndorser rfl rfl rfl ⟨Nat.le_of_ble_eq_true rfl, Nat.le_of_ble_eq_true rfl⟩ ⟨Nat.le_of_ble_eq_true rfl, Nat.le_of_ble_eq_true rfl⟩ (by exact Nat.le_of_ble_eq_true rfl) (by decide +kernel) rfl (cB_get _ 0 (by decide) hb) rfl dX8_about_127 (K_hasEndorser _ D cy a _ _ _ _ hb _) rfl (fun vu_3 wu_3 hu_3 => ?_)
        rcases hu_3 with ⟨rfl, hu_3, rfl⟩ | ⟨rfl, hu_3, rfl⟩
        · skip
          refine g_if_eq 145 dX8_about_130 (by decide) (fun h9 => absurd h9 (by decide)) (fun _ => ?_)
          refine g_aload_n (i := 3) dX8_about_133 rfl rfl ?_
          refine g_iload_n (i := 2) dX8_about_134 rfl rfl ?_
          refine g_bipush (7) rfl dX8_about_135 ?_
          refine g_isub dX8_about_137 ?_
          refine g_callVf 1 (71 + (3 * _ + 0)) gX8_about_X0_endorserAt rfl rfl rfl ⟨Nat.le_of_ble_eq_true rfl, Nat.le_of_ble_eq_true rfl⟩ ⟨Nat.le_of_ble_eq_true rfl, Nat.le_of_ble_eq_true rfl⟩ (by exact Nat.le_of_ble_eq_true rfl) (by decide +kernel) rfl (cB_get _ 0 (by decide) hb) rfl dX8_about_138 (K_endorserAt _ D cy a _ _ _ _ hb _) rfl (fun vu_5 wu_5 hu_5 => ?_)
          obtain ⟨rfl, rfl⟩ := hu_5
          refine g_i2l dX8_about_141 ?_
          refine g_goto 150 dX8_about_142 (by decide) ?_
          refine g_lret dX8_about_150 ?_
          first | rw [ab_7 hbn] | rw [ab_8 hbn] | rw [ab_9 hbn] | rw [ab_10 hbn]
          unfold cab; first | (rw [if_pos (by assumption)]; exact ⟨rfl, congrArg (CW cy a _) (bset_bat hb)⟩) | (rw [if_neg (by assumption)]; exact ⟨rfl, congrArg (CW cy a _) (bset_bat hb)⟩)
        · skip
          refine g_if_eq 145 dX8_about_130 (by decide) (fun _ => ?_) (fun h9 => absurd h9 (by decide))
          refine g_aload_n (i := 0) dX8_about_145 rfl rfl ?_
          refine g_iconst (2) rfl dX8_about_146 ?_
          refine g_callVf 1 0 gX8_about_X8_finding rfl rfl rfl ⟨Nat.le_of_ble_eq_true rfl, Nat.le_of_ble_eq_true rfl⟩ ⟨Nat.le_of_ble_eq_true rfl, Nat.le_of_ble_eq_true rfl⟩ (by exact Nat.le_of_ble_eq_true rfl) (by decide +kernel) rfl (cO_main _ _ _ _) rfl dX8_about_147 (K_finding _ D cy a _ _ _ (by unfold vp_in; decide)) rfl (fun vu_7 wu_7 hu_7 => ?_)
          obtain ⟨rfl, rfl⟩ := hu_7
          refine g_lret dX8_about_150 ?_
          first | rw [ab_7 hbn] | rw [ab_8 hbn] | rw [ab_9 hbn] | rw [ab_10 hbn]
          unfold cab; first | (rw [if_pos (by assumption)]; exact ⟨rfl, congrArg (CW cy a _) (bset_bat hb)⟩) | (rw [if_neg (by assumption)]; exact ⟨rfl, congrArg (CW cy a _) (bset_bat hb)⟩)
      · skip
        refine g_tabIn 122 dX8_about_17 (by decide) (by decide) rfl (by decide) ?_
        refine g_aload_n (i := 3) dX8_about_122 rfl rfl ?_
        refine g_iload_n (i := 2) dX8_about_123 rfl rfl ?_
        refine g_bipush (7) rfl dX8_about_124 ?_
        refine g_isub dX8_about_126 ?_
        refine g_callVf 1 (71 + (3 * _ + 0)) gX8_about_X0_hasEndorser rfl rfl rfl ⟨Nat.le_of_ble_eq_true rfl, Nat.le_of_ble_eq_true rfl⟩ ⟨Nat.le_of_ble_eq_true rfl, Nat.le_of_ble_eq_true rfl⟩ (by exact Nat.le_of_ble_eq_true rfl) (by decide +kernel) rfl (cB_get _ 0 (by decide) hb) rfl dX8_about_127 (K_hasEndorser _ D cy a _ _ _ _ hb _) rfl (fun vu_8 wu_8 hu_8 => ?_)
        rcases hu_8 with ⟨rfl, hu_8, rfl⟩ | ⟨rfl, hu_8, rfl⟩
        · skip
          refine g_if_eq 145 dX8_about_130 (by decide) (fun h9 => absurd h9 (by decide)) (fun _ => ?_)
          refine g_aload_n (i := 3) dX8_about_133 rfl rfl ?_
          refine g_iload_n (i := 2) dX8_about_134 rfl rfl ?_
          refine g_bipush (7) rfl dX8_about_135 ?_
          refine g_isub dX8_about_137 ?_
          refine g_callVf 1 (71 + (3 * _ + 0)) gX8_about_X0_endorserAt rfl rfl rfl ⟨Nat.le_of_ble_eq_true rfl, Nat.le_of_ble_eq_true rfl⟩ ⟨Nat.le_of_ble_eq_true rfl, Nat.le_of_ble_eq_true rfl⟩ (by exact Nat.le_of_ble_eq_true rfl) (by decide +kernel) rfl (cB_get _ 0 (by decide) hb) rfl dX8_about_138 (K_endorserAt _ D cy a _ _ _ _ hb _) rfl (fun vu_10 wu_10 hu_10 => ?_)
          obtain ⟨rfl, rfl⟩ := hu_10
          refine g_i2l dX8_about_141 ?_
          refine g_goto 150 dX8_about_142 (by decide) ?_
          refine g_lret dX8_about_150 ?_
          first | rw [ab_7 hbn] | rw [ab_8 hbn] | rw [ab_9 hbn] | rw [ab_10 hbn]
          unfold cab; first | (rw [if_pos (by assumption)]; exact ⟨rfl, congrArg (CW cy a _) (bset_bat hb)⟩) | (rw [if_neg (by assumption)]; exact ⟨rfl, congrArg (CW cy a _) (bset_bat hb)⟩)
        · skip
          refine g_if_eq 145 dX8_about_130 (by decide) (fun _ => ?_) (fun h9 => absurd h9 (by decide))
          refine g_aload_n (i := 0) dX8_about_145 rfl rfl ?_
          refine g_iconst (2) rfl dX8_about_146 ?_
          refine g_callVf 1 0 gX8_about_X8_finding rfl rfl rfl ⟨Nat.le_of_ble_eq_true rfl, Nat.le_of_ble_eq_true rfl⟩ ⟨Nat.le_of_ble_eq_true rfl, Nat.le_of_ble_eq_true rfl⟩ (by exact Nat.le_of_ble_eq_true rfl) (by decide +kernel) rfl (cO_main _ _ _ _) rfl dX8_about_147 (K_finding _ D cy a _ _ _ (by unfold vp_in; decide)) rfl (fun vu_12 wu_12 hu_12 => ?_)
          obtain ⟨rfl, rfl⟩ := hu_12
          refine g_lret dX8_about_150 ?_
          first | rw [ab_7 hbn] | rw [ab_8 hbn] | rw [ab_9 hbn] | rw [ab_10 hbn]
          unfold cab; first | (rw [if_pos (by assumption)]; exact ⟨rfl, congrArg (CW cy a _) (bset_bat hb)⟩) | (rw [if_neg (by assumption)]; exact ⟨rfl, congrArg (CW cy a _) (bset_bat hb)⟩)
      · skip
        refine g_tabIn 122 dX8_about_17 (by decide) (by decide) rfl (by decide) ?_
        refine g_aload_n (i := 3) dX8_about_122 rfl rfl ?_
        refine g_iload_n (i := 2) dX8_about_123 rfl rfl ?_
        refine g_bipush (7) rfl dX8_about_124 ?_
        refine g_isub dX8_about_126 ?_
        refine g_callVf 1 (71 + (3 * _ + 0)) gX8_about_X0_hasEndorser rfl rfl rfl ⟨Nat.le_of_ble_eq_true rfl, Nat.le_of_ble_eq_true rfl⟩ ⟨Nat.le_of_ble_eq_true rfl, Nat.le_of_ble_eq_true rfl⟩ (by exact Nat.le_of_ble_eq_true rfl) (by decide +kernel) rfl (cB_get _ 0 (by decide) hb) rfl dX8_about_127 (K_hasEndorser _ D cy a _ _ _ _ hb _) rfl (fun vu_13 wu_13 hu_13 => ?_)
        rcases hu_13 with ⟨rfl, hu_13, rfl⟩ | ⟨rfl, hu_13, rfl⟩
        · skip
          refine g_if_eq 145 dX8_about_130 (by decide) (fun h9 => absurd h9 (by decide)) (fun _ => ?_)
          refine g_aload_n (i := 3) dX8_about_133 rfl rfl ?_
          refine g_iload_n (i := 2) dX8_about_134 rfl rfl ?_
          refine g_bipush (7) rfl dX8_about_135 ?_
          refine g_isub dX8_about_137 ?_
          refine g_callVf 1 (71 + (3 * _ + 0)) gX8_about_X0_endorserAt rfl rfl rfl ⟨Nat.le_of_ble_eq_true rfl, Nat.le_of_ble_eq_true rfl⟩ ⟨Nat.le_of_ble_eq_true rfl, Nat.le_of_ble_eq_true rfl⟩ (by exact Nat.le_of_ble_eq_true rfl) (by decide +kernel) rfl (cB_get _ 0 (by decide) hb) rfl dX8_about_138 (K_endorserAt _ D cy a _ _ _ _ hb _) rfl (fun vu_15 wu_15 hu_15 => ?_)
          obtain ⟨rfl, rfl⟩ := hu_15
          refine g_i2l dX8_about_141 ?_
          refine g_goto 150 dX8_about_142 (by decide) ?_
          refine g_lret dX8_about_150 ?_
          first | rw [ab_7 hbn] | rw [ab_8 hbn] | rw [ab_9 hbn] | rw [ab_10 hbn]
          unfold cab; first | (rw [if_pos (by assumption)]; exact ⟨rfl, congrArg (CW cy a _) (bset_bat hb)⟩) | (rw [if_neg (by assumption)]; exact ⟨rfl, congrArg (CW cy a _) (bset_bat hb)⟩)
        · skip
          refine g_if_eq 145 dX8_about_130 (by decide) (fun _ => ?_) (fun h9 => absurd h9 (by decide))
          refine g_aload_n (i := 0) dX8_about_145 rfl rfl ?_
          refine g_iconst (2) rfl dX8_about_146 ?_
          refine g_callVf 1 0 gX8_about_X8_finding rfl rfl rfl ⟨Nat.le_of_ble_eq_true rfl, Nat.le_of_ble_eq_true rfl⟩ ⟨Nat.le_of_ble_eq_true rfl, Nat.le_of_ble_eq_true rfl⟩ (by exact Nat.le_of_ble_eq_true rfl) (by decide +kernel) rfl (cO_main _ _ _ _) rfl dX8_about_147 (K_finding _ D cy a _ _ _ (by unfold vp_in; decide)) rfl (fun vu_17 wu_17 hu_17 => ?_)
          obtain ⟨rfl, rfl⟩ := hu_17
          refine g_lret dX8_about_150 ?_
          first | rw [ab_7 hbn] | rw [ab_8 hbn] | rw [ab_9 hbn] | rw [ab_10 hbn]
          unfold cab; first | (rw [if_pos (by assumption)]; exact ⟨rfl, congrArg (CW cy a _) (bset_bat hb)⟩) | (rw [if_neg (by assumption)]; exact ⟨rfl, congrArg (CW cy a _) (bset_bat hb)⟩)
      · skip
        refine g_tabIn 122 dX8_about_17 (by decide) (by decide) rfl (by decide) ?_
        refine g_aload_n (i := 3) dX8_about_122 rfl rfl ?_
        refine g_iload_n (i := 2) dX8_about_123 rfl rfl ?_
        refine g_bipush (7) rfl dX8_about_124 ?_
        refine g_isub dX8_about_126 ?_
        refine g_callVf 1 (71 + (3 * _ + 0)) gX8_about_X0_hasEndorser rfl rfl rfl ⟨Nat.le_of_ble_eq_true rfl, Nat.le_of_ble_eq_true rfl⟩ ⟨Nat.le_of_ble_eq_true rfl, Nat.le_of_ble_eq_true rfl⟩ (by exact Nat.le_of_ble_eq_true rfl) (by decide +kernel) rfl (cB_get _ 0 (by decide) hb) rfl dX8_about_127 (K_hasEndorser _ D cy a _ _ _ _ hb _) rfl (fun vu_18 wu_18 hu_18 => ?_)
        rcases hu_18 with ⟨rfl, hu_18, rfl⟩ | ⟨rfl, hu_18, rfl⟩
        · skip
          refine g_if_eq 145 dX8_about_130 (by decide) (fun h9 => absurd h9 (by decide)) (fun _ => ?_)
          refine g_aload_n (i := 3) dX8_about_133 rfl rfl ?_
          refine g_iload_n (i := 2) dX8_about_134 rfl rfl ?_
          refine g_bipush (7) rfl dX8_about_135 ?_
          refine g_isub dX8_about_137 ?_
          refine g_callVf 1 (71 + (3 * _ + 0)) gX8_about_X0_endorserAt rfl rfl rfl ⟨Nat.le_of_ble_eq_true rfl, Nat.le_of_ble_eq_true rfl⟩ ⟨Nat.le_of_ble_eq_true rfl, Nat.le_of_ble_eq_true rfl⟩ (by exact Nat.le_of_ble_eq_true rfl) (by decide +kernel) rfl (cB_get _ 0 (by decide) hb) rfl dX8_about_138 (K_endorserAt _ D cy a _ _ _ _ hb _) rfl (fun vu_20 wu_20 hu_20 => ?_)
          obtain ⟨rfl, rfl⟩ := hu_20
          refine g_i2l dX8_about_141 ?_
          refine g_goto 150 dX8_about_142 (by decide) ?_
          refine g_lret dX8_about_150 ?_
          first | rw [ab_7 hbn] | rw [ab_8 hbn] | rw [ab_9 hbn] | rw [ab_10 hbn]
          unfold cab; first | (rw [if_pos (by assumption)]; exact ⟨rfl, congrArg (CW cy a _) (bset_bat hb)⟩) | (rw [if_neg (by assumption)]; exact ⟨rfl, congrArg (CW cy a _) (bset_bat hb)⟩)
        · skip
          refine g_if_eq 145 dX8_about_130 (by decide) (fun _ => ?_) (fun h9 => absurd h9 (by decide))
          refine g_aload_n (i := 0) dX8_about_145 rfl rfl ?_
          refine g_iconst (2) rfl dX8_about_146 ?_
          refine g_callVf 1 0 gX8_about_X8_finding rfl rfl rfl ⟨Nat.le_of_ble_eq_true rfl, Nat.le_of_ble_eq_true rfl⟩ ⟨Nat.le_of_ble_eq_true rfl, Nat.le_of_ble_eq_true rfl⟩ (by exact Nat.le_of_ble_eq_true rfl) (by decide +kernel) rfl (cO_main _ _ _ _) rfl dX8_about_147 (K_finding _ D cy a _ _ _ (by unfold vp_in; decide)) rfl (fun vu_22 wu_22 hu_22 => ?_)
          obtain ⟨rfl, rfl⟩ := hu_22
          refine g_lret dX8_about_150 ?_
          first | rw [ab_7 hbn] | rw [ab_8 hbn] | rw [ab_9 hbn] | rw [ab_10 hbn]
          unfold cab; first | (rw [if_pos (by assumption)]; exact ⟨rfl, congrArg (CW cy a _) (bset_bat hb)⟩) | (rw [if_neg (by assumption)]; exact ⟨rfl, congrArg (CW cy a _) (bset_bat hb)⟩)
      · skip
        refine g_tabIn 151 dX8_about_17 (by decide) (by decide) rfl (by decide) ?_
        refine g_aload_n (i := 3) dX8_about_151 rfl rfl ?_
        refine g_callVf 0 (71 + (3 * _ + 0)) gX8_about_X0_stateDay rfl rfl rfl ⟨Nat.le_of_ble_eq_true rfl, Nat.le_of_ble_eq_true rfl⟩ ⟨Nat.le_of_ble_eq_true rfl, Nat.le_of_ble_eq_true rfl⟩ (by exact Nat.le_of_ble_eq_true rfl) (by decide +kernel) rfl (cB_get _ 0 (by decide) hb) rfl dX8_about_152 (K_stateDay _ D cy a _ _ _ _ hb hbk.2.2.2.1) rfl (fun vu_23 wu_23 hu_23 => ?_)
        obtain ⟨rfl, rfl⟩ := hu_23
        refine g_i2l dX8_about_155 ?_
        refine g_lret dX8_about_156 ?_
        rw [ab_11 hbn]; exact ⟨rfl, congrArg (CW cy a _) (bset_bat hb)⟩
    · refine g_tabOut 157 dX8_about_17 (tswo hx) (by decide) ?_
      refine g_aload_n (i := 0) dX8_about_157 rfl rfl ?_
      refine g_iconst (1) rfl dX8_about_158 ?_
      refine g_callVf 1 0 gX8_about_X8_finding rfl rfl rfl ⟨Nat.le_of_ble_eq_true rfl, Nat.le_of_ble_eq_true rfl⟩ ⟨Nat.le_of_ble_eq_true rfl, Nat.le_of_ble_eq_true rfl⟩ (by exact Nat.le_of_ble_eq_true rfl) (by decide +kernel) rfl (cO_main _ _ _ _) rfl dX8_about_159 (K_finding _ D cy a _ _ _ (by unfold vp_in; decide)) rfl (fun vu_24 wu_24 hu_24 => ?_)
      obtain ⟨rfl, rfl⟩ := hu_24
      refine g_lret dX8_about_162 ?_
      unfold cf_about; rw [if_neg (by intro h9; exact absurd h9.2 (by assumption))]; exact ⟨rfl, congrArg (CW cy a _) (bset_bat hb)⟩

abbrev croad (T : MS) (h : Int32) : Int32 := T.2.2.1 1 (T.2.2.1 2 h.toNatClampNeg).toNatClampNeg
def cf_knows (T : MS) (B : List BL) (h x d : Int32) : Int64 × MS × List BL := if bcnd T x ∧ (0 ≤ h ∧ h ≤ 9) ∧ 0 ≤ d then (if 0 ≤ bfL (bat B x) (d - croad T h) 5 then ((bfL (bat B x) (d - croad T h) 5).toInt64, T, B) else ((cf_fd T 2).1, (cf_fd T 2).2, B)) else ((cf_fd T 1).1, (cf_fd T 1).2, B)
set_option maxHeartbeats 4000000 in
set_option maxRecDepth 100000 in
/-- knows -/
theorem K_knows (l : Launch) (D : va_G) (cy : Nat → ClassId) (a : Nat → Nat) (T : MS) (B : List BL) (hI : ciB T B) (hS : ciS T) (h x d : Int32) : Ct l D clx (tyx cy) yX8_knows wsX8_knows (rmC 3) 0 0 [.ref (a 200), .int h, .int x, .int d] (CW cy a T B) (fun r9 w9 => r9 = some (.long (cf_knows T B h x d).1) ∧ w9 = CW cy a (cf_knows T B h x d).2.1 (cf_knows T B h x d).2.2) := by
  refine g_start (cc := cX8_knows) (maxL := 6) (ret := (some .long)) (by decide) rfl (Nat.le_of_ble_eq_true rfl) (fun v w1 h => by obtain ⟨rfl, -⟩ := h; exact rfl) (fun Γ hlΓ => ?_)
  subst hlΓ
  refine g_aload_n (i := 0) dX8_knows_0 rfl rfl ?_
  refine g_iload_n (i := 2) dX8_knows_1 rfl rfl ?_
  refine g_callVf 1 0 gX8_knows_X8_billAt rfl rfl rfl ⟨Nat.le_of_ble_eq_true rfl, Nat.le_of_ble_eq_true rfl⟩ ⟨Nat.le_of_ble_eq_true rfl, Nat.le_of_ble_eq_true rfl⟩ (by exact Nat.le_of_ble_eq_true rfl) (by decide +kernel) rfl (cO_main _ _ _ _) rfl dX8_knows_2 (K_billAt _ D cy a _ _ _ hI) rfl (fun vu_1 wu_1 hu_1 => ?_)
  obtain ⟨rfl, ⟨rfl, hbn⟩ | ⟨rfl, hbn⟩⟩ := hu_1
  · skip
    refine g_astoreN dX8_knows_5 (by decide) ?_
    refine g_aloadN dX8_knows_7 rfl ?_
    refine g_ifnullN 23 dX8_knows_9 (by decide) ?_
    refine g_aload_n (i := 0) dX8_knows_23 rfl rfl ?_
    refine g_iconst (1) rfl dX8_knows_24 ?_
    refine g_callVf 1 0 gX8_knows_X8_finding rfl rfl rfl ⟨Nat.le_of_ble_eq_true rfl, Nat.le_of_ble_eq_true rfl⟩ ⟨Nat.le_of_ble_eq_true rfl, Nat.le_of_ble_eq_true rfl⟩ (by exact Nat.le_of_ble_eq_true rfl) (by decide +kernel) rfl (cO_main _ _ _ _) rfl dX8_knows_25 (K_finding _ D cy a _ _ _ (by unfold vp_in; decide)) rfl (fun vu_2 wu_2 hu_2 => ?_)
    obtain ⟨rfl, rfl⟩ := hu_2
    refine g_lret dX8_knows_28 ?_
    unfold cf_knows; (repeat' split) <;> first | contradiction | (with_reducible exact ⟨rfl, rfl⟩) | exact ⟨rfl, by rw [bset_bat hb]; rfl⟩ | exact ⟨rfl, congrArg (CW cy a _) (bset_bat hb)⟩ | (exfalso; rename_i h9; first | exact absurd h9.1 (by assumption) | exact absurd h9.2 (by assumption) | exact absurd h9.2.1 (by assumption) | exact absurd h9.2.2 (by assumption) | exact absurd h9.2.2.1 (by assumption) | exact absurd h9.2.2.2 (by assumption) | exact h9 ⟨by assumption, by assumption⟩ | exact h9 ⟨by assumption, by assumption, by assumption⟩) | (exfalso; simp_all; done) | (exfalso; simp only [Int32.le_iff_toInt_le, Int32.lt_iff_toInt_lt, Int32.reduceToInt] at *; omega) | exact ⟨rfl, rfl⟩
  · have hb := bidx hI hbn
    have hbk := bokx hI hbn
    refine g_weq _ (congrArg (CW cy a _) (bset_bat hb).symm) ?_
    refine g_astore dX8_knows_5 (by decide) ?_
    refine g_aload dX8_knows_7 rfl ?_
    refine g_ifnull dX8_knows_9 ?_
    refine g_iload_n (i := 1) dX8_knows_12 rfl rfl ?_
    refine g_callSf 1 gX8_knows_X8_isHouse rfl rfl rfl ⟨Nat.le_of_ble_eq_true rfl, Nat.le_of_ble_eq_true rfl⟩ ⟨Nat.le_of_ble_eq_true rfl, Nat.le_of_ble_eq_true rfl⟩ (by exact Nat.le_of_ble_eq_true rfl) (by decide +kernel) rfl dX8_knows_13 (K_isHouse _ D cy a _ _ _) rfl (fun vu_3 wu_3 hu_3 => ?_)
    rcases hu_3 with ⟨rfl, hu_3, rfl⟩ | ⟨rfl, hu_3, rfl⟩
    · skip
      refine g_if_eq 23 dX8_knows_16 (by decide) (fun h9 => absurd h9 (by decide)) (fun _ => ?_)
      refine g_iload_n (i := 3) dX8_knows_19 rfl rfl ?_
      refine g_if_ge 29 dX8_knows_20 (by decide) (fun c_5 => ?_) (fun c_5 => ?_)
      · skip
        refine g_aload dX8_knows_29 rfl ?_
        refine g_iload_n (i := 3) dX8_knows_31 rfl rfl ?_
        refine g_aload_n (i := 0) dX8_knows_32 rfl rfl ?_
        refine g_iload_n (i := 1) dX8_knows_33 rfl rfl ?_
        refine g_callVf 1 0 gX8_knows_X8_roadOf rfl rfl rfl ⟨Nat.le_of_ble_eq_true rfl, Nat.le_of_ble_eq_true rfl⟩ ⟨Nat.le_of_ble_eq_true rfl, Nat.le_of_ble_eq_true rfl⟩ (by exact Nat.le_of_ble_eq_true rfl) (by decide +kernel) rfl (cO_main _ _ _ _) rfl dX8_knows_34 (K_roadOf _ D cy a _ _ _ (vpi10 (by assumption)) (hS _ (vp_nat (vpi10 (by assumption))))) rfl (fun vu_6 wu_6 hu_6 => ?_)
        obtain ⟨rfl, rfl⟩ := hu_6
        refine g_isub dX8_knows_37 ?_
        refine g_callVf 1 (71 + (3 * _ + 0)) gX8_knows_X0_latestStateBy rfl rfl rfl ⟨Nat.le_of_ble_eq_true rfl, Nat.le_of_ble_eq_true rfl⟩ ⟨Nat.le_of_ble_eq_true rfl, Nat.le_of_ble_eq_true rfl⟩ (by exact Nat.le_of_ble_eq_true rfl) (by decide +kernel) rfl (cB_get _ 0 (by decide) hb) rfl dX8_knows_38 (K_latest _ D cy a _ _ _ _ hb _) rfl (fun vu_7 wu_7 hu_7 => ?_)
        obtain ⟨rfl, rfl⟩ := hu_7
        refine g_istore dX8_knows_41 (by decide) ?_
        refine g_iload dX8_knows_43 rfl ?_
        refine g_if_ge 56 dX8_knows_45 (by decide) (fun c_8 => ?_) (fun c_8 => ?_)
        · skip
          refine g_iload dX8_knows_56 rfl ?_
          refine g_i2l dX8_knows_58 ?_
          refine g_lret dX8_knows_59 ?_
          unfold cf_knows; (repeat' split) <;> first | contradiction | (with_reducible exact ⟨rfl, rfl⟩) | exact ⟨rfl, by rw [bset_bat hb]; rfl⟩ | exact ⟨rfl, congrArg (CW cy a _) (bset_bat hb)⟩ | (exfalso; rename_i h9; first | exact absurd h9.1 (by assumption) | exact absurd h9.2 (by assumption) | exact absurd h9.2.1 (by assumption) | exact absurd h9.2.2 (by assumption) | exact absurd h9.2.2.1 (by assumption) | exact absurd h9.2.2.2 (by assumption) | exact h9 ⟨by assumption, by assumption⟩ | exact h9 ⟨by assumption, by assumption, by assumption⟩) | (exfalso; simp_all; done) | (exfalso; simp only [Int32.le_iff_toInt_le, Int32.lt_iff_toInt_lt, Int32.reduceToInt] at *; omega) | exact ⟨rfl, rfl⟩
        · skip
          refine g_aload_n (i := 0) dX8_knows_48 rfl rfl ?_
          refine g_iconst (2) rfl dX8_knows_49 ?_
          refine g_callVf 1 0 gX8_knows_X8_finding rfl rfl rfl ⟨Nat.le_of_ble_eq_true rfl, Nat.le_of_ble_eq_true rfl⟩ ⟨Nat.le_of_ble_eq_true rfl, Nat.le_of_ble_eq_true rfl⟩ (by exact Nat.le_of_ble_eq_true rfl) (by decide +kernel) rfl (cO_main _ _ _ _) rfl dX8_knows_50 (K_finding _ D cy a _ _ _ (by unfold vp_in; decide)) rfl (fun vu_9 wu_9 hu_9 => ?_)
          obtain ⟨rfl, rfl⟩ := hu_9
          refine g_goto 59 dX8_knows_53 (by decide) ?_
          refine g_lret dX8_knows_59 ?_
          unfold cf_knows; (repeat' split) <;> first | contradiction | (with_reducible exact ⟨rfl, rfl⟩) | exact ⟨rfl, by rw [bset_bat hb]; rfl⟩ | exact ⟨rfl, congrArg (CW cy a _) (bset_bat hb)⟩ | (exfalso; rename_i h9; first | exact absurd h9.1 (by assumption) | exact absurd h9.2 (by assumption) | exact absurd h9.2.1 (by assumption) | exact absurd h9.2.2 (by assumption) | exact absurd h9.2.2.1 (by assumption) | exact absurd h9.2.2.2 (by assumption) | exact h9 ⟨by assumption, by assumption⟩ | exact h9 ⟨by assumption, by assumption, by assumption⟩) | (exfalso; simp_all; done) | (exfalso; simp only [Int32.le_iff_toInt_le, Int32.lt_iff_toInt_lt, Int32.reduceToInt] at *; omega) | exact ⟨rfl, rfl⟩
      · skip
        refine g_aload_n (i := 0) dX8_knows_23 rfl rfl ?_
        refine g_iconst (1) rfl dX8_knows_24 ?_
        refine g_callVf 1 0 gX8_knows_X8_finding rfl rfl rfl ⟨Nat.le_of_ble_eq_true rfl, Nat.le_of_ble_eq_true rfl⟩ ⟨Nat.le_of_ble_eq_true rfl, Nat.le_of_ble_eq_true rfl⟩ (by exact Nat.le_of_ble_eq_true rfl) (by decide +kernel) rfl (cO_main _ _ _ _) rfl dX8_knows_25 (K_finding _ D cy a _ _ _ (by unfold vp_in; decide)) rfl (fun vu_10 wu_10 hu_10 => ?_)
        obtain ⟨rfl, rfl⟩ := hu_10
        refine g_lret dX8_knows_28 ?_
        unfold cf_knows; (repeat' split) <;> first | contradiction | (with_reducible exact ⟨rfl, rfl⟩) | exact ⟨rfl, by rw [bset_bat hb]; rfl⟩ | exact ⟨rfl, congrArg (CW cy a _) (bset_bat hb)⟩ | (exfalso; rename_i h9; first | exact absurd h9.1 (by assumption) | exact absurd h9.2 (by assumption) | exact absurd h9.2.1 (by assumption) | exact absurd h9.2.2 (by assumption) | exact absurd h9.2.2.1 (by assumption) | exact absurd h9.2.2.2 (by assumption) | exact h9 ⟨by assumption, by assumption⟩ | exact h9 ⟨by assumption, by assumption, by assumption⟩) | (exfalso; simp_all; done) | (exfalso; simp only [Int32.le_iff_toInt_le, Int32.lt_iff_toInt_lt, Int32.reduceToInt] at *; omega) | exact ⟨rfl, rfl⟩
    · skip
      refine g_if_eq 23 dX8_knows_16 (by decide) (fun _ => ?_) (fun h9 => absurd h9 (by decide))
      refine g_aload_n (i := 0) dX8_knows_23 rfl rfl ?_
      refine g_iconst (1) rfl dX8_knows_24 ?_
      refine g_callVf 1 0 gX8_knows_X8_finding rfl rfl rfl ⟨Nat.le_of_ble_eq_true rfl, Nat.le_of_ble_eq_true rfl⟩ ⟨Nat.le_of_ble_eq_true rfl, Nat.le_of_ble_eq_true rfl⟩ (by exact Nat.le_of_ble_eq_true rfl) (by decide +kernel) rfl (cO_main _ _ _ _) rfl dX8_knows_25 (K_finding _ D cy a _ _ _ (by unfold vp_in; decide)) rfl (fun vu_12 wu_12 hu_12 => ?_)
      obtain ⟨rfl, rfl⟩ := hu_12
      refine g_lret dX8_knows_28 ?_
      unfold cf_knows; (repeat' split) <;> first | contradiction | (with_reducible exact ⟨rfl, rfl⟩) | exact ⟨rfl, by rw [bset_bat hb]; rfl⟩ | exact ⟨rfl, congrArg (CW cy a _) (bset_bat hb)⟩ | (exfalso; rename_i h9; first | exact absurd h9.1 (by assumption) | exact absurd h9.2 (by assumption) | exact absurd h9.2.1 (by assumption) | exact absurd h9.2.2 (by assumption) | exact absurd h9.2.2.1 (by assumption) | exact absurd h9.2.2.2 (by assumption) | exact h9 ⟨by assumption, by assumption⟩ | exact h9 ⟨by assumption, by assumption, by assumption⟩) | (exfalso; simp_all; done) | (exfalso; simp only [Int32.le_iff_toInt_le, Int32.lt_iff_toInt_lt, Int32.reduceToInt] at *; omega) | exact ⟨rfl, rfl⟩

