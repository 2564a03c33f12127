set_option maxHeartbeats 4000000 in
set_option maxRecDepth 100000 in
/-- forget -/
theorem K_forget (l : Launch) (D : va_G) (cy : Nat → ClassId) (a : Nat → Nat) (T : MS) (B : List BL) : Ct l D clx (tyx cy) yX2_forget wsX2_forget (rmC 0) 0 0 [.ref (a 212)] (CW cy a T B) (fun r9 w9 => r9 = none ∧ w9 = CW cy a (sI T 80 0) B) := by
  refine g_start (cc := cX2_forget) (maxL := 1) (ret := none) (by decide) rfl (Nat.le_of_ble_eq_true rfl) (fun v w1 h => by obtain ⟨rfl, -⟩ := h; exact rfl) (fun Γ hlΓ => ?_)
  subst hlΓ
  refine g_aload_n (i := 0) dX2_forget_0 rfl rfl ?_
  refine g_iconst (0) rfl dX2_forget_1 ?_
  refine g_put 65 0 _ tyX2 tyX2_ok nmX2 dX2_forget_2 (List.mem_of_getElem? (i := 1) rfl) (fun w h => List.mem_cons_of_mem _ (List.mem_append_right _ h)) (cO_draft _ _ _ _) rfl (by decide) rfl (tyX2_ok 0 (by decide)) rfl rfl (Nat.le_of_ble_eq_true rfl) (cwI_80 _ _ _ _ _) ?_
  refine g_vret dX2_forget_5 ?_
  exact ⟨rfl, rfl⟩

def cf_endT (T : MS) (g : Int32) : MS := sI (sI T 21 (if g = 0 then T.1 25 else -1)) 20 0
set_option maxHeartbeats 4000000 in
set_option maxRecDepth 100000 in
/-- endText -/
theorem K_endText (l : Launch) (D : va_G) (cy : Nat → ClassId) (a : Nat → Nat) (T : MS) (B : List BL) (g : Int32) : Ct l D clx (tyx cy) yX3_endText wsX3_endText (rmC 0) 0 0 [.ref (a 203), .int g] (CW cy a T B) (fun r9 w9 => r9 = none ∧ w9 = CW cy a (cf_endT T g) B) := by
  refine g_start (cc := cX3_endText) (maxL := 2) (ret := none) (by decide) rfl (Nat.le_of_ble_eq_true rfl) (fun v w1 h => by obtain ⟨rfl, -⟩ := h; exact rfl) (fun Γ hlΓ => ?_)
  subst hlΓ
  refine g_aload_n (i := 0) dX3_endText_0 rfl rfl ?_
  refine g_iload_n (i := 1) dX3_endText_1 rfl rfl ?_
  refine g_if_eq 9 dX3_endText_2 (by decide) (fun c_1 => ?_) (fun c_1 => ?_)
  · skip
    refine g_aload_n (i := 0) dX3_endText_9 rfl rfl ?_
    refine g_get 7 5 dX3_endText_10 (List.mem_of_getElem? (i := 1) rfl) (fun w h => List.mem_cons_of_mem _ (List.mem_append_right _ h)) (cO_reader _ _ _ _) rfl (by decide) rfl ?_
    refine g_put 7 1 _ tyX3 tyX3_ok nmX3 dX3_endText_13 (List.mem_of_getElem? (i := 2) rfl) (fun w h => List.mem_cons_of_mem _ (List.mem_append_right _ h)) (cO_reader _ _ _ _) rfl (by decide) rfl (tyX3_ok 1 (by decide)) rfl rfl (Nat.le_of_ble_eq_true rfl) (cwI_21 _ _ _ _ _) ?_
    refine g_aload_n (i := 0) dX3_endText_16 rfl rfl ?_
    refine g_iconst (0) rfl dX3_endText_17 ?_
    refine g_put 7 0 _ tyX3 tyX3_ok nmX3 dX3_endText_18 (List.mem_of_getElem? (i := 3) rfl) (fun w h => List.mem_cons_of_mem _ (List.mem_append_right _ h)) (cO_reader _ _ _ _) rfl (by decide) rfl (tyX3_ok 0 (by decide)) rfl rfl (Nat.le_of_ble_eq_true rfl) (cwI_20 _ _ _ _ _) ?_
    refine g_vret dX3_endText_21 ?_
    unfold cf_endT; first | (rw [if_pos (by assumption)]; exact ⟨rfl, rfl⟩) | (rw [if_neg (by assumption)]; exact ⟨rfl, rfl⟩)
  · skip
    refine g_iconst (-1) rfl dX3_endText_5 ?_
    refine g_goto 13 dX3_endText_6 (by decide) ?_
    refine g_put 7 1 _ tyX3 tyX3_ok nmX3 dX3_endText_13 (List.mem_of_getElem? (i := 2) rfl) (fun w h => List.mem_cons_of_mem _ (List.mem_append_right _ h)) (cO_reader _ _ _ _) rfl (by decide) rfl (tyX3_ok 1 (by decide)) rfl rfl (Nat.le_of_ble_eq_true rfl) (cwI_21 _ _ _ _ _) ?_
    refine g_aload_n (i := 0) dX3_endText_16 rfl rfl ?_
    refine g_iconst (0) rfl dX3_endText_17 ?_
    refine g_put 7 0 _ tyX3 tyX3_ok nmX3 dX3_endText_18 (List.mem_of_getElem? (i := 3) rfl) (fun w h => List.mem_cons_of_mem _ (List.mem_append_right _ h)) (cO_reader _ _ _ _) rfl (by decide) rfl (tyX3_ok 0 (by decide)) rfl rfl (Nat.le_of_ble_eq_true rfl) (cwI_20 _ _ _ _ _) ?_
    refine g_vret dX3_endText_21 ?_
    unfold cf_endT; first | (rw [if_pos (by assumption)]; exact ⟨rfl, rfl⟩) | (rw [if_neg (by assumption)]; exact ⟨rfl, rfl⟩)

def nx0 (T : MS) : MS := sI (sI T 25 (T.1 23)) 24 14
set_option maxHeartbeats 4000000 in
set_option maxRecDepth 100000 in
/-- nextWord -/
theorem K_nx0 (l : Launch) (D : va_G) (cy : Nat → ClassId) (a : Nat → Nat) (T : MS) (B : List BL) (hge : T.1 20 ≤ T.1 23) : Ct l D clx (tyx cy) yX3_nextWord wsX3_nextWord (rmC 0) 0 0 [.ref (a 203)] (CW cy a T B) (fun r9 w9 => r9 = none ∧ w9 = CW cy a (nx0 T) B) := by
  refine g_start (cc := cX3_nextWord) (maxL := 1) (ret := none) (by decide) rfl (Nat.le_of_ble_eq_true rfl) (fun v w1 h => by obtain ⟨rfl, -⟩ := h; exact rfl) (fun Γ hlΓ => ?_)
  subst hlΓ
  refine g_aload_n (i := 0) dX3_nextWord_0 rfl rfl ?_
  refine g_get 7 3 dX3_nextWord_1 (List.mem_of_getElem? (i := 1) rfl) (fun w h => List.mem_cons_of_mem _ (List.mem_append_right _ h)) (cO_reader _ _ _ _) rfl (by decide) rfl ?_
  refine g_aload_n (i := 0) dX3_nextWord_4 rfl rfl ?_
  refine g_get 7 0 dX3_nextWord_5 (List.mem_of_getElem? (i := 2) rfl) (fun w h => List.mem_cons_of_mem _ (List.mem_append_right _ h)) (cO_reader _ _ _ _) rfl (by decide) rfl ?_
  refine g_icmp_ge 38 dX3_nextWord_8 (by decide) (fun c_1 => ?_) (fun c_1 => ?_)
  · skip
    refine g_aload_n (i := 0) dX3_nextWord_38 rfl rfl ?_
    refine g_aload_n (i := 0) dX3_nextWord_39 rfl rfl ?_
    refine g_get 7 3 dX3_nextWord_40 (List.mem_of_getElem? (i := 1) rfl) (fun w h => List.mem_cons_of_mem _ (List.mem_append_right _ h)) (cO_reader _ _ _ _) rfl (by decide) rfl ?_
    refine g_put 7 5 _ tyX3 tyX3_ok nmX3 dX3_nextWord_43 (List.mem_of_getElem? (i := 4) rfl) (fun w h => List.mem_cons_of_mem _ (List.mem_append_right _ h)) (cO_reader _ _ _ _) rfl (by decide) rfl (tyX3_ok 5 (by decide)) rfl rfl (Nat.le_of_ble_eq_true rfl) (cwI_25 _ _ _ _ _) ?_
    refine g_aload_n (i := 0) dX3_nextWord_46 rfl rfl ?_
    refine g_get 7 3 dX3_nextWord_47 (List.mem_of_getElem? (i := 1) rfl) (fun w h => List.mem_cons_of_mem _ (List.mem_append_right _ h)) (cO_reader _ _ _ _) rfl (by decide) rfl ?_
    refine g_aload_n (i := 0) dX3_nextWord_50 rfl rfl ?_
    refine g_get 7 0 dX3_nextWord_51 (List.mem_of_getElem? (i := 2) rfl) (fun w h => List.mem_cons_of_mem _ (List.mem_append_right _ h)) (cO_reader _ _ _ _) rfl (by decide) rfl ?_
    refine g_icmp_lt 66 dX3_nextWord_54 (by decide) (fun c_2 => ?_) (fun c_2 => ?_)
    · skip
      exact absurd c_2 (Int32.not_lt.mpr hge)
    · skip
      refine g_aload_n (i := 0) dX3_nextWord_57 rfl rfl ?_
      refine g_bipush (14) rfl dX3_nextWord_58 ?_
      refine g_put 7 4 _ tyX3 tyX3_ok nmX3 dX3_nextWord_60 (List.mem_of_getElem? (i := 5) rfl) (fun w h => List.mem_cons_of_mem _ (List.mem_append_right _ h)) (cO_reader _ _ _ _) rfl (by decide) rfl (tyX3_ok 4 (by decide)) rfl rfl (Nat.le_of_ble_eq_true rfl) (cwI_24 _ _ _ _ _) ?_
      refine g_goto 150 dX3_nextWord_63 (by decide) ?_
      refine g_vret dX3_nextWord_150 ?_
      exact ⟨rfl, rfl⟩
  · skip
    exact absurd hge c_1

def rt0 (T : MS) : MS := nx0 (sI (sI T 80 0) 23 0)
set_option maxHeartbeats 4000000 in
set_option maxRecDepth 100000 in
/-- readText -/
theorem K_rt0 (l : Launch) (D : va_G) (cy : Nat → ClassId) (a : Nat → Nat) (T : MS) (B : List BL) (hL : T.1 20 = 0) : Ct l D clx (tyx cy) yX3_readText wsX3_readText (rmC 1) 0 0 [.ref (a 203), .ref (a 212)] (CW cy a T B) (fun r9 w9 => (r9 = some (.int 1) ∧ True ∧ w9 = CW cy a (rt0 T) B) ∨ (r9 = some (.int 0) ∧ False ∧ w9 = CW cy a (rt0 T) B)) := by
  refine g_start (cc := cX3_readText) (maxL := 3) (ret := (some .boolean)) (by decide) rfl (Nat.le_of_ble_eq_true rfl) (fun v w1 h => by rcases h with ⟨rfl, -, -⟩ | ⟨rfl, -, -⟩ <;> exact ⟨.boolean, rfl, rfl⟩) (fun Γ hlΓ => ?_)
  subst hlΓ
  refine g_aload_n (i := 1) dX3_readText_0 rfl rfl ?_
  refine g_callVf 0 65 gX3_readText_X2_forget rfl rfl rfl ⟨Nat.le_of_ble_eq_true rfl, Nat.le_of_ble_eq_true rfl⟩ ⟨Nat.le_of_ble_eq_true rfl, Nat.le_of_ble_eq_true rfl⟩ (by exact Nat.le_of_ble_eq_true rfl) (by decide +kernel) rfl (cO_draft _ _ _ _) rfl dX3_readText_1 (K_forget _ D cy a _ _) rfl (fun vu_1 wu_1 hu_1 => ?_)
  obtain ⟨rfl, rfl⟩ := hu_1
  refine g_aload_n (i := 0) dX3_readText_4 rfl rfl ?_
  refine g_iconst (0) rfl dX3_readText_5 ?_
  refine g_put 7 3 _ tyX3 tyX3_ok nmX3 dX3_readText_6 (List.mem_of_getElem? (i := 1) rfl) (fun w h => List.mem_cons_of_mem _ (List.mem_append_left _ (List.mem_append_right _ h))) (cO_reader _ _ _ _) rfl (by decide) rfl (tyX3_ok 3 (by decide)) rfl rfl (Nat.le_of_ble_eq_true rfl) (cwI_23 _ _ _ _ _) ?_
  refine g_aload_n (i := 0) dX3_readText_9 rfl rfl ?_
  refine g_callVf 0 7 gX3_readText_X3_nextWord rfl rfl rfl ⟨Nat.le_of_ble_eq_true rfl, Nat.le_of_ble_eq_true rfl⟩ ⟨Nat.le_of_ble_eq_true rfl, Nat.le_of_ble_eq_true rfl⟩ (by exact Nat.le_of_ble_eq_true rfl) (by decide +kernel) rfl (cO_reader _ _ _ _) rfl dX3_readText_10 (K_nx0 _ D cy a _ _ (by show T.1 20 ≤ 0; rw [hL]; decide)) rfl (fun vu_2 wu_2 hu_2 => ?_)
  obtain ⟨rfl, rfl⟩ := hu_2
  refine g_aload_n (i := 0) dX3_readText_13 rfl rfl ?_
  refine g_get 7 4 dX3_readText_14 (List.mem_of_getElem? (i := 2) rfl) (fun w h => List.mem_cons_of_mem _ (List.mem_append_left _ (List.mem_append_right _ h))) (cO_reader _ _ _ _) rfl (by decide) rfl ?_
  refine g_bipush (14) rfl dX3_readText_17 ?_
  refine g_icmp_ne 24 dX3_readText_19 (by decide) (fun c_3 => ?_) (fun c_3 => ?_)
  · skip
    exact absurd (show (14 : Int32) = 14 from rfl) c_3
  · skip
    refine g_iconst (1) rfl dX3_readText_22 ?_
    refine g_iret dX3_readText_23 ?_
    exact Or.inl ⟨rfl, trivial, rfl⟩

def swp (n : Nat) : Nat := if 70 ≤ n ∧ n < 76 then n + 10 else if 80 ≤ n ∧ n < 86 then n - 10 else if n = 202 then 212 else if n = 212 then 202 else n
def swT (T : MS) : MS := (fun i => T.1 (swp i), T.2.1, fun q => T.2.2.1 (swp q), T.2.2.2)
def CX (cy : Nat → ClassId) (a : Nat → Nat) (T : MS) (f1 f2 f3 f4 fb : Nat → Option Nat) : va_W := [(a 0, .inl (cy 1, 8, .inr (.inl (T.2.2.2 0)))), (a 1, .inl (cy 0, 5, .inl (T.2.2.1 1))), (a 2, .inl (cy 0, 10, .inl (T.2.2.1 2))), (a 3, .inl (cy 3, 40, .inr (.inr (.inr (.inr fb))))), (a 4, .inl (cy 0, 5, .inl (T.2.2.1 4))), (a 5, .inl (cy 0, 30, .inl (T.2.2.1 5))), (a 203, .inr (3, CO_reader a T)), (a 22, .inl (cy 0, 400, .inl (T.2.2.1 22))), (a 201, .inr (1, CO_book a T)), (a 31, .inl (cy 5, 10, .inr (.inr (.inr (.inr f1))))), (a 100, .inl (cy 1, 10, .inr (.inl (T.2.2.2 100)))), (a 101, .inl (cy 1, 10, .inr (.inl (T.2.2.2 101)))), (a 102, .inl (cy 1, 10, .inr (.inl (T.2.2.2 102)))), (a 103, .inl (cy 1, 10, .inr (.inl (T.2.2.2 103)))), (a 104, .inl (cy 1, 10, .inr (.inl (T.2.2.2 104)))), (a 105, .inl (cy 1, 10, .inr (.inl (T.2.2.2 105)))), (a 106, .inl (cy 1, 10, .inr (.inl (T.2.2.2 106)))), (a 107, .inl (cy 1, 10, .inr (.inl (T.2.2.2 107)))), (a 108, .inl (cy 1, 10, .inr (.inl (T.2.2.2 108)))), (a 109, .inl (cy 1, 10, .inr (.inl (T.2.2.2 109)))), (a 205, .inr (5, CO_plan a T)), (a 42, .inl (cy 1, 10, .inr (.inl (T.2.2.2 42)))), (a 43, .inl (cy 1, 1024, .inr (.inl (T.2.2.2 43)))), (a 44, .inl (cy 0, 1024, .inl (T.2.2.1 44))), (a 45, .inl (cy 0, 1024, .inl (T.2.2.1 45))), (a 46, .inl (cy 0, 10, .inl (T.2.2.1 46))), (a 47, .inl (cy 0, 10, .inl (T.2.2.1 47))), (a 48, .inl (cy 1, 10, .inr (.inl (T.2.2.2 48)))), (a 206, .inr (6, CO_purses a T)), (a 55, .inl (cy 0, 4, .inl (T.2.2.1 55))), (a 56, .inl (cy 4, 10, .inr (.inr (.inr (.inr f2))))), (a 110, .inl (cy 0, 4, .inl (T.2.2.1 110))), (a 111, .inl (cy 0, 4, .inl (T.2.2.1 111))), (a 112, .inl (cy 0, 4, .inl (T.2.2.1 112))), (a 113, .inl (cy 0, 4, .inl (T.2.2.1 113))), (a 114, .inl (cy 0, 4, .inl (T.2.2.1 114))), (a 115, .inl (cy 0, 4, .inl (T.2.2.1 115))), (a 116, .inl (cy 0, 4, .inl (T.2.2.1 116))), (a 117, .inl (cy 0, 4, .inl (T.2.2.1 117))), (a 118, .inl (cy 0, 4, .inl (T.2.2.1 118))), (a 119, .inl (cy 0, 4, .inl (T.2.2.1 119))), (a 207, .inr (7, CO_rates a T)), (a 60, .inl (cy 4, 5, .inr (.inr (.inr (.inr f3))))), (a 120, .inl (cy 0, 10, .inl (T.2.2.1 120))), (a 121, .inl (cy 0, 10, .inl (T.2.2.1 121))), (a 122, .inl (cy 0, 10, .inl (T.2.2.1 122))), (a 123, .inl (cy 0, 10, .inl (T.2.2.1 123))), (a 124, .inl (cy 0, 10, .inl (T.2.2.1 124))), (a 61, .inl (cy 4, 5, .inr (.inr (.inr (.inr f4))))), (a 130, .inl (cy 0, 5, .inl (T.2.2.1 130))), (a 131, .inl (cy 0, 5, .inl (T.2.2.1 131))), (a 132, .inl (cy 0, 5, .inl (T.2.2.1 132))), (a 133, .inl (cy 0, 5, .inl (T.2.2.1 133))), (a 134, .inl (cy 0, 5, .inl (T.2.2.1 134))), (a 62, .inl (cy 0, 10, .inl (T.2.2.1 62))), (a 204, .inr (4, CO_parting a T)), (a 65, .inl (cy 1, 10, .inr (.inl (T.2.2.2 65)))), (a 66, .inl (cy 1, 10, .inr (.inl (T.2.2.2 66))))]
def C6 (cy : Nat → ClassId) (a : Nat → Nat) (T : MS) : va_W := [(a 202, .inr (2, CO_custom a T)), (a 71, .inl (cy 2, 8, .inl (T.2.2.1 71))), (a 72, .inl (cy 0, 8, .inl (T.2.2.1 72))), (a 73, .inl (cy 0, 32, .inl (T.2.2.1 73))), (a 74, .inl (cy 0, 32, .inl (T.2.2.1 74))), (a 75, .inl (cy 0, 32, .inl (T.2.2.1 75)))]
def D6 (cy : Nat → ClassId) (a : Nat → Nat) (T : MS) : va_W := [(a 212, .inr (2, CO_draft a T)), (a 81, .inl (cy 2, 8, .inl (T.2.2.1 81))), (a 82, .inl (cy 0, 8, .inl (T.2.2.1 82))), (a 83, .inl (cy 0, 32, .inl (T.2.2.1 83))), (a 84, .inl (cy 0, 32, .inl (T.2.2.1 84))), (a 85, .inl (cy 0, 32, .inl (T.2.2.1 85)))]
theorem swpk {n : Nat} (h : (86 ≤ n ∧ n < 202)) : swp n = n := by
  unfold swp
  rw [if_neg (by omega), if_neg (by omega), if_neg (by omega), if_neg (by omega)]
theorem swf (a : Nat → Nat) (N b : Nat) (hb : 86 ≤ b) (hN : b + N ≤ 202) : (fun i => if i < N then some (a (swp (b + i))) else none) = (fun i => if i < N then some (a (b + i)) else none) := by
  funext i
  split
  · rw [swpk (by omega)]
  · rfl
theorem cw_new (cy : Nat → ClassId) (a : Nat → Nat) (T : MS) (B : List BL) : CW cy (fun n => a (swp n)) (swT T) B = (a 200, .inr (8, ((CO_main a T).set 12 (.ref (a 212))).set 13 (.ref (a 202)))) :: (CX cy a T (fun i => if i < 10 then some (a (swp (100 + i))) else none) (fun i => if i < 10 then some (a (swp (110 + i))) else none) (fun i => if i < 5 then some (a (swp (120 + i))) else none) (fun i => if i < 5 then some (a (swp (130 + i))) else none) (bref B) ++ (D6 cy a T ++ (C6 cy a T ++ bcells cy B))) := rfl
theorem cw_old (cy : Nat → ClassId) (a : Nat → Nat) (T : MS) (B : List BL) : (((CW cy a T B).set 0 (a 200, .inr (8, (CO_main a T).set 12 (.ref (a 212))))).set 0 (a 200, .inr (8, ((CO_main a T).set 12 (.ref (a 212))).set 13 (.ref (a 202))))) = (a 200, .inr (8, ((CO_main a T).set 12 (.ref (a 212))).set 13 (.ref (a 202)))) :: (CX cy a T (fun i => if i < 10 then some (a (100 + i)) else none) (fun i => if i < 10 then some (a (110 + i)) else none) (fun i => if i < 5 then some (a (120 + i)) else none) (fun i => if i < 5 then some (a (130 + i)) else none) (bref B) ++ (C6 cy a T ++ (D6 cy a T ++ bcells cy B))) := rfl
/-- custom and draft have changed places: the same cells, in another order and by other numbers -/
theorem cw_swap (cy : Nat → ClassId) (a : Nat → Nat) (T : MS) (B : List BL) : (CW cy (fun n => a (swp n)) (swT T) B).Perm (((CW cy a T B).set 0 (a 200, .inr (8, (CO_main a T).set 12 (.ref (a 212))))).set 0 (a 200, .inr (8, ((CO_main a T).set 12 (.ref (a 212))).set 13 (.ref (a 202))))) := by
  rw [cw_new, cw_old, swf a 10 100 (by omega) (by omega), swf a 10 110 (by omega) (by omega), swf a 5 120 (by omega) (by omega), swf a 5 130 (by omega) (by omega)]
  exact List.Perm.cons _ (List.Perm.append_left _ (List.perm_append_comm_assoc _ _ _))
/-- a text that is read: custom and draft change places -/
def cf_swp (T : MS) : MS := swT T
set_option maxHeartbeats 4000000 in
set_option maxRecDepth 100000 in
/-- read -/
theorem K_read0 (l : Launch) (D : va_G) (cy : Nat → ClassId) (a : Nat → Nat) (T : MS) (B : List BL) (hL : T.1 20 = 0) : Ct l D clx (tyx cy) yX8_read wsX8_read (rmC 3) 0 0 [.ref (a 200)] (CW cy a T B) (fun r9 w9 => r9 = some (.long ((0 : Int32)).toInt64) ∧ w9 = CW cy (fun n => a (swp n)) (swT (cf_endT (rt0 T) 1)) B) := by
  refine g_start (cc := cX8_read) (maxL := 3) (ret := (some .long)) (by decide) rfl (Nat.le_of_ble_eq_true rfl) (fun v w1 h => by obtain ⟨rfl, -⟩ := h; exact rfl) (fun Γ hlΓ => ?_)
  subst hlΓ
  refine g_aload_n (i := 0) dX8_read_0 rfl rfl ?_
  refine g_get 0 6 dX8_read_1 (List.mem_of_getElem? (i := 1) rfl) (fun w h => List.mem_cons_of_mem _ (List.mem_append_left _ (List.mem_append_left _ (List.mem_append_right _ h)))) (cO_main _ _ _ _) rfl (by decide) rfl ?_
  refine g_aload_n (i := 0) dX8_read_4 rfl rfl ?_
  refine g_get 0 13 dX8_read_5 (List.mem_of_getElem? (i := 2) rfl) (fun w h => List.mem_cons_of_mem _ (List.mem_append_left _ (List.mem_append_left _ (List.mem_append_right _ h)))) (cO_main _ _ _ _) rfl (by decide) rfl ?_
  refine g_callVf 1 7 gX8_read_X3_readText rfl rfl rfl ⟨Nat.le_of_ble_eq_true rfl, Nat.le_of_ble_eq_true rfl⟩ ⟨Nat.le_of_ble_eq_true rfl, Nat.le_of_ble_eq_true rfl⟩ (by exact Nat.le_of_ble_eq_true rfl) (by decide +kernel) rfl (cO_reader _ _ _ _) rfl dX8_read_8 (K_rt0 _ D cy a _ _ hL) rfl (fun vu_1 wu_1 hu_1 => ?_)
  rcases hu_1 with ⟨rfl, hu_1, rfl⟩ | ⟨rfl, hu_1, rfl⟩
  · skip
    refine g_istore_n (i := 1) dX8_read_11 rfl (by decide) ?_
    refine g_aload_n (i := 0) dX8_read_12 rfl rfl ?_
    refine g_get 0 6 dX8_read_13 (List.mem_of_getElem? (i := 1) rfl) (fun w h => List.mem_cons_of_mem _ (List.mem_append_left _ (List.mem_append_left _ (List.mem_append_right _ h)))) (cO_main _ _ _ _) rfl (by decide) rfl ?_
    refine g_iload_n (i := 1) dX8_read_16 rfl rfl ?_
    refine g_callVf 1 7 gX8_read_X3_endText rfl rfl rfl ⟨Nat.le_of_ble_eq_true rfl, Nat.le_of_ble_eq_true rfl⟩ ⟨Nat.le_of_ble_eq_true rfl, Nat.le_of_ble_eq_true rfl⟩ (by exact Nat.le_of_ble_eq_true rfl) (by decide +kernel) rfl (cO_reader _ _ _ _) rfl dX8_read_17 (K_endText _ D cy a _ _ _) rfl (fun vu_2 wu_2 hu_2 => ?_)
    obtain ⟨rfl, rfl⟩ := hu_2
    refine g_iload_n (i := 1) dX8_read_20 rfl rfl ?_
    refine g_if_ne 31 dX8_read_21 (by decide) (fun _ => ?_) (fun h9 => absurd h9 (by decide))
    refine g_aload_n (i := 0) dX8_read_31 rfl rfl ?_
    refine g_get 0 12 dX8_read_32 (List.mem_of_getElem? (i := 3) rfl) (fun w h => List.mem_cons_of_mem _ (List.mem_append_left _ (List.mem_append_left _ (List.mem_append_right _ h)))) (cO_main _ _ _ _) rfl (by decide) rfl ?_
    refine g_astore_n (i := 2) dX8_read_35 rfl (by decide) ?_
    refine g_aload_n (i := 0) dX8_read_36 rfl rfl ?_
    refine g_aload_n (i := 0) dX8_read_37 rfl rfl ?_
    refine g_get 0 13 dX8_read_38 (List.mem_of_getElem? (i := 2) rfl) (fun w h => List.mem_cons_of_mem _ (List.mem_append_left _ (List.mem_append_left _ (List.mem_append_right _ h)))) (cO_main _ _ _ _) rfl (by decide) rfl ?_
    refine g_put 0 12 ((CW cy a (cf_endT (rt0 T) 1) B).set 0 (a 200, .inr (8, (CO_main a (cf_endT (rt0 T) 1)).set 12 (.ref (a 212))))) tyX8 tyX8_ok nmX8 dX8_read_41 (List.mem_of_getElem? (i := 3) rfl) (fun w h => List.mem_cons_of_mem _ (List.mem_append_left _ (List.mem_append_left _ (List.mem_append_right _ h)))) (cO_main _ _ _ _) rfl (by decide) rfl (tyX8_ok 12 (by decide)) rfl rfl (Nat.le_of_ble_eq_true rfl) rfl ?_
    refine g_aload_n (i := 0) dX8_read_44 rfl rfl ?_
    refine g_aload_n (i := 2) dX8_read_45 rfl rfl ?_
    refine g_put (ci := 8) (fs := (CO_main a (cf_endT (rt0 T) 1)).set 12 (.ref (a 212))) 0 13 (((CW cy a (cf_endT (rt0 T) 1) B).set 0 (a 200, .inr (8, (CO_main a (cf_endT (rt0 T) 1)).set 12 (.ref (a 212))))).set 0 (a 200, .inr (8, ((CO_main a (cf_endT (rt0 T) 1)).set 12 (.ref (a 212))).set 13 (.ref (a 202))))) tyX8 tyX8_ok nmX8 dX8_read_46 (List.mem_of_getElem? (i := 2) rfl) (fun w h => List.mem_cons_of_mem _ (List.mem_append_left _ (List.mem_append_left _ (List.mem_append_right _ h)))) rfl rfl (by decide) rfl (tyX8_ok 13 (by decide)) rfl rfl (Nat.le_of_ble_eq_true rfl) rfl ?_
    refine g_perm (CW cy (fun n => a (swp n)) (swT (cf_endT (rt0 T) 1)) B) (cw_swap cy a (cf_endT (rt0 T) 1) B) ?_
    refine g_aload_n (i := 0) dX8_read_49 rfl rfl ?_
    refine g_get 0 12 dX8_read_50 (List.mem_of_getElem? (i := 3) rfl) (fun w h => List.mem_cons_of_mem _ (List.mem_append_left _ (List.mem_append_left _ (List.mem_append_right _ h)))) (cO_main cy (fun n => a (swp n)) _ _) rfl (by decide) rfl ?_
    refine g_get 59 0 dX8_read_53 (List.mem_of_getElem? (i := 4) rfl) (fun w h => List.mem_cons_of_mem _ (List.mem_append_left _ (List.mem_append_right _ h))) (cO_custom cy (fun n => a (swp n)) _ _) rfl (by decide) rfl ?_
    refine g_i2l dX8_read_56 ?_
    refine g_lret dX8_read_57 ?_
    exact ⟨rfl, rfl⟩
  · skip
    exact absurd hu_1 id

