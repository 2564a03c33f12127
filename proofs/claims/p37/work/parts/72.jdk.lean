theorem sLen_b : ∀ i, i < 9 → sLen.getD i 0 ≤ 6 ∧ nI (sLen.getD i 0) >>> ((0 : Int32) &&& 31) = nI (sLen.getD i 0) := by decide +kernel
/-- the char at k -/
def sCh (i k : Nat) : Int32 := (sByt.getD i []).getD k 0
theorem sCh_b : ∀ i, i < 9 → ∀ k, k < 6 → (((sByt.getD i []).getD k 0 &&& 255).toUInt32 % 65536).toInt32 = sCh i k ∧ narrow .char (.int (sCh i k)) = .int (sCh i k) := by decide +kernel

set_option maxHeartbeats 4000000 in
theorem J_coder {D : va_G} {cl : List vw_C} {tys : List (ClassId × FieldType)} {l : Launch} {adK adV : Nat → Nat} (i : Nat) (hi : i < 9) : CtS (sE adK adV) l D cl tys yJ0_coder_7d493 wsJ0_coder_7d493 (rmC 0) 0 0 [.ref (adK i)] [] (fun v w => v = some (.int 0) ∧ w = []) := by
  refine g_startS (cc := cJ0_coder_7d493) (maxL := 1) (ret := (some .byte)) (by decide) rfl (Nat.le_of_ble_eq_true rfl) (fun v w1 h => by obtain ⟨rfl, -⟩ := h; exact ⟨.byte, rfl, rfl⟩) (fun Γ hlΓ hE9 => ?_)
  subst hlΓ
  have hEh : sE adK adV (sAp Γ) (gSt Γ) (gSt Γ).heap := by have h9 := hE9.1; rw [hE9.2] at h9; exact h9
  refine g_gets hEh.2.2.1 hE9.2 (List.mem_of_getElem? (i := 1) rfl) dJ0_coder_7d493_0 ?_
  refine g_if_eq 13 dJ0_coder_7d493_3 (by decide) (fun h9 => absurd h9 (by decide)) (fun _ => ?_)
  refine g_aload_n (i := 0) dJ0_coder_7d493_6 rfl rfl ?_
  refine g_getS (hEh.1.1 i hi).2.1 hE9.2 (List.mem_of_getElem? (i := 2) rfl) dJ0_coder_7d493_7 ?_
  refine g_goto 14 dJ0_coder_7d493_10 (by decide) ?_
  refine g_iret dJ0_coder_7d493_14 ?_
  exact ⟨rfl, rfl⟩

set_option maxHeartbeats 4000000 in
theorem J_isLatin1 {D : va_G} {cl : List vw_C} {tys : List (ClassId × FieldType)} {l : Launch} {adK adV : Nat → Nat} (i : Nat) (hi : i < 9) : CtS (sE adK adV) l D cl tys yJ0_isLatin1_aae02 wsJ0_isLatin1_aae02 (rmC 0) 0 0 [.ref (adK i)] [] (fun v w => v = some (.int 1) ∧ w = []) := by
  refine g_startS (cc := cJ0_isLatin1_aae02) (maxL := 1) (ret := (some .boolean)) (by decide) rfl (Nat.le_of_ble_eq_true rfl) (fun v w1 h => by obtain ⟨rfl, -⟩ := h; exact ⟨.boolean, rfl, rfl⟩) (fun Γ hlΓ hE9 => ?_)
  subst hlΓ
  have hEh : sE adK adV (sAp Γ) (gSt Γ) (gSt Γ).heap := by have h9 := hE9.1; rw [hE9.2] at h9; exact h9
  refine g_gets hEh.2.2.1 hE9.2 (List.mem_of_getElem? (i := 1) rfl) dJ0_isLatin1_aae02_0 ?_
  refine g_if_eq 17 dJ0_isLatin1_aae02_3 (by decide) (fun h9 => absurd h9 (by decide)) (fun _ => ?_)
  refine g_aload_n (i := 0) dJ0_isLatin1_aae02_6 rfl rfl ?_
  refine g_getS (hEh.1.1 i hi).2.1 hE9.2 (List.mem_of_getElem? (i := 2) rfl) dJ0_isLatin1_aae02_7 ?_
  refine g_if_ne 17 dJ0_isLatin1_aae02_10 (by decide) (fun h9 => absurd rfl h9) (fun _ => ?_)
  refine g_iconst 1 rfl dJ0_isLatin1_aae02_13 ?_
  refine g_goto 18 dJ0_isLatin1_aae02_14 (by decide) ?_
  refine g_iret dJ0_isLatin1_aae02_18 ?_
  exact ⟨rfl, rfl⟩

set_option maxHeartbeats 4000000 in
theorem J_length {D : va_G} {cl : List vw_C} {tys : List (ClassId × FieldType)} {l : Launch} {adK adV : Nat → Nat} (i : Nat) (hi : i < 9) : CtS (sE adK adV) l D cl tys yJ0_length_8abf5 wsJ0_length_8abf5 (rmC 1) 0 0 [.ref (adK i)] [] (fun v w => v = some (.int (nI (sLen.getD i 0))) ∧ w = []) := by
  refine g_startS (cc := cJ0_length_8abf5) (maxL := 1) (ret := (some .int)) (by decide) rfl (Nat.le_of_ble_eq_true rfl) (fun v w1 h => by obtain ⟨rfl, -⟩ := h; exact ⟨.int, rfl, rfl⟩) (fun Γ hlΓ hE9 => ?_)
  subst hlΓ
  have hEh : sE adK adV (sAp Γ) (gSt Γ) (gSt Γ).heap := by have h9 := hE9.1; rw [hE9.2] at h9; exact h9
  refine g_aload_n (i := 0) dJ0_length_8abf5_0 rfl rfl ?_
  refine g_getS (hEh.1.1 i hi).2.2.1 hE9.2 (List.mem_of_getElem? (i := 1) rfl) dJ0_length_8abf5_1 ?_
  refine g_tlen (hEh.1.1 i hi).2.2.2 hE9.2 dJ0_length_8abf5_4 ?_
  refine g_aload_n (i := 0) dJ0_length_8abf5_5 rfl rfl ?_
  refine g_callJ 0 (sE_keep adK adV) hE9 gJ0_length_8abf5_J0_coder_7d493 rfl rfl rfl ⟨Nat.le_of_ble_eq_true rfl, Nat.le_of_ble_eq_true rfl⟩ ⟨Nat.le_of_ble_eq_true rfl, Nat.le_of_ble_eq_true rfl⟩ (by exact Nat.le_of_ble_eq_true rfl) (by decide +kernel) rfl (sE_rec hE9 hi) dJ0_length_8abf5_6 (J_coder i hi) rfl ?_
  refine g_ishr dJ0_length_8abf5_9 ?_
  refine g_iret dJ0_length_8abf5_10 ?_
  exact ⟨by rw [(sLen_b i hi).2], rfl⟩

set_option maxHeartbeats 4000000 in
theorem J_preR {D : va_G} {cl : List vw_C} {tys : List (ClassId × FieldType)} {l : Launch} {adK adV : Nat → Nat} (k N : Nat) (hk : k < N) (hN : N < 2 ^ 31) (t : Nat) : CtS (sE adK adV) l D cl tys yJ3_checkIndex_8e157 wsJ3_checkIndex_8e157 (rmC 0) 0 0 [.int (nI k), .int (nI N), .ref t] [] (fun v w => v = some (.int (nI k)) ∧ w = []) := by
  refine g_startS (cc := cJ3_checkIndex_8e157) (maxL := 3) (ret := (some .int)) (by decide) rfl (Nat.le_of_ble_eq_true rfl) (fun v w1 h => by obtain ⟨rfl, -⟩ := h; exact ⟨.int, rfl, rfl⟩) (fun Γ hlΓ hE9 => ?_)
  subst hlΓ
  have hEh : sE adK adV (sAp Γ) (gSt Γ) (gSt Γ).heap := by have h9 := hE9.1; rw [hE9.2] at h9; exact h9
  refine g_iload_n (i := 0) dJ3_checkIndex_8e157_0 rfl rfl ?_
  refine g_if_lt 9 dJ3_checkIndex_8e157_1 (by decide) (fun h9 => absurd h9 (nI_pos (by omega))) (fun _ => ?_)
  refine g_iload_n (i := 0) dJ3_checkIndex_8e157_4 rfl rfl ?_
  refine g_iload_n (i := 1) dJ3_checkIndex_8e157_5 rfl rfl ?_
  refine g_icmp_lt 16 dJ3_checkIndex_8e157_6 (by decide) (fun _ => ?_) (fun h9 => absurd (nI_lt hk hN) h9)
  refine g_iload_n (i := 0) dJ3_checkIndex_8e157_16 rfl rfl ?_
  refine g_iret dJ3_checkIndex_8e157_17 ?_
  exact ⟨rfl, rfl⟩

set_option maxHeartbeats 4000000 in
theorem J_preN {D : va_G} {cl : List vw_C} {tys : List (ClassId × FieldType)} {l : Launch} {adK adV : Nat → Nat} (k N : Nat) (hk : k < N) (hN : N < 2 ^ 31) : CtS (sE adK adV) l D cl tys yJ3_checkIndex_8e157 wsJ3_checkIndex_8e157 (rmC 0) 0 0 [.int (nI k), .int (nI N), .null] [] (fun v w => v = some (.int (nI k)) ∧ w = []) := by
  refine g_startS (cc := cJ3_checkIndex_8e157) (maxL := 3) (ret := (some .int)) (by decide) rfl (Nat.le_of_ble_eq_true rfl) (fun v w1 h => by obtain ⟨rfl, -⟩ := h; exact ⟨.int, rfl, rfl⟩) (fun Γ hlΓ hE9 => ?_)
  subst hlΓ
  have hEh : sE adK adV (sAp Γ) (gSt Γ) (gSt Γ).heap := by have h9 := hE9.1; rw [hE9.2] at h9; exact h9
  refine g_iload_n (i := 0) dJ3_checkIndex_8e157_0 rfl rfl ?_
  refine g_if_lt 9 dJ3_checkIndex_8e157_1 (by decide) (fun h9 => absurd h9 (nI_pos (by omega))) (fun _ => ?_)
  refine g_iload_n (i := 0) dJ3_checkIndex_8e157_4 rfl rfl ?_
  refine g_iload_n (i := 1) dJ3_checkIndex_8e157_5 rfl rfl ?_
  refine g_icmp_lt 16 dJ3_checkIndex_8e157_6 (by decide) (fun _ => ?_) (fun h9 => absurd (nI_lt hk hN) h9)
  refine g_iload_n (i := 0) dJ3_checkIndex_8e157_16 rfl rfl ?_
  refine g_iret dJ3_checkIndex_8e157_17 ?_
  exact ⟨rfl, rfl⟩

set_option maxHeartbeats 4000000 in
theorem J_chk {D : va_G} {cl : List vw_C} {tys : List (ClassId × FieldType)} {l : Launch} {adK adV : Nat → Nat} (k N : Nat) (hk : k < N) (hN : N < 2 ^ 31) : CtS (sE adK adV) l D cl tys yJ0_checkIndex_df160 wsJ0_checkIndex_df160 (rmC 1) 0 0 [.int (nI k), .int (nI N)] [] (fun v w => v = none ∧ w = []) := by
  refine g_startS (cc := cJ0_checkIndex_df160) (maxL := 2) (ret := none) (by decide) rfl (Nat.le_of_ble_eq_true rfl) (fun v w1 h => by obtain ⟨rfl, -⟩ := h; exact rfl) (fun Γ hlΓ hE9 => ?_)
  subst hlΓ
  have hEh : sE adK adV (sAp Γ) (gSt Γ) (gSt Γ).heap := by have h9 := hE9.1; rw [hE9.2] at h9; exact h9
  refine g_iload_n (i := 0) dJ0_checkIndex_df160_0 rfl rfl ?_
  refine g_iload_n (i := 1) dJ0_checkIndex_df160_1 rfl rfl ?_
  rcases hEh.2.2.2 with hz | ⟨t, hz⟩
  · refine g_gets hz hE9.2 (List.mem_of_getElem? (i := 1) rfl) dJ0_checkIndex_df160_2 ?_
    refine g_callJS 3 (sE_keep adK adV) hE9 gJ0_checkIndex_df160_J3_checkIndex_8e157 rfl rfl rfl ⟨Nat.le_of_ble_eq_true rfl, Nat.le_of_ble_eq_true rfl⟩ ⟨Nat.le_of_ble_eq_true rfl, Nat.le_of_ble_eq_true rfl⟩ (by exact Nat.le_of_ble_eq_true rfl) (by decide +kernel) rfl dJ0_checkIndex_df160_5 (J_preN k N hk hN) rfl ?_
    refine g_pop rfl dJ0_checkIndex_df160_8 ?_
    refine g_vret dJ0_checkIndex_df160_9 ?_
    exact ⟨rfl, rfl⟩
  · refine g_gets hz hE9.2 (List.mem_of_getElem? (i := 1) rfl) dJ0_checkIndex_df160_2 ?_
    refine g_callJS 3 (sE_keep adK adV) hE9 gJ0_checkIndex_df160_J3_checkIndex_8e157 rfl rfl rfl ⟨Nat.le_of_ble_eq_true rfl, Nat.le_of_ble_eq_true rfl⟩ ⟨Nat.le_of_ble_eq_true rfl, Nat.le_of_ble_eq_true rfl⟩ (by exact Nat.le_of_ble_eq_true rfl) (by decide +kernel) rfl dJ0_checkIndex_df160_5 (J_preR k N hk hN t) rfl ?_
    refine g_pop rfl dJ0_checkIndex_df160_8 ?_
    refine g_vret dJ0_checkIndex_df160_9 ?_
    exact ⟨rfl, rfl⟩

set_option maxHeartbeats 4000000 in
theorem J_latin {D : va_G} {cl : List vw_C} {tys : List (ClassId × FieldType)} {l : Launch} {adK adV : Nat → Nat} (i k : Nat) (hi : i < 9) (hk : k < sLen.getD i 0) : CtS (sE adK adV) l D cl tys yJ1_charAt_3b067 wsJ1_charAt_3b067 (rmC 2) 0 0 [.ref (adV i), .int (nI k)] [] (fun v w => v = some (.int (sCh i k)) ∧ w = []) := by
  refine g_startS (cc := cJ1_charAt_3b067) (maxL := 2) (ret := (some .char)) (by decide) rfl (Nat.le_of_ble_eq_true rfl) (fun v w1 h => by obtain ⟨rfl, -⟩ := h; exact ⟨.char, rfl, (sCh_b i hi k (by have := (sLen_b i hi).1; omega)).2⟩) (fun Γ hlΓ hE9 => ?_)
  subst hlΓ
  have hEh : sE adK adV (sAp Γ) (gSt Γ) (gSt Γ).heap := by have h9 := hE9.1; rw [hE9.2] at h9; exact h9
  have hb9 := (sLen_b i hi).1
  have hc9 := sCh_b i hi k (by omega)
  refine g_iload_n (i := 1) dJ1_charAt_3b067_0 rfl rfl ?_
  refine g_aload_n (i := 0) dJ1_charAt_3b067_1 rfl rfl ?_
  refine g_tlen (hEh.1.1 i hi).2.2.2 hE9.2 dJ1_charAt_3b067_2 ?_
  refine g_callJS 2 (sE_keep adK adV) hE9 gJ1_charAt_3b067_J0_checkIndex_df160 rfl rfl rfl ⟨Nat.le_of_ble_eq_true rfl, Nat.le_of_ble_eq_true rfl⟩ ⟨Nat.le_of_ble_eq_true rfl, Nat.le_of_ble_eq_true rfl⟩ (by exact Nat.le_of_ble_eq_true rfl) (by decide +kernel) rfl dJ1_charAt_3b067_3 (J_chk k (sLen.getD i 0) hk (by omega)) rfl ?_
  refine g_aload_n (i := 0) dJ1_charAt_3b067_6 rfl rfl ?_
  refine g_iload_n (i := 1) dJ1_charAt_3b067_7 rfl rfl ?_
  refine g_tb (v := .int ((sByt.getD i []).getD k 0)) (hEh.1.1 i hi).2.2.2 hE9.2 (vp_in_nI hk (by omega)) (by rw [nI_clamp (by omega)]) dJ1_charAt_3b067_8 ?_
  refine g_sipush 255 rfl dJ1_charAt_3b067_9 ?_
  refine g_iand dJ1_charAt_3b067_12 ?_
  refine g_i2c dJ1_charAt_3b067_13 ?_
  refine g_iret dJ1_charAt_3b067_14 ?_
  exact ⟨by rw [hc9.1], rfl⟩

set_option maxHeartbeats 4000000 in
theorem J_charAt {D : va_G} {cl : List vw_C} {tys : List (ClassId × FieldType)} {l : Launch} {adK adV : Nat → Nat} (i k : Nat) (hi : i < 9) (hk : k < sLen.getD i 0) : CtS (sE adK adV) l D cl tys yJ0_charAt_5068e wsJ0_charAt_5068e (rmC 3) 0 0 [.ref (adK i), .int (nI k)] [] (fun v w => v = some (.int (sCh i k)) ∧ w = []) := by
  refine g_startS (cc := cJ0_charAt_5068e) (maxL := 2) (ret := (some .char)) (by decide) rfl (Nat.le_of_ble_eq_true rfl) (fun v w1 h => by obtain ⟨rfl, -⟩ := h; exact ⟨.char, rfl, (sCh_b i hi k (by have := (sLen_b i hi).1; omega)).2⟩) (fun Γ hlΓ hE9 => ?_)
  subst hlΓ
  have hEh : sE adK adV (sAp Γ) (gSt Γ) (gSt Γ).heap := by have h9 := hE9.1; rw [hE9.2] at h9; exact h9
  refine g_aload_n (i := 0) dJ0_charAt_5068e_0 rfl rfl ?_
  refine g_callJ 0 (sE_keep adK adV) hE9 gJ0_charAt_5068e_J0_isLatin1_aae02 rfl rfl rfl ⟨Nat.le_of_ble_eq_true rfl, Nat.le_of_ble_eq_true rfl⟩ ⟨Nat.le_of_ble_eq_true rfl, Nat.le_of_ble_eq_true rfl⟩ (by exact Nat.le_of_ble_eq_true rfl) (by decide +kernel) rfl (sE_rec hE9 hi) dJ0_charAt_5068e_1 (J_isLatin1 i hi) rfl ?_
  refine g_if_eq 16 dJ0_charAt_5068e_4 (by decide) (fun h9 => absurd h9 (by decide)) (fun _ => ?_)
  refine g_aload_n (i := 0) dJ0_charAt_5068e_7 rfl rfl ?_
  refine g_getS (hEh.1.1 i hi).2.2.1 hE9.2 (List.mem_of_getElem? (i := 1) rfl) dJ0_charAt_5068e_8 ?_
  refine g_iload_n (i := 1) dJ0_charAt_5068e_11 rfl rfl ?_
  refine g_callJS 2 (sE_keep adK adV) hE9 gJ0_charAt_5068e_J1_charAt_3b067 rfl rfl rfl ⟨Nat.le_of_ble_eq_true rfl, Nat.le_of_ble_eq_true rfl⟩ ⟨Nat.le_of_ble_eq_true rfl, Nat.le_of_ble_eq_true rfl⟩ (by exact Nat.le_of_ble_eq_true rfl) (by decide +kernel) rfl dJ0_charAt_5068e_12 (J_latin i k hi hk) rfl ?_
  refine g_iret dJ0_charAt_5068e_15 ?_
  exact ⟨rfl, rfl⟩

