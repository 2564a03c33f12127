/-- a bill: its addresses (0 itself, 8 endorsers, 9 began), its ints by the slot, its two rows -/
abbrev BL : Type := (Nat → Nat) × (Nat → Int32) × (Nat → Nat → Int32)
def BO (b : BL) : List Value := [.int (b.2.1 0), .int (b.2.1 1), .int (b.2.1 2), .int (b.2.1 3), .int (b.2.1 4), .int (b.2.1 5), .int (b.2.1 6), .int (b.2.1 7), .ref (b.1 8), .ref (b.1 9)]
def bcs (cy : Nat → ClassId) (b : BL) : va_W := [(b.1 0, .inr (0, BO b)), (b.1 8, .inl (cy 0, 4, .inl (b.2.2 8))), (b.1 9, .inl (cy 0, 5, .inl (b.2.2 9)))]
def bcells (cy : Nat → ClassId) : List BL → va_W
  | [] => []
  | b :: B => bcs cy b ++ bcells cy B
def bref (B : List BL) : Nat → Option Nat := fun i => (B[i]?).map (fun b => b.1 0)
def CO_main (a : Nat → Nat) (T : MS) : List Value := [.ref (a 0), .ref (a 1), .ref (a 2), .ref (a 3), .ref (a 4), .ref (a 5), .ref (a 203), .ref (a 201), .ref (a 205), .ref (a 206), .ref (a 207), .ref (a 204), .ref (a 202), .ref (a 212), .int (T.1 14), .int (T.1 15), .int (T.1 16), .int (T.1 17)]
def CO_reader (a : Nat → Nat) (T : MS) : List Value := [.int (T.1 20), .int (T.1 21), .ref (a 22), .int (T.1 23), .int (T.1 24), .int (T.1 25), .int (T.1 26)]
def CO_book (a : Nat → Nat) (T : MS) : List Value := [.long (T.2.1 30), .ref (a 31)]
def CO_plan (a : Nat → Nat) (T : MS) : List Value := [.int (T.1 40), .int (T.1 41), .ref (a 42), .ref (a 43), .ref (a 44), .ref (a 45), .ref (a 46), .ref (a 47), .ref (a 48), .int (T.1 49), .long (T.2.1 50)]
def CO_purses (a : Nat → Nat) (T : MS) : List Value := [.ref (a 55), .ref (a 56)]
def CO_rates (a : Nat → Nat) (T : MS) : List Value := [.ref (a 60), .ref (a 61), .ref (a 62)]
def CO_parting (a : Nat → Nat) (T : MS) : List Value := [.ref (a 65), .ref (a 66)]
def CO_custom (a : Nat → Nat) (T : MS) : List Value := [.int (T.1 70), .ref (a 71), .ref (a 72), .ref (a 73), .ref (a 74), .ref (a 75)]
def CO_draft (a : Nat → Nat) (T : MS) : List Value := [.int (T.1 80), .ref (a 81), .ref (a 82), .ref (a 83), .ref (a 84), .ref (a 85)]
/-- the cells of the class: its object, its parts and rows, then three cells a bill -/
def CW (cy : Nat → ClassId) (a : Nat → Nat) (T : MS) (B : List BL) : va_W := (a 200, .inr (8, CO_main a T)) :: (a 0, .inl (cy 1, 8, .inr (.inl (T.2.2.2 0)))) :: (a 1, .inl (cy 0, 5, .inl (T.2.2.1 1))) :: (a 2, .inl (cy 0, 10, .inl (T.2.2.1 2))) :: (a 3, .inl (cy 3, 40, .inr (.inr (.inr (.inr (bref B)))))) :: (a 4, .inl (cy 0, 5, .inl (T.2.2.1 4))) :: (a 5, .inl (cy 0, 30, .inl (T.2.2.1 5))) :: (a 203, .inr (3, CO_reader a T)) :: (a 22, .inl (cy 0, 400, .inl (T.2.2.1 22))) :: (a 201, .inr (1, CO_book a T)) :: (a 31, .inl (cy 5, 10, .inr (.inr (.inr (.inr (fun i => if i < 10 then some (a (100 + i)) else none)))))) :: (a 100, .inl (cy 1, 10, .inr (.inl (T.2.2.2 100)))) :: (a 101, .inl (cy 1, 10, .inr (.inl (T.2.2.2 101)))) :: (a 102, .inl (cy 1, 10, .inr (.inl (T.2.2.2 102)))) :: (a 103, .inl (cy 1, 10, .inr (.inl (T.2.2.2 103)))) :: (a 104, .inl (cy 1, 10, .inr (.inl (T.2.2.2 104)))) :: (a 105, .inl (cy 1, 10, .inr (.inl (T.2.2.2 105)))) :: (a 106, .inl (cy 1, 10, .inr (.inl (T.2.2.2 106)))) :: (a 107, .inl (cy 1, 10, .inr (.inl (T.2.2.2 107)))) :: (a 108, .inl (cy 1, 10, .inr (.inl (T.2.2.2 108)))) :: (a 109, .inl (cy 1, 10, .inr (.inl (T.2.2.2 109)))) :: (a 205, .inr (5, CO_plan a T)) :: (a 42, .inl (cy 1, 10, .inr (.inl (T.2.2.2 42)))) :: (a 43, .inl (cy 1, 1024, .inr (.inl (T.2.2.2 43)))) :: (a 44, .inl (cy 0, 1024, .inl (T.2.2.1 44))) :: (a 45, .inl (cy 0, 1024, .inl (T.2.2.1 45))) :: (a 46, .inl (cy 0, 10, .inl (T.2.2.1 46))) :: (a 47, .inl (cy 0, 10, .inl (T.2.2.1 47))) :: (a 48, .inl (cy 1, 10, .inr (.inl (T.2.2.2 48)))) :: (a 206, .inr (6, CO_purses a T)) :: (a 55, .inl (cy 0, 4, .inl (T.2.2.1 55))) :: (a 56, .inl (cy 4, 10, .inr (.inr (.inr (.inr (fun i => if i < 10 then some (a (110 + i)) else none)))))) :: (a 110, .inl (cy 0, 4, .inl (T.2.2.1 110))) :: (a 111, .inl (cy 0, 4, .inl (T.2.2.1 111))) :: (a 112, .inl (cy 0, 4, .inl (T.2.2.1 112))) :: (a 113, .inl (cy 0, 4, .inl (T.2.2.1 113))) :: (a 114, .inl (cy 0, 4, .inl (T.2.2.1 114))) :: (a 115, .inl (cy 0, 4, .inl (T.2.2.1 115))) :: (a 116, .inl (cy 0, 4, .inl (T.2.2.1 116))) :: (a 117, .inl (cy 0, 4, .inl (T.2.2.1 117))) :: (a 118, .inl (cy 0, 4, .inl (T.2.2.1 118))) :: (a 119, .inl (cy 0, 4, .inl (T.2.2.1 119))) :: (a 207, .inr (7, CO_rates a T)) :: (a 60, .inl (cy 4, 5, .inr (.inr (.inr (.inr (fun i => if i < 5 then some (a (120 + i)) else none)))))) :: (a 120, .inl (cy 0, 10, .inl (T.2.2.1 120))) :: (a 121, .inl (cy 0, 10, .inl (T.2.2.1 121))) :: (a 122, .inl (cy 0, 10, .inl (T.2.2.1 122))) :: (a 123, .inl (cy 0, 10, .inl (T.2.2.1 123))) :: (a 124, .inl (cy 0, 10, .inl (T.2.2.1 124))) :: (a 61, .inl (cy 4, 5, .inr (.inr (.inr (.inr (fun i => if i < 5 then some (a (130 + i)) else none)))))) :: (a 130, .inl (cy 0, 5, .inl (T.2.2.1 130))) :: (a 131, .inl (cy 0, 5, .inl (T.2.2.1 131))) :: (a 132, .inl (cy 0, 5, .inl (T.2.2.1 132))) :: (a 133, .inl (cy 0, 5, .inl (T.2.2.1 133))) :: (a 134, .inl (cy 0, 5, .inl (T.2.2.1 134))) :: (a 62, .inl (cy 0, 10, .inl (T.2.2.1 62))) :: (a 204, .inr (4, CO_parting a T)) :: (a 65, .inl (cy 1, 10, .inr (.inl (T.2.2.2 65)))) :: (a 66, .inl (cy 1, 10, .inr (.inl (T.2.2.2 66)))) :: (a 202, .inr (2, CO_custom a T)) :: (a 71, .inl (cy 2, 8, .inl (T.2.2.1 71))) :: (a 72, .inl (cy 0, 8, .inl (T.2.2.1 72))) :: (a 73, .inl (cy 0, 32, .inl (T.2.2.1 73))) :: (a 74, .inl (cy 0, 32, .inl (T.2.2.1 74))) :: (a 75, .inl (cy 0, 32, .inl (T.2.2.1 75))) :: (a 212, .inr (2, CO_draft a T)) :: (a 81, .inl (cy 2, 8, .inl (T.2.2.1 81))) :: (a 82, .inl (cy 0, 8, .inl (T.2.2.1 82))) :: (a 83, .inl (cy 0, 32, .inl (T.2.2.1 83))) :: (a 84, .inl (cy 0, 32, .inl (T.2.2.1 84))) :: (a 85, .inl (cy 0, 32, .inl (T.2.2.1 85))) :: bcells cy B
theorem cO_main (cy : Nat → ClassId) (a : Nat → Nat) (T : MS) (B : List BL) : (CW cy a T B)[0]? = some (a 200, .inr (8, CO_main a T)) := rfl
theorem cwI_14 (cy : Nat → ClassId) (a : Nat → Nat) (T : MS) (B : List BL) (v : Int32) : (CW cy a T B).set 0 (a 200, .inr (8, (CO_main a T).set 14 (.int v))) = CW cy a (sI T 14 v) B := rfl
theorem cwI_15 (cy : Nat → ClassId) (a : Nat → Nat) (T : MS) (B : List BL) (v : Int32) : (CW cy a T B).set 0 (a 200, .inr (8, (CO_main a T).set 15 (.int v))) = CW cy a (sI T 15 v) B := rfl
theorem cwI_16 (cy : Nat → ClassId) (a : Nat → Nat) (T : MS) (B : List BL) (v : Int32) : (CW cy a T B).set 0 (a 200, .inr (8, (CO_main a T).set 16 (.int v))) = CW cy a (sI T 16 v) B := rfl
theorem cwI_17 (cy : Nat → ClassId) (a : Nat → Nat) (T : MS) (B : List BL) (v : Int32) : (CW cy a T B).set 0 (a 200, .inr (8, (CO_main a T).set 17 (.int v))) = CW cy a (sI T 17 v) B := rfl
theorem cO_reader (cy : Nat → ClassId) (a : Nat → Nat) (T : MS) (B : List BL) : (CW cy a T B)[7]? = some (a 203, .inr (3, CO_reader a T)) := rfl
theorem cwI_20 (cy : Nat → ClassId) (a : Nat → Nat) (T : MS) (B : List BL) (v : Int32) : (CW cy a T B).set 7 (a 203, .inr (3, (CO_reader a T).set 0 (.int v))) = CW cy a (sI T 20 v) B := rfl
theorem cwI_21 (cy : Nat → ClassId) (a : Nat → Nat) (T : MS) (B : List BL) (v : Int32) : (CW cy a T B).set 7 (a 203, .inr (3, (CO_reader a T).set 1 (.int v))) = CW cy a (sI T 21 v) B := rfl
theorem cwI_23 (cy : Nat → ClassId) (a : Nat → Nat) (T : MS) (B : List BL) (v : Int32) : (CW cy a T B).set 7 (a 203, .inr (3, (CO_reader a T).set 3 (.int v))) = CW cy a (sI T 23 v) B := rfl
theorem cwI_24 (cy : Nat → ClassId) (a : Nat → Nat) (T : MS) (B : List BL) (v : Int32) : (CW cy a T B).set 7 (a 203, .inr (3, (CO_reader a T).set 4 (.int v))) = CW cy a (sI T 24 v) B := rfl
theorem cwI_25 (cy : Nat → ClassId) (a : Nat → Nat) (T : MS) (B : List BL) (v : Int32) : (CW cy a T B).set 7 (a 203, .inr (3, (CO_reader a T).set 5 (.int v))) = CW cy a (sI T 25 v) B := rfl
theorem cwI_26 (cy : Nat → ClassId) (a : Nat → Nat) (T : MS) (B : List BL) (v : Int32) : (CW cy a T B).set 7 (a 203, .inr (3, (CO_reader a T).set 6 (.int v))) = CW cy a (sI T 26 v) B := rfl
theorem cO_book (cy : Nat → ClassId) (a : Nat → Nat) (T : MS) (B : List BL) : (CW cy a T B)[9]? = some (a 201, .inr (1, CO_book a T)) := rfl
theorem cwI_30 (cy : Nat → ClassId) (a : Nat → Nat) (T : MS) (B : List BL) (v : Int64) : (CW cy a T B).set 9 (a 201, .inr (1, (CO_book a T).set 0 (.long v))) = CW cy a (sL T 30 v) B := rfl
theorem cO_plan (cy : Nat → ClassId) (a : Nat → Nat) (T : MS) (B : List BL) : (CW cy a T B)[21]? = some (a 205, .inr (5, CO_plan a T)) := rfl
theorem cwI_40 (cy : Nat → ClassId) (a : Nat → Nat) (T : MS) (B : List BL) (v : Int32) : (CW cy a T B).set 21 (a 205, .inr (5, (CO_plan a T).set 0 (.int v))) = CW cy a (sI T 40 v) B := rfl
theorem cwI_41 (cy : Nat → ClassId) (a : Nat → Nat) (T : MS) (B : List BL) (v : Int32) : (CW cy a T B).set 21 (a 205, .inr (5, (CO_plan a T).set 1 (.int v))) = CW cy a (sI T 41 v) B := rfl
theorem cwI_49 (cy : Nat → ClassId) (a : Nat → Nat) (T : MS) (B : List BL) (v : Int32) : (CW cy a T B).set 21 (a 205, .inr (5, (CO_plan a T).set 9 (.int v))) = CW cy a (sI T 49 v) B := rfl
theorem cwI_50 (cy : Nat → ClassId) (a : Nat → Nat) (T : MS) (B : List BL) (v : Int64) : (CW cy a T B).set 21 (a 205, .inr (5, (CO_plan a T).set 10 (.long v))) = CW cy a (sL T 50 v) B := rfl
theorem cO_purses (cy : Nat → ClassId) (a : Nat → Nat) (T : MS) (B : List BL) : (CW cy a T B)[29]? = some (a 206, .inr (6, CO_purses a T)) := rfl
theorem cO_rates (cy : Nat → ClassId) (a : Nat → Nat) (T : MS) (B : List BL) : (CW cy a T B)[42]? = some (a 207, .inr (7, CO_rates a T)) := rfl
theorem cO_parting (cy : Nat → ClassId) (a : Nat → Nat) (T : MS) (B : List BL) : (CW cy a T B)[56]? = some (a 204, .inr (4, CO_parting a T)) := rfl
theorem cO_custom (cy : Nat → ClassId) (a : Nat → Nat) (T : MS) (B : List BL) : (CW cy a T B)[59]? = some (a 202, .inr (2, CO_custom a T)) := rfl
theorem cwI_70 (cy : Nat → ClassId) (a : Nat → Nat) (T : MS) (B : List BL) (v : Int32) : (CW cy a T B).set 59 (a 202, .inr (2, (CO_custom a T).set 0 (.int v))) = CW cy a (sI T 70 v) B := rfl
theorem cO_draft (cy : Nat → ClassId) (a : Nat → Nat) (T : MS) (B : List BL) : (CW cy a T B)[65]? = some (a 212, .inr (2, CO_draft a T)) := rfl
theorem cwI_80 (cy : Nat → ClassId) (a : Nat → Nat) (T : MS) (B : List BL) (v : Int32) : (CW cy a T B).set 65 (a 212, .inr (2, (CO_draft a T).set 0 (.int v))) = CW cy a (sI T 80 v) B := rfl
theorem cA_0 (cy : Nat → ClassId) (a : Nat → Nat) (T : MS) (B : List BL) : (CW cy a T B)[1]? = some (a 0, .inl (cy 1, 8, .inr (.inl (T.2.2.2 0)))) := rfl
theorem cwA_0 (cy : Nat → ClassId) (a : Nat → Nat) (T : MS) (B : List BL) (i : Nat) (v : Int64) : (CW cy a T B).set 1 (a 0, .inl (cy 1, 8, .inr (.inl (vp_updL (T.2.2.2 0) i v)))) = CW cy a (sB T 0 i v) B := rfl
theorem cA_1 (cy : Nat → ClassId) (a : Nat → Nat) (T : MS) (B : List BL) : (CW cy a T B)[2]? = some (a 1, .inl (cy 0, 5, .inl (T.2.2.1 1))) := rfl
theorem cwA_1 (cy : Nat → ClassId) (a : Nat → Nat) (T : MS) (B : List BL) (i : Nat) (v : Int32) : (CW cy a T B).set 2 (a 1, .inl (cy 0, 5, .inl (upd (T.2.2.1 1) i v))) = CW cy a (sA T 1 i v) B := rfl
theorem cA_2 (cy : Nat → ClassId) (a : Nat → Nat) (T : MS) (B : List BL) : (CW cy a T B)[3]? = some (a 2, .inl (cy 0, 10, .inl (T.2.2.1 2))) := rfl
theorem cwA_2 (cy : Nat → ClassId) (a : Nat → Nat) (T : MS) (B : List BL) (i : Nat) (v : Int32) : (CW cy a T B).set 3 (a 2, .inl (cy 0, 10, .inl (upd (T.2.2.1 2) i v))) = CW cy a (sA T 2 i v) B := rfl
theorem cA_3 (cy : Nat → ClassId) (a : Nat → Nat) (T : MS) (B : List BL) : (CW cy a T B)[4]? = some (a 3, .inl (cy 3, 40, .inr (.inr (.inr (.inr (bref B)))))) := rfl
theorem cA_4 (cy : Nat → ClassId) (a : Nat → Nat) (T : MS) (B : List BL) : (CW cy a T B)[5]? = some (a 4, .inl (cy 0, 5, .inl (T.2.2.1 4))) := rfl
theorem cwA_4 (cy : Nat → ClassId) (a : Nat → Nat) (T : MS) (B : List BL) (i : Nat) (v : Int32) : (CW cy a T B).set 5 (a 4, .inl (cy 0, 5, .inl (upd (T.2.2.1 4) i v))) = CW cy a (sA T 4 i v) B := rfl
theorem cA_5 (cy : Nat → ClassId) (a : Nat → Nat) (T : MS) (B : List BL) : (CW cy a T B)[6]? = some (a 5, .inl (cy 0, 30, .inl (T.2.2.1 5))) := rfl
theorem cwA_5 (cy : Nat → ClassId) (a : Nat → Nat) (T : MS) (B : List BL) (i : Nat) (v : Int32) : (CW cy a T B).set 6 (a 5, .inl (cy 0, 30, .inl (upd (T.2.2.1 5) i v))) = CW cy a (sA T 5 i v) B := rfl
theorem cA_22 (cy : Nat → ClassId) (a : Nat → Nat) (T : MS) (B : List BL) : (CW cy a T B)[8]? = some (a 22, .inl (cy 0, 400, .inl (T.2.2.1 22))) := rfl
theorem cwA_22 (cy : Nat → ClassId) (a : Nat → Nat) (T : MS) (B : List BL) (i : Nat) (v : Int32) : (CW cy a T B).set 8 (a 22, .inl (cy 0, 400, .inl (upd (T.2.2.1 22) i v))) = CW cy a (sA T 22 i v) B := rfl
theorem cA_31 (cy : Nat → ClassId) (a : Nat → Nat) (T : MS) (B : List BL) : (CW cy a T B)[10]? = some (a 31, .inl (cy 5, 10, .inr (.inr (.inr (.inr (fun i => if i < 10 then some (a (100 + i)) else none)))))) := rfl
theorem cR_31 (cy : Nat → ClassId) (a : Nat → Nat) (T : MS) (B : List BL) : ∀ i : Nat, i < 10 → (CW cy a T B)[11 + i]? = some (a (100 + i), .inl (cy 1, 10, .inr (.inl (T.2.2.2 (100 + i)))))
  | 0, _ => rfl
  | 1, _ => rfl
  | 2, _ => rfl
  | 3, _ => rfl
  | 4, _ => rfl
  | 5, _ => rfl
  | 6, _ => rfl
  | 7, _ => rfl
  | 8, _ => rfl
  | 9, _ => rfl
  | n + 10, h => absurd h (by omega)
theorem cwR_31 (cy : Nat → ClassId) (a : Nat → Nat) (T : MS) (B : List BL) (j : Nat) (v : Int64) : ∀ i : Nat, i < 10 → (CW cy a T B).set (11 + i) (a (100 + i), .inl (cy 1, 10, .inr (.inl (vp_updL (T.2.2.2 (100 + i)) j v)))) = CW cy a (sB T (100 + i) j v) B
  | 0, _ => rfl
  | 1, _ => rfl
  | 2, _ => rfl
  | 3, _ => rfl
  | 4, _ => rfl
  | 5, _ => rfl
  | 6, _ => rfl
  | 7, _ => rfl
  | 8, _ => rfl
  | 9, _ => rfl
  | n + 10, h => absurd h (by omega)
theorem cA_42 (cy : Nat → ClassId) (a : Nat → Nat) (T : MS) (B : List BL) : (CW cy a T B)[22]? = some (a 42, .inl (cy 1, 10, .inr (.inl (T.2.2.2 42)))) := rfl
theorem cwA_42 (cy : Nat → ClassId) (a : Nat → Nat) (T : MS) (B : List BL) (i : Nat) (v : Int64) : (CW cy a T B).set 22 (a 42, .inl (cy 1, 10, .inr (.inl (vp_updL (T.2.2.2 42) i v)))) = CW cy a (sB T 42 i v) B := rfl
theorem cA_43 (cy : Nat → ClassId) (a : Nat → Nat) (T : MS) (B : List BL) : (CW cy a T B)[23]? = some (a 43, .inl (cy 1, 1024, .inr (.inl (T.2.2.2 43)))) := rfl
theorem cwA_43 (cy : Nat → ClassId) (a : Nat → Nat) (T : MS) (B : List BL) (i : Nat) (v : Int64) : (CW cy a T B).set 23 (a 43, .inl (cy 1, 1024, .inr (.inl (vp_updL (T.2.2.2 43) i v)))) = CW cy a (sB T 43 i v) B := rfl
theorem cA_44 (cy : Nat → ClassId) (a : Nat → Nat) (T : MS) (B : List BL) : (CW cy a T B)[24]? = some (a 44, .inl (cy 0, 1024, .inl (T.2.2.1 44))) := rfl
theorem cwA_44 (cy : Nat → ClassId) (a : Nat → Nat) (T : MS) (B : List BL) (i : Nat) (v : Int32) : (CW cy a T B).set 24 (a 44, .inl (cy 0, 1024, .inl (upd (T.2.2.1 44) i v))) = CW cy a (sA T 44 i v) B := rfl
theorem cA_45 (cy : Nat → ClassId) (a : Nat → Nat) (T : MS) (B : List BL) : (CW cy a T B)[25]? = some (a 45, .inl (cy 0, 1024, .inl (T.2.2.1 45))) := rfl
theorem cwA_45 (cy : Nat → ClassId) (a : Nat → Nat) (T : MS) (B : List BL) (i : Nat) (v : Int32) : (CW cy a T B).set 25 (a 45, .inl (cy 0, 1024, .inl (upd (T.2.2.1 45) i v))) = CW cy a (sA T 45 i v) B := rfl
theorem cA_46 (cy : Nat → ClassId) (a : Nat → Nat) (T : MS) (B : List BL) : (CW cy a T B)[26]? = some (a 46, .inl (cy 0, 10, .inl (T.2.2.1 46))) := rfl
theorem cwA_46 (cy : Nat → ClassId) (a : Nat → Nat) (T : MS) (B : List BL) (i : Nat) (v : Int32) : (CW cy a T B).set 26 (a 46, .inl (cy 0, 10, .inl (upd (T.2.2.1 46) i v))) = CW cy a (sA T 46 i v) B := rfl
theorem cA_47 (cy : Nat → ClassId) (a : Nat → Nat) (T : MS) (B : List BL) : (CW cy a T B)[27]? = some (a 47, .inl (cy 0, 10, .inl (T.2.2.1 47))) := rfl
theorem cwA_47 (cy : Nat → ClassId) (a : Nat → Nat) (T : MS) (B : List BL) (i : Nat) (v : Int32) : (CW cy a T B).set 27 (a 47, .inl (cy 0, 10, .inl (upd (T.2.2.1 47) i v))) = CW cy a (sA T 47 i v) B := rfl
theorem cA_48 (cy : Nat → ClassId) (a : Nat → Nat) (T : MS) (B : List BL) : (CW cy a T B)[28]? = some (a 48, .inl (cy 1, 10, .inr (.inl (T.2.2.2 48)))) := rfl
theorem cwA_48 (cy : Nat → ClassId) (a : Nat → Nat) (T : MS) (B : List BL) (i : Nat) (v : Int64) : (CW cy a T B).set 28 (a 48, .inl (cy 1, 10, .inr (.inl (vp_updL (T.2.2.2 48) i v)))) = CW cy a (sB T 48 i v) B := rfl
theorem cA_55 (cy : Nat → ClassId) (a : Nat → Nat) (T : MS) (B : List BL) : (CW cy a T B)[30]? = some (a 55, .inl (cy 0, 4, .inl (T.2.2.1 55))) := rfl
theorem cwA_55 (cy : Nat → ClassId) (a : Nat → Nat) (T : MS) (B : List BL) (i : Nat) (v : Int32) : (CW cy a T B).set 30 (a 55, .inl (cy 0, 4, .inl (upd (T.2.2.1 55) i v))) = CW cy a (sA T 55 i v) B := rfl
theorem cA_56 (cy : Nat → ClassId) (a : Nat → Nat) (T : MS) (B : List BL) : (CW cy a T B)[31]? = some (a 56, .inl (cy 4, 10, .inr (.inr (.inr (.inr (fun i => if i < 10 then some (a (110 + i)) else none)))))) := rfl
theorem cR_56 (cy : Nat → ClassId) (a : Nat → Nat) (T : MS) (B : List BL) : ∀ i : Nat, i < 10 → (CW cy a T B)[32 + i]? = some (a (110 + i), .inl (cy 0, 4, .inl (T.2.2.1 (110 + i))))
  | 0, _ => rfl
  | 1, _ => rfl
  | 2, _ => rfl
  | 3, _ => rfl
  | 4, _ => rfl
  | 5, _ => rfl
  | 6, _ => rfl
  | 7, _ => rfl
  | 8, _ => rfl
  | 9, _ => rfl
  | n + 10, h => absurd h (by omega)
theorem cwR_56 (cy : Nat → ClassId) (a : Nat → Nat) (T : MS) (B : List BL) (j : Nat) (v : Int32) : ∀ i : Nat, i < 10 → (CW cy a T B).set (32 + i) (a (110 + i), .inl (cy 0, 4, .inl (upd (T.2.2.1 (110 + i)) j v))) = CW cy a (sA T (110 + i) j v) B
  | 0, _ => rfl
  | 1, _ => rfl
  | 2, _ => rfl
  | 3, _ => rfl
  | 4, _ => rfl
  | 5, _ => rfl
  | 6, _ => rfl
  | 7, _ => rfl
  | 8, _ => rfl
  | 9, _ => rfl
  | n + 10, h => absurd h (by omega)
theorem cA_60 (cy : Nat → ClassId) (a : Nat → Nat) (T : MS) (B : List BL) : (CW cy a T B)[43]? = some (a 60, .inl (cy 4, 5, .inr (.inr (.inr (.inr (fun i => if i < 5 then some (a (120 + i)) else none)))))) := rfl
theorem cR_60 (cy : Nat → ClassId) (a : Nat → Nat) (T : MS) (B : List BL) : ∀ i : Nat, i < 5 → (CW cy a T B)[44 + i]? = some (a (120 + i), .inl (cy 0, 10, .inl (T.2.2.1 (120 + i))))
  | 0, _ => rfl
  | 1, _ => rfl
  | 2, _ => rfl
  | 3, _ => rfl
  | 4, _ => rfl
  | n + 5, h => absurd h (by omega)
theorem cwR_60 (cy : Nat → ClassId) (a : Nat → Nat) (T : MS) (B : List BL) (j : Nat) (v : Int32) : ∀ i : Nat, i < 5 → (CW cy a T B).set (44 + i) (a (120 + i), .inl (cy 0, 10, .inl (upd (T.2.2.1 (120 + i)) j v))) = CW cy a (sA T (120 + i) j v) B
  | 0, _ => rfl
  | 1, _ => rfl
  | 2, _ => rfl
  | 3, _ => rfl
  | 4, _ => rfl
  | n + 5, h => absurd h (by omega)
theorem cA_61 (cy : Nat → ClassId) (a : Nat → Nat) (T : MS) (B : List BL) : (CW cy a T B)[49]? = some (a 61, .inl (cy 4, 5, .inr (.inr (.inr (.inr (fun i => if i < 5 then some (a (130 + i)) else none)))))) := rfl
theorem cR_61 (cy : Nat → ClassId) (a : Nat → Nat) (T : MS) (B : List BL) : ∀ i : Nat, i < 5 → (CW cy a T B)[50 + i]? = some (a (130 + i), .inl (cy 0, 5, .inl (T.2.2.1 (130 + i))))
  | 0, _ => rfl
  | 1, _ => rfl
  | 2, _ => rfl
  | 3, _ => rfl
  | 4, _ => rfl
  | n + 5, h => absurd h (by omega)
theorem cwR_61 (cy : Nat → ClassId) (a : Nat → Nat) (T : MS) (B : List BL) (j : Nat) (v : Int32) : ∀ i : Nat, i < 5 → (CW cy a T B).set (50 + i) (a (130 + i), .inl (cy 0, 5, .inl (upd (T.2.2.1 (130 + i)) j v))) = CW cy a (sA T (130 + i) j v) B
  | 0, _ => rfl
  | 1, _ => rfl
  | 2, _ => rfl
  | 3, _ => rfl
  | 4, _ => rfl
  | n + 5, h => absurd h (by omega)
theorem cA_62 (cy : Nat → ClassId) (a : Nat → Nat) (T : MS) (B : List BL) : (CW cy a T B)[55]? = some (a 62, .inl (cy 0, 10, .inl (T.2.2.1 62))) := rfl
theorem cwA_62 (cy : Nat → ClassId) (a : Nat → Nat) (T : MS) (B : List BL) (i : Nat) (v : Int32) : (CW cy a T B).set 55 (a 62, .inl (cy 0, 10, .inl (upd (T.2.2.1 62) i v))) = CW cy a (sA T 62 i v) B := rfl
theorem cA_65 (cy : Nat → ClassId) (a : Nat → Nat) (T : MS) (B : List BL) : (CW cy a T B)[57]? = some (a 65, .inl (cy 1, 10, .inr (.inl (T.2.2.2 65)))) := rfl
theorem cwA_65 (cy : Nat → ClassId) (a : Nat → Nat) (T : MS) (B : List BL) (i : Nat) (v : Int64) : (CW cy a T B).set 57 (a 65, .inl (cy 1, 10, .inr (.inl (vp_updL (T.2.2.2 65) i v)))) = CW cy a (sB T 65 i v) B := rfl
theorem cA_66 (cy : Nat → ClassId) (a : Nat → Nat) (T : MS) (B : List BL) : (CW cy a T B)[58]? = some (a 66, .inl (cy 1, 10, .inr (.inl (T.2.2.2 66)))) := rfl
theorem cwA_66 (cy : Nat → ClassId) (a : Nat → Nat) (T : MS) (B : List BL) (i : Nat) (v : Int64) : (CW cy a T B).set 58 (a 66, .inl (cy 1, 10, .inr (.inl (vp_updL (T.2.2.2 66) i v)))) = CW cy a (sB T 66 i v) B := rfl
theorem cA_71 (cy : Nat → ClassId) (a : Nat → Nat) (T : MS) (B : List BL) : (CW cy a T B)[60]? = some (a 71, .inl (cy 2, 8, .inl (T.2.2.1 71))) := rfl
theorem cwA_71 (cy : Nat → ClassId) (a : Nat → Nat) (T : MS) (B : List BL) (i : Nat) (v : Int32) : (CW cy a T B).set 60 (a 71, .inl (cy 2, 8, .inl (upd (T.2.2.1 71) i v))) = CW cy a (sA T 71 i v) B := rfl
theorem cA_72 (cy : Nat → ClassId) (a : Nat → Nat) (T : MS) (B : List BL) : (CW cy a T B)[61]? = some (a 72, .inl (cy 0, 8, .inl (T.2.2.1 72))) := rfl
theorem cwA_72 (cy : Nat → ClassId) (a : Nat → Nat) (T : MS) (B : List BL) (i : Nat) (v : Int32) : (CW cy a T B).set 61 (a 72, .inl (cy 0, 8, .inl (upd (T.2.2.1 72) i v))) = CW cy a (sA T 72 i v) B := rfl
theorem cA_73 (cy : Nat → ClassId) (a : Nat → Nat) (T : MS) (B : List BL) : (CW cy a T B)[62]? = some (a 73, .inl (cy 0, 32, .inl (T.2.2.1 73))) := rfl
theorem cwA_73 (cy : Nat → ClassId) (a : Nat → Nat) (T : MS) (B : List BL) (i : Nat) (v : Int32) : (CW cy a T B).set 62 (a 73, .inl (cy 0, 32, .inl (upd (T.2.2.1 73) i v))) = CW cy a (sA T 73 i v) B := rfl
theorem cA_74 (cy : Nat → ClassId) (a : Nat → Nat) (T : MS) (B : List BL) : (CW cy a T B)[63]? = some (a 74, .inl (cy 0, 32, .inl (T.2.2.1 74))) := rfl
theorem cwA_74 (cy : Nat → ClassId) (a : Nat → Nat) (T : MS) (B : List BL) (i : Nat) (v : Int32) : (CW cy a T B).set 63 (a 74, .inl (cy 0, 32, .inl (upd (T.2.2.1 74) i v))) = CW cy a (sA T 74 i v) B := rfl
theorem cA_75 (cy : Nat → ClassId) (a : Nat → Nat) (T : MS) (B : List BL) : (CW cy a T B)[64]? = some (a 75, .inl (cy 0, 32, .inl (T.2.2.1 75))) := rfl
theorem cwA_75 (cy : Nat → ClassId) (a : Nat → Nat) (T : MS) (B : List BL) (i : Nat) (v : Int32) : (CW cy a T B).set 64 (a 75, .inl (cy 0, 32, .inl (upd (T.2.2.1 75) i v))) = CW cy a (sA T 75 i v) B := rfl
theorem cA_81 (cy : Nat → ClassId) (a : Nat → Nat) (T : MS) (B : List BL) : (CW cy a T B)[66]? = some (a 81, .inl (cy 2, 8, .inl (T.2.2.1 81))) := rfl
theorem cwA_81 (cy : Nat → ClassId) (a : Nat → Nat) (T : MS) (B : List BL) (i : Nat) (v : Int32) : (CW cy a T B).set 66 (a 81, .inl (cy 2, 8, .inl (upd (T.2.2.1 81) i v))) = CW cy a (sA T 81 i v) B := rfl
theorem cA_82 (cy : Nat → ClassId) (a : Nat → Nat) (T : MS) (B : List BL) : (CW cy a T B)[67]? = some (a 82, .inl (cy 0, 8, .inl (T.2.2.1 82))) := rfl
theorem cwA_82 (cy : Nat → ClassId) (a : Nat → Nat) (T : MS) (B : List BL) (i : Nat) (v : Int32) : (CW cy a T B).set 67 (a 82, .inl (cy 0, 8, .inl (upd (T.2.2.1 82) i v))) = CW cy a (sA T 82 i v) B := rfl
theorem cA_83 (cy : Nat → ClassId) (a : Nat → Nat) (T : MS) (B : List BL) : (CW cy a T B)[68]? = some (a 83, .inl (cy 0, 32, .inl (T.2.2.1 83))) := rfl
theorem cwA_83 (cy : Nat → ClassId) (a : Nat → Nat) (T : MS) (B : List BL) (i : Nat) (v : Int32) : (CW cy a T B).set 68 (a 83, .inl (cy 0, 32, .inl (upd (T.2.2.1 83) i v))) = CW cy a (sA T 83 i v) B := rfl
theorem cA_84 (cy : Nat → ClassId) (a : Nat → Nat) (T : MS) (B : List BL) : (CW cy a T B)[69]? = some (a 84, .inl (cy 0, 32, .inl (T.2.2.1 84))) := rfl
theorem cwA_84 (cy : Nat → ClassId) (a : Nat → Nat) (T : MS) (B : List BL) (i : Nat) (v : Int32) : (CW cy a T B).set 69 (a 84, .inl (cy 0, 32, .inl (upd (T.2.2.1 84) i v))) = CW cy a (sA T 84 i v) B := rfl
theorem cA_85 (cy : Nat → ClassId) (a : Nat → Nat) (T : MS) (B : List BL) : (CW cy a T B)[70]? = some (a 85, .inl (cy 0, 32, .inl (T.2.2.1 85))) := rfl
theorem cwA_85 (cy : Nat → ClassId) (a : Nat → Nat) (T : MS) (B : List BL) (i : Nat) (v : Int32) : (CW cy a T B).set 70 (a 85, .inl (cy 0, 32, .inl (upd (T.2.2.1 85) i v))) = CW cy a (sA T 85 i v) B := rfl
section CWORLD
variable {Γ : gT} {R : Room} {cc : ByteArray} {own : String} {Ts : List Cond} {nL : Nat} {D : va_G} {cy : Nat → ClassId} {mc ms : Nat} {post : Option Value → va_W → Prop} {k n : Nat} {a : Nat → Nat} {T : MS} {B : List BL} {pc : Nat} {lv : List (Nat × Value)} {st : List Value}
theorem c_ald_0 {i : Int32} (hd : decode cc pc = .ok (.laload, 1)) (hi : vp_in i 8) (kk : G Γ R cc own Ts nL D clx (tyx cy) mc ms post k n (CW cy a T B) (pc + 1) lv (.long (T.2.2.2 0 i.toNatClampNeg) :: st)) : G Γ R cc own Ts nL D clx (tyx cy) mc ms post k n (CW cy a T B) pc lv (.int i :: .ref (a 0) :: st) := g_lald 1 1 hd (cA_0 cy a T B) rfl hi kk
theorem c_aldN_0 {i : Nat} (hd : decode cc pc = .ok (.laload, 1)) (hi : i < 8) (kk : G Γ R cc own Ts nL D clx (tyx cy) mc ms post k n (CW cy a T B) (pc + 1) lv (.long (T.2.2.2 0 i) :: st)) : G Γ R cc own Ts nL D clx (tyx cy) mc ms post k n (CW cy a T B) pc lv (.int (nI i) :: .ref (a 0) :: st) := by
  refine c_ald_0 hd (vp_in_nI hi (by decide)) ?_
  rw [nI_clamp (by omega)]
  exact kk
theorem c_ast_0 {i : Int32} {x : Int64} (hd : decode cc pc = .ok (.lastore, 1)) (hi : vp_in i 8) (kk : G Γ R cc own Ts nL D clx (tyx cy) mc ms post k n (CW cy a (sB T 0 i.toNatClampNeg x) B) (pc + 1) lv st) : G Γ R cc own Ts nL D clx (tyx cy) mc ms post k n (CW cy a T B) pc lv (.long x :: .int i :: .ref (a 0) :: st) := g_last 1 1 _ hd (cA_0 cy a T B) rfl hi (cwA_0 cy a T B _ _) kk
theorem c_astN_0 {i : Nat} {x : Int64} (hd : decode cc pc = .ok (.lastore, 1)) (hi : i < 8) (kk : G Γ R cc own Ts nL D clx (tyx cy) mc ms post k n (CW cy a (sB T 0 i x) B) (pc + 1) lv st) : G Γ R cc own Ts nL D clx (tyx cy) mc ms post k n (CW cy a T B) pc lv (.long x :: .int (nI i) :: .ref (a 0) :: st) := by
  refine c_ast_0 hd (vp_in_nI hi (by decide)) ?_
  rw [nI_clamp (by omega)]
  exact kk
theorem c_ald_1 {i : Int32} (hd : decode cc pc = .ok (.iaload, 1)) (hi : vp_in i 5) (kk : G Γ R cc own Ts nL D clx (tyx cy) mc ms post k n (CW cy a T B) (pc + 1) lv (.int (T.2.2.1 1 i.toNatClampNeg) :: st)) : G Γ R cc own Ts nL D clx (tyx cy) mc ms post k n (CW cy a T B) pc lv (.int i :: .ref (a 1) :: st) := g_iald 2 0 hd (cA_1 cy a T B) rfl hi kk
theorem c_aldN_1 {i : Nat} (hd : decode cc pc = .ok (.iaload, 1)) (hi : i < 5) (kk : G Γ R cc own Ts nL D clx (tyx cy) mc ms post k n (CW cy a T B) (pc + 1) lv (.int (T.2.2.1 1 i) :: st)) : G Γ R cc own Ts nL D clx (tyx cy) mc ms post k n (CW cy a T B) pc lv (.int (nI i) :: .ref (a 1) :: st) := by
  refine c_ald_1 hd (vp_in_nI hi (by decide)) ?_
  rw [nI_clamp (by omega)]
  exact kk
theorem c_ast_1 {i : Int32} {x : Int32} (hd : decode cc pc = .ok (.iastore, 1)) (hi : vp_in i 5) (kk : G Γ R cc own Ts nL D clx (tyx cy) mc ms post k n (CW cy a (sA T 1 i.toNatClampNeg x) B) (pc + 1) lv st) : G Γ R cc own Ts nL D clx (tyx cy) mc ms post k n (CW cy a T B) pc lv (.int x :: .int i :: .ref (a 1) :: st) := g_iast 2 0 _ hd (cA_1 cy a T B) rfl hi (cwA_1 cy a T B _ _) kk
theorem c_astN_1 {i : Nat} {x : Int32} (hd : decode cc pc = .ok (.iastore, 1)) (hi : i < 5) (kk : G Γ R cc own Ts nL D clx (tyx cy) mc ms post k n (CW cy a (sA T 1 i x) B) (pc + 1) lv st) : G Γ R cc own Ts nL D clx (tyx cy) mc ms post k n (CW cy a T B) pc lv (.int x :: .int (nI i) :: .ref (a 1) :: st) := by
  refine c_ast_1 hd (vp_in_nI hi (by decide)) ?_
  rw [nI_clamp (by omega)]
  exact kk
theorem c_ald_2 {i : Int32} (hd : decode cc pc = .ok (.iaload, 1)) (hi : vp_in i 10) (kk : G Γ R cc own Ts nL D clx (tyx cy) mc ms post k n (CW cy a T B) (pc + 1) lv (.int (T.2.2.1 2 i.toNatClampNeg) :: st)) : G Γ R cc own Ts nL D clx (tyx cy) mc ms post k n (CW cy a T B) pc lv (.int i :: .ref (a 2) :: st) := g_iald 3 0 hd (cA_2 cy a T B) rfl hi kk
theorem c_aldN_2 {i : Nat} (hd : decode cc pc = .ok (.iaload, 1)) (hi : i < 10) (kk : G Γ R cc own Ts nL D clx (tyx cy) mc ms post k n (CW cy a T B) (pc + 1) lv (.int (T.2.2.1 2 i) :: st)) : G Γ R cc own Ts nL D clx (tyx cy) mc ms post k n (CW cy a T B) pc lv (.int (nI i) :: .ref (a 2) :: st) := by
  refine c_ald_2 hd (vp_in_nI hi (by decide)) ?_
  rw [nI_clamp (by omega)]
  exact kk
theorem c_ast_2 {i : Int32} {x : Int32} (hd : decode cc pc = .ok (.iastore, 1)) (hi : vp_in i 10) (kk : G Γ R cc own Ts nL D clx (tyx cy) mc ms post k n (CW cy a (sA T 2 i.toNatClampNeg x) B) (pc + 1) lv st) : G Γ R cc own Ts nL D clx (tyx cy) mc ms post k n (CW cy a T B) pc lv (.int x :: .int i :: .ref (a 2) :: st) := g_iast 3 0 _ hd (cA_2 cy a T B) rfl hi (cwA_2 cy a T B _ _) kk
theorem c_astN_2 {i : Nat} {x : Int32} (hd : decode cc pc = .ok (.iastore, 1)) (hi : i < 10) (kk : G Γ R cc own Ts nL D clx (tyx cy) mc ms post k n (CW cy a (sA T 2 i x) B) (pc + 1) lv st) : G Γ R cc own Ts nL D clx (tyx cy) mc ms post k n (CW cy a T B) pc lv (.int x :: .int (nI i) :: .ref (a 2) :: st) := by
  refine c_ast_2 hd (vp_in_nI hi (by decide)) ?_
  rw [nI_clamp (by omega)]
  exact kk
theorem c_ald_4 {i : Int32} (hd : decode cc pc = .ok (.iaload, 1)) (hi : vp_in i 5) (kk : G Γ R cc own Ts nL D clx (tyx cy) mc ms post k n (CW cy a T B) (pc + 1) lv (.int (T.2.2.1 4 i.toNatClampNeg) :: st)) : G Γ R cc own Ts nL D clx (tyx cy) mc ms post k n (CW cy a T B) pc lv (.int i :: .ref (a 4) :: st) := g_iald 5 0 hd (cA_4 cy a T B) rfl hi kk
theorem c_aldN_4 {i : Nat} (hd : decode cc pc = .ok (.iaload, 1)) (hi : i < 5) (kk : G Γ R cc own Ts nL D clx (tyx cy) mc ms post k n (CW cy a T B) (pc + 1) lv (.int (T.2.2.1 4 i) :: st)) : G Γ R cc own Ts nL D clx (tyx cy) mc ms post k n (CW cy a T B) pc lv (.int (nI i) :: .ref (a 4) :: st) := by
  refine c_ald_4 hd (vp_in_nI hi (by decide)) ?_
  rw [nI_clamp (by omega)]
  exact kk
theorem c_ast_4 {i : Int32} {x : Int32} (hd : decode cc pc = .ok (.iastore, 1)) (hi : vp_in i 5) (kk : G Γ R cc own Ts nL D clx (tyx cy) mc ms post k n (CW cy a (sA T 4 i.toNatClampNeg x) B) (pc + 1) lv st) : G Γ R cc own Ts nL D clx (tyx cy) mc ms post k n (CW cy a T B) pc lv (.int x :: .int i :: .ref (a 4) :: st) := g_iast 5 0 _ hd (cA_4 cy a T B) rfl hi (cwA_4 cy a T B _ _) kk
theorem c_astN_4 {i : Nat} {x : Int32} (hd : decode cc pc = .ok (.iastore, 1)) (hi : i < 5) (kk : G Γ R cc own Ts nL D clx (tyx cy) mc ms post k n (CW cy a (sA T 4 i x) B) (pc + 1) lv st) : G Γ R cc own Ts nL D clx (tyx cy) mc ms post k n (CW cy a T B) pc lv (.int x :: .int (nI i) :: .ref (a 4) :: st) := by
  refine c_ast_4 hd (vp_in_nI hi (by decide)) ?_
  rw [nI_clamp (by omega)]
  exact kk
theorem c_ald_5 {i : Int32} (hd : decode cc pc = .ok (.iaload, 1)) (hi : vp_in i 30) (kk : G Γ R cc own Ts nL D clx (tyx cy) mc ms post k n (CW cy a T B) (pc + 1) lv (.int (T.2.2.1 5 i.toNatClampNeg) :: st)) : G Γ R cc own Ts nL D clx (tyx cy) mc ms post k n (CW cy a T B) pc lv (.int i :: .ref (a 5) :: st) := g_iald 6 0 hd (cA_5 cy a T B) rfl hi kk
theorem c_aldN_5 {i : Nat} (hd : decode cc pc = .ok (.iaload, 1)) (hi : i < 30) (kk : G Γ R cc own Ts nL D clx (tyx cy) mc ms post k n (CW cy a T B) (pc + 1) lv (.int (T.2.2.1 5 i) :: st)) : G Γ R cc own Ts nL D clx (tyx cy) mc ms post k n (CW cy a T B) pc lv (.int (nI i) :: .ref (a 5) :: st) := by
  refine c_ald_5 hd (vp_in_nI hi (by decide)) ?_
  rw [nI_clamp (by omega)]
  exact kk
theorem c_ast_5 {i : Int32} {x : Int32} (hd : decode cc pc = .ok (.iastore, 1)) (hi : vp_in i 30) (kk : G Γ R cc own Ts nL D clx (tyx cy) mc ms post k n (CW cy a (sA T 5 i.toNatClampNeg x) B) (pc + 1) lv st) : G Γ R cc own Ts nL D clx (tyx cy) mc ms post k n (CW cy a T B) pc lv (.int x :: .int i :: .ref (a 5) :: st) := g_iast 6 0 _ hd (cA_5 cy a T B) rfl hi (cwA_5 cy a T B _ _) kk
theorem c_astN_5 {i : Nat} {x : Int32} (hd : decode cc pc = .ok (.iastore, 1)) (hi : i < 30) (kk : G Γ R cc own Ts nL D clx (tyx cy) mc ms post k n (CW cy a (sA T 5 i x) B) (pc + 1) lv st) : G Γ R cc own Ts nL D clx (tyx cy) mc ms post k n (CW cy a T B) pc lv (.int x :: .int (nI i) :: .ref (a 5) :: st) := by
  refine c_ast_5 hd (vp_in_nI hi (by decide)) ?_
  rw [nI_clamp (by omega)]
  exact kk
theorem c_ald_22 {i : Int32} (hd : decode cc pc = .ok (.iaload, 1)) (hi : vp_in i 400) (kk : G Γ R cc own Ts nL D clx (tyx cy) mc ms post k n (CW cy a T B) (pc + 1) lv (.int (T.2.2.1 22 i.toNatClampNeg) :: st)) : G Γ R cc own Ts nL D clx (tyx cy) mc ms post k n (CW cy a T B) pc lv (.int i :: .ref (a 22) :: st) := g_iald 8 0 hd (cA_22 cy a T B) rfl hi kk
theorem c_aldN_22 {i : Nat} (hd : decode cc pc = .ok (.iaload, 1)) (hi : i < 400) (kk : G Γ R cc own Ts nL D clx (tyx cy) mc ms post k n (CW cy a T B) (pc + 1) lv (.int (T.2.2.1 22 i) :: st)) : G Γ R cc own Ts nL D clx (tyx cy) mc ms post k n (CW cy a T B) pc lv (.int (nI i) :: .ref (a 22) :: st) := by
  refine c_ald_22 hd (vp_in_nI hi (by decide)) ?_
  rw [nI_clamp (by omega)]
  exact kk
theorem c_ast_22 {i : Int32} {x : Int32} (hd : decode cc pc = .ok (.iastore, 1)) (hi : vp_in i 400) (kk : G Γ R cc own Ts nL D clx (tyx cy) mc ms post k n (CW cy a (sA T 22 i.toNatClampNeg x) B) (pc + 1) lv st) : G Γ R cc own Ts nL D clx (tyx cy) mc ms post k n (CW cy a T B) pc lv (.int x :: .int i :: .ref (a 22) :: st) := g_iast 8 0 _ hd (cA_22 cy a T B) rfl hi (cwA_22 cy a T B _ _) kk
theorem c_astN_22 {i : Nat} {x : Int32} (hd : decode cc pc = .ok (.iastore, 1)) (hi : i < 400) (kk : G Γ R cc own Ts nL D clx (tyx cy) mc ms post k n (CW cy a (sA T 22 i x) B) (pc + 1) lv st) : G Γ R cc own Ts nL D clx (tyx cy) mc ms post k n (CW cy a T B) pc lv (.int x :: .int (nI i) :: .ref (a 22) :: st) := by
  refine c_ast_22 hd (vp_in_nI hi (by decide)) ?_
  rw [nI_clamp (by omega)]
  exact kk
theorem c_aald_31 {i : Int32} (hd : decode cc pc = .ok (.aaload, 1)) (hi : vp_in i 10) (kk : G Γ R cc own Ts nL D clx (tyx cy) mc ms post k n (CW cy a T B) (pc + 1) lv (.ref (a (100 + i.toNatClampNeg)) :: st)) : G Γ R cc own Ts nL D clx (tyx cy) mc ms post k n (CW cy a T B) pc lv (.int i :: .ref (a 31) :: st) := by
  refine g_aald 10 5 rfl hd (cA_31 cy a T B) rfl hi ?_
  rw [if_pos (vp_nat hi)]
  exact kk
theorem c_aaldN_31 {i : Nat} (hd : decode cc pc = .ok (.aaload, 1)) (hi : i < 10) (kk : G Γ R cc own Ts nL D clx (tyx cy) mc ms post k n (CW cy a T B) (pc + 1) lv (.ref (a (100 + i)) :: st)) : G Γ R cc own Ts nL D clx (tyx cy) mc ms post k n (CW cy a T B) pc lv (.int (nI i) :: .ref (a 31) :: st) := by
  refine c_aald_31 hd (vp_in_nI hi (by decide)) ?_
  rw [nI_clamp (by omega)]
  exact kk
theorem c_rld_31 {i : Nat} {j : Int32} (hd : decode cc pc = .ok (.laload, 1)) (hi : i < 10) (hj : vp_in j 10) (kk : G Γ R cc own Ts nL D clx (tyx cy) mc ms post k n (CW cy a T B) (pc + 1) lv (.long (T.2.2.2 (100 + i) j.toNatClampNeg) :: st)) : G Γ R cc own Ts nL D clx (tyx cy) mc ms post k n (CW cy a T B) pc lv (.int j :: .ref (a (100 + i)) :: st) := g_lald (11 + i) 1 hd (cR_31 cy a T B i hi) rfl hj kk
theorem c_rldN_31 {i j : Nat} (hd : decode cc pc = .ok (.laload, 1)) (hi : i < 10) (hj : j < 10) (kk : G Γ R cc own Ts nL D clx (tyx cy) mc ms post k n (CW cy a T B) (pc + 1) lv (.long (T.2.2.2 (100 + i) j) :: st)) : G Γ R cc own Ts nL D clx (tyx cy) mc ms post k n (CW cy a T B) pc lv (.int (nI j) :: .ref (a (100 + i)) :: st) := by
  refine c_rld_31 hd hi (vp_in_nI hj (by decide)) ?_
  rw [nI_clamp (by omega)]
  exact kk
theorem c_rst_31 {i : Nat} {j : Int32} {x : Int64} (hd : decode cc pc = .ok (.lastore, 1)) (hi : i < 10) (hj : vp_in j 10) (kk : G Γ R cc own Ts nL D clx (tyx cy) mc ms post k n (CW cy a (sB T (100 + i) j.toNatClampNeg x) B) (pc + 1) lv st) : G Γ R cc own Ts nL D clx (tyx cy) mc ms post k n (CW cy a T B) pc lv (.long x :: .int j :: .ref (a (100 + i)) :: st) := g_last (11 + i) 1 _ hd (cR_31 cy a T B i hi) rfl hj (cwR_31 cy a T B _ _ i hi) kk
theorem c_rstN_31 {i j : Nat} {x : Int64} (hd : decode cc pc = .ok (.lastore, 1)) (hi : i < 10) (hj : j < 10) (kk : G Γ R cc own Ts nL D clx (tyx cy) mc ms post k n (CW cy a (sB T (100 + i) j x) B) (pc + 1) lv st) : G Γ R cc own Ts nL D clx (tyx cy) mc ms post k n (CW cy a T B) pc lv (.long x :: .int (nI j) :: .ref (a (100 + i)) :: st) := by
  refine c_rst_31 hd hi (vp_in_nI hj (by decide)) ?_
  rw [nI_clamp (by omega)]
  exact kk
theorem c_ald_42 {i : Int32} (hd : decode cc pc = .ok (.laload, 1)) (hi : vp_in i 10) (kk : G Γ R cc own Ts nL D clx (tyx cy) mc ms post k n (CW cy a T B) (pc + 1) lv (.long (T.2.2.2 42 i.toNatClampNeg) :: st)) : G Γ R cc own Ts nL D clx (tyx cy) mc ms post k n (CW cy a T B) pc lv (.int i :: .ref (a 42) :: st) := g_lald 22 1 hd (cA_42 cy a T B) rfl hi kk
theorem c_aldN_42 {i : Nat} (hd : decode cc pc = .ok (.laload, 1)) (hi : i < 10) (kk : G Γ R cc own Ts nL D clx (tyx cy) mc ms post k n (CW cy a T B) (pc + 1) lv (.long (T.2.2.2 42 i) :: st)) : G Γ R cc own Ts nL D clx (tyx cy) mc ms post k n (CW cy a T B) pc lv (.int (nI i) :: .ref (a 42) :: st) := by
  refine c_ald_42 hd (vp_in_nI hi (by decide)) ?_
  rw [nI_clamp (by omega)]
  exact kk
theorem c_ast_42 {i : Int32} {x : Int64} (hd : decode cc pc = .ok (.lastore, 1)) (hi : vp_in i 10) (kk : G Γ R cc own Ts nL D clx (tyx cy) mc ms post k n (CW cy a (sB T 42 i.toNatClampNeg x) B) (pc + 1) lv st) : G Γ R cc own Ts nL D clx (tyx cy) mc ms post k n (CW cy a T B) pc lv (.long x :: .int i :: .ref (a 42) :: st) := g_last 22 1 _ hd (cA_42 cy a T B) rfl hi (cwA_42 cy a T B _ _) kk
theorem c_astN_42 {i : Nat} {x : Int64} (hd : decode cc pc = .ok (.lastore, 1)) (hi : i < 10) (kk : G Γ R cc own Ts nL D clx (tyx cy) mc ms post k n (CW cy a (sB T 42 i x) B) (pc + 1) lv st) : G Γ R cc own Ts nL D clx (tyx cy) mc ms post k n (CW cy a T B) pc lv (.long x :: .int (nI i) :: .ref (a 42) :: st) := by
  refine c_ast_42 hd (vp_in_nI hi (by decide)) ?_
  rw [nI_clamp (by omega)]
  exact kk
theorem c_ald_43 {i : Int32} (hd : decode cc pc = .ok (.laload, 1)) (hi : vp_in i 1024) (kk : G Γ R cc own Ts nL D clx (tyx cy) mc ms post k n (CW cy a T B) (pc + 1) lv (.long (T.2.2.2 43 i.toNatClampNeg) :: st)) : G Γ R cc own Ts nL D clx (tyx cy) mc ms post k n (CW cy a T B) pc lv (.int i :: .ref (a 43) :: st) := g_lald 23 1 hd (cA_43 cy a T B) rfl hi kk
theorem c_aldN_43 {i : Nat} (hd : decode cc pc = .ok (.laload, 1)) (hi : i < 1024) (kk : G Γ R cc own Ts nL D clx (tyx cy) mc ms post k n (CW cy a T B) (pc + 1) lv (.long (T.2.2.2 43 i) :: st)) : G Γ R cc own Ts nL D clx (tyx cy) mc ms post k n (CW cy a T B) pc lv (.int (nI i) :: .ref (a 43) :: st) := by
  refine c_ald_43 hd (vp_in_nI hi (by decide)) ?_
  rw [nI_clamp (by omega)]
  exact kk
theorem c_ast_43 {i : Int32} {x : Int64} (hd : decode cc pc = .ok (.lastore, 1)) (hi : vp_in i 1024) (kk : G Γ R cc own Ts nL D clx (tyx cy) mc ms post k n (CW cy a (sB T 43 i.toNatClampNeg x) B) (pc + 1) lv st) : G Γ R cc own Ts nL D clx (tyx cy) mc ms post k n (CW cy a T B) pc lv (.long x :: .int i :: .ref (a 43) :: st) := g_last 23 1 _ hd (cA_43 cy a T B) rfl hi (cwA_43 cy a T B _ _) kk
theorem c_astN_43 {i : Nat} {x : Int64} (hd : decode cc pc = .ok (.lastore, 1)) (hi : i < 1024) (kk : G Γ R cc own Ts nL D clx (tyx cy) mc ms post k n (CW cy a (sB T 43 i x) B) (pc + 1) lv st) : G Γ R cc own Ts nL D clx (tyx cy) mc ms post k n (CW cy a T B) pc lv (.long x :: .int (nI i) :: .ref (a 43) :: st) := by
  refine c_ast_43 hd (vp_in_nI hi (by decide)) ?_
  rw [nI_clamp (by omega)]
  exact kk
theorem c_ald_44 {i : Int32} (hd : decode cc pc = .ok (.iaload, 1)) (hi : vp_in i 1024) (kk : G Γ R cc own Ts nL D clx (tyx cy) mc ms post k n (CW cy a T B) (pc + 1) lv (.int (T.2.2.1 44 i.toNatClampNeg) :: st)) : G Γ R cc own Ts nL D clx (tyx cy) mc ms post k n (CW cy a T B) pc lv (.int i :: .ref (a 44) :: st) := g_iald 24 0 hd (cA_44 cy a T B) rfl hi kk
theorem c_aldN_44 {i : Nat} (hd : decode cc pc = .ok (.iaload, 1)) (hi : i < 1024) (kk : G Γ R cc own Ts nL D clx (tyx cy) mc ms post k n (CW cy a T B) (pc + 1) lv (.int (T.2.2.1 44 i) :: st)) : G Γ R cc own Ts nL D clx (tyx cy) mc ms post k n (CW cy a T B) pc lv (.int (nI i) :: .ref (a 44) :: st) := by
  refine c_ald_44 hd (vp_in_nI hi (by decide)) ?_
  rw [nI_clamp (by omega)]
  exact kk
theorem c_ast_44 {i : Int32} {x : Int32} (hd : decode cc pc = .ok (.iastore, 1)) (hi : vp_in i 1024) (kk : G Γ R cc own Ts nL D clx (tyx cy) mc ms post k n (CW cy a (sA T 44 i.toNatClampNeg x) B) (pc + 1) lv st) : G Γ R cc own Ts nL D clx (tyx cy) mc ms post k n (CW cy a T B) pc lv (.int x :: .int i :: .ref (a 44) :: st) := g_iast 24 0 _ hd (cA_44 cy a T B) rfl hi (cwA_44 cy a T B _ _) kk
theorem c_astN_44 {i : Nat} {x : Int32} (hd : decode cc pc = .ok (.iastore, 1)) (hi : i < 1024) (kk : G Γ R cc own Ts nL D clx (tyx cy) mc ms post k n (CW cy a (sA T 44 i x) B) (pc + 1) lv st) : G Γ R cc own Ts nL D clx (tyx cy) mc ms post k n (CW cy a T B) pc lv (.int x :: .int (nI i) :: .ref (a 44) :: st) := by
  refine c_ast_44 hd (vp_in_nI hi (by decide)) ?_
  rw [nI_clamp (by omega)]
  exact kk
theorem c_ald_45 {i : Int32} (hd : decode cc pc = .ok (.iaload, 1)) (hi : vp_in i 1024) (kk : G Γ R cc own Ts nL D clx (tyx cy) mc ms post k n (CW cy a T B) (pc + 1) lv (.int (T.2.2.1 45 i.toNatClampNeg) :: st)) : G Γ R cc own Ts nL D clx (tyx cy) mc ms post k n (CW cy a T B) pc lv (.int i :: .ref (a 45) :: st) := g_iald 25 0 hd (cA_45 cy a T B) rfl hi kk
theorem c_aldN_45 {i : Nat} (hd : decode cc pc = .ok (.iaload, 1)) (hi : i < 1024) (kk : G Γ R cc own Ts nL D clx (tyx cy) mc ms post k n (CW cy a T B) (pc + 1) lv (.int (T.2.2.1 45 i) :: st)) : G Γ R cc own Ts nL D clx (tyx cy) mc ms post k n (CW cy a T B) pc lv (.int (nI i) :: .ref (a 45) :: st) := by
  refine c_ald_45 hd (vp_in_nI hi (by decide)) ?_
  rw [nI_clamp (by omega)]
  exact kk
theorem c_ast_45 {i : Int32} {x : Int32} (hd : decode cc pc = .ok (.iastore, 1)) (hi : vp_in i 1024) (kk : G Γ R cc own Ts nL D clx (tyx cy) mc ms post k n (CW cy a (sA T 45 i.toNatClampNeg x) B) (pc + 1) lv st) : G Γ R cc own Ts nL D clx (tyx cy) mc ms post k n (CW cy a T B) pc lv (.int x :: .int i :: .ref (a 45) :: st) := g_iast 25 0 _ hd (cA_45 cy a T B) rfl hi (cwA_45 cy a T B _ _) kk
theorem c_astN_45 {i : Nat} {x : Int32} (hd : decode cc pc = .ok (.iastore, 1)) (hi : i < 1024) (kk : G Γ R cc own Ts nL D clx (tyx cy) mc ms post k n (CW cy a (sA T 45 i x) B) (pc + 1) lv st) : G Γ R cc own Ts nL D clx (tyx cy) mc ms post k n (CW cy a T B) pc lv (.int x :: .int (nI i) :: .ref (a 45) :: st) := by
  refine c_ast_45 hd (vp_in_nI hi (by decide)) ?_
  rw [nI_clamp (by omega)]
  exact kk
theorem c_ald_46 {i : Int32} (hd : decode cc pc = .ok (.iaload, 1)) (hi : vp_in i 10) (kk : G Γ R cc own Ts nL D clx (tyx cy) mc ms post k n (CW cy a T B) (pc + 1) lv (.int (T.2.2.1 46 i.toNatClampNeg) :: st)) : G Γ R cc own Ts nL D clx (tyx cy) mc ms post k n (CW cy a T B) pc lv (.int i :: .ref (a 46) :: st) := g_iald 26 0 hd (cA_46 cy a T B) rfl hi kk
theorem c_aldN_46 {i : Nat} (hd : decode cc pc = .ok (.iaload, 1)) (hi : i < 10) (kk : G Γ R cc own Ts nL D clx (tyx cy) mc ms post k n (CW cy a T B) (pc + 1) lv (.int (T.2.2.1 46 i) :: st)) : G Γ R cc own Ts nL D clx (tyx cy) mc ms post k n (CW cy a T B) pc lv (.int (nI i) :: .ref (a 46) :: st) := by
  refine c_ald_46 hd (vp_in_nI hi (by decide)) ?_
  rw [nI_clamp (by omega)]
  exact kk
theorem c_ast_46 {i : Int32} {x : Int32} (hd : decode cc pc = .ok (.iastore, 1)) (hi : vp_in i 10) (kk : G Γ R cc own Ts nL D clx (tyx cy) mc ms post k n (CW cy a (sA T 46 i.toNatClampNeg x) B) (pc + 1) lv st) : G Γ R cc own Ts nL D clx (tyx cy) mc ms post k n (CW cy a T B) pc lv (.int x :: .int i :: .ref (a 46) :: st) := g_iast 26 0 _ hd (cA_46 cy a T B) rfl hi (cwA_46 cy a T B _ _) kk
theorem c_astN_46 {i : Nat} {x : Int32} (hd : decode cc pc = .ok (.iastore, 1)) (hi : i < 10) (kk : G Γ R cc own Ts nL D clx (tyx cy) mc ms post k n (CW cy a (sA T 46 i x) B) (pc + 1) lv st) : G Γ R cc own Ts nL D clx (tyx cy) mc ms post k n (CW cy a T B) pc lv (.int x :: .int (nI i) :: .ref (a 46) :: st) := by
  refine c_ast_46 hd (vp_in_nI hi (by decide)) ?_
  rw [nI_clamp (by omega)]
  exact kk
theorem c_ald_47 {i : Int32} (hd : decode cc pc = .ok (.iaload, 1)) (hi : vp_in i 10) (kk : G Γ R cc own Ts nL D clx (tyx cy) mc ms post k n (CW cy a T B) (pc + 1) lv (.int (T.2.2.1 47 i.toNatClampNeg) :: st)) : G Γ R cc own Ts nL D clx (tyx cy) mc ms post k n (CW cy a T B) pc lv (.int i :: .ref (a 47) :: st) := g_iald 27 0 hd (cA_47 cy a T B) rfl hi kk
theorem c_aldN_47 {i : Nat} (hd : decode cc pc = .ok (.iaload, 1)) (hi : i < 10) (kk : G Γ R cc own Ts nL D clx (tyx cy) mc ms post k n (CW cy a T B) (pc + 1) lv (.int (T.2.2.1 47 i) :: st)) : G Γ R cc own Ts nL D clx (tyx cy) mc ms post k n (CW cy a T B) pc lv (.int (nI i) :: .ref (a 47) :: st) := by
  refine c_ald_47 hd (vp_in_nI hi (by decide)) ?_
  rw [nI_clamp (by omega)]
  exact kk
theorem c_ast_47 {i : Int32} {x : Int32} (hd : decode cc pc = .ok (.iastore, 1)) (hi : vp_in i 10) (kk : G Γ R cc own Ts nL D clx (tyx cy) mc ms post k n (CW cy a (sA T 47 i.toNatClampNeg x) B) (pc + 1) lv st) : G Γ R cc own Ts nL D clx (tyx cy) mc ms post k n (CW cy a T B) pc lv (.int x :: .int i :: .ref (a 47) :: st) := g_iast 27 0 _ hd (cA_47 cy a T B) rfl hi (cwA_47 cy a T B _ _) kk
theorem c_astN_47 {i : Nat} {x : Int32} (hd : decode cc pc = .ok (.iastore, 1)) (hi : i < 10) (kk : G Γ R cc own Ts nL D clx (tyx cy) mc ms post k n (CW cy a (sA T 47 i x) B) (pc + 1) lv st) : G Γ R cc own Ts nL D clx (tyx cy) mc ms post k n (CW cy a T B) pc lv (.int x :: .int (nI i) :: .ref (a 47) :: st) := by
  refine c_ast_47 hd (vp_in_nI hi (by decide)) ?_
  rw [nI_clamp (by omega)]
  exact kk
theorem c_ald_48 {i : Int32} (hd : decode cc pc = .ok (.laload, 1)) (hi : vp_in i 10) (kk : G Γ R cc own Ts nL D clx (tyx cy) mc ms post k n (CW cy a T B) (pc + 1) lv (.long (T.2.2.2 48 i.toNatClampNeg) :: st)) : G Γ R cc own Ts nL D clx (tyx cy) mc ms post k n (CW cy a T B) pc lv (.int i :: .ref (a 48) :: st) := g_lald 28 1 hd (cA_48 cy a T B) rfl hi kk
theorem c_aldN_48 {i : Nat} (hd : decode cc pc = .ok (.laload, 1)) (hi : i < 10) (kk : G Γ R cc own Ts nL D clx (tyx cy) mc ms post k n (CW cy a T B) (pc + 1) lv (.long (T.2.2.2 48 i) :: st)) : G Γ R cc own Ts nL D clx (tyx cy) mc ms post k n (CW cy a T B) pc lv (.int (nI i) :: .ref (a 48) :: st) := by
  refine c_ald_48 hd (vp_in_nI hi (by decide)) ?_
  rw [nI_clamp (by omega)]
  exact kk
theorem c_ast_48 {i : Int32} {x : Int64} (hd : decode cc pc = .ok (.lastore, 1)) (hi : vp_in i 10) (kk : G Γ R cc own Ts nL D clx (tyx cy) mc ms post k n (CW cy a (sB T 48 i.toNatClampNeg x) B) (pc + 1) lv st) : G Γ R cc own Ts nL D clx (tyx cy) mc ms post k n (CW cy a T B) pc lv (.long x :: .int i :: .ref (a 48) :: st) := g_last 28 1 _ hd (cA_48 cy a T B) rfl hi (cwA_48 cy a T B _ _) kk
theorem c_astN_48 {i : Nat} {x : Int64} (hd : decode cc pc = .ok (.lastore, 1)) (hi : i < 10) (kk : G Γ R cc own Ts nL D clx (tyx cy) mc ms post k n (CW cy a (sB T 48 i x) B) (pc + 1) lv st) : G Γ R cc own Ts nL D clx (tyx cy) mc ms post k n (CW cy a T B) pc lv (.long x :: .int (nI i) :: .ref (a 48) :: st) := by
  refine c_ast_48 hd (vp_in_nI hi (by decide)) ?_
  rw [nI_clamp (by omega)]
  exact kk
theorem c_ald_55 {i : Int32} (hd : decode cc pc = .ok (.iaload, 1)) (hi : vp_in i 4) (kk : G Γ R cc own Ts nL D clx (tyx cy) mc ms post k n (CW cy a T B) (pc + 1) lv (.int (T.2.2.1 55 i.toNatClampNeg) :: st)) : G Γ R cc own Ts nL D clx (tyx cy) mc ms post k n (CW cy a T B) pc lv (.int i :: .ref (a 55) :: st) := g_iald 30 0 hd (cA_55 cy a T B) rfl hi kk
theorem c_aldN_55 {i : Nat} (hd : decode cc pc = .ok (.iaload, 1)) (hi : i < 4) (kk : G Γ R cc own Ts nL D clx (tyx cy) mc ms post k n (CW cy a T B) (pc + 1) lv (.int (T.2.2.1 55 i) :: st)) : G Γ R cc own Ts nL D clx (tyx cy) mc ms post k n (CW cy a T B) pc lv (.int (nI i) :: .ref (a 55) :: st) := by
  refine c_ald_55 hd (vp_in_nI hi (by decide)) ?_
  rw [nI_clamp (by omega)]
  exact kk
theorem c_ast_55 {i : Int32} {x : Int32} (hd : decode cc pc = .ok (.iastore, 1)) (hi : vp_in i 4) (kk : G Γ R cc own Ts nL D clx (tyx cy) mc ms post k n (CW cy a (sA T 55 i.toNatClampNeg x) B) (pc + 1) lv st) : G Γ R cc own Ts nL D clx (tyx cy) mc ms post k n (CW cy a T B) pc lv (.int x :: .int i :: .ref (a 55) :: st) := g_iast 30 0 _ hd (cA_55 cy a T B) rfl hi (cwA_55 cy a T B _ _) kk
theorem c_astN_55 {i : Nat} {x : Int32} (hd : decode cc pc = .ok (.iastore, 1)) (hi : i < 4) (kk : G Γ R cc own Ts nL D clx (tyx cy) mc ms post k n (CW cy a (sA T 55 i x) B) (pc + 1) lv st) : G Γ R cc own Ts nL D clx (tyx cy) mc ms post k n (CW cy a T B) pc lv (.int x :: .int (nI i) :: .ref (a 55) :: st) := by
  refine c_ast_55 hd (vp_in_nI hi (by decide)) ?_
  rw [nI_clamp (by omega)]
  exact kk
theorem c_aald_56 {i : Int32} (hd : decode cc pc = .ok (.aaload, 1)) (hi : vp_in i 10) (kk : G Γ R cc own Ts nL D clx (tyx cy) mc ms post k n (CW cy a T B) (pc + 1) lv (.ref (a (110 + i.toNatClampNeg)) :: st)) : G Γ R cc own Ts nL D clx (tyx cy) mc ms post k n (CW cy a T B) pc lv (.int i :: .ref (a 56) :: st) := by
  refine g_aald 31 4 rfl hd (cA_56 cy a T B) rfl hi ?_
  rw [if_pos (vp_nat hi)]
  exact kk
theorem c_aaldN_56 {i : Nat} (hd : decode cc pc = .ok (.aaload, 1)) (hi : i < 10) (kk : G Γ R cc own Ts nL D clx (tyx cy) mc ms post k n (CW cy a T B) (pc + 1) lv (.ref (a (110 + i)) :: st)) : G Γ R cc own Ts nL D clx (tyx cy) mc ms post k n (CW cy a T B) pc lv (.int (nI i) :: .ref (a 56) :: st) := by
  refine c_aald_56 hd (vp_in_nI hi (by decide)) ?_
  rw [nI_clamp (by omega)]
  exact kk
theorem c_rld_56 {i : Nat} {j : Int32} (hd : decode cc pc = .ok (.iaload, 1)) (hi : i < 10) (hj : vp_in j 4) (kk : G Γ R cc own Ts nL D clx (tyx cy) mc ms post k n (CW cy a T B) (pc + 1) lv (.int (T.2.2.1 (110 + i) j.toNatClampNeg) :: st)) : G Γ R cc own Ts nL D clx (tyx cy) mc ms post k n (CW cy a T B) pc lv (.int j :: .ref (a (110 + i)) :: st) := g_iald (32 + i) 0 hd (cR_56 cy a T B i hi) rfl hj kk
theorem c_rldN_56 {i j : Nat} (hd : decode cc pc = .ok (.iaload, 1)) (hi : i < 10) (hj : j < 4) (kk : G Γ R cc own Ts nL D clx (tyx cy) mc ms post k n (CW cy a T B) (pc + 1) lv (.int (T.2.2.1 (110 + i) j) :: st)) : G Γ R cc own Ts nL D clx (tyx cy) mc ms post k n (CW cy a T B) pc lv (.int (nI j) :: .ref (a (110 + i)) :: st) := by
  refine c_rld_56 hd hi (vp_in_nI hj (by decide)) ?_
  rw [nI_clamp (by omega)]
  exact kk
theorem c_rst_56 {i : Nat} {j : Int32} {x : Int32} (hd : decode cc pc = .ok (.iastore, 1)) (hi : i < 10) (hj : vp_in j 4) (kk : G Γ R cc own Ts nL D clx (tyx cy) mc ms post k n (CW cy a (sA T (110 + i) j.toNatClampNeg x) B) (pc + 1) lv st) : G Γ R cc own Ts nL D clx (tyx cy) mc ms post k n (CW cy a T B) pc lv (.int x :: .int j :: .ref (a (110 + i)) :: st) := g_iast (32 + i) 0 _ hd (cR_56 cy a T B i hi) rfl hj (cwR_56 cy a T B _ _ i hi) kk
theorem c_rstN_56 {i j : Nat} {x : Int32} (hd : decode cc pc = .ok (.iastore, 1)) (hi : i < 10) (hj : j < 4) (kk : G Γ R cc own Ts nL D clx (tyx cy) mc ms post k n (CW cy a (sA T (110 + i) j x) B) (pc + 1) lv st) : G Γ R cc own Ts nL D clx (tyx cy) mc ms post k n (CW cy a T B) pc lv (.int x :: .int (nI j) :: .ref (a (110 + i)) :: st) := by
  refine c_rst_56 hd hi (vp_in_nI hj (by decide)) ?_
  rw [nI_clamp (by omega)]
  exact kk
theorem c_aald_60 {i : Int32} (hd : decode cc pc = .ok (.aaload, 1)) (hi : vp_in i 5) (kk : G Γ R cc own Ts nL D clx (tyx cy) mc ms post k n (CW cy a T B) (pc + 1) lv (.ref (a (120 + i.toNatClampNeg)) :: st)) : G Γ R cc own Ts nL D clx (tyx cy) mc ms post k n (CW cy a T B) pc lv (.int i :: .ref (a 60) :: st) := by
  refine g_aald 43 4 rfl hd (cA_60 cy a T B) rfl hi ?_
  rw [if_pos (vp_nat hi)]
  exact kk
theorem c_aaldN_60 {i : Nat} (hd : decode cc pc = .ok (.aaload, 1)) (hi : i < 5) (kk : G Γ R cc own Ts nL D clx (tyx cy) mc ms post k n (CW cy a T B) (pc + 1) lv (.ref (a (120 + i)) :: st)) : G Γ R cc own Ts nL D clx (tyx cy) mc ms post k n (CW cy a T B) pc lv (.int (nI i) :: .ref (a 60) :: st) := by
  refine c_aald_60 hd (vp_in_nI hi (by decide)) ?_
  rw [nI_clamp (by omega)]
  exact kk
theorem c_rld_60 {i : Nat} {j : Int32} (hd : decode cc pc = .ok (.iaload, 1)) (hi : i < 5) (hj : vp_in j 10) (kk : G Γ R cc own Ts nL D clx (tyx cy) mc ms post k n (CW cy a T B) (pc + 1) lv (.int (T.2.2.1 (120 + i) j.toNatClampNeg) :: st)) : G Γ R cc own Ts nL D clx (tyx cy) mc ms post k n (CW cy a T B) pc lv (.int j :: .ref (a (120 + i)) :: st) := g_iald (44 + i) 0 hd (cR_60 cy a T B i hi) rfl hj kk
theorem c_rldN_60 {i j : Nat} (hd : decode cc pc = .ok (.iaload, 1)) (hi : i < 5) (hj : j < 10) (kk : G Γ R cc own Ts nL D clx (tyx cy) mc ms post k n (CW cy a T B) (pc + 1) lv (.int (T.2.2.1 (120 + i) j) :: st)) : G Γ R cc own Ts nL D clx (tyx cy) mc ms post k n (CW cy a T B) pc lv (.int (nI j) :: .ref (a (120 + i)) :: st) := by
  refine c_rld_60 hd hi (vp_in_nI hj (by decide)) ?_
  rw [nI_clamp (by omega)]
  exact kk
theorem c_rst_60 {i : Nat} {j : Int32} {x : Int32} (hd : decode cc pc = .ok (.iastore, 1)) (hi : i < 5) (hj : vp_in j 10) (kk : G Γ R cc own Ts nL D clx (tyx cy) mc ms post k n (CW cy a (sA T (120 + i) j.toNatClampNeg x) B) (pc + 1) lv st) : G Γ R cc own Ts nL D clx (tyx cy) mc ms post k n (CW cy a T B) pc lv (.int x :: .int j :: .ref (a (120 + i)) :: st) := g_iast (44 + i) 0 _ hd (cR_60 cy a T B i hi) rfl hj (cwR_60 cy a T B _ _ i hi) kk
theorem c_rstN_60 {i j : Nat} {x : Int32} (hd : decode cc pc = .ok (.iastore, 1)) (hi : i < 5) (hj : j < 10) (kk : G Γ R cc own Ts nL D clx (tyx cy) mc ms post k n (CW cy a (sA T (120 + i) j x) B) (pc + 1) lv st) : G Γ R cc own Ts nL D clx (tyx cy) mc ms post k n (CW cy a T B) pc lv (.int x :: .int (nI j) :: .ref (a (120 + i)) :: st) := by
  refine c_rst_60 hd hi (vp_in_nI hj (by decide)) ?_
  rw [nI_clamp (by omega)]
  exact kk
theorem c_aald_61 {i : Int32} (hd : decode cc pc = .ok (.aaload, 1)) (hi : vp_in i 5) (kk : G Γ R cc own Ts nL D clx (tyx cy) mc ms post k n (CW cy a T B) (pc + 1) lv (.ref (a (130 + i.toNatClampNeg)) :: st)) : G Γ R cc own Ts nL D clx (tyx cy) mc ms post k n (CW cy a T B) pc lv (.int i :: .ref (a 61) :: st) := by
  refine g_aald 49 4 rfl hd (cA_61 cy a T B) rfl hi ?_
  rw [if_pos (vp_nat hi)]
  exact kk
theorem c_aaldN_61 {i : Nat} (hd : decode cc pc = .ok (.aaload, 1)) (hi : i < 5) (kk : G Γ R cc own Ts nL D clx (tyx cy) mc ms post k n (CW cy a T B) (pc + 1) lv (.ref (a (130 + i)) :: st)) : G Γ R cc own Ts nL D clx (tyx cy) mc ms post k n (CW cy a T B) pc lv (.int (nI i) :: .ref (a 61) :: st) := by
  refine c_aald_61 hd (vp_in_nI hi (by decide)) ?_
  rw [nI_clamp (by omega)]
  exact kk
theorem c_rld_61 {i : Nat} {j : Int32} (hd : decode cc pc = .ok (.iaload, 1)) (hi : i < 5) (hj : vp_in j 5) (kk : G Γ R cc own Ts nL D clx (tyx cy) mc ms post k n (CW cy a T B) (pc + 1) lv (.int (T.2.2.1 (130 + i) j.toNatClampNeg) :: st)) : G Γ R cc own Ts nL D clx (tyx cy) mc ms post k n (CW cy a T B) pc lv (.int j :: .ref (a (130 + i)) :: st) := g_iald (50 + i) 0 hd (cR_61 cy a T B i hi) rfl hj kk
theorem c_rldN_61 {i j : Nat} (hd : decode cc pc = .ok (.iaload, 1)) (hi : i < 5) (hj : j < 5) (kk : G Γ R cc own Ts nL D clx (tyx cy) mc ms post k n (CW cy a T B) (pc + 1) lv (.int (T.2.2.1 (130 + i) j) :: st)) : G Γ R cc own Ts nL D clx (tyx cy) mc ms post k n (CW cy a T B) pc lv (.int (nI j) :: .ref (a (130 + i)) :: st) := by
  refine c_rld_61 hd hi (vp_in_nI hj (by decide)) ?_
  rw [nI_clamp (by omega)]
  exact kk
theorem c_rst_61 {i : Nat} {j : Int32} {x : Int32} (hd : decode cc pc = .ok (.iastore, 1)) (hi : i < 5) (hj : vp_in j 5) (kk : G Γ R cc own Ts nL D clx (tyx cy) mc ms post k n (CW cy a (sA T (130 + i) j.toNatClampNeg x) B) (pc + 1) lv st) : G Γ R cc own Ts nL D clx (tyx cy) mc ms post k n (CW cy a T B) pc lv (.int x :: .int j :: .ref (a (130 + i)) :: st) := g_iast (50 + i) 0 _ hd (cR_61 cy a T B i hi) rfl hj (cwR_61 cy a T B _ _ i hi) kk
theorem c_rstN_61 {i j : Nat} {x : Int32} (hd : decode cc pc = .ok (.iastore, 1)) (hi : i < 5) (hj : j < 5) (kk : G Γ R cc own Ts nL D clx (tyx cy) mc ms post k n (CW cy a (sA T (130 + i) j x) B) (pc + 1) lv st) : G Γ R cc own Ts nL D clx (tyx cy) mc ms post k n (CW cy a T B) pc lv (.int x :: .int (nI j) :: .ref (a (130 + i)) :: st) := by
  refine c_rst_61 hd hi (vp_in_nI hj (by decide)) ?_
  rw [nI_clamp (by omega)]
  exact kk
theorem c_ald_62 {i : Int32} (hd : decode cc pc = .ok (.iaload, 1)) (hi : vp_in i 10) (kk : G Γ R cc own Ts nL D clx (tyx cy) mc ms post k n (CW cy a T B) (pc + 1) lv (.int (T.2.2.1 62 i.toNatClampNeg) :: st)) : G Γ R cc own Ts nL D clx (tyx cy) mc ms post k n (CW cy a T B) pc lv (.int i :: .ref (a 62) :: st) := g_iald 55 0 hd (cA_62 cy a T B) rfl hi kk
theorem c_aldN_62 {i : Nat} (hd : decode cc pc = .ok (.iaload, 1)) (hi : i < 10) (kk : G Γ R cc own Ts nL D clx (tyx cy) mc ms post k n (CW cy a T B) (pc + 1) lv (.int (T.2.2.1 62 i) :: st)) : G Γ R cc own Ts nL D clx (tyx cy) mc ms post k n (CW cy a T B) pc lv (.int (nI i) :: .ref (a 62) :: st) := by
  refine c_ald_62 hd (vp_in_nI hi (by decide)) ?_
  rw [nI_clamp (by omega)]
  exact kk
theorem c_ast_62 {i : Int32} {x : Int32} (hd : decode cc pc = .ok (.iastore, 1)) (hi : vp_in i 10) (kk : G Γ R cc own Ts nL D clx (tyx cy) mc ms post k n (CW cy a (sA T 62 i.toNatClampNeg x) B) (pc + 1) lv st) : G Γ R cc own Ts nL D clx (tyx cy) mc ms post k n (CW cy a T B) pc lv (.int x :: .int i :: .ref (a 62) :: st) := g_iast 55 0 _ hd (cA_62 cy a T B) rfl hi (cwA_62 cy a T B _ _) kk
theorem c_astN_62 {i : Nat} {x : Int32} (hd : decode cc pc = .ok (.iastore, 1)) (hi : i < 10) (kk : G Γ R cc own Ts nL D clx (tyx cy) mc ms post k n (CW cy a (sA T 62 i x) B) (pc + 1) lv st) : G Γ R cc own Ts nL D clx (tyx cy) mc ms post k n (CW cy a T B) pc lv (.int x :: .int (nI i) :: .ref (a 62) :: st) := by
  refine c_ast_62 hd (vp_in_nI hi (by decide)) ?_
  rw [nI_clamp (by omega)]
  exact kk
theorem c_ald_65 {i : Int32} (hd : decode cc pc = .ok (.laload, 1)) (hi : vp_in i 10) (kk : G Γ R cc own Ts nL D clx (tyx cy) mc ms post k n (CW cy a T B) (pc + 1) lv (.long (T.2.2.2 65 i.toNatClampNeg) :: st)) : G Γ R cc own Ts nL D clx (tyx cy) mc ms post k n (CW cy a T B) pc lv (.int i :: .ref (a 65) :: st) := g_lald 57 1 hd (cA_65 cy a T B) rfl hi kk
theorem c_aldN_65 {i : Nat} (hd : decode cc pc = .ok (.laload, 1)) (hi : i < 10) (kk : G Γ R cc own Ts nL D clx (tyx cy) mc ms post k n (CW cy a T B) (pc + 1) lv (.long (T.2.2.2 65 i) :: st)) : G Γ R cc own Ts nL D clx (tyx cy) mc ms post k n (CW cy a T B) pc lv (.int (nI i) :: .ref (a 65) :: st) := by
  refine c_ald_65 hd (vp_in_nI hi (by decide)) ?_
  rw [nI_clamp (by omega)]
  exact kk
theorem c_ast_65 {i : Int32} {x : Int64} (hd : decode cc pc = .ok (.lastore, 1)) (hi : vp_in i 10) (kk : G Γ R cc own Ts nL D clx (tyx cy) mc ms post k n (CW cy a (sB T 65 i.toNatClampNeg x) B) (pc + 1) lv st) : G Γ R cc own Ts nL D clx (tyx cy) mc ms post k n (CW cy a T B) pc lv (.long x :: .int i :: .ref (a 65) :: st) := g_last 57 1 _ hd (cA_65 cy a T B) rfl hi (cwA_65 cy a T B _ _) kk
theorem c_astN_65 {i : Nat} {x : Int64} (hd : decode cc pc = .ok (.lastore, 1)) (hi : i < 10) (kk : G Γ R cc own Ts nL D clx (tyx cy) mc ms post k n (CW cy a (sB T 65 i x) B) (pc + 1) lv st) : G Γ R cc own Ts nL D clx (tyx cy) mc ms post k n (CW cy a T B) pc lv (.long x :: .int (nI i) :: .ref (a 65) :: st) := by
  refine c_ast_65 hd (vp_in_nI hi (by decide)) ?_
  rw [nI_clamp (by omega)]
  exact kk
theorem c_ald_66 {i : Int32} (hd : decode cc pc = .ok (.laload, 1)) (hi : vp_in i 10) (kk : G Γ R cc own Ts nL D clx (tyx cy) mc ms post k n (CW cy a T B) (pc + 1) lv (.long (T.2.2.2 66 i.toNatClampNeg) :: st)) : G Γ R cc own Ts nL D clx (tyx cy) mc ms post k n (CW cy a T B) pc lv (.int i :: .ref (a 66) :: st) := g_lald 58 1 hd (cA_66 cy a T B) rfl hi kk
theorem c_aldN_66 {i : Nat} (hd : decode cc pc = .ok (.laload, 1)) (hi : i < 10) (kk : G Γ R cc own Ts nL D clx (tyx cy) mc ms post k n (CW cy a T B) (pc + 1) lv (.long (T.2.2.2 66 i) :: st)) : G Γ R cc own Ts nL D clx (tyx cy) mc ms post k n (CW cy a T B) pc lv (.int (nI i) :: .ref (a 66) :: st) := by
  refine c_ald_66 hd (vp_in_nI hi (by decide)) ?_
  rw [nI_clamp (by omega)]
  exact kk
theorem c_ast_66 {i : Int32} {x : Int64} (hd : decode cc pc = .ok (.lastore, 1)) (hi : vp_in i 10) (kk : G Γ R cc own Ts nL D clx (tyx cy) mc ms post k n (CW cy a (sB T 66 i.toNatClampNeg x) B) (pc + 1) lv st) : G Γ R cc own Ts nL D clx (tyx cy) mc ms post k n (CW cy a T B) pc lv (.long x :: .int i :: .ref (a 66) :: st) := g_last 58 1 _ hd (cA_66 cy a T B) rfl hi (cwA_66 cy a T B _ _) kk
theorem c_astN_66 {i : Nat} {x : Int64} (hd : decode cc pc = .ok (.lastore, 1)) (hi : i < 10) (kk : G Γ R cc own Ts nL D clx (tyx cy) mc ms post k n (CW cy a (sB T 66 i x) B) (pc + 1) lv st) : G Γ R cc own Ts nL D clx (tyx cy) mc ms post k n (CW cy a T B) pc lv (.long x :: .int (nI i) :: .ref (a 66) :: st) := by
  refine c_ast_66 hd (vp_in_nI hi (by decide)) ?_
  rw [nI_clamp (by omega)]
  exact kk
theorem c_ald_71 {i : Int32} (hd : decode cc pc = .ok (.baload, 1)) (hi : vp_in i 8) (kk : G Γ R cc own Ts nL D clx (tyx cy) mc ms post k n (CW cy a T B) (pc + 1) lv (.int (T.2.2.1 71 i.toNatClampNeg) :: st)) : G Γ R cc own Ts nL D clx (tyx cy) mc ms post k n (CW cy a T B) pc lv (.int i :: .ref (a 71) :: st) := g_zald 60 2 hd (cA_71 cy a T B) rfl hi kk
theorem c_aldN_71 {i : Nat} (hd : decode cc pc = .ok (.baload, 1)) (hi : i < 8) (kk : G Γ R cc own Ts nL D clx (tyx cy) mc ms post k n (CW cy a T B) (pc + 1) lv (.int (T.2.2.1 71 i) :: st)) : G Γ R cc own Ts nL D clx (tyx cy) mc ms post k n (CW cy a T B) pc lv (.int (nI i) :: .ref (a 71) :: st) := by
  refine c_ald_71 hd (vp_in_nI hi (by decide)) ?_
  rw [nI_clamp (by omega)]
  exact kk
theorem c_ast_71 {i : Int32} {x : Int32} (hd : decode cc pc = .ok (.bastore, 1)) (hi : vp_in i 8) (kk : G Γ R cc own Ts nL D clx (tyx cy) mc ms post k n (CW cy a (sA T 71 i.toNatClampNeg (vp_nar .boolean x)) B) (pc + 1) lv st) : G Γ R cc own Ts nL D clx (tyx cy) mc ms post k n (CW cy a T B) pc lv (.int x :: .int i :: .ref (a 71) :: st) := g_zast 60 2 _ hd (cA_71 cy a T B) rfl hi (cwA_71 cy a T B _ _) kk
theorem c_astN_71 {i : Nat} {x : Int32} (hd : decode cc pc = .ok (.bastore, 1)) (hi : i < 8) (kk : G Γ R cc own Ts nL D clx (tyx cy) mc ms post k n (CW cy a (sA T 71 i (vp_nar .boolean x)) B) (pc + 1) lv st) : G Γ R cc own Ts nL D clx (tyx cy) mc ms post k n (CW cy a T B) pc lv (.int x :: .int (nI i) :: .ref (a 71) :: st) := by
  refine c_ast_71 hd (vp_in_nI hi (by decide)) ?_
  rw [nI_clamp (by omega)]
  exact kk
theorem c_ald_72 {i : Int32} (hd : decode cc pc = .ok (.iaload, 1)) (hi : vp_in i 8) (kk : G Γ R cc own Ts nL D clx (tyx cy) mc ms post k n (CW cy a T B) (pc + 1) lv (.int (T.2.2.1 72 i.toNatClampNeg) :: st)) : G Γ R cc own Ts nL D clx (tyx cy) mc ms post k n (CW cy a T B) pc lv (.int i :: .ref (a 72) :: st) := g_iald 61 0 hd (cA_72 cy a T B) rfl hi kk
theorem c_aldN_72 {i : Nat} (hd : decode cc pc = .ok (.iaload, 1)) (hi : i < 8) (kk : G Γ R cc own Ts nL D clx (tyx cy) mc ms post k n (CW cy a T B) (pc + 1) lv (.int (T.2.2.1 72 i) :: st)) : G Γ R cc own Ts nL D clx (tyx cy) mc ms post k n (CW cy a T B) pc lv (.int (nI i) :: .ref (a 72) :: st) := by
  refine c_ald_72 hd (vp_in_nI hi (by decide)) ?_
  rw [nI_clamp (by omega)]
  exact kk
theorem c_ast_72 {i : Int32} {x : Int32} (hd : decode cc pc = .ok (.iastore, 1)) (hi : vp_in i 8) (kk : G Γ R cc own Ts nL D clx (tyx cy) mc ms post k n (CW cy a (sA T 72 i.toNatClampNeg x) B) (pc + 1) lv st) : G Γ R cc own Ts nL D clx (tyx cy) mc ms post k n (CW cy a T B) pc lv (.int x :: .int i :: .ref (a 72) :: st) := g_iast 61 0 _ hd (cA_72 cy a T B) rfl hi (cwA_72 cy a T B _ _) kk
theorem c_astN_72 {i : Nat} {x : Int32} (hd : decode cc pc = .ok (.iastore, 1)) (hi : i < 8) (kk : G Γ R cc own Ts nL D clx (tyx cy) mc ms post k n (CW cy a (sA T 72 i x) B) (pc + 1) lv st) : G Γ R cc own Ts nL D clx (tyx cy) mc ms post k n (CW cy a T B) pc lv (.int x :: .int (nI i) :: .ref (a 72) :: st) := by
  refine c_ast_72 hd (vp_in_nI hi (by decide)) ?_
  rw [nI_clamp (by omega)]
  exact kk
theorem c_ald_73 {i : Int32} (hd : decode cc pc = .ok (.iaload, 1)) (hi : vp_in i 32) (kk : G Γ R cc own Ts nL D clx (tyx cy) mc ms post k n (CW cy a T B) (pc + 1) lv (.int (T.2.2.1 73 i.toNatClampNeg) :: st)) : G Γ R cc own Ts nL D clx (tyx cy) mc ms post k n (CW cy a T B) pc lv (.int i :: .ref (a 73) :: st) := g_iald 62 0 hd (cA_73 cy a T B) rfl hi kk
theorem c_aldN_73 {i : Nat} (hd : decode cc pc = .ok (.iaload, 1)) (hi : i < 32) (kk : G Γ R cc own Ts nL D clx (tyx cy) mc ms post k n (CW cy a T B) (pc + 1) lv (.int (T.2.2.1 73 i) :: st)) : G Γ R cc own Ts nL D clx (tyx cy) mc ms post k n (CW cy a T B) pc lv (.int (nI i) :: .ref (a 73) :: st) := by
  refine c_ald_73 hd (vp_in_nI hi (by decide)) ?_
  rw [nI_clamp (by omega)]
  exact kk
theorem c_ast_73 {i : Int32} {x : Int32} (hd : decode cc pc = .ok (.iastore, 1)) (hi : vp_in i 32) (kk : G Γ R cc own Ts nL D clx (tyx cy) mc ms post k n (CW cy a (sA T 73 i.toNatClampNeg x) B) (pc + 1) lv st) : G Γ R cc own Ts nL D clx (tyx cy) mc ms post k n (CW cy a T B) pc lv (.int x :: .int i :: .ref (a 73) :: st) := g_iast 62 0 _ hd (cA_73 cy a T B) rfl hi (cwA_73 cy a T B _ _) kk
theorem c_astN_73 {i : Nat} {x : Int32} (hd : decode cc pc = .ok (.iastore, 1)) (hi : i < 32) (kk : G Γ R cc own Ts nL D clx (tyx cy) mc ms post k n (CW cy a (sA T 73 i x) B) (pc + 1) lv st) : G Γ R cc own Ts nL D clx (tyx cy) mc ms post k n (CW cy a T B) pc lv (.int x :: .int (nI i) :: .ref (a 73) :: st) := by
  refine c_ast_73 hd (vp_in_nI hi (by decide)) ?_
  rw [nI_clamp (by omega)]
  exact kk
theorem c_ald_74 {i : Int32} (hd : decode cc pc = .ok (.iaload, 1)) (hi : vp_in i 32) (kk : G Γ R cc own Ts nL D clx (tyx cy) mc ms post k n (CW cy a T B) (pc + 1) lv (.int (T.2.2.1 74 i.toNatClampNeg) :: st)) : G Γ R cc own Ts nL D clx (tyx cy) mc ms post k n (CW cy a T B) pc lv (.int i :: .ref (a 74) :: st) := g_iald 63 0 hd (cA_74 cy a T B) rfl hi kk
theorem c_aldN_74 {i : Nat} (hd : decode cc pc = .ok (.iaload, 1)) (hi : i < 32) (kk : G Γ R cc own Ts nL D clx (tyx cy) mc ms post k n (CW cy a T B) (pc + 1) lv (.int (T.2.2.1 74 i) :: st)) : G Γ R cc own Ts nL D clx (tyx cy) mc ms post k n (CW cy a T B) pc lv (.int (nI i) :: .ref (a 74) :: st) := by
  refine c_ald_74 hd (vp_in_nI hi (by decide)) ?_
  rw [nI_clamp (by omega)]
  exact kk
theorem c_ast_74 {i : Int32} {x : Int32} (hd : decode cc pc = .ok (.iastore, 1)) (hi : vp_in i 32) (kk : G Γ R cc own Ts nL D clx (tyx cy) mc ms post k n (CW cy a (sA T 74 i.toNatClampNeg x) B) (pc + 1) lv st) : G Γ R cc own Ts nL D clx (tyx cy) mc ms post k n (CW cy a T B) pc lv (.int x :: .int i :: .ref (a 74) :: st) := g_iast 63 0 _ hd (cA_74 cy a T B) rfl hi (cwA_74 cy a T B _ _) kk
theorem c_astN_74 {i : Nat} {x : Int32} (hd : decode cc pc = .ok (.iastore, 1)) (hi : i < 32) (kk : G Γ R cc own Ts nL D clx (tyx cy) mc ms post k n (CW cy a (sA T 74 i x) B) (pc + 1) lv st) : G Γ R cc own Ts nL D clx (tyx cy) mc ms post k n (CW cy a T B) pc lv (.int x :: .int (nI i) :: .ref (a 74) :: st) := by
  refine c_ast_74 hd (vp_in_nI hi (by decide)) ?_
  rw [nI_clamp (by omega)]
  exact kk
theorem c_ald_75 {i : Int32} (hd : decode cc pc = .ok (.iaload, 1)) (hi : vp_in i 32) (kk : G Γ R cc own Ts nL D clx (tyx cy) mc ms post k n (CW cy a T B) (pc + 1) lv (.int (T.2.2.1 75 i.toNatClampNeg) :: st)) : G Γ R cc own Ts nL D clx (tyx cy) mc ms post k n (CW cy a T B) pc lv (.int i :: .ref (a 75) :: st) := g_iald 64 0 hd (cA_75 cy a T B) rfl hi kk
theorem c_aldN_75 {i : Nat} (hd : decode cc pc = .ok (.iaload, 1)) (hi : i < 32) (kk : G Γ R cc own Ts nL D clx (tyx cy) mc ms post k n (CW cy a T B) (pc + 1) lv (.int (T.2.2.1 75 i) :: st)) : G Γ R cc own Ts nL D clx (tyx cy) mc ms post k n (CW cy a T B) pc lv (.int (nI i) :: .ref (a 75) :: st) := by
  refine c_ald_75 hd (vp_in_nI hi (by decide)) ?_
  rw [nI_clamp (by omega)]
  exact kk
theorem c_ast_75 {i : Int32} {x : Int32} (hd : decode cc pc = .ok (.iastore, 1)) (hi : vp_in i 32) (kk : G Γ R cc own Ts nL D clx (tyx cy) mc ms post k n (CW cy a (sA T 75 i.toNatClampNeg x) B) (pc + 1) lv st) : G Γ R cc own Ts nL D clx (tyx cy) mc ms post k n (CW cy a T B) pc lv (.int x :: .int i :: .ref (a 75) :: st) := g_iast 64 0 _ hd (cA_75 cy a T B) rfl hi (cwA_75 cy a T B _ _) kk
theorem c_astN_75 {i : Nat} {x : Int32} (hd : decode cc pc = .ok (.iastore, 1)) (hi : i < 32) (kk : G Γ R cc own Ts nL D clx (tyx cy) mc ms post k n (CW cy a (sA T 75 i x) B) (pc + 1) lv st) : G Γ R cc own Ts nL D clx (tyx cy) mc ms post k n (CW cy a T B) pc lv (.int x :: .int (nI i) :: .ref (a 75) :: st) := by
  refine c_ast_75 hd (vp_in_nI hi (by decide)) ?_
  rw [nI_clamp (by omega)]
  exact kk
theorem c_ald_81 {i : Int32} (hd : decode cc pc = .ok (.baload, 1)) (hi : vp_in i 8) (kk : G Γ R cc own Ts nL D clx (tyx cy) mc ms post k n (CW cy a T B) (pc + 1) lv (.int (T.2.2.1 81 i.toNatClampNeg) :: st)) : G Γ R cc own Ts nL D clx (tyx cy) mc ms post k n (CW cy a T B) pc lv (.int i :: .ref (a 81) :: st) := g_zald 66 2 hd (cA_81 cy a T B) rfl hi kk
theorem c_aldN_81 {i : Nat} (hd : decode cc pc = .ok (.baload, 1)) (hi : i < 8) (kk : G Γ R cc own Ts nL D clx (tyx cy) mc ms post k n (CW cy a T B) (pc + 1) lv (.int (T.2.2.1 81 i) :: st)) : G Γ R cc own Ts nL D clx (tyx cy) mc ms post k n (CW cy a T B) pc lv (.int (nI i) :: .ref (a 81) :: st) := by
  refine c_ald_81 hd (vp_in_nI hi (by decide)) ?_
  rw [nI_clamp (by omega)]
  exact kk
theorem c_ast_81 {i : Int32} {x : Int32} (hd : decode cc pc = .ok (.bastore, 1)) (hi : vp_in i 8) (kk : G Γ R cc own Ts nL D clx (tyx cy) mc ms post k n (CW cy a (sA T 81 i.toNatClampNeg (vp_nar .boolean x)) B) (pc + 1) lv st) : G Γ R cc own Ts nL D clx (tyx cy) mc ms post k n (CW cy a T B) pc lv (.int x :: .int i :: .ref (a 81) :: st) := g_zast 66 2 _ hd (cA_81 cy a T B) rfl hi (cwA_81 cy a T B _ _) kk
theorem c_astN_81 {i : Nat} {x : Int32} (hd : decode cc pc = .ok (.bastore, 1)) (hi : i < 8) (kk : G Γ R cc own Ts nL D clx (tyx cy) mc ms post k n (CW cy a (sA T 81 i (vp_nar .boolean x)) B) (pc + 1) lv st) : G Γ R cc own Ts nL D clx (tyx cy) mc ms post k n (CW cy a T B) pc lv (.int x :: .int (nI i) :: .ref (a 81) :: st) := by
  refine c_ast_81 hd (vp_in_nI hi (by decide)) ?_
  rw [nI_clamp (by omega)]
  exact kk
theorem c_ald_82 {i : Int32} (hd : decode cc pc = .ok (.iaload, 1)) (hi : vp_in i 8) (kk : G Γ R cc own Ts nL D clx (tyx cy) mc ms post k n (CW cy a T B) (pc + 1) lv (.int (T.2.2.1 82 i.toNatClampNeg) :: st)) : G Γ R cc own Ts nL D clx (tyx cy) mc ms post k n (CW cy a T B) pc lv (.int i :: .ref (a 82) :: st) := g_iald 67 0 hd (cA_82 cy a T B) rfl hi kk
theorem c_aldN_82 {i : Nat} (hd : decode cc pc = .ok (.iaload, 1)) (hi : i < 8) (kk : G Γ R cc own Ts nL D clx (tyx cy) mc ms post k n (CW cy a T B) (pc + 1) lv (.int (T.2.2.1 82 i) :: st)) : G Γ R cc own Ts nL D clx (tyx cy) mc ms post k n (CW cy a T B) pc lv (.int (nI i) :: .ref (a 82) :: st) := by
  refine c_ald_82 hd (vp_in_nI hi (by decide)) ?_
  rw [nI_clamp (by omega)]
  exact kk
theorem c_ast_82 {i : Int32} {x : Int32} (hd : decode cc pc = .ok (.iastore, 1)) (hi : vp_in i 8) (kk : G Γ R cc own Ts nL D clx (tyx cy) mc ms post k n (CW cy a (sA T 82 i.toNatClampNeg x) B) (pc + 1) lv st) : G Γ R cc own Ts nL D clx (tyx cy) mc ms post k n (CW cy a T B) pc lv (.int x :: .int i :: .ref (a 82) :: st) := g_iast 67 0 _ hd (cA_82 cy a T B) rfl hi (cwA_82 cy a T B _ _) kk
theorem c_astN_82 {i : Nat} {x : Int32} (hd : decode cc pc = .ok (.iastore, 1)) (hi : i < 8) (kk : G Γ R cc own Ts nL D clx (tyx cy) mc ms post k n (CW cy a (sA T 82 i x) B) (pc + 1) lv st) : G Γ R cc own Ts nL D clx (tyx cy) mc ms post k n (CW cy a T B) pc lv (.int x :: .int (nI i) :: .ref (a 82) :: st) := by
  refine c_ast_82 hd (vp_in_nI hi (by decide)) ?_
  rw [nI_clamp (by omega)]
  exact kk
theorem c_ald_83 {i : Int32} (hd : decode cc pc = .ok (.iaload, 1)) (hi : vp_in i 32) (kk : G Γ R cc own Ts nL D clx (tyx cy) mc ms post k n (CW cy a T B) (pc + 1) lv (.int (T.2.2.1 83 i.toNatClampNeg) :: st)) : G Γ R cc own Ts nL D clx (tyx cy) mc ms post k n (CW cy a T B) pc lv (.int i :: .ref (a 83) :: st) := g_iald 68 0 hd (cA_83 cy a T B) rfl hi kk
theorem c_aldN_83 {i : Nat} (hd : decode cc pc = .ok (.iaload, 1)) (hi : i < 32) (kk : G Γ R cc own Ts nL D clx (tyx cy) mc ms post k n (CW cy a T B) (pc + 1) lv (.int (T.2.2.1 83 i) :: st)) : G Γ R cc own Ts nL D clx (tyx cy) mc ms post k n (CW cy a T B) pc lv (.int (nI i) :: .ref (a 83) :: st) := by
  refine c_ald_83 hd (vp_in_nI hi (by decide)) ?_
  rw [nI_clamp (by omega)]
  exact kk
theorem c_ast_83 {i : Int32} {x : Int32} (hd : decode cc pc = .ok (.iastore, 1)) (hi : vp_in i 32) (kk : G Γ R cc own Ts nL D clx (tyx cy) mc ms post k n (CW cy a (sA T 83 i.toNatClampNeg x) B) (pc + 1) lv st) : G Γ R cc own Ts nL D clx (tyx cy) mc ms post k n (CW cy a T B) pc lv (.int x :: .int i :: .ref (a 83) :: st) := g_iast 68 0 _ hd (cA_83 cy a T B) rfl hi (cwA_83 cy a T B _ _) kk
theorem c_astN_83 {i : Nat} {x : Int32} (hd : decode cc pc = .ok (.iastore, 1)) (hi : i < 32) (kk : G Γ R cc own Ts nL D clx (tyx cy) mc ms post k n (CW cy a (sA T 83 i x) B) (pc + 1) lv st) : G Γ R cc own Ts nL D clx (tyx cy) mc ms post k n (CW cy a T B) pc lv (.int x :: .int (nI i) :: .ref (a 83) :: st) := by
  refine c_ast_83 hd (vp_in_nI hi (by decide)) ?_
  rw [nI_clamp (by omega)]
  exact kk
theorem c_ald_84 {i : Int32} (hd : decode cc pc = .ok (.iaload, 1)) (hi : vp_in i 32) (kk : G Γ R cc own Ts nL D clx (tyx cy) mc ms post k n (CW cy a T B) (pc + 1) lv (.int (T.2.2.1 84 i.toNatClampNeg) :: st)) : G Γ R cc own Ts nL D clx (tyx cy) mc ms post k n (CW cy a T B) pc lv (.int i :: .ref (a 84) :: st) := g_iald 69 0 hd (cA_84 cy a T B) rfl hi kk
theorem c_aldN_84 {i : Nat} (hd : decode cc pc = .ok (.iaload, 1)) (hi : i < 32) (kk : G Γ R cc own Ts nL D clx (tyx cy) mc ms post k n (CW cy a T B) (pc + 1) lv (.int (T.2.2.1 84 i) :: st)) : G Γ R cc own Ts nL D clx (tyx cy) mc ms post k n (CW cy a T B) pc lv (.int (nI i) :: .ref (a 84) :: st) := by
  refine c_ald_84 hd (vp_in_nI hi (by decide)) ?_
  rw [nI_clamp (by omega)]
  exact kk
theorem c_ast_84 {i : Int32} {x : Int32} (hd : decode cc pc = .ok (.iastore, 1)) (hi : vp_in i 32) (kk : G Γ R cc own Ts nL D clx (tyx cy) mc ms post k n (CW cy a (sA T 84 i.toNatClampNeg x) B) (pc + 1) lv st) : G Γ R cc own Ts nL D clx (tyx cy) mc ms post k n (CW cy a T B) pc lv (.int x :: .int i :: .ref (a 84) :: st) := g_iast 69 0 _ hd (cA_84 cy a T B) rfl hi (cwA_84 cy a T B _ _) kk
theorem c_astN_84 {i : Nat} {x : Int32} (hd : decode cc pc = .ok (.iastore, 1)) (hi : i < 32) (kk : G Γ R cc own Ts nL D clx (tyx cy) mc ms post k n (CW cy a (sA T 84 i x) B) (pc + 1) lv st) : G Γ R cc own Ts nL D clx (tyx cy) mc ms post k n (CW cy a T B) pc lv (.int x :: .int (nI i) :: .ref (a 84) :: st) := by
  refine c_ast_84 hd (vp_in_nI hi (by decide)) ?_
  rw [nI_clamp (by omega)]
  exact kk
theorem c_ald_85 {i : Int32} (hd : decode cc pc = .ok (.iaload, 1)) (hi : vp_in i 32) (kk : G Γ R cc own Ts nL D clx (tyx cy) mc ms post k n (CW cy a T B) (pc + 1) lv (.int (T.2.2.1 85 i.toNatClampNeg) :: st)) : G Γ R cc own Ts nL D clx (tyx cy) mc ms post k n (CW cy a T B) pc lv (.int i :: .ref (a 85) :: st) := g_iald 70 0 hd (cA_85 cy a T B) rfl hi kk
theorem c_aldN_85 {i : Nat} (hd : decode cc pc = .ok (.iaload, 1)) (hi : i < 32) (kk : G Γ R cc own Ts nL D clx (tyx cy) mc ms post k n (CW cy a T B) (pc + 1) lv (.int (T.2.2.1 85 i) :: st)) : G Γ R cc own Ts nL D clx (tyx cy) mc ms post k n (CW cy a T B) pc lv (.int (nI i) :: .ref (a 85) :: st) := by
  refine c_ald_85 hd (vp_in_nI hi (by decide)) ?_
  rw [nI_clamp (by omega)]
  exact kk
theorem c_ast_85 {i : Int32} {x : Int32} (hd : decode cc pc = .ok (.iastore, 1)) (hi : vp_in i 32) (kk : G Γ R cc own Ts nL D clx (tyx cy) mc ms post k n (CW cy a (sA T 85 i.toNatClampNeg x) B) (pc + 1) lv st) : G Γ R cc own Ts nL D clx (tyx cy) mc ms post k n (CW cy a T B) pc lv (.int x :: .int i :: .ref (a 85) :: st) := g_iast 70 0 _ hd (cA_85 cy a T B) rfl hi (cwA_85 cy a T B _ _) kk
theorem c_astN_85 {i : Nat} {x : Int32} (hd : decode cc pc = .ok (.iastore, 1)) (hi : i < 32) (kk : G Γ R cc own Ts nL D clx (tyx cy) mc ms post k n (CW cy a (sA T 85 i x) B) (pc + 1) lv st) : G Γ R cc own Ts nL D clx (tyx cy) mc ms post k n (CW cy a T B) pc lv (.int x :: .int (nI i) :: .ref (a 85) :: st) := by
  refine c_ast_85 hd (vp_in_nI hi (by decide)) ?_
  rw [nI_clamp (by omega)]
  exact kk
theorem bcells_len (cy : Nat → ClassId) : ∀ B : List BL, (bcells cy B).length = 3 * B.length
  | [] => rfl
  | b :: B => by
    show (bcs cy b ++ bcells cy B).length = _
    rw [List.length_append, bcells_len cy B, List.length_cons]
    show 3 + _ = _
    omega
theorem bcells_app (cy : Nat → ClassId) : ∀ (B B2 : List BL), bcells cy (B ++ B2) = bcells cy B ++ bcells cy B2
  | [], _ => rfl
  | b :: B, B2 => by
    show bcs cy b ++ bcells cy (B ++ B2) = (bcs cy b ++ bcells cy B) ++ bcells cy B2
    rw [bcells_app cy B B2, List.append_assoc]
theorem bcells_get (cy : Nat → ClassId) (b : BL) (q : Nat) (hq : q < 3) : ∀ (B : List BL) (i : Nat), i < B.length → (bcells cy (B.set i b))[3 * i + q]? = (bcs cy b)[q]?
  | [], i, h => absurd h (Nat.not_lt_zero i)
  | x :: B, 0, _ => by
    show (bcs cy b ++ bcells cy B)[3 * 0 + q]? = _
    rw [List.getElem?_append_left (by show 3 * 0 + q < 3; omega)]
    congr 1
    omega
  | x :: B, i + 1, h => by
    show (bcs cy x ++ bcells cy (B.set i b))[3 * (i + 1) + q]? = _
    rw [List.getElem?_append_right (by show 3 ≤ 3 * (i + 1) + q; omega)]
    have e : 3 * (i + 1) + q - (bcs cy x).length = 3 * i + q := by show 3 * (i + 1) + q - 3 = _; omega
    rw [e]
    exact bcells_get cy b q hq B i (by simpa using h)
theorem bcells_set (cy : Nat → ClassId) (b b2 : BL) (q : Nat) (hq : q < 3) (x : Nat × va_E) (hx : (bcs cy b).set q x = bcs cy b2) : ∀ (B : List BL) (i : Nat), i < B.length → (bcells cy (B.set i b)).set (3 * i + q) x = bcells cy (B.set i b2)
  | [], i, h => absurd h (Nat.not_lt_zero i)
  | y :: B, 0, _ => by
    show (bcs cy b ++ bcells cy B).set (3 * 0 + q) x = bcs cy b2 ++ bcells cy B
    rw [List.set_append_left _ _ (by show 3 * 0 + q < 3; omega), ← hx]
    congr 2
    omega
  | y :: B, i + 1, h => by
    show (bcs cy y ++ bcells cy (B.set i b)).set (3 * (i + 1) + q) x = bcs cy y ++ bcells cy (B.set i b2)
    rw [List.set_append_right _ _ (by show 3 ≤ 3 * (i + 1) + q; omega)]
    have e : 3 * (i + 1) + q - (bcs cy y).length = 3 * i + q := by show 3 * (i + 1) + q - 3 = _; omega
    rw [e, bcells_set cy b b2 q hq x hx B i (by simpa using h)]
theorem bref_set {B : List BL} {i : Nat} {b b2 : BL} (h0 : b2.1 0 = b.1 0) (hi : i < B.length) : bref (B.set i b2) = bref (B.set i b) := by
  funext j
  unfold bref
  rw [List.getElem?_set, List.getElem?_set]
  by_cases e : i = j
  · simp [e, hi, h0]
  · simp [e]
def CF (cy : Nat → ClassId) (a : Nat → Nat) (T : MS) (f : Nat → Option Nat) : va_W := [(a 200, .inr (8, CO_main a T)), (a 0, .inl (cy 1, 8, .inr (.inl (T.2.2.2 0)))), (a 1, .inl (cy 0, 5, .inl (T.2.2.1 1))), (a 2, .inl (cy 0, 10, .inl (T.2.2.1 2))), (a 3, .inl (cy 3, 40, .inr (.inr (.inr (.inr f))))), (a 4, .inl (cy 0, 5, .inl (T.2.2.1 4))), (a 5, .inl (cy 0, 30, .inl (T.2.2.1 5))), (a 203, .inr (3, CO_reader a T)), (a 22, .inl (cy 0, 400, .inl (T.2.2.1 22))), (a 201, .inr (1, CO_book a T)), (a 31, .inl (cy 5, 10, .inr (.inr (.inr (.inr (fun i => if i < 10 then some (a (100 + i)) else none)))))), (a 100, .inl (cy 1, 10, .inr (.inl (T.2.2.2 100)))), (a 101, .inl (cy 1, 10, .inr (.inl (T.2.2.2 101)))), (a 102, .inl (cy 1, 10, .inr (.inl (T.2.2.2 102)))), (a 103, .inl (cy 1, 10, .inr (.inl (T.2.2.2 103)))), (a 104, .inl (cy 1, 10, .inr (.inl (T.2.2.2 104)))), (a 105, .inl (cy 1, 10, .inr (.inl (T.2.2.2 105)))), (a 106, .inl (cy 1, 10, .inr (.inl (T.2.2.2 106)))), (a 107, .inl (cy 1, 10, .inr (.inl (T.2.2.2 107)))), (a 108, .inl (cy 1, 10, .inr (.inl (T.2.2.2 108)))), (a 109, .inl (cy 1, 10, .inr (.inl (T.2.2.2 109)))), (a 205, .inr (5, CO_plan a T)), (a 42, .inl (cy 1, 10, .inr (.inl (T.2.2.2 42)))), (a 43, .inl (cy 1, 1024, .inr (.inl (T.2.2.2 43)))), (a 44, .inl (cy 0, 1024, .inl (T.2.2.1 44))), (a 45, .inl (cy 0, 1024, .inl (T.2.2.1 45))), (a 46, .inl (cy 0, 10, .inl (T.2.2.1 46))), (a 47, .inl (cy 0, 10, .inl (T.2.2.1 47))), (a 48, .inl (cy 1, 10, .inr (.inl (T.2.2.2 48)))), (a 206, .inr (6, CO_purses a T)), (a 55, .inl (cy 0, 4, .inl (T.2.2.1 55))), (a 56, .inl (cy 4, 10, .inr (.inr (.inr (.inr (fun i => if i < 10 then some (a (110 + i)) else none)))))), (a 110, .inl (cy 0, 4, .inl (T.2.2.1 110))), (a 111, .inl (cy 0, 4, .inl (T.2.2.1 111))), (a 112, .inl (cy 0, 4, .inl (T.2.2.1 112))), (a 113, .inl (cy 0, 4, .inl (T.2.2.1 113))), (a 114, .inl (cy 0, 4, .inl (T.2.2.1 114))), (a 115, .inl (cy 0, 4, .inl (T.2.2.1 115))), (a 116, .inl (cy 0, 4, .inl (T.2.2.1 116))), (a 117, .inl (cy 0, 4, .inl (T.2.2.1 117))), (a 118, .inl (cy 0, 4, .inl (T.2.2.1 118))), (a 119, .inl (cy 0, 4, .inl (T.2.2.1 119))), (a 207, .inr (7, CO_rates a T)), (a 60, .inl (cy 4, 5, .inr (.inr (.inr (.inr (fun i => if i < 5 then some (a (120 + i)) else none)))))), (a 120, .inl (cy 0, 10, .inl (T.2.2.1 120))), (a 121, .inl (cy 0, 10, .inl (T.2.2.1 121))), (a 122, .inl (cy 0, 10, .inl (T.2.2.1 122))), (a 123, .inl (cy 0, 10, .inl (T.2.2.1 123))), (a 124, .inl (cy 0, 10, .inl (T.2.2.1 124))), (a 61, .inl (cy 4, 5, .inr (.inr (.inr (.inr (fun i => if i < 5 then some (a (130 + i)) else none)))))), (a 130, .inl (cy 0, 5, .inl (T.2.2.1 130))), (a 131, .inl (cy 0, 5, .inl (T.2.2.1 131))), (a 132, .inl (cy 0, 5, .inl (T.2.2.1 132))), (a 133, .inl (cy 0, 5, .inl (T.2.2.1 133))), (a 134, .inl (cy 0, 5, .inl (T.2.2.1 134))), (a 62, .inl (cy 0, 10, .inl (T.2.2.1 62))), (a 204, .inr (4, CO_parting a T)), (a 65, .inl (cy 1, 10, .inr (.inl (T.2.2.2 65)))), (a 66, .inl (cy 1, 10, .inr (.inl (T.2.2.2 66)))), (a 202, .inr (2, CO_custom a T)), (a 71, .inl (cy 2, 8, .inl (T.2.2.1 71))), (a 72, .inl (cy 0, 8, .inl (T.2.2.1 72))), (a 73, .inl (cy 0, 32, .inl (T.2.2.1 73))), (a 74, .inl (cy 0, 32, .inl (T.2.2.1 74))), (a 75, .inl (cy 0, 32, .inl (T.2.2.1 75))), (a 212, .inr (2, CO_draft a T)), (a 81, .inl (cy 2, 8, .inl (T.2.2.1 81))), (a 82, .inl (cy 0, 8, .inl (T.2.2.1 82))), (a 83, .inl (cy 0, 32, .inl (T.2.2.1 83))), (a 84, .inl (cy 0, 32, .inl (T.2.2.1 84))), (a 85, .inl (cy 0, 32, .inl (T.2.2.1 85)))]
theorem CW_eq (cy : Nat → ClassId) (a : Nat → Nat) (T : MS) (B : List BL) : CW cy a T B = CF cy a T (bref B) ++ bcells cy B := rfl
theorem CF_len (cy : Nat → ClassId) (a : Nat → Nat) (T : MS) (f : Nat → Option Nat) : (CF cy a T f).length = 71 := rfl
theorem cB_get {i : Nat} (b : BL) (q : Nat) (hq : q < 3) (hi : i < B.length) : (CW cy a T (B.set i b))[71 + (3 * i + q)]? = (bcs cy b)[q]? := by
  rw [CW_eq, List.getElem?_append_right (by rw [CF_len]; omega), CF_len, show 71 + (3 * i + q) - 71 = 3 * i + q by omega]
  exact bcells_get cy b q hq B i hi
theorem cB_set {i : Nat} (b b2 : BL) (q : Nat) (hq : q < 3) (x : Nat × va_E) (hx : (bcs cy b).set q x = bcs cy b2) (h0 : b2.1 0 = b.1 0) (hi : i < B.length) : (CW cy a T (B.set i b)).set (71 + (3 * i + q)) x = CW cy a T (B.set i b2) := by
  rw [CW_eq, CW_eq, List.set_append_right _ _ (by rw [CF_len]; omega), CF_len, show 71 + (3 * i + q) - 71 = 3 * i + q by omega, bcells_set cy b b2 q hq x hx B i hi, bref_set h0 hi]
def bI (b : BL) (j : Nat) (v : Int32) : BL := (b.1, fun q => if q = j then v else b.2.1 q, b.2.2)
def bA (b : BL) (j i : Nat) (v : Int32) : BL := (b.1, b.2.1, fun q => if q = j then upd (b.2.2 j) i v else b.2.2 q)
theorem c_bget {i ix : Nat} {b : BL} {v : Value} (j : Nat) (hd : decode cc pc = .ok (.getfield ix, 3)) (hw : Cond.fieldLink own ix (TX0 j).1 (TX0 j).2.1 (TX0 j).2.2.1 ∈ Ts) (hi2 : ∀ w ∈ wsX00, w ∈ Ts) (hi : i < B.length) (hj : j < 10) (hv : (BO b)[j]? = some v) (kk : G Γ R cc own Ts nL D clx (tyx cy) mc ms post k n (CW cy a T (B.set i b)) (pc + 3) lv (v :: st)) : G Γ R cc own Ts nL D clx (tyx cy) mc ms post k n (CW cy a T (B.set i b)) pc lv (.ref (b.1 0) :: st) :=
  g_get (71 + (3 * i + 0)) j hd hw hi2 (cB_get b 0 (by decide) hi) rfl hj hv kk
theorem c_bput {i ix : Nat} {b : BL} {v : Int32} (j : Nat) (hd : decode cc pc = .ok (.putfield ix, 3)) (hw : Cond.fieldLink own ix (TX0 j).1 (TX0 j).2.1 (TX0 j).2.2.1 ∈ Ts) (hi2 : ∀ w ∈ wsX00, w ∈ Ts) (hi : i < B.length) (hj : j < 10) (hfin : (TX0 j).2.2.2 = false) (hnar : narrow (tyX0 j) (.int v) = .int v) (hfit : fits (tyX0 j) (.int v) = true) (hws : (bcs cy b).set 0 (b.1 0, .inr (0, (BO b).set j (.int v))) = bcs cy (bI b j v)) (kk : G Γ R cc own Ts nL D clx (tyx cy) mc ms post k n (CW cy a T (B.set i (bI b j v))) (pc + 3) lv st) : G Γ R cc own Ts nL D clx (tyx cy) mc ms post k n (CW cy a T (B.set i b)) pc lv (.int v :: .ref (b.1 0) :: st) :=
  g_put (71 + (3 * i + 0)) j _ tyX0 tyX0_ok nmX0 hd hw hi2 (cB_get b 0 (by decide) hi) rfl hj hfin (tyX0_ok j hj) hnar hfit hj (cB_set b (bI b j v) 0 (by decide) _ hws rfl hi) kk
theorem c_bald8 {i : Nat} {b : BL} {x : Int32} (hd : decode cc pc = .ok (.iaload, 1)) (hi : i < B.length) (hx : vp_in x 4) (kk : G Γ R cc own Ts nL D clx (tyx cy) mc ms post k n (CW cy a T (B.set i b)) (pc + 1) lv (.int (b.2.2 8 x.toNatClampNeg) :: st)) : G Γ R cc own Ts nL D clx (tyx cy) mc ms post k n (CW cy a T (B.set i b)) pc lv (.int x :: .ref (b.1 8) :: st) :=
  g_iald (71 + (3 * i + 1)) 0 hd (cB_get b 1 (by decide) hi) rfl hx kk
theorem c_bald9 {i : Nat} {b : BL} {x : Int32} (hd : decode cc pc = .ok (.iaload, 1)) (hi : i < B.length) (hx : vp_in x 5) (kk : G Γ R cc own Ts nL D clx (tyx cy) mc ms post k n (CW cy a T (B.set i b)) (pc + 1) lv (.int (b.2.2 9 x.toNatClampNeg) :: st)) : G Γ R cc own Ts nL D clx (tyx cy) mc ms post k n (CW cy a T (B.set i b)) pc lv (.int x :: .ref (b.1 9) :: st) :=
  g_iald (71 + (3 * i + 2)) 0 hd (cB_get b 2 (by decide) hi) rfl hx kk
theorem c_bast8 {i : Nat} {b : BL} {x v : Int32} (hd : decode cc pc = .ok (.iastore, 1)) (hi : i < B.length) (hx : vp_in x 4) (kk : G Γ R cc own Ts nL D clx (tyx cy) mc ms post k n (CW cy a T (B.set i (bA b 8 x.toNatClampNeg v))) (pc + 1) lv st) : G Γ R cc own Ts nL D clx (tyx cy) mc ms post k n (CW cy a T (B.set i b)) pc lv (.int v :: .int x :: .ref (b.1 8) :: st) :=
  g_iast (71 + (3 * i + 1)) 0 _ hd (cB_get b 1 (by decide) hi) rfl hx (cB_set b (bA b 8 x.toNatClampNeg v) 1 (by decide) _ rfl rfl hi) kk
theorem c_bast9 {i : Nat} {b : BL} {x v : Int32} (hd : decode cc pc = .ok (.iastore, 1)) (hi : i < B.length) (hx : vp_in x 5) (kk : G Γ R cc own Ts nL D clx (tyx cy) mc ms post k n (CW cy a T (B.set i (bA b 9 x.toNatClampNeg v))) (pc + 1) lv st) : G Γ R cc own Ts nL D clx (tyx cy) mc ms post k n (CW cy a T (B.set i b)) pc lv (.int v :: .int x :: .ref (b.1 9) :: st) :=
  g_iast (71 + (3 * i + 2)) 0 _ hd (cB_get b 2 (by decide) hi) rfl hx (cB_set b (bA b 9 x.toNatClampNeg v) 2 (by decide) _ rfl rfl hi) kk
def rmC (d : Nat) : Room := { frames := d, cells := 0, slots := 0, locals := 32 * d }
end CWORLD
