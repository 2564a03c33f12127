/-! a call keeps both sides' bounds -/
abbrev Mi (i : Nat) : Int := 100000000000 + 1000000 * (i : Int)
theorem Mi_s (i : Nat) : Mi i + 1000000 = Mi (i + 1) := by
  show 100000000000 + 1000000 * (i : Int) + 1000000 = 100000000000 + 1000000 * ((i : Int) + 1)
  omega
theorem Mi_le {i : Nat} (h : i < 600) : Mi i ≤ 1000000000000 ∧ 100000000000 ≤ Mi i ∧ Mi i ≤ Mi (i + 1) := by
  have e : Mi (i + 1) = 100000000000 + 1000000 * ((i : Int) + 1) := rfl
  have e2 : Mi i = 100000000000 + 1000000 * (i : Int) := rfl
  omega
theorem ri_up {i : Nat} (h : i < 600) {S : MS} (k : rinv (Mi i) S) : rinv (Mi (i + 1)) S := ri_mono (Mi_le h).2.2 k
/-- one state of the class and one of the reference, behind i calls -/
def PI (Rel : MS → List BL → MS → Prop) (i : Nat) (T : MS) (B : List BL) (S : MS) : Prop := cinv T B ∧ rinv (Mi i) S ∧ Rel T B S
section PIN
variable {i : Nat} {T : MS} {B : List BL} {S : MS}
theorem cs_days (n : Int32) (h : cinv T B) : cinv (cf_days T n).2 B := ci_fx (fc_days T n) h (by decide) (by decide)
theorem cs_gain (v : Int32) (h : cinv T B) : cinv (cf_gain T v).2 B := ci_fx (fc_gain T v) h (by decide) (by decide)
theorem cs_road (t v : Int32) (h : cinv T B) : cinv (cf_road T t v).2 B := ci_fx (fc_road T t v) h (by decide) (by decide)
theorem cs_about (x q : Int32) (h : cinv T B) : cinv (cf_about T B x q).2.1 (cf_about T B x q).2.2 := by rw [(fc_about T B x q).2]; exact ci_fx (fc_about T B x q).1 h (by decide) (by decide)
theorem cs_as (x q : Int32) (h : cinv T B) : cinv (cf_as T B x q).2.1 (cf_as T B x q).2.2 := by rw [(fc_as T B x q).2]; exact ci_fx (fc_as T B x q).1 h (by decide) (by decide)
theorem cs_knows (x q w : Int32) (h : cinv T B) : cinv (cf_knows T B x q w).2.1 (cf_knows T B x q w).2.2 := by rw [(fc_knows T B x q w).2]; exact ci_fx (fc_knows T B x q w).1 h (by decide) (by decide)
theorem cs_binds (a b c d e : Int32) (h : cinv T B) : cinv (cf_binds T a b c d e).2 B := ci_fx (fc_binds T a b c d e) h (by decide) (by decide)
theorem cs_owe (x q v : Int32) (h : cinv T B) : cinv (cf_owe T x q v).2 B := ci_fx (fc_owe T x q v) h (by decide) (by decide)
theorem cs_owes (x q : Int32) (h : cinv T B) : cinv (cf_owes T x q).2 B := ci_fx (fc_owes T x q) h (by decide) (by decide)
theorem cs_net (x : Int32) (h : cinv T B) : cinv (cf_net T x).2 B := ci_fx (fc_net T x) h (by decide) (by decide)
theorem cs_coin (k w f : Int32) (h : cinv T B) : cinv (cf_coin T k w f).2 B := ci_fx (fc_coin T k w f) h (by decide) (by decide)
theorem cs_purse (x k v : Int32) (h : cinv T B) : cinv (cf_purse T x k v).2 B := ci_fx (fc_purse T x k v) h (by decide) (by decide)
theorem cs_has (x k : Int32) (h : cinv T B) : cinv (cf_has T x k).2 B := ci_fx (fc_has T x k) h (by decide) (by decide)
theorem cs_settle (x q : Int32) (h : cinv T B) : cinv (cf_settle T x q).2 B := ci_fx (fc_settle T x q) h (by decide) (by decide)
theorem cs_vote (x t v : Int32) (h : cinv T B) : cinv (cf_vote T x t v).2 B := ci_fx (fc_vote T x t v) h (by decide) (by decide)
theorem cs_rate (t : Int32) (h : cinv T B) : cinv (cf_rate T t).2 B := ci_fx (fc_rate T t) h (by decide) (by decide)
theorem cs_offer (x t v : Int32) (h : cinv T B) : cinv (cf_offer T x t v).2 B := ci_fx (fc_offer T x t v) h (by decide) (by decide)
theorem cs_turn (h : cinv T B) : cinv (cf_turn T).2 B := ci_fx (fc_turn T) h (by decide) (by decide)
theorem cs_part (x : Int32) (h : cinv T B) : cinv (cf_parT T B x) B := ci_fx (fc_parT T B x) h (by decide) (by decide)
theorem cs_count (x : Int32) (h : cinv T B) : cinv (cf_count T x).2 B := ci_fx (fc_count T x) h (by decide) (by decide)
theorem cs_found (x : Int32) (h : cinv T B) : cinv (cf_found T x).2 B := ci_fx (fc_found T x) h (by decide) (by decide)
end PIN
