/-! a copy is equal below the lengths: written by wip/whole/m28.py -/
theorem eqb_cf {V : Mm_} {g g0 : Nat} : eqb_ (V g0) (cf_ V g g0 g) := by
  refine ⟨fun r k h1 h2 hk => ?_, fun r k h1 h2 hk => ?_, fun k hk => cf_0 k hk, ?_, fun r k hr hk => ?_, cf_15⟩
  · obtain rfl | rfl | rfl | rfl : r = 2 ∨ r = 3 ∨ r = 4 ∨ r = 5 := by omega
    all_goals (unfold cf_; simp [a_set, cp_in hk])
  · obtain rfl | rfl | rfl | rfl | rfl : r = 7 ∨ r = 8 ∨ r = 9 ∨ r = 10 ∨ r = 11 := by omega
    all_goals (unfold cf_; simp [a_set, cp_in hk])
  · unfold cf_; simp [a_set, upd]
  · obtain rfl | rfl | rfl | rfl := hr
    all_goals (unfold cf_; simp [a_set, cp_in hk])