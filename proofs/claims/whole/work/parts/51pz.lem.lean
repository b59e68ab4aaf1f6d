theorem tm_il {M : tc_S} {a x : Int32} (ha : 0 ≤ a.toInt) : tc_isLatest (tc_f M 15 x) a = if (tc_find0 (tc_f M 15 x) (tc_r M 1 a) 0).1 = a then (if tc_r M 5 a = 0 then 1 else 0) else 0 := by
  unfold tc_isLatest
  rw [← tm_hv_eq (M := tc_f M 15 x) (Or.inr ha)]
  unfold tm_hv
  rw [if_neg (tm_pos ha)]
  show (if (if tc_r M 5 a = 0 then (1 : Int32) else 0) = 0 then (0 : Int32) else if (tc_find0 (tc_f M 15 x) (tc_r M 1 a) 0).1 = a then 1 else 0) = _
  by_cases h : tc_r M 5 a = 0
  · rw [if_pos h, if_neg tm_10]
  · rw [if_neg h, if_pos rfl, ite_self]
