def tm_recE (E : tc_S) : Int32 × tc_S := if 0 ≤ E.1 18 then tm_rec2 (tm_restGo 17 (tm_rec1 E) 0) else (0, E)
theorem tm_recE_eq {M : tc_S} (h : ¬ M.1 12 = 0) : tm_recover M = tm_recE (tm_rec0 M) := by
  unfold tm_recover tm_recE
  rw [if_neg h]
