/-! The two states behind the constructors. -/
def tm_zero : tc_S := (fun _ => 0, fun _ _ => 0, false)
def tm_mem (p : Int32) : Int32 := if 3 ≤ p then (if p ≤ 8 then p else 8) else 3
def tm_mut (p q : Int32) : Int32 := if 1 ≤ q then (if q ≤ tm_mem p - 2 then q else tm_mem p - 2) else 1
def tm_init (p q : Int32) : tc_S := tm_empty (tc_f (tc_f (tc_f tm_zero 0 (tm_mem p)) 1 (tm_mut p q)) 18 (-1))
def tc_init (m u : Int32) : tc_S := ((tc_f (tc_f (tc_f (tc_f (tc_f (tc_f tm_zero 0 m) 1 u) 7 1) 16 1) 22 1) 28 1).1, fun k => if k = 0 then tc_fill (-1) 16 else if k = 6 then tc_fill (-1) 16 else if k = 7 then tc_fill (-1) 16 else fun _ => 0, false)
theorem tm_mem_in (p : Int32) : 3 ≤ (tm_mem p).toInt ∧ (tm_mem p).toInt ≤ 8 := by
  unfold tm_mem
  by_cases a : 3 ≤ p
  · rw [if_pos a]
    rw [tz_le, tz_3] at a
    by_cases b : p ≤ 8
    · rw [if_pos b]
      rw [tz_le, show (8 : Int32).toInt = 8 by decide] at b
      omega
    · rw [if_neg b]; decide
  · rw [if_neg a]; decide
theorem tm_mem2 (p : Int32) : (tm_mem p - 2).toInt = (tm_mem p).toInt - 2 := by
  have h := tm_mem_in p
  rw [tz_sub (by rw [tz_2]; omega) (by rw [tz_2]; omega), tz_2]
theorem tm_mut_in (p q : Int32) : 1 ≤ (tm_mut p q).toInt ∧ (tm_mut p q).toInt ≤ 6 := by
  have h := tm_mem_in p
  have h2 := tm_mem2 p
  unfold tm_mut
  by_cases a : 1 ≤ q
  · rw [if_pos a]
    rw [tz_le, tz_1] at a
    by_cases b : q ≤ tm_mem p - 2
    · rw [if_pos b]
      rw [tz_le] at b
      omega
    · rw [if_neg b]
      omega
  · rw [if_neg a]; decide
theorem tc_mem_eq (p : Int32) : tc_max 3 (tc_min 8 p) = tm_mem p := by
  apply tz_eq
  have e8 : (8 : Int32).toInt = 8 := by decide
  unfold tm_mem
  rw [tz_max, tz_min, tz_3, e8]
  by_cases a : 3 ≤ p
  · rw [if_pos a]
    rw [tz_le, tz_3] at a
    by_cases b : p ≤ 8
    · rw [if_pos b]
      rw [tz_le, e8] at b
      split <;> split <;> omega
    · rw [if_neg b, e8]
      rw [tz_le, e8] at b
      split <;> split <;> omega
  · rw [if_neg a, tz_3]
    rw [tz_le, tz_3] at a
    split <;> split <;> omega
theorem tc_mut_eq (p q : Int32) : tc_max 1 (tc_min (tm_mem p - 2) q) = tm_mut p q := by
  apply tz_eq
  have h := tm_mem_in p
  have h2 := tm_mem2 p
  unfold tm_mut
  rw [tz_max, tz_min, tz_1]
  by_cases a : 1 ≤ q
  · rw [if_pos a]
    rw [tz_le, tz_1] at a
    by_cases b : q ≤ tm_mem p - 2
    · rw [if_pos b]
      rw [tz_le] at b
      split <;> split <;> omega
    · rw [if_neg b]
      rw [tz_le] at b
      split <;> split <;> omega
  · rw [if_neg a, tz_1]
    rw [tz_le, tz_1] at a
    split <;> split <;> omega
def tm_isI (p q : Int32) (E : tc_S) : Prop := E.1 = (tm_empty0 (tc_f (tc_f (tc_f tm_zero 0 (tm_mem p)) 1 (tm_mut p q)) 18 (-1))).1 ∧ (∀ k, k ≠ 0 → E.2.1 k = fun _ => 0) ∧ ∀ i : Nat, i < 16 → E.2.1 0 i = -1
theorem tm_init_I (p q : Int32) : tm_isI p q (tm_init p q) := by
  unfold tm_init tm_empty
  refine ⟨tm_emptyGo_1 17 _ 0, fun k hk => ?_, tm_empty_0 17 _ 0 (by decide) (by decide) (fun i hi => by rw [tz_0] at hi; omega)⟩
  rw [tm_emptyGo_r 17 _ 0 k hk]
  rfl
theorem tc_fill_at {i : Nat} (h : i < 16) : tc_fill (-1) 16 i = -1 := if_pos h
theorem sim_init0 {p q : Int32} {M : tc_S} (hM : tm_isI p q M) : Sim 0 (tc_init (tm_mem p) (tm_mut p q)) M := by
  have E := fun k => congrFun hM.1 k
  have hc : tc_count (tc_init (tm_mem p) (tm_mut p q)) = 2 := by
    show tc_two 1 + 0 = 2
    decide
  have t : tq (tc_init (tm_mem p) (tm_mut p q)) M := by
    refine ⟨?_, fun k k1 k2 => ?_, fun i hi => ?_⟩
    · apply lt18
      · exact (E 0).symm
      · exact (E 1).symm
      · exact (E 2).symm
      · exact (E 3).symm
      · exact (E 4).symm
      · exact (E 5).symm
      · exact (E 6).symm
      · exact (E 7).symm
      · exact (E 8).symm
      · exact (E 10).symm
      · exact (E 11).symm
      · exact (E 12).symm
      · exact (E 13).symm
      · exact (E 14).symm
      · exact (E 15).symm
      · exact (E 16).symm
      · exact (E 17).symm
    · rw [hM.2.1 k (by omega)]
      show (if k = 0 then tc_fill (-1) 16 else if k = 6 then tc_fill (-1) 16 else if k = 7 then tc_fill (-1) 16 else fun _ => 0) = fun _ => 0
      rw [if_neg (by omega), if_neg (by omega), if_neg (by omega)]
    · rw [hc, tz_2] at hi
      rw [hM.2.2 i (by omega)]
      exact tc_fill_at (by omega)
  have jS : tj (tc_init (tm_mem p) (tm_mut p q)) := by
    have m := tm_mem_in p
    have u := tm_mut_in p q
    refine ⟨Or.inl ⟨rfl, by show 0 ≤ (0 : Int32).toInt; decide, by show (0 : Int32).toInt < 2; decide⟩, ⟨m.1, m.2, u.1, u.2⟩, ?_, ?_, Or.inl rfl, fun i => ?_, fun i hi => ?_, fun i hi => ?_, fun i hi => ?_⟩
    · show (0 ≤ (0 : Int32).toInt ∧ (0 : Int32).toInt ≤ 400) ∧ (0 : Int32).toInt ≤ 400 ∧ 0 ≤ (0 : Int32).toInt ∧ (0 : Int32).toInt ≤ 400 ∧ 0 ≤ (0 : Int32).toInt ∧ (0 : Int32).toInt ≤ 400
      decide
    · show 0 ≤ (0 : Int32).toInt ∧ (0 : Int32).toInt ≤ 16 ∧ 0 ≤ (0 : Int32).toInt
      decide
    · show tc_key (0 : Int32)
      exact ⟨by decide, by decide⟩
    · rw [hc, tz_2] at hi
      show (tc_fill (-1) 16 i).toInt < (0 : Int32).toInt
      rw [tc_fill_at (by omega)]
      decide
    · have hi' : (i : Int) < (0 : Int32).toInt := hi
      rw [tz_0] at hi'
      omega
    · have hi' : (i : Int) < (0 : Int32).toInt := hi
      rw [tz_0] at hi'
      omega
  refine ⟨t, jS, tj_tq jS t (Or.inl (E 9)), fun _ => (E 9).symm, ⟨Or.inl (E 18), ?_⟩, ?_, ?_, fun _ y => absurd rfl y⟩
  · rw [hM.2.1 9 (by decide)]
    intro i
    show (0 : Int32).toInt ≤ 400
    decide
  · show 1 ≤ (1 : Int32).toInt ∧ (1 : Int32).toInt ≤ 1 + 2 * ((0 : Nat) : Int)
    decide
  · refine ⟨⟨Or.inl ⟨rfl, by show 0 ≤ (0 : Int32).toInt; decide, by show (0 : Int32).toInt < 2; decide⟩, ?_, fun k k1 k2 => ?_⟩, Or.inl ⟨E 18, ⟨rfl, rfl, rfl, rfl, rfl, rfl⟩, rfl, rfl⟩⟩
    · show (0 ≤ (0 : Int32).toInt ∧ (0 : Int32).toInt ≤ 400) ∧ 0 ≤ (0 : Int32).toInt ∧ 0 ≤ (0 : Int32).toInt ∧ (0 : Int32).toInt ≤ (0 : Int32).toInt
      decide
    · have k3 : k.toInt < (tc_two 1 + 0 : Int32).toInt := k2
      rw [show (tc_two 1 + 0 : Int32).toInt = 2 by decide] at k3
      have kc := tz_clamp k1
      show (tc_fill (-1) 16 k.toNatClampNeg).toInt < (0 : Int32).toInt
      rw [tc_fill_at (by omega)]
      decide
theorem sim_init (p q : Int32) : Sim 0 (tc_init (tm_mem p) (tm_mut p q)) (tm_init p q) := sim_init0 (tm_init_I p q)
