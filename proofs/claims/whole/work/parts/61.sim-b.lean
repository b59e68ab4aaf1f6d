/-! The tie between the class's state and the reference's, and that every call keeps it and is answered alike. -/
/-- the settled checkpoint -/
def td (n : Nat) (S M : tc_S) : Prop :=
  (tc_lv (S.1 22) (S.1 23) ∧ ((0 ≤ (S.1 19).toInt ∧ (S.1 19).toInt ≤ 400) ∧ 0 ≤ (S.1 20).toInt ∧ 0 ≤ (S.1 21).toInt ∧ (S.1 21).toInt ≤ (S.1 6).toInt) ∧ ∀ k : Int32, 0 ≤ k.toInt → k.toInt < (tc_two (S.1 22) + S.1 23).toInt → (tc_r S 6 k).toInt < (S.1 21).toInt) ∧
  ((M.1 18 = -1 ∧ (S.1 18 = 0 ∧ S.1 19 = 0 ∧ S.1 20 = 0 ∧ S.1 21 = 0 ∧ S.1 22 = 1 ∧ S.1 23 = 0) ∧ tc_r S 6 0 = -1 ∧ tc_r S 6 1 = -1) ∨
   ((M.1 18 = 0 ∨ M.1 18 = 1) ∧ (1 ≤ (S.1 18).toInt ∧ (S.1 18).toInt ≤ 1 + 2 * (n : Int)) ∧ (S.1 18 = tc_r M 6 (M.1 18) ∧ S.1 19 = tc_r M 7 (M.1 18) ∧ S.1 20 = tc_r M 8 (M.1 18) ∧ S.1 21 = tc_r M 9 (M.1 18) ∧ S.1 22 = tc_r M 10 (M.1 18) ∧ S.1 23 = tc_r M 11 (M.1 18)) ∧
    ∀ k : Int32, 0 ≤ k.toInt → k.toInt < (tc_two (S.1 22) + S.1 23).toInt → tc_r S 6 k = tc_r M 12 (16 * M.1 18 + k)))
/-- the checkpoint under way -/
def tw (n : Nat) (S M : tc_S) : Prop :=
  ((S.1 28 = S.1 16 ∧ S.1 29 = S.1 17) ∧ ((0 ≤ (S.1 25).toInt ∧ (S.1 25).toInt ≤ 400) ∧ 0 ≤ (S.1 26).toInt) ∧ (1 ≤ (S.1 24).toInt ∧ (S.1 24).toInt ≤ 1 + 2 * (n : Int))) ∧
  (S.1 24 = tc_r M 6 (tm_to M) ∧ S.1 25 = tc_r M 7 (tm_to M) ∧ S.1 26 = tc_r M 8 (tm_to M) ∧ S.1 28 = tc_r M 10 (tm_to M) ∧ S.1 29 = tc_r M 11 (tm_to M)) ∧
  ((S.1 9 = 1 → S.1 11 = 0) ∧ (¬ S.1 9 = 1 → S.1 10 = tc_count S) ∧ (S.1 9 = 3 → ¬ S.1 11 = 0)) ∧
  (¬ S.1 11 = 0 → S.1 27 = tc_r M 9 (tm_to M) ∧ 0 ≤ (S.1 27).toInt ∧ (S.1 27).toInt ≤ (S.1 6).toInt) ∧
  ∀ k : Int32, 0 ≤ k.toInt → k.toInt < (S.1 10).toInt → tc_r S 7 k = tc_r M 12 (16 * tm_to M + k) ∧ (tc_r S 7 k).toInt < (S.1 6).toInt ∧ (¬ S.1 11 = 0 → (tc_r S 7 k).toInt < (S.1 27).toInt)
def Sim (n : Nat) (S M : tc_S) : Prop :=
  tq S M ∧ tj S ∧ tj M ∧ (S.1 12 = 0 → S.1 9 = M.1 9) ∧ tm_P M ∧ (1 ≤ (S.1 7).toInt ∧ (S.1 7).toInt ≤ 1 + 2 * (n : Int)) ∧ td n S M ∧ (S.1 12 = 0 → ¬ S.1 9 = 0 → tw n S M)
section SIM
variable {n : Nat} {S M : tc_S}
theorem Sim.q (h : Sim n S M) : tq S M := h.1
theorem Sim.j (h : Sim n S M) : tj S := h.2.1
theorem Sim.jm (h : Sim n S M) : tj M := h.2.2.1
theorem Sim.e9 (h : Sim n S M) : S.1 12 = 0 → S.1 9 = M.1 9 := h.2.2.2.1
theorem Sim.p (h : Sim n S M) : tm_P M := h.2.2.2.2.1
theorem Sim.v (h : Sim n S M) : 1 ≤ (S.1 7).toInt ∧ (S.1 7).toInt ≤ 1 + 2 * (n : Int) := h.2.2.2.2.2.1
theorem Sim.d (h : Sim n S M) : td n S M := h.2.2.2.2.2.2.1
theorem Sim.w (h : Sim n S M) : S.1 12 = 0 → ¬ S.1 9 = 0 → tw n S M := h.2.2.2.2.2.2.2
theorem td.up {m : Nat} (h : td n S M) (hm : n ≤ m) : td m S M := by
  refine ⟨h.1, h.2.imp id fun g => ⟨g.1, ⟨g.2.1.1, ?_⟩, g.2.2⟩⟩
  have := g.2.1.2
  omega
theorem tw.up {m : Nat} (h : tw n S M) (hm : n ≤ m) : tw m S M := by
  refine ⟨⟨h.1.1, h.1.2.1, h.1.2.2.1, ?_⟩, h.2⟩
  have := h.1.2.2.2
  omega
theorem Sim.up {m : Nat} (h : Sim n S M) (hm : n ≤ m) : Sim m S M := by
  refine ⟨h.q, h.j, h.jm, h.e9, h.p, ⟨h.v.1, ?_⟩, h.d.up hm, fun a b => (h.w a b).up hm⟩
  have := h.v.2
  omega
theorem tc_r_eq {S S' : tc_S} {k : Nat} (h : S'.2.1 k = S.2.1 k) (x : Int32) : tc_r S' k x = tc_r S k x := congrFun h _
theorem td_go {S' M' : tc_S} (h : td n S M) (f : S'.1 18 = S.1 18 ∧ S'.1 19 = S.1 19 ∧ S'.1 20 = S.1 20 ∧ S'.1 21 = S.1 21 ∧ S'.1 22 = S.1 22 ∧ S'.1 23 = S.1 23) (f6 : S'.2.1 6 = S.2.1 6) (ft : (S.1 21).toInt ≤ (S'.1 6).toInt) (g : M'.1 18 = M.1 18)
    (g6 : (M.1 18 = 0 ∨ M.1 18 = 1) → tc_r M' 6 (M.1 18) = tc_r M 6 (M.1 18) ∧ tc_r M' 7 (M.1 18) = tc_r M 7 (M.1 18) ∧ tc_r M' 8 (M.1 18) = tc_r M 8 (M.1 18) ∧ tc_r M' 9 (M.1 18) = tc_r M 9 (M.1 18) ∧ tc_r M' 10 (M.1 18) = tc_r M 10 (M.1 18) ∧ tc_r M' 11 (M.1 18) = tc_r M 11 (M.1 18))
    (g12 : (M.1 18 = 0 ∨ M.1 18 = 1) → ∀ k : Int32, 0 ≤ k.toInt → k.toInt < 16 → tc_r M' 12 (16 * M.1 18 + k) = tc_r M 12 (16 * M.1 18 + k)) : td n S' M' := by
  unfold td
  rw [f.1, f.2.1, f.2.2.1, f.2.2.2.1, f.2.2.2.2.1, f.2.2.2.2.2, g, tc_r_eq f6 0, tc_r_eq f6 1]
  obtain ⟨p, p1, p2, p3, p4, p5, p6⟩ := h.1.1.two
  have p7 : (tc_two (S.1 22) + S.1 23).toInt ≤ 16 := by
    rw [tz_add (by rw [p1]; omega) (by rw [p1]; omega), p1]
    omega
  refine ⟨⟨h.1.1, ⟨h.1.2.1.1, h.1.2.1.2.1, h.1.2.1.2.2.1, ft⟩, fun k a b => ?_⟩, h.2.imp id fun q => ⟨q.1, q.2.1, ?_, fun k a b => ?_⟩⟩
  · rw [tc_r_eq f6]
    exact h.1.2.2 k a b
  · obtain ⟨g1, g2, g3, g4, g5, g6⟩ := g6 q.1
    rw [g1, g2, g3, g4, g5, g6]
    exact q.2.2.1
  · rw [tc_r_eq f6, g12 q.1 k a (by omega)]
    exact q.2.2.2 k a b
theorem td_same {M M' : tc_S} (g : ∀ k, 6 ≤ k → M'.2.1 k = M.2.1 k) (x : Int32) : tc_r M' 6 x = tc_r M 6 x ∧ tc_r M' 7 x = tc_r M 7 x ∧ tc_r M' 8 x = tc_r M 8 x ∧ tc_r M' 9 x = tc_r M 9 x ∧ tc_r M' 10 x = tc_r M 10 x ∧ tc_r M' 11 x = tc_r M 11 x :=
  ⟨tc_r_eq (g 6 (by decide)) x, tc_r_eq (g 7 (by decide)) x, tc_r_eq (g 8 (by decide)) x, tc_r_eq (g 9 (by decide)) x, tc_r_eq (g 10 (by decide)) x, tc_r_eq (g 11 (by decide)) x⟩
theorem tm_to_eq {M M' : tc_S} (g : M'.1 18 = M.1 18) : tm_to M' = tm_to M := by
  unfold tm_to
  rw [g]
theorem tw_go {S' M' : tc_S} (h : tw n S M) (f : tfx S S') (g : tfx M M') : tw n S' M' := by
  have e := fun k (hk : 18 ≤ k) => f.1 k (by omega)
  have e9 := f.1 9 (by omega)
  have e10 := f.1 10 (by omega)
  have e11 := f.1 11 (by omega)
  have e16 := f.1 16 (by omega)
  have e17 := f.1 17 (by omega)
  have ec : tc_count S' = tc_count S := by unfold tc_count; rw [e16, e17]
  have f7 := f.2.1 7 (by decide)
  have ft := f.2.2
  unfold tw
  rw [tm_to_eq (g.1 18 (by omega)), e 24 (by decide), e 25 (by decide), e 26 (by decide), e 27 (by decide), e 28 (by decide), e 29 (by decide), e9, e10, e11, e16, e17, ec, tc_r_eq (g.2.1 6 (by decide)), tc_r_eq (g.2.1 7 (by decide)), tc_r_eq (g.2.1 8 (by decide)), tc_r_eq (g.2.1 9 (by decide)), tc_r_eq (g.2.1 10 (by decide)), tc_r_eq (g.2.1 11 (by decide))]
  refine ⟨h.1, h.2.1, h.2.2.1, fun a => ⟨(h.2.2.2.1 a).1, (h.2.2.2.1 a).2.1, Int.le_trans (h.2.2.2.1 a).2.2 ft⟩, fun k a b => ?_⟩
  rw [tc_r_eq f7, tc_r_eq (g.2.1 12 (by decide))]
  have q := h.2.2.2.2 k a b
  exact ⟨q.1, Int.lt_of_lt_of_le q.2.1 ft, q.2.2⟩
theorem Sim.go {S' M' : tc_S} (h : Sim n S M) (h12 : S.1 12 = 0) (q : tq S' M') (j : tj S') (j' : tj M') (f : tfx S S') (g : tfx M M') : Sim n S' M' := by
  have e9 := f.1 9 (by omega)
  have g9 := g.1 9 (by omega)
  refine ⟨q, j, j', fun _ => by rw [e9, g9]; exact h.e9 h12, ?_, ?_, ?_, fun _ b => ?_⟩
  · unfold tm_P
    rw [g.1 18 (by omega), g.2.1 9 (by decide)]
    exact h.p
  · rw [f.1 7 (by omega)]
    exact h.v
  · exact td_go h.d ⟨f.1 18 (by omega), f.1 19 (by omega), f.1 20 (by omega), f.1 21 (by omega), f.1 22 (by omega), f.1 23 (by omega)⟩ (f.2.1 6 (by decide)) (Int.le_trans h.d.1.2.1.2.2.2 f.2.2) (g.1 18 (by omega)) (fun _ => td_same g.2.1 _) (fun _ k _ _ => tc_r_eq (g.2.1 12 (by decide)) _)
  · rw [e9] at b
    exact tw_go (h.w h12 b) f g
theorem Sim.wb (h : Sim n S M) (h12 : S.1 12 = 0) : (tc_writeBlock S).1 = (tc_writeBlock M).1 ∧ Sim n (tc_writeBlock S).2 (tc_writeBlock M).2 :=
  ⟨h.q.wb.1, h.go h12 h.q.wb.2 (tj_wb h.j) (tj_wb h.jm) (tfx_of (tc_wb_fr _)) (tfx_of (tc_wb_fr _))⟩
/-! the calls that change no checkpoint -/
theorem nostone {v : Int32} : ¬ (0 : Int32) = 0 → v = 0 := fun q => absurd rfl q
theorem sim_put (hs : Sim n S M) (key value : Int32) : (tc_put S key value).1 = (tc_put M key value).1 ∧ Sim n (tc_put S key value).2 (tc_put M key value).2 := by
  have h := hs.q
  unfold tc_put
  rw [← h.n 12]
  by_cases a : S.1 12 = 0
  · rw [if_pos a, if_pos a]
    by_cases b : tc_isKey key = 0
    · rw [if_pos b, if_pos b]; exact ⟨rfl, hs⟩
    · rw [if_neg b, if_neg b]
      have hk := tc_keyOf b
      have h1 := h.find hs.j hk 1
      rw [← h1.1]
      have h2 := h1.2.chg (tc_find_I hs.j) hk (tc_find S key 1).1 value 0
      exact ⟨h2.1, hs.go a h2.2 (tj_chg (tc_find_I hs.j) hk nostone) (tj_chg (tc_find_I hs.jm) hk nostone) (tfx_find.tr tfx_chg) (tfx_find.tr tfx_chg)⟩
  · rw [if_neg a, if_neg a]; exact ⟨rfl, hs⟩
theorem tq.sum (h : tq S M) (a d : Int32) : tc_sum S a d = tc_sum M a d := by
  unfold tc_sum
  rw [h.hv, h.r 2 a]
theorem sim_add (hs : Sim n S M) (key delta : Int32) : (tc_add S key delta).1 = (tc_add M key delta).1 ∧ Sim n (tc_add S key delta).2 (tc_add M key delta).2 := by
  have h := hs.q
  unfold tc_add
  rw [← h.n 12]
  by_cases a : S.1 12 = 0
  · rw [if_pos a, if_pos a]
    by_cases b : tc_isKey key = 0
    · rw [if_pos b, if_pos b]; exact ⟨rfl, hs⟩
    · rw [if_neg b, if_neg b]
      have hk := tc_keyOf b
      have h1 := h.find hs.j hk 1
      rw [← h1.1, ← h1.2.sum]
      have h2 := h1.2.chg (tc_find_I hs.j) hk (tc_find S key 1).1 (tc_sum (tc_find S key 1).2 (tc_find S key 1).1 delta) 0
      exact ⟨h2.1, hs.go a h2.2 (tj_chg (tc_find_I hs.j) hk nostone) (tj_chg (tc_find_I hs.jm) hk nostone) (tfx_find.tr tfx_chg) (tfx_find.tr tfx_chg)⟩
  · rw [if_neg a, if_neg a]; exact ⟨rfl, hs⟩
theorem sim_delete (hs : Sim n S M) (key : Int32) : (tc_delete S key).1 = (tc_delete M key).1 ∧ Sim n (tc_delete S key).2 (tc_delete M key).2 := by
  have h := hs.q
  unfold tc_delete
  rw [← h.n 12]
  by_cases a : S.1 12 = 0
  · rw [if_pos a, if_pos a]
    by_cases b : tc_isKey key = 0
    · rw [if_pos b, if_pos b]; exact ⟨rfl, hs⟩
    · rw [if_neg b, if_neg b]
      have hk := tc_keyOf b
      have h1 := h.find hs.j hk 1
      rw [← h1.1, ← h1.2.hv]
      by_cases c : tc_hasValue (tc_find S key 1).2 (tc_find S key 1).1 = 0
      · rw [if_pos c, if_pos c]
        exact ⟨rfl, hs.go a h1.2 (tc_find_I hs.j) (tc_find_I hs.jm) tfx_find tfx_find⟩
      · rw [if_neg c, if_neg c]
        have h2 := h1.2.chg (tc_find_I hs.j) hk (tc_find S key 1).1 0 1
        exact ⟨h2.1, hs.go a h2.2 (tj_chg (tc_find_I hs.j) hk (fun _ => rfl)) (tj_chg (tc_find_I hs.jm) hk (fun _ => rfl)) (tfx_find.tr tfx_chg) (tfx_find.tr tfx_chg)⟩
  · rw [if_neg a, if_neg a]; exact ⟨rfl, hs⟩
theorem sim_read (hs : Sim n S M) (key : Int32) : (tc_read S key).1 = (tc_read M key).1 ∧ Sim n (tc_read S key).2 (tc_read M key).2 := by
  have h := hs.q
  unfold tc_read
  rw [← h.n 12]
  by_cases a : S.1 12 = 0
  · rw [if_pos a, if_pos a]
    by_cases b : tc_isKey key = 0
    · rw [if_pos b, if_pos b]; exact ⟨rfl, hs⟩
    · rw [if_neg b, if_neg b]
      have hk := tc_keyOf b
      have h1 := h.find hs.j hk 1
      rw [← h1.1, ← h1.2.hv, ← h1.2.r 2 (tc_find S key 1).1, ← h1.2.n 5, ← h1.2.n 3]
      by_cases c : tc_hasValue (tc_find S key 1).2 (tc_find S key 1).1 = 0
      · rw [if_pos c, if_pos c]
        exact ⟨rfl, hs.go a h1.2 (tc_find_I hs.j) (tc_find_I hs.jm) tfx_find tfx_find⟩
      · rw [if_neg c, if_neg c]
        exact ⟨rfl, hs.go a (h1.2.f 8 _) (tc_find_I (key := key) (cnt := 1) hs.j) (tc_find_I (key := key) (cnt := 1) hs.jm) (tfx_find.f 8 _) (tfx_find.f 8 _)⟩
  · rw [if_neg a, if_neg a]; exact ⟨rfl, hs⟩
theorem sim_value (hs : Sim n S M) : S.1 8 = M.1 8 := hs.q.n 8
theorem sim_fuse (hs : Sim n S M) (x : Int32) : (tc_fuse S x).1 = (tc_fuse M x).1 ∧ Sim n (tc_fuse S x).2 (tc_fuse M x).2 := by
  have h := hs.q
  unfold tc_fuse
  rw [← h.n 12]
  by_cases a : S.1 12 = 0
  · rw [if_pos a, if_pos a]
    by_cases b : x < 1
    · rw [if_pos b, if_pos b]; exact ⟨rfl, hs⟩
    · rw [if_neg b, if_neg b]
      by_cases c : x ≤ 50
      · rw [if_pos c, if_pos c]
        have hx : 0 ≤ x.toInt := by
          rw [tz_lt, tz_1] at b
          omega
        exact ⟨rfl, hs.go a (h.f 13 _) ⟨hs.j.1, hs.j.2.1, hs.j.2.2.1, ⟨hs.j.im.1, hs.j.im.2.1, hx⟩, hs.j.2.2.2.2⟩ ⟨hs.jm.1, hs.jm.2.1, hs.jm.2.2.1, ⟨hs.jm.im.1, hs.jm.im.2.1, hx⟩, hs.jm.2.2.2.2⟩ (tfx.rf.f 13 _) (tfx.rf.f 13 _)⟩
      · rw [if_neg c, if_neg c]; exact ⟨rfl, hs⟩
  · rw [if_neg a, if_neg a]; exact ⟨rfl, hs⟩
theorem tq.rfl' : tq S S := ⟨fun _ _ _ => rfl, fun _ _ _ => rfl, fun _ _ => rfl⟩
theorem sim_compact (hs : Sim n S M) : (tc_compact S).1 = (tc_compact M).1 ∧ Sim n (tc_compact S).2 (tc_compact M).2 := by
  have h := hs.q
  unfold tc_compact
  rw [← h.n 12, ← h.n 2, ← h.n 3, ← h.n 6]
  by_cases a : S.1 12 = 0
  · rw [if_pos a, if_pos a]
    by_cases b : tc_pageEnd (S.1 2) ≤ S.1 3
    · rw [if_pos b, if_pos b]
      by_cases c : S.1 6 ≤ 396
      · rw [if_pos c, if_pos c]
        have g := tq_cgo (tc_pe400 hs.j b) 5 S M (S.1 2) 0 h hs.j (tc_begin0 hs.j) (tc_pe0 hs.j) (tc_pe396 hs.j c)
        have g' := tq_cgo (tc_pe400 hs.j b) 5 M M (S.1 2) 0 tq.rfl' hs.jm (tc_begin0 hs.j) (tc_pe0 hs.j) (by rw [← h.n 6]; exact tc_pe396 hs.j c)
        exact ⟨g.1.1, hs.go a g.1.2 g.2.1 g'.2.1 g.2.2 g'.2.2⟩
      · rw [if_neg c, if_neg c]; exact ⟨rfl, hs⟩
    · rw [if_neg b, if_neg b]; exact ⟨rfl, hs⟩
  · rw [if_neg a, if_neg a]; exact ⟨rfl, hs⟩
theorem sim_address (hs : Sim n S M) (w : Int32) : tc_address S w = tc_address M w := by
  have h := hs.q
  unfold tc_address
  rw [h.n 12, h.n 2, h.n 3, h.n 4, h.n 5, h.n 6]
theorem sim_bucket (hs : Sim n S M) (i : Int32) : tc_bucket S i = tc_bucket M i := by
  have h := hs.q
  unfold tc_bucket
  rw [← h.n 12, ← h.c]
  by_cases a : S.1 12 = 0
  · rw [if_pos a, if_pos a]
    by_cases b : i < 0
    · rw [if_pos b, if_pos b]
    · rw [if_neg b, if_neg b]
      by_cases c : i < tc_count S
      · rw [if_pos c, if_pos c]
        rw [tz_lt, tz_0] at b
        exact h.b i (by omega) (tz_lt.mp c)
      · rw [if_neg c, if_neg c]
  · rw [if_neg a, if_neg a]
theorem sim_size (hs : Sim n S M) (w : Int32) : tc_size S w = tc_size M w := by
  have h := hs.q
  unfold tc_size
  rw [← h.n 12, ← h.n 7, ← h.n 14, ← h.n 15, ← h.c, ← h.keys hs.j]
  by_cases a : S.1 12 = 0
  · rw [hs.e9 a]
  · rw [if_neg a, if_neg a, if_neg a, if_neg a, if_neg a, if_neg a]
theorem sim_entry (hs : Sim n S M) (a w : Int32) : tc_entry S a w = tm_entry M a w := by
  have h := hs.q
  unfold tc_entry tm_entry
  rw [← h.n 12, ← h.n 2, ← h.n 6, ← h.r 1 a, ← h.r 2 a, ← h.r 3 a, ← h.r 4 a, ← h.r 5 a]
  by_cases c : S.1 12 = 0
  · rw [if_pos c, if_pos c]
    by_cases b : a < S.1 2
    · rw [if_pos b, if_pos b]
    · rw [if_neg b, if_neg b]
      by_cases d : a < S.1 6
      · rw [if_pos d, if_pos d]
        have e : tc_r S 2 a = if tc_r S 5 a = 0 then tc_r S 2 a else 0 := by
          by_cases f : tc_r S 5 a = 0
          · rw [if_pos f]
          · rw [if_neg f]
            exact hs.j.sv _ (by rw [tz_clamp (tc_a0 hs.j b)]; exact tz_lt.mp d) f
        rw [← e]
      · rw [if_neg d, if_neg d]
  · rw [if_neg c, if_neg c]
/-! the index grows -/
theorem tj_twin (h : tj S) (hc : tc_count S < 16) : tj (tc_twin S) ∧ (tc_count (tc_twin S)).toInt = (tc_count S).toInt + 1 := by
  obtain ⟨p, h1, h2, h3, h4, h5, h6, h7⟩ := tc_cnt h.lv
  have hs1 : (S.1 17 + 1).toInt = (S.1 17).toInt + 1 := tz_add1 (by omega)
  have hb : (tc_r S 0 (S.1 17)).toInt < (S.1 6).toInt := h.bk _ (by rw [tz_clamp h4]; omega)
  rw [tz_lt, tz_16] at hc
  have row : ∀ i : Nat, (i : Int) < (tc_count S).toInt + 1 → (upd (S.2.1 0) (tc_count S).toNatClampNeg (tc_r S 0 (S.1 17)) i).toInt < (S.1 6).toInt := by
    intro i hi
    have hcl := tz_clamp (a := tc_count S) (by omega)
    rw [upd_at]
    split
    · exact hb
    · exact h.bk i (by omega)
  unfold tc_twin
  by_cases c : S.1 17 + 1 = tc_two (S.1 16)
  · rw [if_pos c]
    have hp : (S.1 17).toInt + 1 = p := by rw [← hs1, c, h1]
    have hl : tc_lv (S.1 16 + 1) 0 := by
      rcases h.lv with ⟨q, -⟩ | ⟨q, -⟩ | ⟨q, -⟩ | ⟨q, q2⟩
      · rw [q]; exact Or.inr (Or.inl ⟨by decide, by decide, by decide⟩)
      · rw [q]; exact Or.inr (Or.inr (Or.inl ⟨by decide, by decide, by decide⟩))
      · rw [q]; exact Or.inr (Or.inr (Or.inr ⟨by decide, rfl⟩))
      · rw [q2, tz_0] at hp
        rw [q] at h1
        rw [show (tc_two 4).toInt = 16 by decide] at h1
        omega
    have ec : (tc_two (S.1 16 + 1) + 0).toInt = (tc_count S).toInt + 1 := by
      rw [Int32.add_zero, h2]
      omega
    refine ⟨⟨hl, h.2.1, h.2.2.1, h.2.2.2.1, h.2.2.2.2.1, h.2.2.2.2.2.1, fun i hi => row i ?_, h.2.2.2.2.2.2.2⟩, ec⟩
    have hi' : (i : Int) < (tc_two (S.1 16 + 1) + 0).toInt := hi
    omega
  · rw [if_neg c]
    have hlt : (S.1 17).toInt + 1 < p := by
      have : ¬ (S.1 17).toInt + 1 = p := fun q => c (tz_eq (by rw [hs1, h1]; exact q))
      omega
    have hl : tc_lv (S.1 16) (S.1 17 + 1) := by
      rcases h.lv with ⟨q, q1, q2⟩ | ⟨q, q1, q2⟩ | ⟨q, q1, q2⟩ | ⟨q, q2⟩
      · rw [q, show (tc_two 1).toInt = 2 by decide] at h1; exact Or.inl ⟨q, by omega, by omega⟩
      · rw [q, show (tc_two 2).toInt = 4 by decide] at h1; exact Or.inr (Or.inl ⟨q, by omega, by omega⟩)
      · rw [q, show (tc_two 3).toInt = 8 by decide] at h1; exact Or.inr (Or.inr (Or.inl ⟨q, by omega, by omega⟩))
      · rw [q, show (tc_two 4).toInt = 16 by decide] at h1
        rw [q2, tz_0] at h7
        omega
    have ec : (tc_two (S.1 16) + (S.1 17 + 1)).toInt = (tc_count S).toInt + 1 := by
      rw [tz_add (by rw [h1, hs1]; omega) (by rw [h1, hs1]; omega), h1, hs1]
      omega
    refine ⟨⟨hl, h.2.1, h.2.2.1, h.2.2.2.1, h.2.2.2.2.1, h.2.2.2.2.2.1, fun i hi => row i ?_, h.2.2.2.2.2.2.2⟩, ec⟩
    have hi' : (i : Int) < (tc_two (S.1 16) + (S.1 17 + 1)).toInt := hi
    omega
theorem tc_twin_1 (k : Nat) (h16 : k ≠ 16) (h17 : k ≠ 17) : (tc_twin S).1 k = S.1 k := by
  unfold tc_twin
  split
  · show (if k = 17 then 0 else if k = 16 then S.1 16 + 1 else if k = 17 then S.1 17 + 1 else S.1 k) = _
    rw [if_neg h17, if_neg h16, if_neg h17]
  · show (if k = 17 then S.1 17 + 1 else S.1 k) = _
    rw [if_neg h17]
theorem tc_twin_r (k : Nat) (h0 : k ≠ 0) : (tc_twin S).2.1 k = S.2.1 k := by
  unfold tc_twin
  split
  · exact if_neg h0
  · exact if_neg h0
theorem tc_twin_0 : (tc_twin S).2.1 0 = upd (S.2.1 0) (tc_count S).toNatClampNeg (tc_r S 0 (S.1 17)) := by
  unfold tc_twin
  split <;> rfl
theorem tq.twin (h : tq S M) (hJ : tj S) (hc : tc_count S < 16) : tq (tc_twin S) (tc_twin M) := by
  obtain ⟨p, h1, h2, h3, h4, h5, h6, h7⟩ := tc_cnt hJ.lv
  have hb : tc_r S 0 (S.1 17) = tc_r M 0 (S.1 17) := h.b _ h4 (by omega)
  have e : (tc_twin S).1 16 = (tc_twin M).1 16 ∧ (tc_twin S).1 17 = (tc_twin M).1 17 := by
    unfold tc_twin
    rw [← h.n 16, ← h.n 17]
    by_cases c : S.1 17 + 1 = tc_two (S.1 16)
    · rw [if_pos c, if_pos c]; exact ⟨rfl, rfl⟩
    · rw [if_neg c, if_neg c]; exact ⟨h.n 16, rfl⟩
  refine ⟨fun k a b => ?_, fun k a b => ?_, fun i hi => ?_⟩
  · by_cases k16 : k = 16
    · rw [k16]; exact e.1
    · by_cases k17 : k = 17
      · rw [k17]; exact e.2
      · rw [tc_twin_1 k k16 k17, tc_twin_1 k k16 k17]
        exact h.1 k a b
  · rw [tc_twin_r k (by omega), tc_twin_r k (by omega)]
    exact h.2.1 k a b
  · rw [(tj_twin hJ hc).2] at hi
    rw [tc_twin_0, tc_twin_0, ← h.c, ← h.n 17, ← hb, upd_at, upd_at]
    have hcl := tz_clamp (a := tc_count S) (by omega)
    split
    · rfl
    · exact h.2.2 i (by omega)
theorem sim_grow (hs : Sim n S M) : (tc_grow S).1 = (tm_grow M).1 ∧ Sim n (tc_grow S).2 (tm_grow M).2 := by
  have h := hs.q
  unfold tc_grow tm_grow
  rw [← h.n 12, ← h.c]
  by_cases a : S.1 12 = 0
  · rw [if_pos a, if_pos a, ← hs.e9 a]
    by_cases b : S.1 9 = 0
    · have b1 : ¬ 0 < S.1 9 := by rw [b]; decide
      rw [if_pos b, if_neg b1]
      by_cases c : tc_count S < 16
      · have c' : ¬ tc_count S = 16 := fun q => by rw [q] at c; exact absurd c (by decide)
        rw [if_pos c, if_neg c']
        have t := h.twin hs.j c
        have cm : tc_count M < 16 := by rw [← h.c]; exact c
        refine ⟨t.c, t, (tj_twin hs.j c).1, (tj_twin hs.jm cm).1, fun _ => ?_, ?_, ?_, ?_, fun _ q => absurd ((tc_twin_1 9 (by decide) (by decide)).trans b) q⟩
        · rw [tc_twin_1 9 (by decide) (by decide), tc_twin_1 9 (by decide) (by decide)]; exact hs.e9 a
        · unfold tm_P
          rw [tc_twin_1 18 (by decide) (by decide), tc_twin_r 9 (by decide)]
          exact hs.p
        · rw [tc_twin_1 7 (by decide) (by decide)]; exact hs.v
        · exact td_go hs.d ⟨tc_twin_1 18 (by decide) (by decide), tc_twin_1 19 (by decide) (by decide), tc_twin_1 20 (by decide) (by decide), tc_twin_1 21 (by decide) (by decide), tc_twin_1 22 (by decide) (by decide), tc_twin_1 23 (by decide) (by decide)⟩ (tc_twin_r 6 (by decide)) (by rw [tc_twin_1 6 (by decide) (by decide)]; exact hs.d.1.2.1.2.2.2) (tc_twin_1 18 (by decide) (by decide)) (fun _ => td_same (fun k hk => tc_twin_r k (by omega)) _) (fun _ k _ _ => tc_r_eq (tc_twin_r 12 (by decide)) _)
      · have c' : tc_count S = 16 := by
          have h1 := tc_count_16 hs.j.lv
          rw [tz_lt, tz_16] at c
          exact tz_eq (by rw [tz_16]; omega)
        rw [if_neg c, if_pos c']; exact ⟨rfl, hs⟩
    · have b' : 0 < S.1 9 := by
        rcases hs.j.sg with q | q | q | q
        · exact absurd q b
        · rw [q]; decide
        · rw [q]; decide
        · rw [q]; decide
      rw [if_neg b, if_pos b']; exact ⟨rfl, hs⟩
  · rw [if_neg a, if_neg a]; exact ⟨rfl, hs⟩
end SIM
