/-! The recovery on both sides. -/
theorem tm_cutGo_s (M : tc_S) (n : Nat) (a r : Int32) : tm_cutGo M (n + 1) a r = if a < tc_r M 8 (M.1 18) then (a, r) else tm_cutGo M n (tc_r M 3 a) (r + 1) := rfl
theorem tc_cutGo_s (S : tc_S) (n : Nat) (a r : Int32) : tc_cutGo S (n + 1) a r = if a < S.1 20 then (a, r) else tc_cutGo S n (tc_r S 3 a) (r + 1) := rfl
theorem tc_restGo_s (n : Nat) (S : tc_S) (i e : Int32) : tc_restGo (n + 1) S i e = if e ≤ i then S else tc_restGo n (tc_a (tc_cut S (tc_r S 6 i)).2 0 i (tc_cut S (tc_r S 6 i)).1) (i + 1) e := rfl
theorem tm_restGo_s (n : Nat) (M : tc_S) (i : Int32) : tm_restGo (n + 1) M i = if tc_count M ≤ i then M else tm_restGo n (tm_rest1 M i) (i + 1) := rfl
theorem tm_emptyGo_s (n : Nat) (M : tc_S) (i : Int32) : tm_emptyGo (n + 1) M i = if 16 ≤ i then M else tm_emptyGo n (tc_a M 0 i (-1)) (i + 1) := rfl
theorem lt18 {P : Nat → Prop} (h0 : P 0) (h1 : P 1) (h2 : P 2) (h3 : P 3) (h4 : P 4) (h5 : P 5) (h6 : P 6) (h7 : P 7) (h8 : P 8) (h10 : P 10) (h11 : P 11) (h12 : P 12) (h13 : P 13) (h14 : P 14) (h15 : P 15) (h16 : P 16) (h17 : P 17) : ∀ k, k < 18 → k ≠ 9 → P k := by
  intro k a b
  have h : k = 0 ∨ k = 1 ∨ k = 2 ∨ k = 3 ∨ k = 4 ∨ k = 5 ∨ k = 6 ∨ k = 7 ∨ k = 8 ∨ k = 10 ∨ k = 11 ∨ k = 12 ∨ k = 13 ∨ k = 14 ∨ k = 15 ∨ k = 16 ∨ k = 17 := by omega
  rcases h with rfl | rfl | rfl | rfl | rfl | rfl | rfl | rfl | rfl | rfl | rfl | rfl | rfl | rfl | rfl | rfl | rfl <;> assumption
theorem tj_tq {S M : tc_S} (h : tj S) (q : tq S M) (h9 : M.1 9 = 0 ∨ M.1 9 = 1 ∨ M.1 9 = 2 ∨ M.1 9 = 3) : tj M := by
  refine ⟨?_, ?_, ?_, ?_, h9, ?_, ?_, ?_, ?_⟩
  · rw [← q.n 16, ← q.n 17]; exact h.lv
  · rw [← q.n 0, ← q.n 1]; exact h.mm
  · rw [← q.n 2, ← q.n 3, ← q.n 4, ← q.n 5, ← q.n 6]; exact h.ad
  · rw [← q.n 10, ← q.n 13]; exact h.im
  · rw [← q.2.1 1 (by decide) (by decide)]; exact h.ky
  · intro i hi
    rw [← q.c] at hi
    rw [← q.2.2 i hi, ← q.n 6]
    exact h.bk i hi
  · rw [← q.2.1 3 (by decide) (by decide), ← q.n 6]; exact h.ch
  · rw [← q.2.1 5 (by decide) (by decide), ← q.2.1 2 (by decide) (by decide), ← q.n 6]; exact h.sv
theorem tq_cut {S M : tc_S} (h3 : S.2.1 3 = M.2.1 3) (hc : S.1 20 = tc_r M 8 (M.1 18)) : ∀ (n : Nat) (a r : Int32), tc_cutGo S n a r = tm_cutGo M n a r
  | 0, _, _ => rfl
  | n + 1, a, r => by
    have e : tc_r S 3 a = tc_r M 3 a := congrFun h3 _
    rw [tc_cutGo_s, tm_cutGo_s, hc, e, tq_cut h3 hc n]
theorem tc_cut_lt {S : tc_S} (hR : tc_Rc S) : ∀ (n : Nat) (a r : Int32), a.toInt < (S.1 6).toInt → (tc_cutGo S n a r).1.toInt < (S.1 6).toInt
  | 0, _, _, h => h
  | n + 1, a, r, h => by
    rw [tc_cutGo_s]
    by_cases c : a < S.1 20
    · rw [if_pos c]; exact h
    · rw [if_neg c]; exact tc_cut_lt hR n _ _ (tc_prevC hR h c)
theorem sim_rest {e : Int32} : ∀ (n : Nat) (S M : tc_S) (k : Int32), tc_Rc S → tc_Ri S e → tc_count M = e → S.1 15 = M.1 15 → S.2.1 3 = M.2.1 3 → S.1 20 = tc_r M 8 (M.1 18) →
    (∀ k : Int32, 0 ≤ k.toInt → k.toInt < e.toInt → tc_r S 6 k = tc_r M 12 (16 * M.1 18 + k)) → 0 ≤ k.toInt → e.toInt ≤ k.toInt + n →
    (∀ i : Nat, (i : Int) < k.toInt → S.2.1 0 i = M.2.1 0 i ∧ (S.2.1 0 i).toInt < (S.1 6).toInt) →
    ((∀ j, j ≠ 15 → (tc_restGo n S k e).1 j = S.1 j) ∧ (∀ r, r ≠ 0 → (tc_restGo n S k e).2.1 r = S.2.1 r)) ∧ ((∀ j, j ≠ 15 → (tm_restGo n M k).1 j = M.1 j) ∧ (∀ r, r ≠ 0 → (tm_restGo n M k).2.1 r = M.2.1 r)) ∧
    (tc_restGo n S k e).1 15 = (tm_restGo n M k).1 15 ∧ ∀ i : Nat, (i : Int) < e.toInt → (tc_restGo n S k e).2.1 0 i = (tm_restGo n M k).2.1 0 i ∧ ((tc_restGo n S k e).2.1 0 i).toInt < (S.1 6).toInt
  | 0, S, M, k, hR, hi, hc, h15, h3, h20, him, hk, hn, hd => ⟨⟨fun _ _ => rfl, fun _ _ => rfl⟩, ⟨fun _ _ => rfl, fun _ _ => rfl⟩, h15, fun i hie => hd i (by omega)⟩
  | n + 1, S, M, k, hR, hi, hc, h15, h3, h20, him, hk, hn, hd => by
    rw [tc_restGo_s, tm_restGo_s, hc]
    by_cases c : e ≤ k
    · rw [if_pos c, if_pos c]
      rw [tz_le] at c
      exact ⟨⟨fun _ _ => rfl, fun _ _ => rfl⟩, ⟨fun _ _ => rfl, fun _ _ => rfl⟩, h15, fun i hie => hd i (by omega)⟩
    · rw [if_neg c, if_neg c]
      have c' := c
      rw [tz_le] at c'
      have ei := him k hk (by omega)
      have eg : tc_cutGo S 400 (tc_r S 6 k) (S.1 15) = tm_cutGo M 400 (tc_r M 12 (16 * M.1 18 + k)) (M.1 15) := by rw [ei, h15]; exact tq_cut h3 h20 400 _ _
      have lt := tc_cut_lt hR 400 (tc_r S 6 k) (S.1 15) (hi k hk (by omega))
      have hu := tz_up e
      have k1 : (k + 1).toInt = k.toInt + 1 := tz_add1 (by omega)
      have kc := tz_clamp hk
      have g := sim_rest (e := e) n (tc_a (tc_cut S (tc_r S 6 k)).2 0 k (tc_cut S (tc_r S 6 k)).1) (tm_rest1 M k) (k + 1) hR hi hc (congrArg (fun q => q.2) eg) h3 h20 him (tc_kb hk c) (tc_kn (m := e.toInt) (Int.le_refl _) hn c) (fun i hik => by
        show upd (S.2.1 0) k.toNatClampNeg (tc_cutGo S 400 (tc_r S 6 k) (S.1 15)).1 i = upd (M.2.1 0) k.toNatClampNeg (tm_cutGo M 400 (tc_r M 12 (16 * M.1 18 + k)) (M.1 15)).1 i ∧ (upd (S.2.1 0) k.toNatClampNeg (tc_cutGo S 400 (tc_r S 6 k) (S.1 15)).1 i).toInt < (S.1 6).toInt
        rw [← eg]
        by_cases d : i = k.toNatClampNeg
        · rw [d, pk_us, pk_us]; exact ⟨rfl, lt⟩
        · rw [pk_un d, pk_un d]; exact hd i (by omega))
      refine ⟨⟨fun j hj => (g.1.1 j hj).trans ?_, fun r hr => (g.1.2 r hr).trans ?_⟩, ⟨fun j hj => (g.2.1.1 j hj).trans ?_, fun r hr => (g.2.1.2 r hr).trans ?_⟩, g.2.2.1, g.2.2.2⟩
      · exact if_neg hj
      · exact if_neg hr
      · exact if_neg hj
      · exact if_neg hr
theorem tm_empty_0 : ∀ (n : Nat) (M : tc_S) (k : Int32), 0 ≤ k.toInt → (16 : Int) ≤ k.toInt + n → (∀ i : Nat, (i : Int) < k.toInt → M.2.1 0 i = -1) → ∀ i : Nat, i < 16 → (tm_emptyGo n M k).2.1 0 i = -1
  | 0, M, k, hk, hn, h, i, hi => h i (by omega)
  | n + 1, M, k, hk, hn, h, i, hi => by
    rw [tm_emptyGo_s]
    by_cases c : 16 ≤ k
    · rw [if_pos c]
      rw [tz_le, tz_16] at c
      exact h i (by omega)
    · rw [if_neg c]
      have c' := c
      rw [tz_le, tz_16] at c'
      have k1 : (k + 1).toInt = k.toInt + 1 := tz_add1 (by omega)
      have kc := tz_clamp hk
      refine tm_empty_0 n _ (k + 1) (by omega) (by omega) (fun j hj => ?_) i hi
      show upd (M.2.1 0) k.toNatClampNeg (-1) j = -1
      by_cases d : j = k.toNatClampNeg
      · rw [d, pk_us]
      · rw [pk_un d]; exact h j (by omega)
section SIM5
variable {n : Nat} {S M : tc_S}
/-- the reference's state when all is as at first -/
def tm_isE (M E : tc_S) : Prop := E.1 = (tm_empty0 (tc_f (tc_f M 12 0) 9 0)).1 ∧ (∀ k, k ≠ 0 → E.2.1 k = M.2.1 k) ∧ ∀ i : Nat, i < 16 → E.2.1 0 i = -1
theorem tm_rec0_E : tm_isE M (tm_rec0 M) := by
  unfold tm_rec0 tm_empty
  refine ⟨tm_emptyGo_1 17 _ 0, fun k hk => ?_, tm_empty_0 17 _ 0 (by decide) (by decide) (fun i hi => by rw [tz_0] at hi; omega)⟩
  rw [tm_emptyGo_r 17 _ 0 k hk]
  rfl
theorem tm_rr (E : tc_S) (k : Nat) : (tm_rec1 E).2.1 k = E.2.1 k := rfl
theorem tm_r18 (E : tc_S) : (tm_rec1 E).1 18 = E.1 18 := rfl
section SIM6
variable {E : tc_S}
theorem tm_isE.num (h : tm_isE M E) (k : Nat) : E.1 k = (tm_empty0 (tc_f (tc_f M 12 0) 9 0)).1 k := congrFun h.1 k
theorem tm_isE.s (h : tm_isE M E) : E.1 18 = M.1 18 := h.num 18
theorem sim_Rv (hs : Sim n S M) : tc_Rv S := by
  have d := hs.d.1
  have ad := hs.j.ad
  refine ⟨d.1, ⟨d.2.1.2.1, ?_, fun a ha => hs.j.ch a ?_⟩, d.2.2⟩
  · show (S.1 21).toInt ≤ 400
    have := d.2.1.2.2.2
    omega
  · have ha' : (a : Int) < (S.1 21).toInt := ha
    have := d.2.1.2.2.2
    omega
/-- what the settled checkpoint has, where there is one -/
theorem tm_case (hs : Sim n S M) (hE : tm_isE M E) (h : 0 ≤ E.1 18) : (M.1 18 = 0 ∨ M.1 18 = 1) ∧ (1 ≤ (S.1 18).toInt ∧ (S.1 18).toInt ≤ 1 + 2 * (n : Int)) ∧ (S.1 18 = tc_r M 6 (M.1 18) ∧ S.1 19 = tc_r M 7 (M.1 18) ∧ S.1 20 = tc_r M 8 (M.1 18) ∧ S.1 21 = tc_r M 9 (M.1 18) ∧ S.1 22 = tc_r M 10 (M.1 18) ∧ S.1 23 = tc_r M 11 (M.1 18)) ∧
    ∀ k : Int32, 0 ≤ k.toInt → k.toInt < (tc_two (S.1 22) + S.1 23).toInt → tc_r S 6 k = tc_r M 12 (16 * M.1 18 + k) := by
  rw [hE.s] at h
  rcases hs.d.2 with q | q
  · rw [q.1] at h
    exact absurd h (by decide)
  · exact q
theorem tm_M1 (hE : tm_isE M E) (k : Nat) (hk : k ≠ 0) (x : Int32) : tc_r (tm_rec1 E) k x = tc_r M k x := congrFun (hE.2.1 k hk) _
theorem tm_M1_18 (hE : tm_isE M E) : (tm_rec1 E).1 18 = M.1 18 := hE.s
theorem tm_E (hE : tm_isE M E) (k : Nat) (hk : k ≠ 0) : tc_r E k (E.1 18) = tc_r M k (M.1 18) := by
  rw [hE.s]
  exact congrFun (hE.2.1 k hk) _
/-- the reference's numbers when a checkpoint is restored -/
theorem tm_M1_n (hs : Sim n S M) (hE : tm_isE M E) (h : 0 ≤ E.1 18) : (tm_rec1 E).1 2 = S.1 19 ∧ (tm_rec1 E).1 3 = S.1 21 ∧ (tm_rec1 E).1 4 = S.1 21 ∧ (tm_rec1 E).1 5 = S.1 21 ∧ (tm_rec1 E).1 6 = S.1 21 ∧ (tm_rec1 E).1 16 = S.1 22 ∧ (tm_rec1 E).1 17 = S.1 23 := by
  obtain ⟨h1, h2, ⟨q1, q2, q3, q4, q5, q6⟩, h4⟩ := tm_case hs hE h
  refine ⟨?_, ?_, ?_, ?_, ?_, ?_, ?_⟩
  · exact (tm_E hE 7 (by decide)).trans q2.symm
  · exact (tm_E hE 9 (by decide)).trans q4.symm
  · exact (tm_E hE 9 (by decide)).trans q4.symm
  · exact (tm_E hE 9 (by decide)).trans q4.symm
  · exact (tm_E hE 9 (by decide)).trans q4.symm
  · exact (tm_E hE 10 (by decide)).trans q5.symm
  · exact (tm_E hE 11 (by decide)).trans q6.symm
theorem sim_Rm0 (hs : Sim n S M) (hE : tm_isE M E) (h : 0 ≤ E.1 18) : tc_lv ((tm_rec1 E).1 16) ((tm_rec1 E).1 17) ∧ tm_Rc (tm_rec1 E) ∧ tm_Ri (tm_rec1 E) (tc_count (tm_rec1 E)) := by
  obtain ⟨m2, m3, m4, m5, m6, m16, m17⟩ := tm_M1_n hs hE h
  obtain ⟨h1, h2, ⟨q1, q2, q3, q4, q5, q6⟩, h4⟩ := tm_case hs hE h
  have d := hs.d.1
  have ad := hs.j.ad
  have ec : tc_count (tm_rec1 E) = tc_two (S.1 22) + S.1 23 := by
    unfold tc_count
    rw [m16, m17]
  refine ⟨by rw [m16, m17]; exact d.1, ⟨by rw [tm_M1_18 hE]; exact h1, ⟨?_, ?_⟩, fun a ha => ?_⟩, fun k k1 k2 => ?_⟩
  · rw [tm_M1_18 hE, tm_M1 hE 8 (by decide), ← q3]
    exact d.2.1.2.1
  · rw [m6]
    have := d.2.1.2.2.2
    omega
  · rw [m6] at ha
    have e3 : (tm_rec1 E).2.1 3 = S.2.1 3 := (hE.2.1 3 (by decide)).trans (hs.q.2.1 3 (by decide) (by decide)).symm
    rw [e3]
    have := d.2.1.2.2.2
    exact hs.j.ch a (by omega)
  · rw [ec] at k2
    rw [tm_M1_18 hE, tm_M1 hE 12 (by decide), ← h4 k k1 k2, m6]
    exact d.2.2 k k1 k2
theorem sim_Rm (hs : Sim n S M) : tm_Rv M := ⟨hs.p, sim_Rm0 hs tm_rec0_E⟩
section SIM7
variable {A B : tc_S}
theorem sim_rec_c {v : Int32} (a1 : ∀ j, j ≠ 15 → A.1 j = (tc_rest1 (tc_rec1 S)).1 j) : tc_count (tc_f A 7 v) = tc_count (tc_rest1 (tc_rec1 S)) := by
  show tc_two (A.1 16) + A.1 17 = _
  rw [a1 16 (by decide), a1 17 (by decide)]
  rfl
theorem sim_rec_q (hs : Sim n S M) (hE : tm_isE M E) (c : 0 ≤ E.1 18) (a1 : ∀ j, j ≠ 15 → A.1 j = (tc_rest1 (tc_rec1 S)).1 j) (ar : ∀ r, r ≠ 0 → A.2.1 r = (tc_rest1 (tc_rec1 S)).2.1 r) (b1 : ∀ j, j ≠ 15 → B.1 j = (tm_rec1 E).1 j) (br : ∀ r, r ≠ 0 → B.2.1 r = (tm_rec1 E).2.1 r) (g15 : A.1 15 = B.1 15) (g0 : ∀ i : Nat, (i : Int) < (tc_count (tc_rest1 (tc_rec1 S))).toInt → A.2.1 0 i = B.2.1 0 i ∧ (A.2.1 0 i).toInt < ((tc_rest1 (tc_rec1 S)).1 6).toInt) : tq (tc_f A 7 (S.1 18 + 2)) (tc_f B 7 (S.1 18 + 2)) := by
  have h := hs.q
  obtain ⟨m2, m3, m4, m5, m6, m16, m17⟩ := tm_M1_n hs hE c
  have E0 := hE.num
  have eA : tc_count (tc_f A 7 (S.1 18 + 2)) = tc_count (tc_rest1 (tc_rec1 S)) := sim_rec_c a1
  have same : ∀ k, k ≠ 15 → S.1 k = M.1 k → (tc_rest1 (tc_rec1 S)).1 k = S.1 k → (tm_rec1 E).1 k = E.1 k → (tm_empty0 (tc_f (tc_f M 12 0) 9 0)).1 k = M.1 k → A.1 k = B.1 k := by
    intro k hk z1 z2 z3 z4
    rw [a1 k hk, b1 k hk, z2, z3, E0 k, z4]
    exact z1
  have rows : ∀ k, k ≠ 0 → B.2.1 k = M.2.1 k := fun k hk => (br k hk).trans (hE.2.1 k hk)
  refine ⟨?_, fun k k1 k2 => ?_, fun i hi => ?_⟩
  · apply lt18
    · exact same 0 (by decide) (h.n 0) rfl rfl rfl
    · exact same 1 (by decide) (h.n 1) rfl rfl rfl
    · exact (a1 2 (by decide)).trans ((b1 2 (by decide)).trans m2).symm
    · exact (a1 3 (by decide)).trans ((b1 3 (by decide)).trans m3).symm
    · exact (a1 4 (by decide)).trans ((b1 4 (by decide)).trans m4).symm
    · exact (a1 5 (by decide)).trans ((b1 5 (by decide)).trans m5).symm
    · exact (a1 6 (by decide)).trans ((b1 6 (by decide)).trans m6).symm
    · rfl
    · exact same 8 (by decide) (h.n 8) rfl rfl rfl
    · exact same 10 (by decide) (h.n 10) rfl rfl rfl
    · exact same 11 (by decide) (h.n 11) rfl rfl rfl
    · exact (a1 12 (by decide)).trans ((b1 12 (by decide)).trans (E0 12)).symm
    · exact same 13 (by decide) (h.n 13) rfl rfl rfl
    · exact same 14 (by decide) (h.n 14) rfl rfl rfl
    · exact g15
    · exact (a1 16 (by decide)).trans ((b1 16 (by decide)).trans m16).symm
    · exact (a1 17 (by decide)).trans ((b1 17 (by decide)).trans m17).symm
  · show A.2.1 k = B.2.1 k
    rw [ar k (by omega), rows k (by omega)]
    exact h.2.1 k k1 k2
  · rw [eA] at hi
    exact (g0 i hi).1
theorem sim_rec_j (hs : Sim n S M) (a1 : ∀ j, j ≠ 15 → A.1 j = (tc_rest1 (tc_rec1 S)).1 j) (ar : ∀ r, r ≠ 0 → A.2.1 r = (tc_rest1 (tc_rec1 S)).2.1 r) (g0 : ∀ i : Nat, (i : Int) < (tc_count (tc_rest1 (tc_rec1 S))).toInt → (A.2.1 0 i).toInt < ((tc_rest1 (tc_rec1 S)).1 6).toInt) : tj (tc_f A 7 (S.1 18 + 2)) := by
  have d := hs.d.1
  have ad := hs.j.ad
  have d21 : (S.1 21).toInt ≤ 400 := by
    have := d.2.1.2.2.2
    omega
  have A9 : A.1 9 = 0 := a1 9 (by decide)
  have eA : tc_count (tc_f A 7 (S.1 18 + 2)) = tc_count (tc_rest1 (tc_rec1 S)) := sim_rec_c a1
  refine ⟨?_, ?_, ?_, ?_, Or.inl A9, ?_, fun i hi => ?_, fun i hi => ?_, fun i hi => ?_⟩
  · show tc_lv (A.1 16) (A.1 17)
    rw [a1 16 (by decide), a1 17 (by decide)]
    exact d.1
  · show 3 ≤ (A.1 0).toInt ∧ (A.1 0).toInt ≤ 8 ∧ 1 ≤ (A.1 1).toInt ∧ (A.1 1).toInt ≤ 6
    rw [a1 0 (by decide), a1 1 (by decide)]
    exact hs.j.mm
  · show (0 ≤ (A.1 2).toInt ∧ (A.1 2).toInt ≤ 400) ∧ (A.1 3).toInt ≤ 400 ∧ 0 ≤ (A.1 4).toInt ∧ (A.1 5).toInt ≤ 400 ∧ 0 ≤ (A.1 6).toInt ∧ (A.1 6).toInt ≤ 400
    rw [a1 2 (by decide), a1 3 (by decide), a1 4 (by decide), a1 5 (by decide), a1 6 (by decide)]
    exact ⟨d.2.1.1, d21, d.2.1.2.2.1, d21, d.2.1.2.2.1, d21⟩
  · show 0 ≤ (A.1 10).toInt ∧ (A.1 10).toInt ≤ 16 ∧ 0 ≤ (A.1 13).toInt
    rw [a1 10 (by decide), a1 13 (by decide)]
    exact hs.j.im
  · show ∀ i, tc_key (A.2.1 1 i)
    rw [ar 1 (by decide)]
    exact hs.j.ky
  · rw [eA] at hi
    show (A.2.1 0 i).toInt < (A.1 6).toInt
    rw [a1 6 (by decide)]
    exact g0 i hi
  · have hi' : (i : Int) < (A.1 6).toInt := hi
    rw [a1 6 (by decide)] at hi'
    have hi2 : (i : Int) < (S.1 21).toInt := hi'
    show (A.2.1 3 i).toInt < (i : Int)
    rw [ar 3 (by decide)]
    have := d.2.1.2.2.2
    exact hs.j.ch i (by omega)
  · have hi' : (i : Int) < (A.1 6).toInt := hi
    rw [a1 6 (by decide)] at hi'
    have hi2 : (i : Int) < (S.1 21).toInt := hi'
    show ¬ A.2.1 5 i = 0 → A.2.1 2 i = 0
    rw [ar 5 (by decide), ar 2 (by decide)]
    have := d.2.1.2.2.2
    exact hs.j.sv i (by omega)
theorem sim_rec_A (hs : Sim n S M) (hE : tm_isE M E) (hn : n ≤ 1000) (c : 0 ≤ E.1 18) (a1 : ∀ j, j ≠ 15 → A.1 j = (tc_rest1 (tc_rec1 S)).1 j) (ar : ∀ r, r ≠ 0 → A.2.1 r = (tc_rest1 (tc_rec1 S)).2.1 r) (b1 : ∀ j, j ≠ 15 → B.1 j = (tm_rec1 E).1 j) (br : ∀ r, r ≠ 0 → B.2.1 r = (tm_rec1 E).2.1 r) (g15 : A.1 15 = B.1 15) (g0 : ∀ i : Nat, (i : Int) < (tc_count (tc_rest1 (tc_rec1 S))).toInt → A.2.1 0 i = B.2.1 0 i ∧ (A.2.1 0 i).toInt < ((tc_rest1 (tc_rec1 S)).1 6).toInt) : Sim (n + 1) (tc_f A 7 (S.1 18 + 2)) (tc_f B 7 (S.1 18 + 2)) := by
  have E0 := hE.num
  have q := sim_rec_q hs hE c a1 ar b1 br g15 g0
  have jS := sim_rec_j hs a1 ar (fun i hi => (g0 i hi).2)
  obtain ⟨h1, h2, -, h4⟩ := tm_case hs hE c
  have v2 : (S.1 18 + 2).toInt = (S.1 18).toInt + 2 := by rw [tz_add (by rw [tz_2]; omega) (by rw [tz_2]; omega), tz_2]
  have A9 : A.1 9 = 0 := a1 9 (by decide)
  have B9 : B.1 9 = 0 := (b1 9 (by decide)).trans (E0 9)
  have rows : ∀ k, k ≠ 0 → B.2.1 k = M.2.1 k := fun k hk => (br k hk).trans (hE.2.1 k hk)
  refine ⟨q, jS, tj_tq jS q (Or.inl B9), fun _ => A9.trans B9.symm, ?_, ?_, ?_, fun _ z => absurd A9 z⟩
  · show (B.1 18 = -1 ∨ B.1 18 = 0 ∨ B.1 18 = 1) ∧ ∀ i : Nat, (B.2.1 9 i).toInt ≤ 400
    rw [b1 18 (by decide), tm_M1_18 hE, rows 9 (by decide)]
    exact hs.p
  · show 1 ≤ (S.1 18 + 2).toInt ∧ (S.1 18 + 2).toInt ≤ 1 + 2 * ((n + 1 : Nat) : Int)
    rw [v2]
    omega
  · refine td_go (hs.d.up (Nat.le_succ n)) ⟨a1 18 (by decide), a1 19 (by decide), a1 20 (by decide), a1 21 (by decide), a1 22 (by decide), a1 23 (by decide)⟩ (ar 6 (by decide)) ?_ ((b1 18 (by decide)).trans (tm_M1_18 hE)) (fun _ => ⟨tc_r_eq (rows 6 (by decide)) _, tc_r_eq (rows 7 (by decide)) _, tc_r_eq (rows 8 (by decide)) _, tc_r_eq (rows 9 (by decide)) _, tc_r_eq (rows 10 (by decide)) _, tc_r_eq (rows 11 (by decide)) _⟩) (fun _ k _ _ => tc_r_eq (rows 12 (by decide)) _)
    show (S.1 21).toInt ≤ (A.1 6).toInt
    rw [a1 6 (by decide)]
    exact Int.le_refl _
end SIM7
theorem sim_rec_S (hs : Sim n S M) (hE : tm_isE M E) (hn : n ≤ 1000) (a : ¬ S.1 12 = 0) (c : 0 ≤ E.1 18) : (tc_recover S).1 = (tm_rec2 (tm_restGo 17 (tm_rec1 E) 0)).1 ∧ Sim (n + 1) (tc_recover S).2 (tm_rec2 (tm_restGo 17 (tm_rec1 E) 0)).2 := by
  have h := hs.q
  have d := hs.d.1
  have ad := hs.j.ad
  have hV := sim_Rv hs
  obtain ⟨m2, m3, m4, m5, m6, m16, m17⟩ := tm_M1_n hs hE c
  obtain ⟨h1, h2, ⟨q1, q2, q3, q4, q5, q6⟩, h4⟩ := tm_case hs hE c
  have ec : tc_count (tm_rec1 E) = tc_count (tc_rest1 (tc_rec1 S)) := by
    unfold tc_count
    rw [m16, m17]
    rfl
  have e15 : (tm_rec1 E).1 15 = M.1 15 := hE.num 15
  have hc16 := tc_count_16 (S := tc_rest1 (tc_rec1 S)) d.1
  have d21 : (S.1 21).toInt ≤ 400 := by
    have := d.2.1.2.2.2
    omega
  have g := sim_rest 17 (tc_rest1 (tc_rec1 S)) (tm_rec1 E) 0 hV.2.1 hV.2.2 ec ((h.n 15).trans e15.symm) ((h.2.1 3 (by decide) (by decide)).trans (hE.2.1 3 (by decide)).symm) (by rw [tm_M1_18 hE, tm_M1 hE 8 (by decide)]; exact q3) (fun k k1 k2 => by rw [tm_M1_18 hE, tm_M1 hE 12 (by decide)]; exact h4 k k1 k2) (by decide) (tc_cn17 hc16.2) (fun i hi => by rw [tz_0] at hi; omega)
  unfold tc_recover
  rw [if_neg a]
  unfold tc_restore
  generalize tc_restGo 17 (tc_rest1 (tc_rec1 S)) 0 (tc_count (tc_rest1 (tc_rec1 S))) = A at *
  generalize tm_restGo 17 (tm_rec1 E) 0 = B at *
  obtain ⟨⟨a1, ar⟩, ⟨b1, br⟩, g15, g0⟩ := g
  have a18 : A.1 18 = S.1 18 := a1 18 (by decide)
  have nz : ¬ S.1 18 = 0 := fun q => by rw [q, tz_0] at h2; omega
  have b6 : tc_r B 6 (B.1 18) = S.1 18 := by
    rw [b1 18 (by decide), tm_M1_18 hE, tc_r_eq (br 6 (by decide)), tm_M1 hE 6 (by decide)]
    exact q1.symm
  have v2 : (S.1 18 + 2).toInt = (S.1 18).toInt + 2 := by rw [tz_add (by rw [tz_2]; omega) (by rw [tz_2]; omega), tz_2]
  unfold tm_rec2
  rw [b6, a18, if_neg nz]
  exact ⟨rfl, sim_rec_A hs hE hn c a1 ar b1 br g15 g0⟩
theorem tc_cut_m1 (h : S.1 20 = 0) : tc_cut S (-1) = (-1, S) := by
  have e : tc_cutGo S 400 (-1) (S.1 15) = (-1, S.1 15) := by
    show tc_cutGo S (399 + 1) (-1) (S.1 15) = _
    rw [tc_cutGo_s, if_pos (by rw [h]; decide)]
  unfold tc_cut
  rw [e, tc_f_self]
theorem tc_rest_2 (h20 : S.1 20 = 0) (h0 : tc_r S 6 0 = -1) (h1 : tc_r S 6 1 = -1) : tc_restGo 17 S 0 2 = tc_a (tc_a S 0 0 (-1)) 0 1 (-1) := by
  show tc_restGo (16 + 1) S 0 2 = _
  rw [tc_restGo_s, if_neg (by decide), h0, tc_cut_m1 h20, show (0 : Int32) + 1 = 1 by decide]
  show tc_restGo (15 + 1) (tc_a S 0 0 (-1)) 1 2 = _
  have h1' : tc_r (tc_a S 0 0 (-1)) 6 1 = -1 := h1
  rw [tc_restGo_s, if_neg (by decide), h1', tc_cut_m1 (S := tc_a S 0 0 (-1)) h20, show (1 : Int32) + 1 = 2 by decide]
  show tc_restGo (14 + 1) (tc_a (tc_a S 0 0 (-1)) 0 1 (-1)) 2 2 = _
  rw [tc_restGo_s, if_pos (by decide)]
theorem sim_rec_0 (hs : Sim n S M) (hE : tm_isE M E) (a : ¬ S.1 12 = 0) (c : ¬ 0 ≤ E.1 18) : (tc_recover S).1 = 0 ∧ Sim (n + 1) (tc_recover S).2 E := by
  have h := hs.q
  rw [hE.s] at c
  have dd : M.1 18 = -1 ∧ (S.1 18 = 0 ∧ S.1 19 = 0 ∧ S.1 20 = 0 ∧ S.1 21 = 0 ∧ S.1 22 = 1 ∧ S.1 23 = 0) ∧ tc_r S 6 0 = -1 ∧ tc_r S 6 1 = -1 := by
    rcases hs.d.2 with q | q
    · exact q
    · exfalso
      apply c
      rcases q.1 with q | q <;> rw [q] <;> decide
  obtain ⟨d18, ⟨s18, s19, s20, s21, s22, s23⟩, r0, r1⟩ := dd
  have ec : tc_count (tc_rest1 (tc_rec1 S)) = 2 := by
    show tc_two (S.1 22) + S.1 23 = 2
    rw [s22, s23]
    decide
  have eR : tc_restore (tc_rec1 S) = tc_a (tc_a (tc_rest1 (tc_rec1 S)) 0 0 (-1)) 0 1 (-1) := by
    unfold tc_restore
    rw [ec]
    exact tc_rest_2 (S := tc_rest1 (tc_rec1 S)) s20 r0 r1
  unfold tc_recover
  rw [if_neg a, eR]
  have e18 : (tc_a (tc_a (tc_rest1 (tc_rec1 S)) 0 0 (-1)) 0 1 (-1)).1 18 = 0 := s18
  rw [e18, if_pos rfl]
  have E0 := hE.num
  have z : ∀ i : Nat, i < 2 → (tc_a (tc_a (tc_rest1 (tc_rec1 S)) 0 0 (-1)) 0 1 (-1)).2.1 0 i = -1 := by
    intro i hi
    show upd (upd (S.2.1 0) (0 : Int32).toNatClampNeg (-1)) (1 : Int32).toNatClampNeg (-1) i = -1
    have e : i = 0 ∨ i = 1 := by omega
    rcases e with rfl | rfl <;> rfl
  have q : tq (tc_f (tc_a (tc_a (tc_rest1 (tc_rec1 S)) 0 0 (-1)) 0 1 (-1)) 7 1) E := by
    refine ⟨?_, fun k k1 k2 => ?_, fun i hi => ?_⟩
    · apply lt18
      · exact (h.n 0).trans (E0 0).symm
      · exact (h.n 1).trans (E0 1).symm
      · exact s19.trans (E0 2).symm
      · exact s21.trans (E0 3).symm
      · exact s21.trans (E0 4).symm
      · exact s21.trans (E0 5).symm
      · exact s21.trans (E0 6).symm
      · exact (E0 7).symm
      · exact (h.n 8).trans (E0 8).symm
      · exact (h.n 10).trans (E0 10).symm
      · exact (h.n 11).trans (E0 11).symm
      · exact (E0 12).symm
      · exact (h.n 13).trans (E0 13).symm
      · exact (h.n 14).trans (E0 14).symm
      · exact (h.n 15).trans (E0 15).symm
      · exact s22.trans (E0 16).symm
      · exact s23.trans (E0 17).symm
    · rw [hE.2.1 k (by omega)]
      show (if k = 0 then _ else if k = 0 then _ else S.2.1 k) = M.2.1 k
      rw [if_neg (by omega), if_neg (by omega)]
      exact h.2.1 k k1 k2
    · have hi' : (i : Int) < (tc_count (tc_rest1 (tc_rec1 S))).toInt := hi
      rw [ec, tz_2] at hi'
      rw [hE.2.2 i (by omega)]
      exact z i (by omega)
  have B9 : E.1 9 = 0 := E0 9
  have jS : tj (tc_f (tc_a (tc_a (tc_rest1 (tc_rec1 S)) 0 0 (-1)) 0 1 (-1)) 7 1) := by
    have t0 : (S.1 21).toInt = 0 := by rw [s21, tz_0]
    refine ⟨hs.d.1.1, hs.j.mm, ⟨hs.d.1.2.1.1, ?_, ?_, ?_, ?_, ?_⟩, hs.j.im, Or.inl rfl, hs.j.ky, fun i hi => ?_, fun i hi => ?_, fun i hi => ?_⟩
    · show (S.1 21).toInt ≤ 400
      omega
    · show 0 ≤ (S.1 21).toInt
      omega
    · show (S.1 21).toInt ≤ 400
      omega
    · show 0 ≤ (S.1 21).toInt
      omega
    · show (S.1 21).toInt ≤ 400
      omega
    · have hi' : (i : Int) < (tc_count (tc_rest1 (tc_rec1 S))).toInt := hi
      rw [ec, tz_2] at hi'
      show ((tc_a (tc_a (tc_rest1 (tc_rec1 S)) 0 0 (-1)) 0 1 (-1)).2.1 0 i).toInt < (S.1 21).toInt
      rw [z i (by omega), tz_m1]
      omega
    · have hi' : (i : Int) < (S.1 21).toInt := hi
      omega
    · have hi' : (i : Int) < (S.1 21).toInt := hi
      omega
  refine ⟨rfl, q, jS, tj_tq jS q (Or.inl B9), fun _ => B9.symm, ?_, ?_, ?_, fun _ y => absurd rfl y⟩
  · unfold tm_P
    rw [hE.s, hE.2.1 9 (by decide)]
    exact hs.p
  · show 1 ≤ (1 : Int32).toInt ∧ (1 : Int32).toInt ≤ 1 + 2 * ((n + 1 : Nat) : Int)
    rw [tz_1]
    omega
  · exact td_go (hs.d.up (Nat.le_succ n)) ⟨rfl, rfl, rfl, rfl, rfl, rfl⟩ rfl (Int.le_refl _) hE.s (fun _ => ⟨tc_r_eq (hE.2.1 6 (by decide)) _, tc_r_eq (hE.2.1 7 (by decide)) _, tc_r_eq (hE.2.1 8 (by decide)) _, tc_r_eq (hE.2.1 9 (by decide)) _, tc_r_eq (hE.2.1 10 (by decide)) _, tc_r_eq (hE.2.1 11 (by decide)) _⟩) (fun _ k _ _ => tc_r_eq (hE.2.1 12 (by decide)) _)
end SIM6
theorem sim_recover (hs : Sim n S M) (hn : n ≤ 1000) : (tc_recover S).1 = (tm_recover M).1 ∧ Sim (n + 1) (tc_recover S).2 (tm_recover M).2 := by
  by_cases a : S.1 12 = 0
  · unfold tc_recover tm_recover
    rw [← hs.q.n 12, if_pos a, if_pos a]
    exact ⟨rfl, hs.up (Nat.le_succ n)⟩
  · have a' : ¬ M.1 12 = 0 := by rw [← hs.q.n 12]; exact a
    by_cases c : 0 ≤ (tm_rec0 M).1 18
    · have e : tm_recover M = tm_rec2 (tm_restGo 17 (tm_rec1 (tm_rec0 M)) 0) := by
        unfold tm_recover
        rw [if_neg a', if_pos c]
      rw [e]
      exact sim_rec_S hs tm_rec0_E hn a c
    · have e : tm_recover M = (0, tm_rec0 M) := by
        unfold tm_recover
        rw [if_neg a', if_neg c]
      rw [e]
      exact sim_rec_0 hs tm_rec0_E a c
end SIM5
