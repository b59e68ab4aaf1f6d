/-! The flushing step, the meta's, the recovery. -/
section SIM4
variable {n : Nat} {S M : tc_S}
/-- one page alone -/
theorem tc_flush_one {e : Int32} (h0 : 0 ≤ (M.1 4).toInt) (he : e.toInt ≤ 400) (h : ¬ e ≤ M.1 4) : tc_flush M (tc_min e (tc_pageEnd (M.1 4))) = tc_flushPage M e := by
  have h' := h
  rw [tz_le] at h'
  have hp := tz_pe h0 (by omega)
  have hm : (tc_min e (tc_pageEnd (M.1 4))).toInt = if (M.1 4).toInt - (M.1 4).toInt % 4 + 4 < e.toInt then (M.1 4).toInt - (M.1 4).toInt % 4 + 4 else e.toInt := by rw [tz_min, hp]
  have e1 : tc_min (tc_min e (tc_pageEnd (M.1 4))) (tc_pageEnd (M.1 4)) = tc_min e (tc_pageEnd (M.1 4)) := by
    apply tz_eq
    rw [tz_min, hm, hp]
    (repeat' split) <;> omega
  have e2 : tc_flushPage M (tc_min e (tc_pageEnd (M.1 4))) = tc_flushPage M e := by
    unfold tc_flushPage
    rw [e1]
  have n1 : ¬ tc_min e (tc_pageEnd (M.1 4)) ≤ M.1 4 := by
    rw [tz_le, hm]
    split <;> omega
  have e3 : (tc_flushPage M e).2.1 4 = tc_min e (tc_pageEnd (M.1 4)) := by
    unfold tc_flushPage tc_writeBlock
    split
    · rfl
    · split <;> rfl
  show tc_flushGo (99 + 1) M (tc_min e (tc_pageEnd (M.1 4))) = _
  rw [tc_flushGo_s, if_neg n1, e2]
  by_cases c : (tc_flushPage M e).1 = 0
  · rw [if_pos c, ← c]
  · rw [if_neg c]
    show tc_flushGo (98 + 1) _ _ = _
    rw [tc_flushGo_s, e3, if_pos (tz_le.mpr (Int.le_refl _))]
    have c1 : (tc_flushPage M e).1 = 1 := by
      unfold tc_flushPage tc_writeBlock at c ⊢
      split
      · next g =>
        rw [if_pos g] at c
        split
        · rfl
        · next g2 => rw [if_neg g2] at c; exact absurd rfl c
      · next g =>
        rw [if_neg g] at c
        split
        · next g2 => rw [if_pos g2] at c; exact absurd rfl c
        · rfl
    rw [← c1]
theorem tc_wb_dn (h : S.1 12 = 0) (h1 : (tc_writeBlock S).1 = 0) : ¬ (tc_writeBlock S).2.1 12 = 0 := by
  unfold tc_writeBlock at h1 ⊢
  by_cases h2 : S.1 13 ≤ 0
  · rw [if_pos h2, if_pos h] at h1
    exact absurd (show (1 : Int32) = 0 from h1) (by decide)
  · rw [if_neg h2] at h1 ⊢
    by_cases h3 : S.1 13 - 1 = 0
    · rw [if_pos h3]
      show ¬ (1 : Int32) = 0
      decide
    · rw [if_neg h3] at h1; exact absurd (show (1 : Int32) = 0 from h1) (by decide)
/-- the end is set -/
theorem sim_end1 (hs : Sim n S M) (a : S.1 12 = 0) (b : S.1 9 = 2) : Sim n (tc_end1 S) (tm_end1 M) ∧ (tc_end1 S).1 12 = 0 ∧ (tc_end1 S).1 9 = 2 ∧ ¬ (tc_end1 S).1 11 = 0 ∧ tm_to (tm_end1 M) = tm_to M := by
  have h := hs.q
  have w := hs.w a (by rw [b]; decide)
  by_cases c : S.1 11 = 0
  · have eS : tc_end1 S = tc_f (tc_f (tc_f S 5 (S.1 6)) 27 (S.1 6)) 11 1 := if_pos c
    have eM : tm_end1 M = tc_f (tc_a (tc_f M 5 (S.1 6)) 9 (tm_to M) (S.1 6)) 11 1 := by
      rw [h.n 6]
      exact if_pos ((h.n 11).symm.trans c)
    rw [eS, eM]
    have ad := hs.j.ad
    have adm := hs.jm.ad
    have e6 := h.n 6
    refine ⟨⟨((((h.f 5 (S.1 6)).L 27 (S.1 6)).Ra 9 (tm_to M) (S.1 6)).f 11 1), ⟨hs.j.1, hs.j.2.1, ⟨ad.1, ad.2.1, ad.2.2.1, ad.2.2.2.2.2, ad.2.2.2.2⟩, hs.j.2.2.2⟩, ⟨hs.jm.1, hs.jm.2.1, ⟨adm.1, adm.2.1, adm.2.2.1, ad.2.2.2.2.2, adm.2.2.2.2⟩, hs.jm.2.2.2⟩, fun _ => hs.e9 a, ⟨hs.p.1, fun i => ?_⟩, hs.v, ?_, fun _ _ => ?_⟩, a, b, by show ¬ (1 : Int32) = 0; decide, rfl⟩
    · show (upd (M.2.1 9) (tm_to M).toNatClampNeg (S.1 6) i).toInt ≤ 400
      rw [upd_at]
      split
      · exact ad.2.2.2.2.2
      · exact hs.p.2 i
    · exact td_go hs.d ⟨rfl, rfl, rfl, rfl, rfl, rfl⟩ rfl hs.d.1.2.1.2.2.2 rfl (fun q => ⟨rfl, rfl, rfl, tm_keep q _ _, rfl, rfl⟩) (fun _ k _ _ => rfl)
    · refine ⟨w.1, w.2.1, ⟨fun q => ?_, w.2.2.1.2.1, fun _ => ?_⟩, fun _ => ⟨?_, ad.2.2.2.2.1, Int.le_refl _⟩, fun k k1 k2 => ?_⟩
      · have q' : S.1 9 = 1 := q
        rw [b] at q'
        exact absurd q' (by decide)
      · show ¬ (1 : Int32) = 0
        decide
      · show S.1 6 = upd (M.2.1 9) (tm_to M).toNatClampNeg (S.1 6) (tm_to M).toNatClampNeg
        exact pk_us.symm
      · have g := w.2.2.2.2 k k1 k2
        exact ⟨g.1, g.2.1, fun _ => g.2.1⟩
  · have eS : tc_end1 S = S := if_neg c
    have eM : tm_end1 M = M := if_neg (fun q => c ((h.n 11).trans q))
    rw [eS, eM]
    exact ⟨hs, a, b, c, rfl⟩
/-- the next step is META -/
theorem sim_meta (hs : Sim n S M) (a : S.1 12 = 0) (b : S.1 9 = 2) (c : ¬ S.1 11 = 0) : Sim n (tc_f S 9 3) (tc_f M 9 3) := by
  have w := hs.w a (by rw [b]; decide)
  refine ⟨hs.q.f 9 3, ⟨hs.j.1, hs.j.2.1, hs.j.2.2.1, hs.j.2.2.2.1, Or.inr (Or.inr (Or.inr rfl)), hs.j.2.2.2.2.2⟩, ⟨hs.jm.1, hs.jm.2.1, hs.jm.2.2.1, hs.jm.2.2.2.1, Or.inr (Or.inr (Or.inr rfl)), hs.jm.2.2.2.2.2⟩, fun _ => rfl, hs.p, hs.v, hs.d, fun _ _ => ⟨w.1, w.2.1, ⟨fun q => absurd q (by show ¬ (3 : Int32) = 1; decide), fun _ => w.2.2.1.2.1 (by rw [b]; decide), fun _ => c⟩, w.2.2.2.1, w.2.2.2.2⟩⟩
theorem sim_9 (hs : Sim n S M) {x : Int32} (h : S.1 12 = 0 → S.1 9 = x) (hx : x = 2 ∨ x = 3) : Sim n S (tc_f M 9 x) := by
  refine ⟨hs.q.R 9 x, hs.j, ⟨hs.jm.1, hs.jm.2.1, hs.jm.2.2.1, hs.jm.2.2.2.1, Or.inr (Or.inr hx), hs.jm.2.2.2.2.2⟩, h, hs.p, hs.v, hs.d, hs.w⟩
theorem sim_flushing (hs : Sim n S M) (a : S.1 12 = 0) (b : S.1 9 = 2) : (if (tc_flushEnd S).1 = 0 then -9 else S.1 9) = (tm_flushing M).1 ∧ Sim n (tc_flushEnd S).2 (tm_flushing M).2 := by
  obtain ⟨h1, a1, b1, c1, et⟩ := sim_end1 hs a b
  unfold tc_flushEnd tm_flushing
  rw [b]
  generalize tc_end1 S = S1 at *
  rw [← et]
  generalize tm_end1 M = M1 at *
  have w := h1.w a1 (by rw [b1]; decide)
  obtain ⟨e27, k0, k1⟩ := w.2.2.2.1 c1
  have e4 := h1.q.n 4
  have ad := h1.j.ad
  unfold tc_end3 tm_end3
  rw [← e27, ← e4]
  by_cases d : S1.1 27 ≤ S1.1 4
  · have d' : ¬ S1.1 4 < S1.1 27 := by
      rw [tz_le] at d
      rw [tz_lt]
      omega
    rw [if_pos d, if_pos d]
    unfold tc_end2 tm_end2
    rw [← e27, ← e4, if_neg d', if_neg d']
    exact ⟨rfl, sim_meta h1 a1 b1 c1⟩
  · rw [if_neg d, if_neg d]
    have d4 : ¬ S1.1 27 ≤ M1.1 4 := by rw [← e4]; exact d
    have ef : tc_flush M1 (tc_min (S1.1 27) (tc_pageEnd (S1.1 4))) = tc_flushPage M1 (S1.1 27) := by
      rw [e4]
      exact tc_flush_one (by rw [← e4]; exact ad.2.2.1) (by omega) d4
    rw [ef]
    have g := h1.q.fp (S1.1 27)
    have t27 : (S1.1 27).toInt ≤ 400 := by omega
    have h2 : Sim n (tc_flushPage S1 (S1.1 27)).2 (tc_flushPage M1 (S1.1 27)).2 := h1.go a1 g.2 (tj_fp h1.j d t27) (tj_fp h1.jm d4 t27) (tfx_of (tc_fp_fr _ _)) (tfx_of (tc_fp_fr _ _))
    have fS := tfx_of (tc_fp_fr S1 (S1.1 27))
    have fM := tfx_of (tc_fp_fr M1 (S1.1 27))
    rw [← g.1]
    by_cases c : (tc_flushPage S1 (S1.1 27)).1 = 0
    · rw [if_pos c, c]
      have dn : ¬ (tc_flushPage S1 (S1.1 27)).2.1 12 = 0 := tc_wb_dn (S := tc_f S1 4 _) a1 c
      refine ⟨rfl, sim_9 h2 (fun q => absurd q dn) ?_⟩
      split
      · exact Or.inl rfl
      · exact Or.inr rfl
    · rw [if_neg c]
      have up : (tc_flushPage S1 (S1.1 27)).2.1 12 = 0 := tc_wb_up (S := tc_f S1 4 _) a1 c
      have e9 : (tc_flushPage S1 (S1.1 27)).2.1 9 = 2 := (fS.1 9 (by omega)).trans b1
      have e11 : ¬ (tc_flushPage S1 (S1.1 27)).2.1 11 = 0 := by rw [fS.1 11 (by omega)]; exact c1
      have w2 := h2.w up (by rw [e9]; decide)
      obtain ⟨f27, -, -⟩ := w2.2.2.2.1 e11
      have et2 : tm_to (tc_flushPage M1 (S1.1 27)).2 = tm_to M1 := tm_to_eq (fM.1 18 (by omega))
      rw [et2] at f27
      have f4 := h2.q.n 4
      unfold tc_end2 tm_end2
      rw [if_neg c, ← f27, ← f4]
      by_cases y : (tc_flushPage S1 (S1.1 27)).2.1 4 < (tc_flushPage S1 (S1.1 27)).2.1 27
      · rw [if_pos y, if_pos y]
        exact ⟨if_neg tm_10, sim_9 h2 (fun _ => e9) (Or.inl rfl)⟩
      · rw [if_neg y, if_neg y]
        exact ⟨if_neg tm_10, sim_meta h2 up e9 e11⟩
/-- settled -/
theorem sim_settle (hs : Sim n S M) (a : S.1 12 = 0) (b : S.1 9 = 3) : (if (tc_settle S).1 = 0 then -9 else S.1 9) = (if (tc_writeBlock (tm_settle M)).1 = 0 then -9 else 3) ∧ Sim n (tc_settle S).2 (tc_writeBlock (tm_settle M)).2 := by
  have h := hs.q
  have w := hs.w a (by rw [b]; decide)
  have e11 := w.2.2.1.2.2 b
  have e10 := w.2.2.1.2.1 (by rw [b]; decide)
  obtain ⟨e27, k0, k1⟩ := w.2.2.2.1 e11
  have ho := tm_to_01 hs.p
  have ec : tc_two (S.1 28) + S.1 29 = tc_count S := by
    rw [w.1.1.1, w.1.1.2]
    rfl
  have key : Sim n (tc_f (tc_swap S) 9 0) (tm_settle M) := by
    refine ⟨?_, ⟨hs.j.1, hs.j.2.1, hs.j.2.2.1, hs.j.2.2.2.1, Or.inl rfl, hs.j.2.2.2.2.2⟩, tj_settle hs.jm, fun _ => rfl, ⟨?_, hs.p.2⟩, hs.v, ?_, fun _ q => absurd rfl q⟩
    · have t : tq (tc_swap S) M := by
        refine ⟨fun k k2 k3 => ?_, fun k k2 k3 => ?_, fun i hi => h.2.2 i hi⟩
        · show (if k < 18 then S.1 k else _) = M.1 k
          rw [if_pos k2]
          exact h.1 k k2 k3
        · show (if k = 6 then S.2.1 7 else if k = 7 then S.2.1 6 else S.2.1 k) = M.2.1 k
          rw [if_neg (by omega), if_neg (by omega)]
          exact h.2.1 k k2 k3
      exact ((t.R 18 (tm_to M)).R 9 0).L 9 0
    · show tm_to M = -1 ∨ tm_to M = 0 ∨ tm_to M = 1
      exact Or.inr ho
    · refine ⟨⟨?_, ⟨w.1.2.1.1, w.1.2.1.2, k0, k1⟩, fun k g1 g2 => ?_⟩, Or.inr ⟨ho, w.1.2.2, ⟨w.2.1.1, w.2.1.2.1, w.2.1.2.2.1, e27, w.2.1.2.2.2.1, w.2.1.2.2.2.2⟩, fun k g1 g2 => ?_⟩⟩
      · show tc_lv (S.1 28) (S.1 29)
        rw [w.1.1.1, w.1.1.2]
        exact hs.j.lv
      · have g3 : k.toInt < (tc_two (S.1 28) + S.1 29).toInt := g2
        rw [ec, ← e10] at g3
        exact (w.2.2.2.2 k g1 g3).2.2 e11
      · have g3 : k.toInt < (tc_two (S.1 28) + S.1 29).toInt := g2
        rw [ec, ← e10] at g3
        exact (w.2.2.2.2 k g1 g3).1
  have fin := key.wb a
  rw [b]
  unfold tc_settle
  rw [fin.1]
  exact ⟨rfl, fin.2⟩
theorem sim_step (hs : Sim n S M) : (tc_step S).1 = (tm_step M).1 ∧ Sim n (tc_step S).2 (tm_step M).2 := by
  have h := hs.q
  unfold tc_step tm_step
  rw [← h.n 12]
  by_cases a : S.1 12 = 0
  · rw [if_pos a, if_pos a, ← hs.e9 a]
    rcases hs.j.sg with b | b | b | b
    · have n1 : ¬ S.1 9 = 1 := by rw [b]; decide
      have n2 : ¬ S.1 9 = 2 := by rw [b]; decide
      have n3 : ¬ S.1 9 = 3 := by rw [b]; decide
      rw [if_neg n1, if_neg n2, if_neg n3, if_neg n1, if_neg n2, if_pos b]
      exact ⟨rfl, hs⟩
    · rw [if_pos b, if_pos b]
      exact sim_image hs a b
    · have n1 : ¬ S.1 9 = 1 := by rw [b]; decide
      rw [if_neg n1, if_pos b, if_neg n1, if_pos b]
      exact sim_flushing hs a b
    · have n0 : ¬ S.1 9 = 0 := by rw [b]; decide
      have n1 : ¬ S.1 9 = 1 := by rw [b]; decide
      have n2 : ¬ S.1 9 = 2 := by rw [b]; decide
      rw [if_neg n1, if_neg n2, if_pos b, if_neg n1, if_neg n2, if_neg n0]
      exact sim_settle hs a b
  · rw [if_neg a, if_neg a]; exact ⟨rfl, hs⟩
end SIM4
