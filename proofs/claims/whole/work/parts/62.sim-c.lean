/-! The checkpoints' calls and the recovery, on both sides. -/
section SIM3
variable {n : Nat} {S M : tc_S}
theorem tc_count_of {S S' : tc_S} (h : S'.1 = S.1) : tc_count S' = tc_count S := by
  unfold tc_count
  rw [h]
theorem tm_ne (h : M.1 18 = 0 ∨ M.1 18 = 1) : (M.1 18).toNatClampNeg ≠ (tm_to M).toNatClampNeg := by
  unfold tm_to
  rcases h with h | h <;> rw [h] <;> decide
theorem tm_keep (h : M.1 18 = 0 ∨ M.1 18 = 1) (f : Nat → Int32) (x : Int32) : upd f (tm_to M).toNatClampNeg x (M.1 18).toNatClampNeg = f (M.1 18).toNatClampNeg := pk_un (tm_ne h)
theorem sim_checkpoint (hs : Sim n S M) (hn : n ≤ 1000) : (tc_checkpoint S).1 = (tm_checkpoint M).1 ∧ Sim (n + 1) (tc_checkpoint S).2 (tm_checkpoint M).2 := by
  have h := hs.q
  unfold tc_checkpoint tm_checkpoint
  rw [← h.n 12]
  by_cases a : S.1 12 = 0
  · rw [if_pos a, if_pos a, ← hs.e9 a]
    by_cases b : S.1 9 = 0
    · have b1 : S.1 9 ≤ 0 := by rw [b]; decide
      rw [if_pos b, if_pos b1, ← h.n 7]
      refine ⟨(Int32.add_sub_cancel _ _).symm, ?_⟩
      have hv := hs.v
      have e7 : (S.1 7 + 1).toInt = (S.1 7).toInt + 1 := tz_add1 (by omega)
      have ad := hs.j.ad
      have z0 : (0 : Int) ≤ (0 : Int32).toInt := by decide
      have z16 : (0 : Int32).toInt ≤ 16 := by decide
      refine ⟨?_, ⟨hs.j.1, hs.j.2.1, hs.j.2.2.1, ⟨z0, z16, hs.j.im.2.2⟩, Or.inr (Or.inl rfl), hs.j.2.2.2.2.2⟩, ⟨hs.jm.1, hs.jm.2.1, hs.jm.2.2.1, ⟨z0, z16, hs.jm.im.2.2⟩, Or.inr (Or.inl rfl), hs.jm.2.2.2.2.2⟩, fun _ => rfl, hs.p, ⟨?_, ?_⟩, ?_, fun _ _ => ?_⟩
      · have t := (((((((((h.L 24 (S.1 7)).L 25 (S.1 2)).L 26 (S.1 6)).L 28 (S.1 16)).L 29 (S.1 17)).Ra 6 (tm_to M) (S.1 7)).Ra 7 (tm_to M) (M.1 2)).Ra 8 (tm_to M) (M.1 6)).Ra 10 (tm_to M) (M.1 16)).Ra 11 (tm_to M) (M.1 17)
        exact ((((t.f 7 (S.1 7 + 1)).R 9 1).f 10 0).f 11 0).L 9 1
      · show 1 ≤ (S.1 7 + 1).toInt
        omega
      · show (S.1 7 + 1).toInt ≤ 1 + 2 * ((n + 1 : Nat) : Int)
        omega
      · exact td_go (hs.d.up (Nat.le_succ n)) ⟨rfl, rfl, rfl, rfl, rfl, rfl⟩ rfl hs.d.1.2.1.2.2.2 rfl (fun q => ⟨tm_keep q _ _, tm_keep q _ _, tm_keep q _ _, rfl, tm_keep q _ _, tm_keep q _ _⟩) (fun _ k _ _ => rfl)
      · refine ⟨⟨⟨rfl, rfl⟩, ⟨⟨ad.1.1, ad.1.2⟩, ad.2.2.2.2.1⟩, ⟨hv.1, ?_⟩⟩, ⟨?_, ?_, ?_, ?_, ?_⟩, ⟨fun _ => rfl, fun q => absurd rfl q, fun q => absurd (show (1 : Int32) = 3 from q) (by decide)⟩, fun q => absurd rfl q, fun k k1 k2 => ?_⟩
        · show (S.1 7).toInt ≤ 1 + 2 * ((n + 1 : Nat) : Int)
          omega
        · show S.1 7 = upd (M.2.1 6) (tm_to M).toNatClampNeg (S.1 7) (tm_to M).toNatClampNeg
          exact pk_us.symm
        · show S.1 2 = upd (M.2.1 7) (tm_to M).toNatClampNeg (M.1 2) (tm_to M).toNatClampNeg
          rw [pk_us]
          exact h.n 2
        · show S.1 6 = upd (M.2.1 8) (tm_to M).toNatClampNeg (M.1 6) (tm_to M).toNatClampNeg
          rw [pk_us]
          exact h.n 6
        · show S.1 16 = upd (M.2.1 10) (tm_to M).toNatClampNeg (M.1 16) (tm_to M).toNatClampNeg
          rw [pk_us]
          exact h.n 16
        · show S.1 17 = upd (M.2.1 11) (tm_to M).toNatClampNeg (M.1 17) (tm_to M).toNatClampNeg
          rw [pk_us]
          exact h.n 17
        · have k3 : k.toInt < (0 : Int32).toInt := k2
          rw [tz_0] at k3
          omega
    · have b' : ¬ S.1 9 ≤ 0 := by
        rcases hs.j.sg with q | q | q | q
        · exact absurd q b
        · rw [q]; decide
        · rw [q]; decide
        · rw [q]; decide
      rw [if_neg b, if_neg b']; exact ⟨rfl, hs.up (Nat.le_succ n)⟩
  · rw [if_neg a, if_neg a]; exact ⟨rfl, hs.up (Nat.le_succ n)⟩
/-! the image's block -/
theorem tc_copyGo_s (n : Nat) (S : tc_S) (i e : Int32) : tc_copyGo (n + 1) S i e = if e ≤ i then S else tc_copyGo n (tc_a S 7 i (tc_r S 0 i)) (i + 1) e := rfl
theorem tm_copyGo_s (n : Nat) (M : tc_S) (i e : Int32) : tm_copyGo (n + 1) M i e = if e ≤ i then M else tm_copyGo n (tc_a M 12 (16 * tm_to M + i) (tc_r M 0 i)) (i + 1) e := rfl
theorem tc_copyGo_1 : ∀ (n : Nat) (S : tc_S) (i e : Int32), (tc_copyGo n S i e).1 = S.1
  | 0, _, _, _ => rfl
  | n + 1, S, i, e => by
    rw [tc_copyGo_s]
    split
    · rfl
    · rw [tc_copyGo_1 n]; rfl
theorem tc_copyGo_r : ∀ (n : Nat) (S : tc_S) (i e : Int32) (k : Nat), k ≠ 7 → (tc_copyGo n S i e).2.1 k = S.2.1 k
  | 0, _, _, _, _, _ => rfl
  | n + 1, S, i, e, k, hk => by
    rw [tc_copyGo_s]
    split
    · rfl
    · rw [tc_copyGo_r n _ _ _ k hk]
      exact if_neg hk
theorem tc_copyGo_7 {e : Int32} : ∀ (n : Nat) (S : tc_S) (k : Int32), 0 ≤ k.toInt → e.toInt ≤ k.toInt + n → ∀ i : Nat, (tc_copyGo n S k e).2.1 7 i = if k.toInt ≤ (i : Int) ∧ (i : Int) < e.toInt then S.2.1 0 i else S.2.1 7 i
  | 0, S, k, hk, hn, i => (if_neg (by omega)).symm
  | n + 1, S, k, hk, hn, i => by
    rw [tc_copyGo_s]
    by_cases c : e ≤ k
    · rw [if_pos c]
      rw [tz_le] at c
      rw [if_neg (by omega)]
    · rw [if_neg c, tc_copyGo_7 n _ (k + 1) (tc_kb hk c) (tc_kn (m := e.toInt) (Int.le_refl _) hn c) i]
      have c' := c
      rw [tz_le] at c'
      have hu := tz_up e
      have k1 : (k + 1).toInt = k.toInt + 1 := tz_add1 (by omega)
      have kc := tz_clamp hk
      rw [k1]
      show (if k.toInt + 1 ≤ (i : Int) ∧ (i : Int) < e.toInt then S.2.1 0 i else upd (S.2.1 7) k.toNatClampNeg (S.2.1 0 k.toNatClampNeg) i) = _
      by_cases d : i = k.toNatClampNeg
      · rw [if_neg (by omega), d, pk_us, if_pos (by omega)]
      · rw [pk_un d]
        by_cases f : k.toInt + 1 ≤ (i : Int) ∧ (i : Int) < e.toInt
        · rw [if_pos f, if_pos (by omega)]
        · rw [if_neg f, if_neg (by omega)]
theorem tm_ixn {s k : Int32} (hs : s = 0 ∨ s = 1) (hk : 0 ≤ k.toInt) (h : k.toInt < 16) : ((16 * s + k).toNatClampNeg : Int) = 16 * s.toInt + k.toInt := by
  have e1 : (16 * s).toInt = 16 * s.toInt := by rcases hs with rfl | rfl <;> decide
  have e0 : 0 ≤ s.toInt ∧ s.toInt ≤ 1 := by rcases hs with rfl | rfl <;> decide
  have e2 : (16 * s + k).toInt = 16 * s.toInt + k.toInt := by rw [tz_add (by omega) (by omega), e1]
  rw [tz_clamp (by omega), e2]
theorem tm_copyGo_12 {e : Int32} (he : e.toInt ≤ 16) : ∀ (n : Nat) (M : tc_S) (k : Int32), tm_to M = 0 ∨ tm_to M = 1 → 0 ≤ k.toInt → e.toInt ≤ k.toInt + n → ∀ i : Nat, (tm_copyGo n M k e).2.1 12 i = if 16 * (tm_to M).toInt + k.toInt ≤ (i : Int) ∧ (i : Int) < 16 * (tm_to M).toInt + e.toInt then M.2.1 0 ((i : Int) - 16 * (tm_to M).toInt).toNat else M.2.1 12 i
  | 0, M, k, ho, hk, hn, i => (if_neg (by omega)).symm
  | n + 1, M, k, ho, hk, hn, i => by
    rw [tm_copyGo_s]
    by_cases c : e ≤ k
    · rw [if_pos c]
      rw [tz_le] at c
      rw [if_neg (by omega)]
    · have et : tm_to (tc_a M 12 (16 * tm_to M + k) (tc_r M 0 k)) = tm_to M := rfl
      rw [if_neg c, tm_copyGo_12 he n _ (k + 1) (by rw [et]; exact ho) (tc_kb hk c) (tc_kn (m := e.toInt) (Int.le_refl _) hn c) i, et]
      have c' := c
      rw [tz_le] at c'
      have hu := tz_up e
      have k1 : (k + 1).toInt = k.toInt + 1 := tz_add1 (by omega)
      have kc := tz_clamp hk
      have kx := tm_ixn ho hk (by omega)
      rw [k1]
      show (if 16 * (tm_to M).toInt + (k.toInt + 1) ≤ (i : Int) ∧ (i : Int) < 16 * (tm_to M).toInt + e.toInt then M.2.1 0 ((i : Int) - 16 * (tm_to M).toInt).toNat else upd (M.2.1 12) (16 * tm_to M + k).toNatClampNeg (M.2.1 0 k.toNatClampNeg) i) = _
      by_cases d : i = (16 * tm_to M + k).toNatClampNeg
      · have di : (i : Int) = 16 * (tm_to M).toInt + k.toInt := by rw [d, kx]
        have dk : ((i : Int) - 16 * (tm_to M).toInt).toNat = k.toNatClampNeg := by omega
        rw [if_neg (by omega), if_pos (by omega), dk, d, pk_us]
      · rw [pk_un d]
        by_cases f : 16 * (tm_to M).toInt + (k.toInt + 1) ≤ (i : Int) ∧ (i : Int) < 16 * (tm_to M).toInt + e.toInt
        · rw [if_pos f, if_pos (by omega)]
        · rw [if_neg f, if_neg (by omega)]
theorem tq_ext {S' M' : tc_S} (h : tq S M) (f : S'.1 = S.1) (f' : ∀ k, k < 6 → S'.2.1 k = S.2.1 k) (g : M'.1 = M.1) (g' : ∀ k, k < 6 → M'.2.1 k = M.2.1 k) : tq S' M' := by
  have ec : tc_count S' = tc_count S := tc_count_of f
  refine ⟨fun k a b => by rw [f, g]; exact h.1 k a b, fun k a b => by rw [f' k b, g' k b]; exact h.2.1 k a b, fun i hi => ?_⟩
  rw [f' 0 (by decide), g' 0 (by decide)]
  rw [ec] at hi
  exact h.2.2 i hi
theorem tc_wi_eq (hs : tj S) (b : S.1 9 = 1) : tc_writeImage S = tc_writeBlock (tm_image2 (tc_copyGo 16 S (S.1 10) (tc_min (tc_count S) (S.1 10 + 4))) (tc_min (tc_count S) (S.1 10 + 4))) := by
  have e1 := tc_copyGo_1 16 S (S.1 10) (tc_min (tc_count S) (S.1 10 + 4))
  have ec : tc_count (tc_copyGo 16 S (S.1 10) (tc_min (tc_count S) (S.1 10 + 4))) = tc_count S := tc_count_of e1
  have hle : (tc_min (tc_count S) (S.1 10 + 4)).toInt ≤ (tc_count S).toInt := by
    rw [tz_min]
    split <;> omega
  unfold tc_writeImage tm_image2
  rw [ec]
  by_cases c : tc_min (tc_count S) (S.1 10 + 4) < tc_count S
  · have c' : ¬ tc_min (tc_count S) (S.1 10 + 4) = tc_count S := fun q => by
      rw [tz_lt, q] at c
      omega
    rw [if_pos c, if_neg c']
    unfold tc_image1
    rw [tm_f_id (k := 9)]
    show (tc_copyGo 16 S (S.1 10) (tc_min (tc_count S) (S.1 10 + 4))).1 9 = 1
    rw [e1]
    exact b
  · have c' : tc_min (tc_count S) (S.1 10 + 4) = tc_count S := by
      rw [tz_lt] at c
      exact tz_eq (by omega)
    rw [if_neg c, if_pos c']
    rfl
theorem sim_image (hs : Sim n S M) (a : S.1 12 = 0) (b : S.1 9 = 1) : (if (tc_writeImage S).1 = 0 then -9 else S.1 9) = (tm_image M).1 ∧ Sim n (tc_writeImage S).2 (tm_image M).2 := by
  have h := hs.q
  have w := hs.w a (by rw [b]; decide)
  have e10 := h.n 10
  have ecM := h.c
  have he16 := tc_min16 hs.j
  have he0 := tm_min0 hs.j
  have hi0 := hs.j.im.1
  have hn := tc_bi16 hs.j
  have hle : (tc_min (tc_count S) (S.1 10 + 4)).toInt ≤ (tc_count S).toInt := by
    rw [tz_min]
    split <;> omega
  rw [tc_wi_eq hs.j b]
  unfold tm_image tm_imgE tm_image1
  rw [← e10, ← ecM]
  generalize he : tc_min (tc_count S) (S.1 10 + 4) = e at *
  have c1 := tc_copyGo_1 16 S (S.1 10) e
  have cr := tc_copyGo_r 16 S (S.1 10) e
  have c7 := tc_copyGo_7 16 S (S.1 10) hi0 hn
  have d1 := tm_copyGo_1 16 M (S.1 10) e
  have dr := tm_copyGo_r 16 M (S.1 10) e
  have ho := tm_to_01 hs.p
  have d12 := tm_copyGo_12 he16 16 M (S.1 10) ho hi0 hn
  generalize tc_copyGo 16 S (S.1 10) e = C at *
  generalize tm_copyGo 16 M (S.1 10) e = D at *
  have q : tq C D := tq_ext h c1 (fun k hk => cr k (by omega)) d1 (fun k hk => dr k (by omega))
  have cC : tc_count C = tc_count S := tc_count_of c1
  have cD : tc_count D = tc_count S := (tc_count_of d1).trans ecM.symm
  have eto : tm_to D = tm_to M := tm_to_eq (by rw [d1])
  have key : Sim n (tm_image2 C e) (tm_image2 D e) := by
    refine ⟨?_, tj_image2 (tj_of hs.j (fun k _ => by rw [c1]) (fun k hk => cr k (by omega))) he0 he16, tj_image2 (tj_of hs.jm (fun k _ => by rw [d1]) (fun k hk => dr k (by omega))) he0 he16, fun _ => ?_, ?_, ?_, ?_, fun _ _ => ?_⟩
    · unfold tm_image2
      rw [cC, cD]
      exact (q.f 10 e).f 9 _
    · show (if e = tc_count C then (2 : Int32) else 1) = (if e = tc_count D then (2 : Int32) else 1)
      rw [cC, cD]
    · show (D.1 18 = -1 ∨ D.1 18 = 0 ∨ D.1 18 = 1) ∧ ∀ i : Nat, (D.2.1 9 i).toInt ≤ 400
      rw [d1, dr 9 (by decide)]
      exact hs.p
    · show 1 ≤ (C.1 7).toInt ∧ (C.1 7).toInt ≤ 1 + 2 * (n : Int)
      rw [c1]
      exact hs.v
    · refine td_go hs.d ⟨congrFun c1 18, congrFun c1 19, congrFun c1 20, congrFun c1 21, congrFun c1 22, congrFun c1 23⟩ (cr 6 (by decide)) ?_ (congrFun d1 18) (fun _ => ⟨tc_r_eq (dr 6 (by decide)) _, tc_r_eq (dr 7 (by decide)) _, tc_r_eq (dr 8 (by decide)) _, tc_r_eq (dr 9 (by decide)) _, tc_r_eq (dr 10 (by decide)) _, tc_r_eq (dr 11 (by decide)) _⟩) (fun s k k1 k2 => ?_)
      · show (S.1 21).toInt ≤ (C.1 6).toInt
        rw [c1]
        exact hs.d.1.2.1.2.2.2
      · show D.2.1 12 (16 * M.1 18 + k).toNatClampNeg = M.2.1 12 (16 * M.1 18 + k).toNatClampNeg
        rw [d12, if_neg]
        have kx := tm_ixn s k1 k2
        have hd : (M.1 18).toInt ≠ (tm_to M).toInt ∧ 0 ≤ (M.1 18).toInt ∧ (M.1 18).toInt ≤ 1 ∧ 0 ≤ (tm_to M).toInt ∧ (tm_to M).toInt ≤ 1 := by
          unfold tm_to
          rcases s with s | s <;> rw [s] <;> decide
        omega
    · have e11 : S.1 11 = 0 := w.2.2.1.1 b
      refine ⟨⟨⟨?_, ?_⟩, ?_, ?_⟩, ⟨?_, ?_, ?_, ?_, ?_⟩, ⟨fun _ => ?_, fun z => ?_, fun z => ?_⟩, fun z => absurd ?_ z, fun k k1 k2 => ?_⟩
      · show C.1 28 = C.1 16
        rw [c1]
        exact w.1.1.1
      · show C.1 29 = C.1 17
        rw [c1]
        exact w.1.1.2
      · show (0 ≤ (C.1 25).toInt ∧ (C.1 25).toInt ≤ 400) ∧ 0 ≤ (C.1 26).toInt
        rw [c1]
        exact w.1.2.1
      · show 1 ≤ (C.1 24).toInt ∧ (C.1 24).toInt ≤ 1 + 2 * (n : Int)
        rw [c1]
        exact w.1.2.2
      · show C.1 24 = D.2.1 6 (tm_to D).toNatClampNeg
        rw [c1, dr 6 (by decide), eto]
        exact w.2.1.1
      · show C.1 25 = D.2.1 7 (tm_to D).toNatClampNeg
        rw [c1, dr 7 (by decide), eto]
        exact w.2.1.2.1
      · show C.1 26 = D.2.1 8 (tm_to D).toNatClampNeg
        rw [c1, dr 8 (by decide), eto]
        exact w.2.1.2.2.1
      · show C.1 28 = D.2.1 10 (tm_to D).toNatClampNeg
        rw [c1, dr 10 (by decide), eto]
        exact w.2.1.2.2.2.1
      · show C.1 29 = D.2.1 11 (tm_to D).toNatClampNeg
        rw [c1, dr 11 (by decide), eto]
        exact w.2.1.2.2.2.2
      · show C.1 11 = 0
        rw [c1]
        exact e11
      · show e = tc_count C
        have z' : ¬ (if e = tc_count C then (2 : Int32) else 1) = 1 := z
        by_cases y : e = tc_count C
        · exact y
        · rw [if_neg y] at z'; exact absurd rfl z'
      · exfalso
        have z' : (if e = tc_count C then (2 : Int32) else 1) = 3 := z
        split at z'
        · exact absurd z' (by decide)
        · exact absurd z' (by decide)
      · show C.1 11 = 0
        rw [c1]
        exact e11
      · have k3 : k.toInt < e.toInt := k2
        have kc := tz_clamp k1
        have kx := tm_ixn ho k1 (by omega)
        show C.2.1 7 k.toNatClampNeg = D.2.1 12 (16 * tm_to D + k).toNatClampNeg ∧ (C.2.1 7 k.toNatClampNeg).toInt < (C.1 6).toInt ∧ (¬ C.1 11 = 0 → (C.2.1 7 k.toNatClampNeg).toInt < (C.1 27).toInt)
        rw [c1, eto, c7, d12]
        by_cases y : (S.1 10).toInt ≤ k.toInt
        · have ek : (((16 * tm_to M + k).toNatClampNeg : Int) - 16 * (tm_to M).toInt).toNat = k.toNatClampNeg := by omega
          rw [if_pos (by omega), if_pos (by omega), ek]
          exact ⟨h.2.2 _ (by omega), hs.j.bk _ (by omega), fun z => absurd e11 z⟩
        · rw [if_neg (by omega), if_neg (by omega)]
          exact w.2.2.2.2 k k1 (by omega)
  have a1 : (tm_image2 C e).1 12 = 0 := by
    show C.1 12 = 0
    rw [c1]
    exact a
  have fin := key.wb a1
  rw [fin.1, b]
  exact ⟨rfl, fin.2⟩
end SIM3
