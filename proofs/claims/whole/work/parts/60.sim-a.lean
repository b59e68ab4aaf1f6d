/-! Class and reference side by side: what both have (tq), and that the functions that serve for both keep it. -/
def tq (S M : tc_S) : Prop := (∀ k, k < 18 → k ≠ 9 → S.1 k = M.1 k) ∧ (∀ k, 1 ≤ k → k < 6 → S.2.1 k = M.2.1 k) ∧ ∀ i : Nat, (i : Int) < (tc_count S).toInt → S.2.1 0 i = M.2.1 0 i
section TQ
variable {S M : tc_S}
theorem tq.n (h : tq S M) (k : Nat) (h1 : k < 18 := by decide) (h2 : k ≠ 9 := by decide) : S.1 k = M.1 k := h.1 k h1 h2
theorem tq.r (h : tq S M) (k : Nat) (x : Int32) (h1 : 1 ≤ k := by decide) (h2 : k < 6 := by decide) : tc_r S k x = tc_r M k x := congrFun (h.2.1 k h1 h2) _
theorem tq.c (h : tq S M) : tc_count S = tc_count M := by
  unfold tc_count
  rw [h.n 16, h.n 17]
theorem tq.b (h : tq S M) (x : Int32) (h0 : 0 ≤ x.toInt) (h1 : x.toInt < (tc_count S).toInt) : tc_r S 0 x = tc_r M 0 x := h.2.2 _ (by rw [tz_clamp h0]; exact h1)
theorem tc_count_f {k : Nat} {x : Int32} (h16 : k ≠ 16) (h17 : k ≠ 17) : tc_count (tc_f S k x) = tc_count S := by
  show tc_two (if 16 = k then x else S.1 16) + (if 17 = k then x else S.1 17) = _
  rw [if_neg (Ne.symm h16), if_neg (Ne.symm h17)]
  rfl
theorem tq.f (h : tq S M) (k : Nat) (x : Int32) (h16 : k ≠ 16 := by decide) (h17 : k ≠ 17 := by decide) : tq (tc_f S k x) (tc_f M k x) := by
  refine ⟨fun j h1 h2 => ?_, h.2.1, fun i hi => h.2.2 i ?_⟩
  · show (if j = k then x else S.1 j) = (if j = k then x else M.1 j)
    rw [h.1 j h1 h2]
  · rw [tc_count_f h16 h17] at hi
    exact hi
theorem tq.L (h : tq S M) (k : Nat) (x : Int32) (hk : k = 9 ∨ 18 ≤ k := by decide) : tq (tc_f S k x) M := by
  refine ⟨fun j h1 h2 => ?_, h.2.1, fun i hi => h.2.2 i ?_⟩
  · show (if j = k then x else S.1 j) = M.1 j
    rw [if_neg (by omega)]
    exact h.1 j h1 h2
  · rw [tc_count_f (by omega) (by omega)] at hi
    exact hi
theorem tq.R (h : tq S M) (k : Nat) (x : Int32) (hk : k = 9 ∨ 18 ≤ k := by decide) : tq S (tc_f M k x) := by
  refine ⟨fun j h1 h2 => ?_, h.2.1, h.2.2⟩
  show S.1 j = (if j = k then x else M.1 j)
  rw [if_neg (by omega)]
  exact h.1 j h1 h2
theorem tq.a (h : tq S M) (k : Nat) (i x : Int32) (h1 : 1 ≤ k := by decide) (h2 : k < 6 := by decide) : tq (tc_a S k i x) (tc_a M k i x) := by
  refine ⟨h.1, fun j a b => ?_, fun n hn => ?_⟩
  · show (if j = k then upd (S.2.1 k) i.toNatClampNeg x else S.2.1 j) = (if j = k then upd (M.2.1 k) i.toNatClampNeg x else M.2.1 j)
    rw [h.2.1 j a b, h.2.1 k h1 h2]
  · show (if 0 = k then upd (S.2.1 k) i.toNatClampNeg x else S.2.1 0) n = (if 0 = k then upd (M.2.1 k) i.toNatClampNeg x else M.2.1 0) n
    rw [if_neg (by omega), if_neg (by omega)]
    exact h.2.2 n hn
theorem tq.a0 (h : tq S M) (i x : Int32) : tq (tc_a S 0 i x) (tc_a M 0 i x) := by
  refine ⟨h.1, fun j a b => ?_, fun n hn => ?_⟩
  · show (if j = 0 then upd (S.2.1 0) i.toNatClampNeg x else S.2.1 j) = (if j = 0 then upd (M.2.1 0) i.toNatClampNeg x else M.2.1 j)
    rw [if_neg (by omega), if_neg (by omega)]
    exact h.2.1 j a b
  · show upd (S.2.1 0) i.toNatClampNeg x n = upd (M.2.1 0) i.toNatClampNeg x n
    rw [upd_at, upd_at, h.2.2 n hn]
theorem tq.La (h : tq S M) (k : Nat) (i x : Int32) (hk : 6 ≤ k := by decide) : tq (tc_a S k i x) M := by
  refine ⟨h.1, fun j a b => ?_, fun n hn => ?_⟩
  · show (if j = k then upd (S.2.1 k) i.toNatClampNeg x else S.2.1 j) = M.2.1 j
    rw [if_neg (by omega)]
    exact h.2.1 j a b
  · show (if 0 = k then upd (S.2.1 k) i.toNatClampNeg x else S.2.1 0) n = M.2.1 0 n
    rw [if_neg (by omega)]
    exact h.2.2 n hn
theorem tq.Ra (h : tq S M) (k : Nat) (i x : Int32) (hk : 6 ≤ k := by decide) : tq S (tc_a M k i x) := by
  refine ⟨h.1, fun j a b => ?_, fun n hn => ?_⟩
  · show S.2.1 j = (if j = k then upd (M.2.1 k) i.toNatClampNeg x else M.2.1 j)
    rw [if_neg (by omega)]
    exact h.2.1 j a b
  · show S.2.1 0 n = (if 0 = k then upd (M.2.1 k) i.toNatClampNeg x else M.2.1 0) n
    rw [if_neg (by omega)]
    exact h.2.2 n hn
theorem tq.wb (h : tq S M) : (tc_writeBlock S).1 = (tc_writeBlock M).1 ∧ tq (tc_writeBlock S).2 (tc_writeBlock M).2 := by
  unfold tc_writeBlock
  rw [h.n 13, h.n 12, h.n 14]
  by_cases a : M.1 13 ≤ 0
  · rw [if_pos a, if_pos a]
    exact ⟨rfl, h.f 14 _⟩
  · rw [if_neg a, if_neg a]
    by_cases b : M.1 13 - 1 = 0
    · rw [if_pos b, if_pos b]
      exact ⟨rfl, ((h.f 14 _).f 13 _).f 12 _⟩
    · rw [if_neg b, if_neg b]
      exact ⟨rfl, ((h.f 14 _).f 13 _).f 12 _⟩
theorem tq.fp (h : tq S M) (t : Int32) : (tc_flushPage S t).1 = (tc_flushPage M t).1 ∧ tq (tc_flushPage S t).2 (tc_flushPage M t).2 := by
  unfold tc_flushPage
  rw [h.n 4]
  exact (h.f 4 _).wb
end TQ
theorem tc_flushGo_s (n : Nat) (S : tc_S) (t : Int32) : tc_flushGo (n + 1) S t = if t ≤ S.1 4 then (1, S) else if (tc_flushPage S t).1 = 0 then (0, (tc_flushPage S t).2) else tc_flushGo n (tc_flushPage S t).2 t := rfl
theorem tq_flush (t : Int32) : ∀ (n : Nat) (S M : tc_S), tq S M → (tc_flushGo n S t).1 = (tc_flushGo n M t).1 ∧ tq (tc_flushGo n S t).2 (tc_flushGo n M t).2
  | 0, _, _, h => ⟨rfl, h⟩
  | n + 1, S, M, h => by
    have h1 := h.fp t
    rw [tc_flushGo_s, tc_flushGo_s, h.n 4, h1.1]
    by_cases a : t ≤ M.1 4
    · rw [if_pos a, if_pos a]; exact ⟨rfl, h⟩
    · rw [if_neg a, if_neg a]
      by_cases b : (tc_flushPage M t).1 = 0
      · rw [if_pos b, if_pos b]; exact ⟨rfl, h1.2⟩
      · rw [if_neg b, if_neg b]; exact tq_flush t n _ _ h1.2
section TQ2
variable {S M : tc_S}
theorem tq.op (h : tq S M) : (tc_openPage S).1 = (tc_openPage M).1 ∧ tq (tc_openPage S).2 (tc_openPage M).2 := by
  have e1 : tc_newHead S = tc_newHead M := by
    unfold tc_newHead
    rw [h.n 6, h.n 0]
  have h1 : tq (tc_open1 S) (tc_open1 M) := by
    unfold tc_open1
    rw [h.n 5, h.n 6, h.n 1]
    exact h.f 5 _
  have h5 : (tc_open1 S).1 5 = (tc_open1 M).1 5 := h1.n 5
  have h2 : (tc_flush (tc_open1 S) ((tc_open1 M).1 5)).1 = (tc_flush (tc_open1 M) ((tc_open1 M).1 5)).1 ∧ tq (tc_flush (tc_open1 S) ((tc_open1 M).1 5)).2 (tc_flush (tc_open1 M) ((tc_open1 M).1 5)).2 := tq_flush _ 100 _ _ h1
  have h3 : ∀ {A B : tc_S} (x : Int32), tq A B → tq (tc_open2 A x) (tc_open2 B x) := by
    intro A B x g
    unfold tc_open2
    rw [g.n 3]
    exact g.f 3 _
  unfold tc_openPage
  rw [e1, h.n 3, h.n 4, h5, h2.1]
  by_cases a : tc_newHead M ≤ M.1 3
  · rw [if_pos a, if_pos a]; exact ⟨rfl, h3 _ h1⟩
  · rw [if_neg a, if_neg a]
    by_cases b : tc_pageEnd (M.1 3) ≤ M.1 4
    · rw [if_pos b, if_pos b]; exact ⟨rfl, h3 _ h1⟩
    · rw [if_neg b, if_neg b]
      by_cases c : (tc_flush (tc_open1 M) ((tc_open1 M).1 5)).1 = 0
      · rw [if_pos c, if_pos c]; exact ⟨rfl, h2.2⟩
      · rw [if_neg c, if_neg c]; exact ⟨rfl, h3 _ h2.2⟩
theorem tq.bo (h : tq S M) (key : Int32) : tc_bucketOf S key = tc_bucketOf M key := by
  unfold tc_bucketOf tc_low
  rw [h.n 16, h.n 17]
theorem tq.rec (h : tq S M) (hl : tc_lv (S.1 16) (S.1 17)) {key : Int32} (hk : tc_key key) (value stone : Int32) : tq (tc_record S key value stone) (tc_record M key value stone) := by
  have hb := tc_bucket_lt hl hk
  have e1 := h.bo key
  have e2 : tc_r S 0 (tc_bucketOf M key) = tc_r M 0 (tc_bucketOf M key) := h.b _ (by rw [← e1]; exact hb.1) (by rw [← e1]; exact hb.2)
  unfold tc_record
  rw [h.n 6, h.n 7, e1, e2]
  exact ((((((h.a 1 _ _).a 2 _ _).a 3 _ _).a 4 _ _).a 5 _ _).a0 _ _).f 6 _
theorem tq.app (h : tq S M) (hJ : tj S) {key : Int32} (hk : tc_key key) (value stone : Int32) : (tc_append S key value stone).1 = (tc_append M key value stone).1 ∧ tq (tc_append S key value stone).2 (tc_append M key value stone).2 := by
  have h1 := h.op
  unfold tc_append
  rw [h.n 6, h1.1]
  by_cases a : tc_rem (M.1 6) 4 = 0
  · rw [if_pos a, if_pos a]
    by_cases b : (tc_openPage M).1 = 0
    · rw [if_pos b, if_pos b]; exact ⟨rfl, h1.2⟩
    · rw [if_neg b, if_neg b]; exact ⟨rfl, h1.2.rec (tc_open_I hJ).lv hk _ _⟩
  · rw [if_neg a, if_neg a]; exact ⟨rfl, h.rec hJ.lv hk _ _⟩
theorem tq.ch1 (h : tq S M) (hJ : tj S) {key : Int32} (hk : tc_key key) (value stone : Int32) : (tc_change1 S key value stone).1 = (tc_change1 M key value stone).1 ∧ tq (tc_change1 S key value stone).2 (tc_change1 M key value stone).2 := by
  have h1 := h.app hJ hk value stone
  unfold tc_change1
  rw [h.n 6, h1.1]
  by_cases a : M.1 6 < 400
  · rw [if_pos a, if_pos a]; exact ⟨rfl, h1.2⟩
  · rw [if_neg a, if_neg a]; exact ⟨rfl, h⟩
theorem tq.chg (h : tq S M) (hJ : tj S) {key : Int32} (hk : tc_key key) (a value stone : Int32) : (tc_change S a key value stone).1 = (tc_change M a key value stone).1 ∧ tq (tc_change S a key value stone).2 (tc_change M a key value stone).2 := by
  have h1 := h.ch1 hJ hk value stone
  unfold tc_change
  rw [h.n 5, h.n 7, h.r 4 a]
  by_cases b : a = -1
  · rw [if_pos b, if_pos b]; exact h1
  · rw [if_neg b, if_neg b]
    by_cases c : a < M.1 5
    · rw [if_pos c, if_pos c]; exact h1
    · rw [if_neg c, if_neg c]
      by_cases d : tc_r M 4 a = M.1 7
      · rw [if_pos d, if_pos d]; exact ⟨rfl, (h.a 2 _ _).a 5 _ _⟩
      · rw [if_neg d, if_neg d]; exact h1
theorem tc_findGo_s (S : tc_S) (key cnt : Int32) (n : Nat) (a r : Int32) : tc_findGo S key cnt (n + 1) a r = if a < S.1 2 then (-1, r) else if tc_r S 1 a = key then (a, if cnt = 0 then r else if S.1 3 ≤ a then r else r + 1) else tc_findGo S key cnt n (tc_r S 3 a) (if cnt = 0 then r else if S.1 3 ≤ a then r else r + 1) := rfl
theorem tq.fgo (h : tq S M) (key cnt : Int32) : ∀ (n : Nat) (a r : Int32), tc_findGo S key cnt n a r = tc_findGo M key cnt n a r
  | 0, _, _ => rfl
  | n + 1, a, r => by
    rw [tc_findGo_s, tc_findGo_s, h.n 2, h.n 3, h.r 1 a, h.r 3 a, h.fgo key cnt n]
theorem tq.f0 (h : tq S M) (hJ : tj S) {key : Int32} (hk : tc_key key) (cnt : Int32) : tc_find0 S key cnt = tc_find0 M key cnt := by
  have hb := tc_bucket_lt hJ.lv hk
  have e1 := h.bo key
  have e2 : tc_r S 0 (tc_bucketOf M key) = tc_r M 0 (tc_bucketOf M key) := h.b _ (by rw [← e1]; exact hb.1) (by rw [← e1]; exact hb.2)
  unfold tc_find0
  rw [e1, e2, h.n 15, h.fgo]
theorem tq.find (h : tq S M) (hJ : tj S) {key : Int32} (hk : tc_key key) (cnt : Int32) : (tc_find S key cnt).1 = (tc_find M key cnt).1 ∧ tq (tc_find S key cnt).2 (tc_find M key cnt).2 := by
  unfold tc_find
  rw [h.f0 hJ hk]
  exact ⟨rfl, h.f 15 _⟩
theorem tq.hv (h : tq S M) (a : Int32) : tc_hasValue S a = tc_hasValue M a := by
  unfold tc_hasValue
  rw [h.r 5 a]
theorem tq.il (h : tq S M) (hJ : tj S) (a : Int32) : tc_isLatest S a = tc_isLatest M a := by
  unfold tc_isLatest
  have hk : tc_key (tc_r M 1 a) := by
    rw [← h.r 1 a]
    exact hJ.ky _
  rw [h.hv, h.r 1 a, h.f0 hJ hk]
theorem tc_keysGo_s (S : tc_S) (n : Nat) (key c : Int32) : tc_keysGo S (n + 1) key c = tc_keysGo S n (key + 1) (if tc_hasValue S (tc_find0 S key 0).1 = 0 then c else c + 1) := rfl
theorem tq.kgo (h : tq S M) (hJ : tj S) : ∀ (n m : Nat) (c : Int32), m + n ≤ 32 → tc_keysGo S n (nI m) c = tc_keysGo M n (nI m) c
  | 0, _, _, _ => rfl
  | n + 1, m, c, hm => by
    rw [tc_keysGo_s, tc_keysGo_s, h.f0 hJ (tc_keyN (by omega)), h.hv, nI_1]
    exact h.kgo hJ n (m + 1) _ (by omega)
theorem tq.keys (h : tq S M) (hJ : tj S) : tc_keys S = tc_keys M := h.kgo hJ 32 0 0 (by omega)
end TQ2
theorem tc_compactGo_s (n : Nat) (S : tc_S) (a e c : Int32) : tc_compactGo (n + 1) S a e c = if e ≤ a then (c, tc_f S 2 e)
    else if tc_isLatest (tc_f S 15 (S.1 15 + 1)) a = 0 then tc_compactGo n (tc_f S 15 (S.1 15 + 1)) (a + 1) e c
    else if (tc_append (tc_f S 15 (S.1 15 + 1)) (tc_r S 1 a) (tc_r S 2 a) 0).1 = 0 then (-9, (tc_append (tc_f S 15 (S.1 15 + 1)) (tc_r S 1 a) (tc_r S 2 a) 0).2)
    else tc_compactGo n (tc_append (tc_f S 15 (S.1 15 + 1)) (tc_r S 1 a) (tc_r S 2 a) 0).2 (a + 1) e (c + 1) := rfl
/-- what a call that changes no place and no step leaves alone -/
def tfx (S S' : tc_S) : Prop := (∀ k, k = 7 ∨ k = 9 ∨ k = 10 ∨ k = 11 ∨ k = 16 ∨ k = 17 ∨ 18 ≤ k → S'.1 k = S.1 k) ∧ (∀ k, 6 ≤ k → S'.2.1 k = S.2.1 k) ∧ (S.1 6).toInt ≤ (S'.1 6).toInt
theorem tfx.rf {S : tc_S} : tfx S S := ⟨fun _ _ => rfl, fun _ _ => rfl, Int.le_refl _⟩
theorem tfx.tr {S S1 S2 : tc_S} (h1 : tfx S S1) (h2 : tfx S1 S2) : tfx S S2 := ⟨fun k hk => (h2.1 k hk).trans (h1.1 k hk), fun k hk => (h2.2.1 k hk).trans (h1.2.1 k hk), Int.le_trans h1.2.2 h2.2.2⟩
theorem tfx.f {S S1 : tc_S} (h : tfx S S1) (k : Nat) (x : Int32) (hk : k ∈ [2, 3, 4, 5, 8, 12, 13, 14, 15] := by decide) : tfx S (tc_f S1 k x) := by
  have hk1 : k ≠ 6 ∧ k ≠ 7 ∧ k ≠ 9 ∧ k ≠ 10 ∧ k ≠ 11 ∧ k ≠ 16 ∧ k ≠ 17 ∧ k < 18 := by
    revert hk
    simp
    omega
  refine ⟨fun j hj => ?_, h.2.1, ?_⟩
  · show (if j = k then x else S1.1 j) = S.1 j
    rw [if_neg (by omega)]
    exact h.1 j hj
  · show (S.1 6).toInt ≤ (if 6 = k then x else S1.1 6).toInt
    rw [if_neg (by omega)]
    exact h.2.2
theorem tfx.a {S S1 : tc_S} (h : tfx S S1) (k : Nat) (i x : Int32) (hk : k < 6 := by decide) : tfx S (tc_a S1 k i x) := by
  refine ⟨h.1, fun j hj => ?_, h.2.2⟩
  show (if j = k then upd (S1.2.1 k) i.toNatClampNeg x else S1.2.1 j) = S.2.1 j
  rw [if_neg (by omega)]
  exact h.2.1 j hj
theorem tfx_of {S S' : tc_S} (h : tc_fr tc_L S S') : tfx S S' := by
  have e : ∀ k, k ≠ 3 → k ≠ 4 → k ≠ 5 → k ≠ 12 → k ≠ 13 → k ≠ 14 → S'.1 k = S.1 k := by
    intro k a b c d e f
    exact h.2 k (by simp [tc_L]; omega)
  refine ⟨fun k hk => e k (by omega) (by omega) (by omega) (by omega) (by omega) (by omega), fun k _ => by rw [h.1], ?_⟩
  rw [e 6 (by decide) (by decide) (by decide) (by decide) (by decide) (by decide)]
  exact Int.le_refl _
theorem tfx_rec {S S1 : tc_S} {key value stone : Int32} (h : tfx S S1) (ht : ¬ 400 ≤ S1.1 6) : tfx S (tc_record S1 key value stone) := by
  have h1 := (((((h.a 1 (S1.1 6) key).a 2 (S1.1 6) value).a 3 (S1.1 6) (tc_r S1 0 (tc_bucketOf S1 key))).a 4 (S1.1 6) (S1.1 7)).a 5 (S1.1 6) stone).a 0 (tc_bucketOf S1 key) (S1.1 6)
  rw [tz_le, tz_400] at ht
  refine ⟨fun j hj => ?_, h1.2.1, ?_⟩
  · show (if j = 6 then S1.1 6 + 1 else S1.1 j) = S.1 j
    rw [if_neg (by omega)]
    exact h.1 j hj
  · show (S.1 6).toInt ≤ (S1.1 6 + 1).toInt
    have := h.2.2
    rw [tz_add1 (by omega)]
    omega
theorem tfx_app {S : tc_S} {key value stone : Int32} (ht : ¬ 400 ≤ S.1 6) : tfx S (tc_append S key value stone).2 := by
  have h1 := tfx_of (tc_open_fr S)
  unfold tc_append
  split
  · split
    · exact h1
    · exact tfx_rec h1 (tc_open_t ht)
  · exact tfx_rec tfx.rf ht
theorem tfx_ch1 {S : tc_S} {key value stone : Int32} : tfx S (tc_change1 S key value stone).2 := by
  unfold tc_change1
  split
  · next h => exact tfx_app (tc_nle h)
  · exact tfx.rf
theorem tfx_chg {S : tc_S} {a key value stone : Int32} : tfx S (tc_change S a key value stone).2 := by
  unfold tc_change
  split
  · exact tfx_ch1
  · split
    · exact tfx_ch1
    · split
      · exact (tfx.rf.a 2 _ _).a 5 _ _
      · exact tfx_ch1
theorem tfx_find {S : tc_S} {key cnt : Int32} : tfx S (tc_find S key cnt).2 := tfx.rf.f 15 _
theorem tj_ch1 {S : tc_S} {key value stone : Int32} (h : tj S) (hk : tc_key key) (hs : ¬ stone = 0 → value = 0) : tj (tc_change1 S key value stone).2 := by
  unfold tc_change1
  by_cases a : S.1 6 < 400
  · rw [if_pos a]; exact tj_append h hk (tc_nle a) hs
  · rw [if_neg a]; exact h
theorem tj_chg {S : tc_S} {a key value stone : Int32} (h : tj S) (hk : tc_key key) (hs : ¬ stone = 0 → value = 0) : tj (tc_change S a key value stone).2 := by
  unfold tc_change
  split
  · exact tj_ch1 h hk hs
  · split
    · exact tj_ch1 h hk hs
    · split
      · refine ⟨h.1, h.2.1, h.2.2.1, h.2.2.2.1, h.2.2.2.2.1, h.2.2.2.2.2.1, h.2.2.2.2.2.2.1, h.2.2.2.2.2.2.2.1, fun n hn => ?_⟩
        show ¬ upd (S.2.1 5) a.toNatClampNeg stone n = 0 → upd (S.2.1 2) a.toNatClampNeg value n = 0
        rw [upd_at, upd_at]
        split
        · exact hs
        · exact h.sv n hn
      · exact tj_ch1 h hk hs
/-- a compaction, on both sides -/
theorem tq_cgo {e : Int32} (he : e.toInt ≤ 400) : ∀ (n : Nat) (S M : tc_S) (a c : Int32), tq S M → tj S → 0 ≤ a.toInt → a.toInt ≤ e.toInt → (S.1 6).toInt + (e.toInt - a.toInt) ≤ 400 →
    ((tc_compactGo n S a e c).1 = (tc_compactGo n M a e c).1 ∧ tq (tc_compactGo n S a e c).2 (tc_compactGo n M a e c).2) ∧ tj (tc_compactGo n S a e c).2 ∧ tfx S (tc_compactGo n S a e c).2
  | 0, _, _, _, _, h, hJ, _, _, _ => ⟨⟨rfl, h⟩, hJ, tfx.rf⟩
  | n + 1, S, M, a, c, h, hJ, ha, hae, ht => by
    have h1 : tq (tc_f S 15 (S.1 15 + 1)) (tc_f M 15 (S.1 15 + 1)) := h.f 15 _
    have hJ1 : tj (tc_f S 15 (S.1 15 + 1)) := tc_rd_I hJ
    have e15 : M.1 15 = S.1 15 := (h.n 15).symm
    have e1 : tc_isLatest (tc_f S 15 (S.1 15 + 1)) a = tc_isLatest (tc_f M 15 (S.1 15 + 1)) a := h1.il hJ1 a
    have h2 := h1.app hJ1 (hJ.ky a.toNatClampNeg) (tc_r S 2 a) 0
    have k1 : tc_r M 1 a = tc_r S 1 a := (h.r 1 a).symm
    have k2 : tc_r M 2 a = tc_r S 2 a := (h.r 2 a).symm
    rw [tc_compactGo_s, tc_compactGo_s, e15, k1, k2]
    by_cases c1 : e ≤ a
    · rw [if_pos c1, if_pos c1]
      exact ⟨⟨rfl, h.f 2 _⟩, ⟨hJ.1, hJ.2.1, ⟨⟨by show 0 ≤ e.toInt; omega, he⟩, hJ.ad.2⟩, hJ.2.2.2⟩, tfx.rf.f 2 _⟩
    · rw [if_neg c1, if_neg c1, ← e1]
      by_cases c2 : tc_isLatest (tc_f S 15 (S.1 15 + 1)) a = 0
      · rw [if_pos c2, if_pos c2]
        have g := tq_cgo he n _ _ (a + 1) c h1 hJ1 (tc_kb ha c1) (tc_ka c1) (tc_ct1 ht c1)
        exact ⟨g.1, g.2.1, (tfx.rf.f 15 _).tr g.2.2⟩
      · rw [if_neg c2, if_neg c2]
        have e2 : (tc_append (tc_f M 15 (S.1 15 + 1)) (tc_r S 1 a) (tc_r S 2 a) 0).1 = (tc_append (tc_f S 15 (S.1 15 + 1)) (tc_r S 1 a) (tc_r S 2 a) 0).1 := h2.1.symm
        have ht1 : ¬ 400 ≤ (tc_f S 15 (S.1 15 + 1)).1 6 := tc_ct (S := S) ht c1
        have f2 : tfx S (tc_append (tc_f S 15 (S.1 15 + 1)) (tc_r S 1 a) (tc_r S 2 a) 0).2 := (tfx.rf.f 15 _).tr (tfx_app ht1)
        have j2 : tj (tc_append (tc_f S 15 (S.1 15 + 1)) (tc_r S 1 a) (tc_r S 2 a) 0).2 := tj_append hJ1 (hJ.ky _) ht1 (fun q => absurd rfl q)
        rw [e2]
        by_cases c3 : (tc_append (tc_f S 15 (S.1 15 + 1)) (tc_r S 1 a) (tc_r S 2 a) 0).1 = 0
        · rw [if_pos c3, if_pos c3]
          exact ⟨⟨rfl, h2.2⟩, j2, f2⟩
        · rw [if_neg c3, if_neg c3]
          have g := tq_cgo he n _ _ (a + 1) (c + 1) h2.2 j2 (tc_kb ha c1) (tc_ka c1) (tc_ct2 ht c1)
          exact ⟨g.1, g.2.1, f2.tr g.2.2⟩
