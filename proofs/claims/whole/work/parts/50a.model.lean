/-! The reference's state, its world behind the class's, and what its methods do. The numbers 0 to 17 and the rows 0 to 5 mean what they mean in the class's state (9 stage, 12 down, 13 fuse, 14 written, 8 found, 10 imaged, 11 ended, 16 power); 18 is settled; the rows 6 savedVersion, 7 oldBegin, 8 cut, 9 savedEnd, 10 savedPower, 11 savedSplit, 12 images. Where the reference does what the class does, the class's functions serve. -/
def tm_h (G : ts_GX) (M : tc_S) : List va_E :=
  [.inr (5, [.int (M.1 0), .int (M.1 1), .ref 18, .ref 19, .ref 20, .ref 21, .ref 22, .int (M.1 2), .int (M.1 3), .int (M.1 4), .int (M.1 5), .int (M.1 6), .int (M.1 16), .int (M.1 17), .ref 23, .int (M.1 7), .int (M.1 13), .int (M.1 12), .int (M.1 14), .int (M.1 15), .int (M.1 8), .int (M.1 9), .int (M.1 10), .int (M.1 11), .int (M.1 18), .ref 24, .ref 25, .ref 26, .ref 27, .ref 28, .ref 29, .ref 30]),
   .inl (ts_gI G, 400, .inl (M.2.1 1)), .inl (ts_gI G, 400, .inl (M.2.1 2)), .inl (ts_gI G, 400, .inl (M.2.1 3)), .inl (ts_gI G, 400, .inl (M.2.1 4)), .inl (ts_gB G, 400, .inl (M.2.1 5)), .inl (ts_gI G, 16, .inl (M.2.1 0)),
   .inl (ts_gI G, 2, .inl (M.2.1 6)), .inl (ts_gI G, 2, .inl (M.2.1 7)), .inl (ts_gI G, 2, .inl (M.2.1 8)), .inl (ts_gI G, 2, .inl (M.2.1 9)), .inl (ts_gI G, 2, .inl (M.2.1 10)), .inl (ts_gI G, 2, .inl (M.2.1 11)), .inl (ts_gI G, 32, .inl (M.2.1 12))]
theorem tm_e2 {G : ts_GX} {S : tc_S} {F : Int32 × tc_S} {v : Int32} {s : tc_S} (e : F = (v, s)) : tc_h G S ++ tm_h G F.2 = tc_h G S ++ tm_h G s := by rw [e]
theorem tm_e3 {G : ts_GX} {S F s : tc_S} (e : F = s) : tc_h G S ++ tm_h G F = tc_h G S ++ tm_h G s := by rw [e]
theorem tm_e4 {G : ts_GX} {S M : tc_S} {F : Int32 × Int32} {v r : Int32} (e : F = (v, r)) : tc_h G S ++ tm_h G (tc_f M 15 F.2) = tc_h G S ++ tm_h G (tc_f M 15 r) := by rw [e]
def tm_to (M : tc_S) : Int32 := 1 - (if 0 ≤ M.1 18 then M.1 18 else 1)
def tm_room (M : tc_S) : Int32 × tc_S := if tc_rem (M.1 6) 4 = 0 then tc_openPage M else (1, M)
def tm_set1 (M : tc_S) (key value stone : Int32) : Int32 × tc_S := if M.1 6 = 400 then (-2, M) else ((if (tc_append M key value stone).1 = 0 then -9 else 2), (tc_append M key value stone).2)
def tm_set (M : tc_S) (key a value stone : Int32) : Int32 × tc_S :=
  if a < 0 then tm_set1 M key value stone
  else if a < M.1 5 then tm_set1 M key value stone
  else if tc_r M 4 a = M.1 7 then (1, tc_a (tc_a M 2 a value) 5 a stone)
  else tm_set1 M key value stone
def tm_hv (M : tc_S) (a : Int32) : Int32 := if a < 0 then 0 else if tc_r M 5 a = 0 then 1 else 0
def tm_had (M : tc_S) (a : Int32) : Int32 := if a < 0 then 0 else if tc_r M 5 a = 0 then tc_r M 2 a else 0
def tm_checkpoint (M : tc_S) : Int32 × tc_S :=
  if M.1 12 = 0 then (if M.1 9 ≤ 0 then (M.1 7 + 1 - 1, tc_f (tc_f (tc_f (tc_f (tc_a (tc_a (tc_a (tc_a (tc_a M 6 (tm_to M) (M.1 7)) 7 (tm_to M) (M.1 2)) 8 (tm_to M) (M.1 6)) 10 (tm_to M) (M.1 16)) 11 (tm_to M) (M.1 17)) 7 (M.1 7 + 1)) 9 1) 10 0) 11 0) else (-3, M)) else (-9, M)
def tm_copyGo : Nat → tc_S → Int32 → Int32 → tc_S
  | 0, M, _, _ => M
  | n + 1, M, i, e => if e ≤ i then M else tm_copyGo n (tc_a M 12 (16 * tm_to M + i) (tc_r M 0 i)) (i + 1) e
def tm_image1 (M : tc_S) : tc_S := tm_copyGo 16 M (M.1 10) (tc_min (tc_count M) (M.1 10 + 4))
def tm_image2 (M : tc_S) (e : Int32) : tc_S := tc_f (tc_f M 10 e) 9 (if e = tc_count M then 2 else 1)
def tm_imgE (C : tc_S) (e : Int32) : Int32 × tc_S := ((if (tc_writeBlock (tm_image2 C e)).1 = 0 then -9 else 1), (tc_writeBlock (tm_image2 C e)).2)
def tm_image (M : tc_S) : Int32 × tc_S := tm_imgE (tm_image1 M) (tc_min (tc_count M) (M.1 10 + 4))
def tm_end1 (M : tc_S) : tc_S := if M.1 11 = 0 then tc_f (tc_a (tc_f M 5 (M.1 6)) 9 (tm_to M) (M.1 6)) 11 1 else M
def tm_end2 (M : tc_S) (to on : Int32) : Int32 × tc_S := ((if on = 0 then -9 else 2), tc_f M 9 (if M.1 4 < tc_r M 9 to then 2 else 3))
def tm_end3 (M : tc_S) (to : Int32) : Int32 × tc_S :=
  if tc_r M 9 to ≤ M.1 4 then tm_end2 M to 1 else tm_end2 (tc_flush M (tc_min (tc_r M 9 to) (tc_pageEnd (M.1 4)))).2 to (tc_flush M (tc_min (tc_r M 9 to) (tc_pageEnd (M.1 4)))).1
def tm_flushing (M : tc_S) : Int32 × tc_S := tm_end3 (tm_end1 M) (tm_to M)
def tm_settle (M : tc_S) : tc_S := tc_f (tc_f M 18 (tm_to M)) 9 0
def tm_step (M : tc_S) : Int32 × tc_S :=
  if M.1 12 = 0 then (if M.1 9 = 1 then tm_image M else if M.1 9 = 2 then tm_flushing M else if M.1 9 = 0 then (-3, M) else ((if (tc_writeBlock (tm_settle M)).1 = 0 then -9 else 3), (tc_writeBlock (tm_settle M)).2)) else (-9, M)
def tm_grow (M : tc_S) : Int32 × tc_S :=
  if M.1 12 = 0 then (if 0 < M.1 9 then (-3, M) else if tc_count M = 16 then (-3, M) else (tc_count (tc_twin M), tc_twin M)) else (-9, M)
def tm_emptyGo : Nat → tc_S → Int32 → tc_S
  | 0, M, _ => M
  | n + 1, M, i => if 16 ≤ i then M else tm_emptyGo n (tc_a M 0 i (-1)) (i + 1)
def tm_empty0 (M : tc_S) : tc_S := tc_f (tc_f (tc_f (tc_f (tc_f (tc_f (tc_f (tc_f M 2 0) 3 0) 4 0) 5 0) 6 0) 16 1) 17 0) 7 1
def tm_empty (M : tc_S) : tc_S := tm_emptyGo 17 (tm_empty0 M) 0
def tm_cutGo (M : tc_S) : Nat → Int32 → Int32 → Int32 × Int32
  | 0, a, r => (a, r)
  | n + 1, a, r => if a < tc_r M 8 (M.1 18) then (a, r) else tm_cutGo M n (tc_r M 3 a) (r + 1)
def tm_rest1 (M : tc_S) (i : Int32) : tc_S :=
  tc_a (tc_f M 15 (tm_cutGo M 400 (tc_r M 12 (16 * M.1 18 + i)) (M.1 15)).2) 0 i (tm_cutGo M 400 (tc_r M 12 (16 * M.1 18 + i)) (M.1 15)).1
def tm_restGo : Nat → tc_S → Int32 → tc_S
  | 0, M, _ => M
  | n + 1, M, i => if tc_count M ≤ i then M else tm_restGo n (tm_rest1 M i) (i + 1)
def tm_rec0 (M : tc_S) : tc_S := tm_empty (tc_f (tc_f M 12 0) 9 0)
def tm_rec1 (E : tc_S) : tc_S := tc_f (tc_f (tc_f (tc_f (tc_f (tc_f (tc_f E 2 (tc_r E 7 (E.1 18))) 3 (tc_r E 9 (E.1 18))) 4 (tc_r E 9 (E.1 18))) 5 (tc_r E 9 (E.1 18))) 6 (tc_r E 9 (E.1 18))) 16 (tc_r E 10 (E.1 18))) 17 (tc_r E 11 (E.1 18))
def tm_rec2 (E : tc_S) : Int32 × tc_S := (tc_r E 6 (E.1 18), tc_f E 7 (tc_r E 6 (E.1 18) + 2))
def tm_recover (M : tc_S) : Int32 × tc_S :=
  if M.1 12 = 0 then (-3, M) else if 0 ≤ (tm_rec0 M).1 18 then tm_rec2 (tm_restGo 17 (tm_rec1 (tm_rec0 M)) 0) else (0, tm_rec0 M)
def tm_entry (M : tc_S) (a w : Int32) : Int32 :=
  if M.1 12 = 0 then (if a < M.1 2 then 0 else if a < M.1 6 then (if w = 0 then tc_r M 1 a else if w = 1 then (if tc_r M 5 a = 0 then tc_r M 2 a else 0) else if w = 2 then tc_r M 3 a else if w = 3 then tc_r M 4 a else if w = 4 then (if tc_r M 5 a = 0 then 0 else 1) else 0) else 0) else 0
/-- what holds of the reference's own numbers -/
def tm_P (M : tc_S) : Prop := (M.1 18 = -1 ∨ M.1 18 = 0 ∨ M.1 18 = 1) ∧ ∀ i : Nat, (M.2.1 9 i).toInt ≤ 400
theorem tm_minE (x y : Int32) : tc_min x y = if x ≤ y then x else y := by
  unfold tc_min
  by_cases h : x ≤ y
  · rw [if_pos h, if_neg (fun q => by rw [tz_lt] at q; rw [tz_le] at h; omega)]
  · rw [if_neg h, if_pos (by rw [tz_le] at h; rw [tz_lt]; omega)]
theorem tm_maxE (x y : Int32) : tc_max x y = if y ≤ x then x else y := by
  unfold tc_max
  by_cases h : y ≤ x
  · rw [if_pos h, if_neg (fun q => by rw [tz_lt] at q; rw [tz_le] at h; omega)]
  · rw [if_neg h, if_pos (by rw [tz_le] at h; rw [tz_lt]; omega)]
theorem tm_two {M : tc_S} (hJ : tj M) : (2 : Int32) <<< (M.1 16 &&& 31) = tc_two (M.1 16 + 1) := by
  rcases hJ.lv with ⟨h, -⟩ | ⟨h, -⟩ | ⟨h, -⟩ | ⟨h, -⟩ <;> rw [h] <;> decide
theorem tm_nn {M : tc_S} {a : Int32} (hJ : tj M) (h : ¬ a < M.1 2) : ¬ a < 0 := by
  have h1 := tc_a0 hJ h
  rw [tz_lt, tz_0]
  omega
theorem tm_pos {a : Int32} (h : 0 ≤ a.toInt) : ¬ a < 0 := by
  rw [tz_lt, tz_0]
  omega
theorem tm_f_id {S : tc_S} {k : Nat} {x : Int32} (h : S.1 k = x) : tc_f S k x = S := by
  subst h
  exact tc_f_self S k
theorem tm_wb2 {M : tc_S} {x : Int32} (h12 : M.1 12 = 0) (h13 : M.1 13 = 0) : tc_f (tc_f (tc_f M 14 x) 13 0) 12 0 = tc_f M 14 x := by
  rw [tm_f_id (S := tc_f M 14 x) (k := 13) h13, tm_f_id (S := tc_f M 14 x) (k := 12) h12]
theorem tm_f0 {M : tc_S} (hJ : tj M) (h : M.1 13 ≤ 0) : M.1 13 = 0 := by
  have h1 := hJ.im.2.2
  rw [tz_le, tz_0] at h
  exact tz_eq (by rw [tz_0]; omega)
theorem tm_hv_eq {M : tc_S} {a : Int32} (h : a = -1 ∨ 0 ≤ a.toInt) : tm_hv M a = tc_hasValue M a := by
  unfold tm_hv tc_hasValue
  rcases h with rfl | h
  · rw [if_pos (by decide), if_pos rfl]
  · have n1 : ¬ a = -1 := fun q => by
      rw [q, tz_m1] at h
      omega
    rw [if_neg (tm_pos h), if_neg n1]
theorem tm_had_eq {M : tc_S} {a d : Int32} (h : a = -1 ∨ 0 ≤ a.toInt) : tm_had M a + d = tc_sum M a d := by
  unfold tc_sum
  rw [← tm_hv_eq h]
  unfold tm_had tm_hv
  by_cases h1 : a < 0
  · rw [if_pos h1, if_pos h1, if_pos rfl, Int32.zero_add]
  · rw [if_neg h1, if_neg h1]
    by_cases h2 : tc_r M 5 a = 0
    · rw [if_pos h2, if_pos h2, if_neg (by decide)]
    · rw [if_neg h2, if_neg h2, if_pos rfl, Int32.zero_add]
theorem tm_set_eq {M : tc_S} {key a value stone : Int32} (hJ : tj M) (h : a = -1 ∨ 0 ≤ a.toInt) : tm_set M key a value stone = tc_change M a key value stone := by
  have e1 : tm_set1 M key value stone = tc_change1 M key value stone := by
    unfold tm_set1 tc_change1
    by_cases h1 : M.1 6 = 400
    · have h4 : ¬ M.1 6 < 400 := by rw [h1]; decide
      rw [if_pos h1, if_neg h4]
    · have h2 := hJ.ad.2.2.2.2.2
      have h3 : ¬ (M.1 6).toInt = 400 := fun q => h1 (tz_eq (by rw [tz_400]; exact q))
      have h4 : M.1 6 < 400 := by
        rw [tz_lt, tz_400]
        omega
      rw [if_neg h1, if_pos h4]
  unfold tm_set tc_change
  rw [e1]
  rcases h with rfl | h
  · rw [if_pos (by decide), if_pos rfl]
  · have n1 : ¬ a = -1 := fun q => by
      rw [q, tz_m1] at h
      omega
    rw [if_neg (tm_pos h), if_neg n1]
theorem tm_find_o {M : tc_S} {key cnt : Int32} (hJ : tj M) (hk : tc_key key) : (tc_find M key cnt).1 = -1 ∨ 0 ≤ (tc_find M key cnt).1.toInt := by
  rcases tc_find_T (cnt := cnt) hJ hk with h | h
  · exact Or.inl h
  · exact Or.inr h.1
theorem tm_find_in {M : tc_S} {key cnt : Int32} (hJ : tj M) (hk : tc_key key) (h : ¬ (tc_find M key cnt).1 < 0) : vp_in (tc_find M key cnt).1 400 :=
  tc_find_in hJ hk (fun q => h (by rw [q]; decide))
theorem tm_app_eq (M : tc_S) (key value stone : Int32) : tc_append M key value stone = if (tm_room M).1 = 0 then (0, (tm_room M).2) else (1, tc_record (tm_room M).2 key value stone) := by
  unfold tc_append tm_room
  by_cases h : tc_rem (M.1 6) 4 = 0
  · rw [if_pos h, if_pos h]
  · rw [if_neg h, if_neg h]
    exact (if_neg (by decide : ¬ (1 : Int32) = 0)).symm
theorem tm_room_I {M : tc_S} (h : tj M) : tj (tm_room M).2 := by
  unfold tm_room
  split
  · exact tc_open_I h
  · exact h
theorem tm_room_t {M : tc_S} (h : ¬ 400 ≤ M.1 6) : ¬ 400 ≤ (tm_room M).2.1 6 := by
  unfold tm_room
  split
  · exact tc_open_t h
  · exact h
/-- a machine that has not stopped behind a block runs -/
theorem tc_wb_up {S : tc_S} (h : S.1 12 = 0) (h1 : ¬ (tc_writeBlock S).1 = 0) : (tc_writeBlock S).2.1 12 = 0 := by
  unfold tc_writeBlock at h1 ⊢
  by_cases h2 : S.1 13 ≤ 0
  · rw [if_pos h2]; exact h
  · rw [if_neg h2] at h1 ⊢
    by_cases h3 : S.1 13 - 1 = 0
    · rw [if_pos h3] at h1; exact absurd rfl h1
    · rw [if_neg h3]; rfl
theorem tc_flush_up {t : Int32} : ∀ (n : Nat) (S : tc_S), S.1 12 = 0 → ¬ (tc_flushGo n S t).1 = 0 → (tc_flushGo n S t).2.1 12 = 0
  | 0, _, h, _ => h
  | n + 1, S, h, h1 => by
    unfold tc_flushGo at h1 ⊢
    by_cases h2 : t ≤ S.1 4
    · rw [if_pos h2]; exact h
    · rw [if_neg h2] at h1 ⊢
      by_cases h3 : (tc_flushPage S t).1 = 0
      · rw [if_pos h3] at h1; exact absurd rfl h1
      · rw [if_neg h3] at h1 ⊢
        exact tc_flush_up n _ (tc_wb_up (S := tc_f S 4 _) h h3) h1
theorem tc_open_up {S : tc_S} (h : S.1 12 = 0) (h1 : ¬ (tc_openPage S).1 = 0) : (tc_openPage S).2.1 12 = 0 := by
  unfold tc_openPage at h1 ⊢
  by_cases h2 : tc_newHead S ≤ S.1 3
  · rw [if_pos h2]; exact h
  · rw [if_neg h2] at h1 ⊢
    by_cases h3 : tc_pageEnd (S.1 3) ≤ S.1 4
    · rw [if_pos h3]; exact h
    · rw [if_neg h3] at h1 ⊢
      by_cases h4 : (tc_flush (tc_open1 S) ((tc_open1 S).1 5)).1 = 0
      · rw [if_pos h4] at h1; exact absurd rfl h1
      · rw [if_neg h4]
        exact tc_flush_up 100 (tc_open1 S) h h4
theorem tm_app_up {S : tc_S} {key value stone : Int32} (h : S.1 12 = 0) (h1 : ¬ (tc_append S key value stone).1 = 0) : (tc_append S key value stone).2.1 12 = 0 := by
  unfold tc_append at h1 ⊢
  by_cases h2 : tc_rem (S.1 6) 4 = 0
  · rw [if_pos h2] at h1 ⊢
    by_cases h3 : (tc_openPage S).1 = 0
    · rw [if_pos h3] at h1; exact absurd rfl h1
    · rw [if_neg h3]; exact tc_open_up h h3
  · rw [if_neg h2]; exact h
/-- how many pages a flush has before it -/
def tm_pg (t f : Int32) (n : Nat) : Prop := t.toInt ≤ f.toInt ∨ t.toInt ≤ f.toInt - f.toInt % 4 + 4 * n
theorem tm_pg0 {t f : Int32} (h0 : 0 ≤ f.toInt) (h : tm_pg t f 0) : t ≤ f := by
  rw [tz_le]
  rcases h with h | h <;> omega
theorem tm_pgS {t f : Int32} {n : Nat} (h0 : 0 ≤ f.toInt) (ht : t.toInt ≤ 400) (h1 : ¬ t ≤ f) (h : tm_pg t f (n + 1)) : tm_pg t (tc_min t (tc_pageEnd f)) n := by
  rw [tz_le] at h1
  have h2 := tz_pe h0 (by omega)
  unfold tm_pg at h ⊢
  rw [tz_min, h2]
  split
  · right; omega
  · left; omega
theorem tm_pgA {t f : Int32} (h0 : 0 ≤ f.toInt) (ht : t.toInt ≤ 400) : tm_pg t f 100 := by
  right
  omega
theorem tm_to_01 {M : tc_S} (h : tm_P M) : tm_to M = 0 ∨ tm_to M = 1 := by
  unfold tm_to
  rcases h.1 with h | h | h <;> rw [h] <;> decide
theorem tm_in2 {s : Int32} (h : s = 0 ∨ s = 1) : vp_in s 2 := by
  rcases h with rfl | rfl
  · exact tz_in (by decide) (by decide)
  · exact tz_in (by decide) (by decide)
theorem tm_to_in {M : tc_S} (h : tm_P M) : vp_in (tm_to M) 2 := tm_in2 (tm_to_01 h)
theorem tm_ix {s k : Int32} {e : Int32} (hs : s = 0 ∨ s = 1) (hk : 0 ≤ k.toInt) (he : e.toInt ≤ 16) (h : ¬ e ≤ k) : vp_in (16 * s + k) 32 := by
  rw [tz_le] at h
  have e1 : (16 * s).toInt = 0 ∨ (16 * s).toInt = 16 := by rcases hs with rfl | rfl <;> decide
  have e2 : (16 * s + k).toInt = (16 * s).toInt + k.toInt := tz_add (by omega) (by omega)
  exact tz_in (by omega) (by omega)
theorem tm_copyGo_1 : ∀ (n : Nat) (M : tc_S) (i e : Int32), (tm_copyGo n M i e).1 = M.1
  | 0, _, _, _ => rfl
  | n + 1, M, i, e => by
    unfold tm_copyGo
    split
    · rfl
    · rw [tm_copyGo_1 n]; rfl
theorem tm_copyGo_r : ∀ (n : Nat) (M : tc_S) (i e : Int32) (k : Nat), k ≠ 12 → (tm_copyGo n M i e).2.1 k = M.2.1 k
  | 0, _, _, _, _, _ => rfl
  | n + 1, M, i, e, k, hk => by
    unfold tm_copyGo
    split
    · rfl
    · rw [tm_copyGo_r n _ _ _ k hk]
      exact if_neg hk
theorem tj_of {S S' : tc_S} (h : tj S) (h1 : ∀ k, k < 18 → S'.1 k = S.1 k) (h2 : ∀ k, k < 6 → S'.2.1 k = S.2.1 k) : tj S' := by
  unfold tj tc_count at *
  rw [h1 16 (by decide), h1 17 (by decide), h1 0 (by decide), h1 1 (by decide), h1 2 (by decide), h1 3 (by decide), h1 4 (by decide), h1 5 (by decide), h1 6 (by decide), h1 10 (by decide), h1 13 (by decide), h1 9 (by decide), h2 0 (by decide), h2 1 (by decide), h2 2 (by decide), h2 3 (by decide), h2 5 (by decide)]
  exact h
theorem tj_image1 {M : tc_S} (h : tj M) : tj (tm_image1 M) := tj_of h (fun k _ => by unfold tm_image1; rw [tm_copyGo_1]) (fun k hk => tm_copyGo_r 16 M _ _ k (by omega))
theorem tj_image2 {M : tc_S} {e : Int32} (h : tj M) (h0 : 0 ≤ e.toInt) (h1 : e.toInt ≤ 16) : tj (tm_image2 M e) := by
  refine ⟨h.1, h.2.1, h.2.2.1, ⟨h0, h1, h.im.2.2⟩, ?_, h.2.2.2.2.2⟩
  show (if e = tc_count M then (2 : Int32) else 1) = 0 ∨ (if e = tc_count M then (2 : Int32) else 1) = 1 ∨ (if e = tc_count M then (2 : Int32) else 1) = 2 ∨ (if e = tc_count M then (2 : Int32) else 1) = 3
  split
  · exact Or.inr (Or.inr (Or.inl rfl))
  · exact Or.inr (Or.inl rfl)
theorem tm_min0 {M : tc_S} (h : tj M) : 0 ≤ (tc_min (tc_count M) (M.1 10 + 4)).toInt := by
  have h1 := tc_count_16 h.lv
  have h2 := h.im
  have e : (M.1 10 + 4).toInt = (M.1 10).toInt + 4 := by rw [tz_add (by rw [tz_4]; omega) (by rw [tz_4]; omega), tz_4]
  rw [tz_min, e]
  split <;> omega
theorem tj_end1 {M : tc_S} (h : tj M) : tj (tm_end1 M) := by
  unfold tm_end1
  split
  · exact ⟨h.1, h.2.1, ⟨h.ad.1, h.ad.2.1, h.ad.2.2.1, h.ad.2.2.2.2.2, h.ad.2.2.2.2⟩, h.2.2.2⟩
  · exact h
theorem tm_end1_12 {M : tc_S} (h : M.1 12 = 0) : (tm_end1 M).1 12 = 0 := by
  unfold tm_end1
  split <;> exact h
theorem tm_end1_9 {M : tc_S} (h : tj M) (hP : tm_P M) (x : Int32) : (tc_r (tm_end1 M) 9 x).toInt ≤ 400 := by
  unfold tm_end1
  split
  · show (upd (M.2.1 9) (tm_to M).toNatClampNeg (M.1 6) x.toNatClampNeg).toInt ≤ 400
    rw [upd_at]
    split
    · exact h.ad.2.2.2.2.2
    · exact hP.2 _
  · exact hP.2 _
theorem tm_end1_t {M : tc_S} (h : tj M) (hP : tm_P M) (x y : Int32) : (tc_min (tc_r (tm_end1 M) 9 x) y).toInt ≤ 400 := by
  have h1 := tm_end1_9 h hP x
  rw [tz_min]
  split <;> omega
/-- the way back to the cut -/
def tm_Rc (M : tc_S) : Prop := (M.1 18 = 0 ∨ M.1 18 = 1) ∧ (0 ≤ (tc_r M 8 (M.1 18)).toInt ∧ (M.1 6).toInt ≤ 400) ∧ ∀ a : Nat, (a : Int) < (M.1 6).toInt → (M.2.1 3 a).toInt < (a : Int)
def tm_Ri (M : tc_S) (e : Int32) : Prop := ∀ k : Int32, 0 ≤ k.toInt → k.toInt < e.toInt → (tc_r M 12 (16 * M.1 18 + k)).toInt < (M.1 6).toInt
theorem tm_inC {M : tc_S} {a : Int32} (hR : tm_Rc M) (ha : a.toInt < (M.1 6).toInt) (h : ¬ a < tc_r M 8 (M.1 18)) : vp_in a 400 := by
  rw [tz_lt] at h
  have h1 := hR.2.1
  exact tz_in (by omega) (by omega)
theorem tm_prevC {M : tc_S} {a : Int32} (hR : tm_Rc M) (ha : a.toInt < (M.1 6).toInt) (h : ¬ a < tc_r M 8 (M.1 18)) : (tc_r M 3 a).toInt < a.toInt := by
  rw [tz_lt] at h
  have h1 := hR.2.1
  have h0 := tz_clamp (a := a) (by omega)
  have h3 := hR.2.2 a.toNatClampNeg (by omega)
  show (M.2.1 3 a.toNatClampNeg).toInt < _
  omega
theorem tm_prevT {M : tc_S} {a : Int32} (hR : tm_Rc M) (ha : a.toInt < (M.1 6).toInt) (h : ¬ a < tc_r M 8 (M.1 18)) : (tc_r M 3 a).toInt < (M.1 6).toInt := by
  have := tm_prevC hR ha h
  omega
theorem tm_prevN {M : tc_S} {a : Int32} {n : Nat} (hR : tm_Rc M) (ha : a.toInt < (M.1 6).toInt) (h : ¬ a < tc_r M 8 (M.1 18)) (hn : a.toInt < (n + 1 : Nat)) : (tc_r M 3 a).toInt < n := by
  have := tm_prevC hR ha h
  omega
theorem tm_cutZ {M : tc_S} {a : Int32} (hR : tm_Rc M) (hn : a.toInt < (0 : Nat)) : a < tc_r M 8 (M.1 18) := by
  rw [tz_lt]
  have h1 := hR.2.1
  omega
theorem tm_imC {M : tc_S} {e k : Int32} (him : tm_Ri M e) (hk : 0 ≤ k.toInt) (h : ¬ e ≤ k) : (tc_r M 12 (16 * M.1 18 + k)).toInt < (M.1 6).toInt := by
  rw [tz_le] at h
  exact him k hk (by omega)
theorem tm_findZ {M : tc_S} {a : Int32} (hJ : tj M) (hn : a.toInt < (0 : Nat)) : a < M.1 2 := by
  have h1 := hJ.ad.1.1
  rw [tz_lt]
  omega
theorem tm_findN {M : tc_S} {a : Int32} {n : Nat} (hJ : tj M) (ha : a.toInt < (M.1 6).toInt) (h : ¬ a < M.1 2) (hn : a.toInt < (n + 1 : Nat)) : (tc_r M 3 a).toInt < n := by
  have := tc_prev hJ ha h
  omega
theorem tm_bk {M : tc_S} {key : Int32} (hJ : tj M) (hk : tc_key key) : (tc_r M 0 (tc_bucketOf M key)).toInt < (400 : Nat) := by
  have h1 := tc_bk hJ hk
  have h2 := hJ.ad.2.2.2.2.2
  omega
theorem tm_emptyGo_1 : ∀ (n : Nat) (M : tc_S) (i : Int32), (tm_emptyGo n M i).1 = M.1
  | 0, _, _ => rfl
  | n + 1, M, i => by
    unfold tm_emptyGo
    split
    · rfl
    · rw [tm_emptyGo_1 n]; rfl
theorem tm_emptyGo_r : ∀ (n : Nat) (M : tc_S) (i : Int32) (k : Nat), k ≠ 0 → (tm_emptyGo n M i).2.1 k = M.2.1 k
  | 0, _, _, _, _ => rfl
  | n + 1, M, i, k, hk => by
    unfold tm_emptyGo
    split
    · rfl
    · rw [tm_emptyGo_r n _ _ k hk]
      exact if_neg hk
theorem tm_rec0_18 (M : tc_S) : (tm_rec0 M).1 18 = M.1 18 := by
  unfold tm_rec0 tm_empty
  rw [tm_emptyGo_1]
  rfl
theorem tm_rec_s {M : tc_S} (hP : tm_P M) (h : 0 ≤ (tm_rec0 M).1 18) : (tm_rec0 M).1 18 = 0 ∨ (tm_rec0 M).1 18 = 1 := by
  rw [tm_rec0_18] at h ⊢
  rcases hP.1 with q | q
  · rw [q] at h; exact absurd h (by decide)
  · exact q
def tm_Rv (M : tc_S) : Prop := tm_P M ∧ (0 ≤ (tm_rec0 M).1 18 → tc_lv ((tm_rec1 (tm_rec0 M)).1 16) ((tm_rec1 (tm_rec0 M)).1 17) ∧ tm_Rc (tm_rec1 (tm_rec0 M)) ∧ tm_Ri (tm_rec1 (tm_rec0 M)) (tc_count (tm_rec1 (tm_rec0 M))))
theorem tm_e17 : ((16 : Int32)).toInt ≤ (0 : Int32).toInt + (17 : Nat) := by decide
theorem tm_cp12 {M : tc_S} {e : Int32} (h : M.1 12 = 0) : (tm_image2 (tm_image1 M) e).1 12 = 0 := by
  show (tm_image1 M).1 12 = 0
  unfold tm_image1
  rw [tm_copyGo_1]
  exact h
theorem tm_10 : ¬ (1 : Int32) = 0 := by decide
theorem tm_one {x : Int32} (h : x - 1 = 0) : x = 1 := by
  have h1 : x - 1 + 1 = 0 + 1 := by rw [h]
  rw [Int32.sub_add_cancel, Int32.zero_add] at h1
  exact h1
theorem tj_min {M : tc_S} {t : Int32} (h : tj M) (h1 : ¬ t ≤ M.1 4) (ht : t.toInt ≤ 400) : tj (tc_f M 4 (tc_min t (tc_pageEnd (M.1 4)))) := by
  rw [tz_le] at h1
  have h2 := h.ad.2.2.1
  have h3 := tz_pe (a := M.1 4) h2 (by omega)
  have h4 : 0 ≤ (tc_min t (tc_pageEnd (M.1 4))).toInt := by
    rw [tz_min]
    split <;> omega
  exact ⟨h.1, h.2.1, ⟨h.ad.1, h.ad.2.1, h4, h.ad.2.2.2⟩, h.2.2.2⟩
theorem tm_pgF {t x : Int32} {n : Nat} {M : tc_S} (h : tm_pg t x n) : tm_pg t ((tc_writeBlock (tc_f M 4 x)).2.1 4) n := by
  have e : (tc_writeBlock (tc_f M 4 x)).2.1 4 = x := by
    unfold tc_writeBlock
    split
    · rfl
    · split <;> rfl
  rw [e]
  exact h
theorem tm_seti {M : tc_S} {a : Int32} (hJ : tj M) (ha : a = -1 ∨ (0 ≤ a.toInt ∧ a.toInt < (M.1 6).toInt)) (h : ¬ a < 0) : vp_in a 400 := by
  have h1 := hJ.ad.2.2.2.2.2
  rcases ha with rfl | ha
  · exact absurd (by decide) h
  · exact tz_in ha.1 (by omega)
theorem tm_not400 {M : tc_S} (hJ : tj M) (h : ¬ M.1 6 = 400) : ¬ 400 ≤ M.1 6 := by
  intro q
  apply h
  rw [tz_le, tz_400] at q
  have := hJ.ad.2.2.2.2.2
  exact tz_eq (by rw [tz_400]; omega)
theorem tj_settle {M : tc_S} (h : tj M) : tj (tm_settle M) := ⟨h.1, h.2.1, h.2.2.1, h.2.2.2.1, Or.inl rfl, h.2.2.2.2.2⟩
theorem tm_lt16 {M : tc_S} (hJ : tj M) (h : ¬ tc_count M = 16) : tc_count M < 16 := by
  have h1 := tc_count_16 hJ.lv
  rw [tz_lt, tz_16]
  have h2 : ¬ (tc_count M).toInt = 16 := fun q => h (tz_eq (by rw [tz_16]; exact q))
  omega
theorem tm_lt4 {M : tc_S} {a : Int32} (hR : tm_Rc M) (h : a.toInt < (M.1 6).toInt) : a.toInt < (400 : Nat) := by
  have h1 := hR.2.1.2
  omega
