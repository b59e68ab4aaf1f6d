/-! The class's state, its world, and what each of its methods does to the state: the code's own branches, in their order. Numbers (S.1): 0 memory, 1 mutable, 2 begin, 3 head, 4 flushed, 5 fixed, 6 tail, 7 version, 8 valueRead, 9 nextStep, 10 bucketsImaged, 11 endIsSet; the machine's 12 stopped, 13 blocksLeft, 14 blocks, 15 reads; the index's 16 level, 17 split; the settled place's 18 version, 19 begin, 20 cut, 21 end, 22 level, 23 split; the written one's 24 .. 29 likewise. Rows (S.2.1): 0 buckets, 1 keys, 2 values, 3 previous, 4 versions, 5 stones, 6 the settled image's buckets, 7 the written image's. S.2.2: whether the two places have changed roles. -/
abbrev tc_S : Type := (Nat → Int32) × (Nat → Nat → Int32) × Bool
def tc_f (S : tc_S) (k : Nat) (x : Int32) : tc_S := (upd S.1 k x, S.2.1, S.2.2)
def tc_a (S : tc_S) (k : Nat) (i : Int32) (x : Int32) : tc_S := (S.1, va_up S.2.1 k (upd (S.2.1 k) i.toNatClampNeg x), S.2.2)
abbrev tc_r (S : tc_S) (k : Nat) (i : Int32) : Int32 := S.2.1 k i.toNatClampNeg
def tc_h (G : ts_GX) (S : tc_S) : List va_E :=
  [.inr (4, [.int (S.1 0), .int (S.1 1), .ref 2, .ref 3, .ref 5, .int (S.1 2), .int (S.1 3), .int (S.1 4), .int (S.1 5), .int (S.1 6), .int (S.1 7), .int (S.1 8), .ref (cond S.2.2 14 11), .ref (cond S.2.2 11 14), .int (S.1 9), .int (S.1 10), .int (S.1 11)]),
   .inr (1, [.int (S.1 12), .int (S.1 13), .int (S.1 14), .int (S.1 15)]),
   .inr (0, [.int (S.1 16), .int (S.1 17), .ref 4]),
   .inl (ts_gI G, 16, .inl (S.2.1 0)),
   .inr (2, [.ref 6, .ref 7, .ref 8, .ref 9, .ref 10]),
   .inl (ts_gI G, 400, .inl (S.2.1 1)), .inl (ts_gI G, 400, .inl (S.2.1 2)), .inl (ts_gI G, 400, .inl (S.2.1 3)), .inl (ts_gI G, 400, .inl (S.2.1 4)), .inl (ts_gB G, 400, .inl (S.2.1 5)),
   .inr (3, [.int (cond S.2.2 (S.1 24) (S.1 18)), .int (cond S.2.2 (S.1 25) (S.1 19)), .int (cond S.2.2 (S.1 26) (S.1 20)), .int (cond S.2.2 (S.1 27) (S.1 21)), .ref 12]),
   .inr (0, [.int (cond S.2.2 (S.1 28) (S.1 22)), .int (cond S.2.2 (S.1 29) (S.1 23)), .ref 13]),
   .inl (ts_gI G, 16, .inl (cond S.2.2 (S.2.1 7) (S.2.1 6))),
   .inr (3, [.int (cond S.2.2 (S.1 18) (S.1 24)), .int (cond S.2.2 (S.1 19) (S.1 25)), .int (cond S.2.2 (S.1 20) (S.1 26)), .int (cond S.2.2 (S.1 21) (S.1 27)), .ref 15]),
   .inr (0, [.int (cond S.2.2 (S.1 22) (S.1 28)), .int (cond S.2.2 (S.1 23) (S.1 29)), .ref 16]),
   .inl (ts_gI G, 16, .inl (cond S.2.2 (S.2.1 6) (S.2.1 7)))]
/-- the remainder, as the machine has it -/
def tc_rem (x y : Int32) : Int32 := x - x / y * y
def tc_max (x y : Int32) : Int32 := if x < y then y else x
def tc_min (x y : Int32) : Int32 := if y < x then y else x
def tc_isKey (key : Int32) : Int32 := if key < 0 then 0 else if 32 ≤ key then 0 else 1
def tc_pageEnd (a : Int32) : Int32 := a - tc_rem a 4 + 4
def tc_two (k : Int32) : Int32 := 1 <<< (k &&& 31)
def tc_count (S : tc_S) : Int32 := tc_two (S.1 16) + S.1 17
def tc_hash (key : Int32) : Int32 := tc_rem (13 * key + 5) 32
def tc_low (S : tc_S) (key : Int32) : Int32 := tc_rem (tc_hash key) (tc_two (S.1 16))
def tc_bucketOf (S : tc_S) (key : Int32) : Int32 := if S.1 17 ≤ tc_low S key then tc_low S key else tc_rem (tc_hash key) (tc_two (S.1 16 + 1))
def tc_twin (S : tc_S) : tc_S :=
  if S.1 17 + 1 = tc_two (S.1 16) then tc_f (tc_f (tc_f (tc_a S 0 (tc_count S) (tc_r S 0 (S.1 17))) 17 (S.1 17 + 1)) 16 (S.1 16 + 1)) 17 0
  else tc_f (tc_a S 0 (tc_count S) (tc_r S 0 (S.1 17))) 17 (S.1 17 + 1)
def tc_writeBlock (S : tc_S) : Int32 × tc_S :=
  if S.1 13 ≤ 0 then (if S.1 12 = 0 then 1 else 0, tc_f S 14 (S.1 14 + 1))
  else if S.1 13 - 1 = 0 then (0, tc_f (tc_f (tc_f S 14 (S.1 14 + 1)) 13 (S.1 13 - 1)) 12 1)
  else (1, tc_f (tc_f (tc_f S 14 (S.1 14 + 1)) 13 (S.1 13 - 1)) 12 0)
/-- what find answers, and the reads that are counted then -/
def tc_findGo (S : tc_S) (key cnt : Int32) : Nat → Int32 → Int32 → Int32 × Int32
  | 0, _, r => (-1, r)
  | n + 1, a, r =>
    if a < S.1 2 then (-1, r)
    else if tc_r S 1 a = key then (a, if cnt = 0 then r else if S.1 3 ≤ a then r else r + 1)
    else tc_findGo S key cnt n (tc_r S 3 a) (if cnt = 0 then r else if S.1 3 ≤ a then r else r + 1)
def tc_find0 (S : tc_S) (key cnt : Int32) : Int32 × Int32 := tc_findGo S key cnt 400 (tc_r S 0 (tc_bucketOf S key)) (S.1 15)
def tc_find (S : tc_S) (key cnt : Int32) : Int32 × tc_S := ((tc_find0 S key cnt).1, tc_f S 15 (tc_find0 S key cnt).2)
def tc_hasValue (S : tc_S) (a : Int32) : Int32 := if a = -1 then 0 else if tc_r S 5 a = 0 then 1 else 0
def tc_isLatest (S : tc_S) (a : Int32) : Int32 := if tc_hasValue S a = 0 then 0 else if (tc_find0 S (tc_r S 1 a) 0).1 = a then 1 else 0
def tc_keysGo (S : tc_S) : Nat → Int32 → Int32 → Int32
  | 0, _, c => c
  | n + 1, key, c => tc_keysGo S n (key + 1) (if tc_hasValue S (tc_find0 S key 0).1 = 0 then c else c + 1)
def tc_keys (S : tc_S) : Int32 := tc_keysGo S 32 0 0
def tc_flushPage (S : tc_S) (t : Int32) : Int32 × tc_S := tc_writeBlock (tc_f S 4 (tc_min t (tc_pageEnd (S.1 4))))
def tc_flushGo : Nat → tc_S → Int32 → Int32 × tc_S
  | 0, S, _ => (1, S)
  | n + 1, S, t => if t ≤ S.1 4 then (1, S) else if (tc_flushPage S t).1 = 0 then (0, (tc_flushPage S t).2) else tc_flushGo n (tc_flushPage S t).2 t
def tc_flush (S : tc_S) (t : Int32) : Int32 × tc_S := tc_flushGo 100 S t
def tc_open1 (S : tc_S) : tc_S := tc_f S 5 (tc_max (S.1 5) (S.1 6 - (S.1 1 - 1) * 4))
def tc_newHead (S : tc_S) : Int32 := S.1 6 - (S.1 0 - 1) * 4
def tc_open2 (S : tc_S) (n : Int32) : tc_S := tc_f S 3 (tc_max (S.1 3) n)
def tc_openPage (S : tc_S) : Int32 × tc_S :=
  if tc_newHead S ≤ S.1 3 then (1, tc_open2 (tc_open1 S) (tc_newHead S))
  else if tc_pageEnd (S.1 3) ≤ S.1 4 then (1, tc_open2 (tc_open1 S) (tc_newHead S))
  else if (tc_flush (tc_open1 S) ((tc_open1 S).1 5)).1 = 0 then (0, (tc_flush (tc_open1 S) ((tc_open1 S).1 5)).2)
  else (1, tc_open2 (tc_flush (tc_open1 S) ((tc_open1 S).1 5)).2 (tc_newHead S))
def tc_record (S : tc_S) (key value stone : Int32) : tc_S :=
  tc_f (tc_a (tc_a (tc_a (tc_a (tc_a (tc_a S 1 (S.1 6) key) 2 (S.1 6) value) 3 (S.1 6) (tc_r S 0 (tc_bucketOf S key))) 4 (S.1 6) (S.1 7)) 5 (S.1 6) stone) 0 (tc_bucketOf S key) (S.1 6)) 6 (S.1 6 + 1)
def tc_append (S : tc_S) (key value stone : Int32) : Int32 × tc_S :=
  if tc_rem (S.1 6) 4 = 0 then (if (tc_openPage S).1 = 0 then (0, (tc_openPage S).2) else (1, tc_record (tc_openPage S).2 key value stone))
  else (1, tc_record S key value stone)
def tc_change1 (S : tc_S) (key value stone : Int32) : Int32 × tc_S :=
  if S.1 6 < 400 then ((if (tc_append S key value stone).1 = 0 then -9 else 2), (tc_append S key value stone).2) else (-2, S)
def tc_change (S : tc_S) (a key value stone : Int32) : Int32 × tc_S :=
  if a = -1 then tc_change1 S key value stone
  else if a < S.1 5 then tc_change1 S key value stone
  else if tc_r S 4 a = S.1 7 then (1, tc_a (tc_a S 2 a value) 5 a stone)
  else tc_change1 S key value stone
def tc_put (S : tc_S) (key value : Int32) : Int32 × tc_S :=
  if S.1 12 = 0 then (if tc_isKey key = 0 then (-1, S) else tc_change (tc_find S key 1).2 (tc_find S key 1).1 key value 0) else (-9, S)
def tc_sum (S : tc_S) (a delta : Int32) : Int32 := if tc_hasValue S a = 0 then delta else tc_r S 2 a + delta
def tc_add (S : tc_S) (key delta : Int32) : Int32 × tc_S :=
  if S.1 12 = 0 then (if tc_isKey key = 0 then (-1, S) else tc_change (tc_find S key 1).2 (tc_find S key 1).1 key (tc_sum (tc_find S key 1).2 (tc_find S key 1).1 delta) 0) else (-9, S)
def tc_delete (S : tc_S) (key : Int32) : Int32 × tc_S :=
  if S.1 12 = 0 then (if tc_isKey key = 0 then (-1, S) else if tc_hasValue (tc_find S key 1).2 (tc_find S key 1).1 = 0 then (0, (tc_find S key 1).2) else tc_change (tc_find S key 1).2 (tc_find S key 1).1 key 0 1) else (-9, S)
def tc_read (S : tc_S) (key : Int32) : Int32 × tc_S :=
  if S.1 12 = 0 then (if tc_isKey key = 0 then (-1, S) else if tc_hasValue (tc_find S key 1).2 (tc_find S key 1).1 = 0 then (0, (tc_find S key 1).2)
    else ((if (tc_find S key 1).1 < (tc_find S key 1).2.1 5 then (if (tc_find S key 1).1 < (tc_find S key 1).2.1 3 then 3 else 2) else 1), tc_f (tc_find S key 1).2 8 (tc_r (tc_find S key 1).2 2 (tc_find S key 1).1))) else (-9, S)
def tc_checkpoint (S : tc_S) : Int32 × tc_S :=
  if S.1 12 = 0 then (if S.1 9 = 0 then (S.1 7, tc_f (tc_f (tc_f (tc_f (tc_f (tc_f (tc_f (tc_f (tc_f S 24 (S.1 7)) 25 (S.1 2)) 26 (S.1 6)) 28 (S.1 16)) 29 (S.1 17)) 7 (S.1 7 + 1)) 10 0) 11 0) 9 1) else (-3, S)) else (-9, S)
def tc_copyGo : Nat → tc_S → Int32 → Int32 → tc_S
  | 0, S, _, _ => S
  | n + 1, S, i, e => if e ≤ i then S else tc_copyGo n (tc_a S 7 i (tc_r S 0 i)) (i + 1) e
def tc_image1 (S : tc_S) : tc_S := tc_f (tc_copyGo 16 S (S.1 10) (tc_min (tc_count S) (S.1 10 + 4))) 10 (tc_min (tc_count S) (S.1 10 + 4))
def tc_writeImage (S : tc_S) : Int32 × tc_S :=
  if tc_min (tc_count S) (S.1 10 + 4) < tc_count S then tc_writeBlock (tc_image1 S) else tc_writeBlock (tc_f (tc_image1 S) 9 2)
def tc_end1 (S : tc_S) : tc_S := if S.1 11 = 0 then tc_f (tc_f (tc_f S 5 (S.1 6)) 27 (S.1 6)) 11 1 else S
def tc_end2 (S : tc_S) : Int32 × tc_S := if S.1 4 < S.1 27 then (1, S) else (1, tc_f S 9 3)
def tc_end3 (S : tc_S) : Int32 × tc_S :=
  if S.1 27 ≤ S.1 4 then tc_end2 S else if (tc_flushPage S (S.1 27)).1 = 0 then (0, (tc_flushPage S (S.1 27)).2) else tc_end2 (tc_flushPage S (S.1 27)).2
def tc_flushEnd (S : tc_S) : Int32 × tc_S := tc_end3 (tc_end1 S)
/-- the two places change roles -/
def tc_swapF (F : Nat → Int32) : Nat → Int32 := fun k => if k < 18 then F k else if k < 24 then F (k + 6) else if k < 30 then F (k - 6) else F k
def tc_swapA (A : Nat → Nat → Int32) : Nat → Nat → Int32 := fun k => if k = 6 then A 7 else if k = 7 then A 6 else A k
def tc_swap (S : tc_S) : tc_S := (tc_swapF S.1, tc_swapA S.2.1, !S.2.2)
def tc_settle (S : tc_S) : Int32 × tc_S := tc_writeBlock (tc_f (tc_swap S) 9 0)
def tc_step (S : tc_S) : Int32 × tc_S :=
  if S.1 12 = 0 then (if S.1 9 = 1 then ((if (tc_writeImage S).1 = 0 then -9 else S.1 9), (tc_writeImage S).2) else if S.1 9 = 2 then ((if (tc_flushEnd S).1 = 0 then -9 else S.1 9), (tc_flushEnd S).2) else if S.1 9 = 3 then ((if (tc_settle S).1 = 0 then -9 else S.1 9), (tc_settle S).2) else (-3, S)) else (-9, S)
def tc_grow (S : tc_S) : Int32 × tc_S :=
  if S.1 12 = 0 then (if S.1 9 = 0 then (if tc_count S < 16 then (tc_count (tc_twin S), tc_twin S) else (-3, S)) else (-3, S)) else (-9, S)
def tc_compactGo : Nat → tc_S → Int32 → Int32 → Int32 → Int32 × tc_S
  | 0, S, _, _, c => (c, S)
  | n + 1, S, a, e, c =>
    if e ≤ a then (c, tc_f S 2 e)
    else if tc_isLatest (tc_f S 15 (S.1 15 + 1)) a = 0 then tc_compactGo n (tc_f S 15 (S.1 15 + 1)) (a + 1) e c
    else if (tc_append (tc_f S 15 (S.1 15 + 1)) (tc_r S 1 a) (tc_r S 2 a) 0).1 = 0 then (-9, (tc_append (tc_f S 15 (S.1 15 + 1)) (tc_r S 1 a) (tc_r S 2 a) 0).2)
    else tc_compactGo n (tc_append (tc_f S 15 (S.1 15 + 1)) (tc_r S 1 a) (tc_r S 2 a) 0).2 (a + 1) e (c + 1)
def tc_compact (S : tc_S) : Int32 × tc_S :=
  if S.1 12 = 0 then (if tc_pageEnd (S.1 2) ≤ S.1 3 then (if S.1 6 ≤ 396 then tc_compactGo 5 S (S.1 2) (tc_pageEnd (S.1 2)) 0 else (-2, S)) else (-3, S)) else (-9, S)
def tc_fuse (S : tc_S) (n : Int32) : Int32 × tc_S :=
  if S.1 12 = 0 then (if n < 1 then (0, S) else if n ≤ 50 then (1, tc_f S 13 n) else (0, S)) else (0, S)
def tc_cutGo (S : tc_S) : Nat → Int32 → Int32 → Int32 × Int32
  | 0, a, r => (a, r)
  | n + 1, a, r => if a < S.1 20 then (a, r) else tc_cutGo S n (tc_r S 3 a) (r + 1)
def tc_cut (S : tc_S) (a : Int32) : Int32 × tc_S := ((tc_cutGo S 400 a (S.1 15)).1, tc_f S 15 (tc_cutGo S 400 a (S.1 15)).2)
def tc_restGo : Nat → tc_S → Int32 → Int32 → tc_S
  | 0, S, _, _ => S
  | n + 1, S, i, e => if e ≤ i then S else tc_restGo n (tc_a (tc_cut S (tc_r S 6 i)).2 0 i (tc_cut S (tc_r S 6 i)).1) (i + 1) e
def tc_rest1 (S : tc_S) : tc_S := tc_f (tc_f S 16 (S.1 22)) 17 (S.1 23)
def tc_restore (S : tc_S) : tc_S := tc_restGo 17 (tc_rest1 S) 0 (tc_count (tc_rest1 S))
def tc_rec1 (S : tc_S) : tc_S := tc_f (tc_f (tc_f (tc_f (tc_f (tc_f (tc_f S 12 0) 9 0) 2 (S.1 19)) 3 (S.1 21)) 4 (S.1 21)) 5 (S.1 21)) 6 (S.1 21)
def tc_recover (S : tc_S) : Int32 × tc_S :=
  if S.1 12 = 0 then (-3, S) else ((tc_restore (tc_rec1 S)).1 18, tc_f (tc_restore (tc_rec1 S)) 7 (if (tc_restore (tc_rec1 S)).1 18 = 0 then 1 else (tc_restore (tc_rec1 S)).1 18 + 2))
def tc_address (S : tc_S) (w : Int32) : Int32 :=
  if S.1 12 = 0 then (if w = 0 then S.1 2 else if w = 1 then S.1 3 else if w = 2 then S.1 4 else if w = 3 then S.1 5 else if w = 4 then S.1 6 else -1) else -9
def tc_entry (S : tc_S) (a w : Int32) : Int32 :=
  if S.1 12 = 0 then (if a < S.1 2 then 0 else if a < S.1 6 then (if w = 0 then tc_r S 1 a else if w = 1 then tc_r S 2 a else if w = 2 then tc_r S 3 a else if w = 3 then tc_r S 4 a else if w = 4 then (if tc_r S 5 a = 0 then 0 else 1) else 0) else 0) else 0
def tc_bucket (S : tc_S) (i : Int32) : Int32 :=
  if S.1 12 = 0 then (if i < 0 then -1 else if i < tc_count S then tc_r S 0 i else -1) else -9
def tc_size (S : tc_S) (w : Int32) : Int32 :=
  if w = 0 then (if S.1 12 = 0 then tc_count S else 0) else if w = 1 then (if S.1 12 = 0 then S.1 7 else 0) else if w = 2 then S.1 14 else if w = 3 then S.1 15 else if w = 4 then (if S.1 12 = 0 then S.1 9 else 0) else if w = 5 then (if S.1 12 = 0 then 0 else 1) else if w = 6 then (if S.1 12 = 0 then tc_keys S else 0) else -1
/-- how an answer and a world are named again -/
theorem tc_e1 {α : Type} {F : Int32 × α} {v : Int32} {s : α} (e : F = (v, s)) : some (Value.int F.1) = some (Value.int v) := by rw [e]
theorem tc_e1v {x y : Int32} (e : x = y) : some (Value.int x) = some (Value.int y) := by rw [e]
theorem tc_e2 {G : ts_GX} {T : List va_E} {F : Int32 × tc_S} {v : Int32} {s : tc_S} (e : F = (v, s)) : tc_h G F.2 ++ T = tc_h G s ++ T := by rw [e]
theorem tc_e3 {G : ts_GX} {T : List va_E} {F s : tc_S} (e : F = s) : tc_h G F ++ T = tc_h G s ++ T := by rw [e]
theorem tc_e4 {G : ts_GX} {T : List va_E} {S : tc_S} {F : Int32 × Int32} {v r : Int32} (e : F = (v, r)) : tc_h G (tc_f S 15 F.2) ++ T = tc_h G (tc_f S 15 r) ++ T := by rw [e]
