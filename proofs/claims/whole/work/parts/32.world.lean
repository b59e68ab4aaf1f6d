/-! How a changed number or row shows in the world (printed by wip/whole/gen_world.py). -/
theorem tc_ff (S : tc_S) (k : Nat) (x y : Int32) : tc_f (tc_f S k x) k y = tc_f S k y := by
  have h : upd (upd S.1 k x) k y = upd S.1 k y := by
    funext j
    unfold upd
    split
    · rfl
    · rfl
  show (upd (upd S.1 k x) k y, S.2.1, S.2.2) = (upd S.1 k y, S.2.1, S.2.2)
  rw [h]
theorem th_f0 (G : ts_GX) (T : List va_E) (S : tc_S) (v : Int32) : (tc_h G S ++ T).set 0 (.inr (4, ([.int (S.1 0), .int (S.1 1), .ref 2, .ref 3, .ref 5, .int (S.1 2), .int (S.1 3), .int (S.1 4), .int (S.1 5), .int (S.1 6), .int (S.1 7), .int (S.1 8), .ref (cond S.2.2 14 11), .ref (cond S.2.2 11 14), .int (S.1 9), .int (S.1 10), .int (S.1 11)] : List Value).set 0 (.int v))) = tc_h G (tc_f S 0 v) ++ T := rfl
theorem th_f1 (G : ts_GX) (T : List va_E) (S : tc_S) (v : Int32) : (tc_h G S ++ T).set 0 (.inr (4, ([.int (S.1 0), .int (S.1 1), .ref 2, .ref 3, .ref 5, .int (S.1 2), .int (S.1 3), .int (S.1 4), .int (S.1 5), .int (S.1 6), .int (S.1 7), .int (S.1 8), .ref (cond S.2.2 14 11), .ref (cond S.2.2 11 14), .int (S.1 9), .int (S.1 10), .int (S.1 11)] : List Value).set 1 (.int v))) = tc_h G (tc_f S 1 v) ++ T := rfl
theorem th_f2 (G : ts_GX) (T : List va_E) (S : tc_S) (v : Int32) : (tc_h G S ++ T).set 0 (.inr (4, ([.int (S.1 0), .int (S.1 1), .ref 2, .ref 3, .ref 5, .int (S.1 2), .int (S.1 3), .int (S.1 4), .int (S.1 5), .int (S.1 6), .int (S.1 7), .int (S.1 8), .ref (cond S.2.2 14 11), .ref (cond S.2.2 11 14), .int (S.1 9), .int (S.1 10), .int (S.1 11)] : List Value).set 5 (.int v))) = tc_h G (tc_f S 2 v) ++ T := rfl
theorem th_f3 (G : ts_GX) (T : List va_E) (S : tc_S) (v : Int32) : (tc_h G S ++ T).set 0 (.inr (4, ([.int (S.1 0), .int (S.1 1), .ref 2, .ref 3, .ref 5, .int (S.1 2), .int (S.1 3), .int (S.1 4), .int (S.1 5), .int (S.1 6), .int (S.1 7), .int (S.1 8), .ref (cond S.2.2 14 11), .ref (cond S.2.2 11 14), .int (S.1 9), .int (S.1 10), .int (S.1 11)] : List Value).set 6 (.int v))) = tc_h G (tc_f S 3 v) ++ T := rfl
theorem th_f4 (G : ts_GX) (T : List va_E) (S : tc_S) (v : Int32) : (tc_h G S ++ T).set 0 (.inr (4, ([.int (S.1 0), .int (S.1 1), .ref 2, .ref 3, .ref 5, .int (S.1 2), .int (S.1 3), .int (S.1 4), .int (S.1 5), .int (S.1 6), .int (S.1 7), .int (S.1 8), .ref (cond S.2.2 14 11), .ref (cond S.2.2 11 14), .int (S.1 9), .int (S.1 10), .int (S.1 11)] : List Value).set 7 (.int v))) = tc_h G (tc_f S 4 v) ++ T := rfl
theorem th_f5 (G : ts_GX) (T : List va_E) (S : tc_S) (v : Int32) : (tc_h G S ++ T).set 0 (.inr (4, ([.int (S.1 0), .int (S.1 1), .ref 2, .ref 3, .ref 5, .int (S.1 2), .int (S.1 3), .int (S.1 4), .int (S.1 5), .int (S.1 6), .int (S.1 7), .int (S.1 8), .ref (cond S.2.2 14 11), .ref (cond S.2.2 11 14), .int (S.1 9), .int (S.1 10), .int (S.1 11)] : List Value).set 8 (.int v))) = tc_h G (tc_f S 5 v) ++ T := rfl
theorem th_f6 (G : ts_GX) (T : List va_E) (S : tc_S) (v : Int32) : (tc_h G S ++ T).set 0 (.inr (4, ([.int (S.1 0), .int (S.1 1), .ref 2, .ref 3, .ref 5, .int (S.1 2), .int (S.1 3), .int (S.1 4), .int (S.1 5), .int (S.1 6), .int (S.1 7), .int (S.1 8), .ref (cond S.2.2 14 11), .ref (cond S.2.2 11 14), .int (S.1 9), .int (S.1 10), .int (S.1 11)] : List Value).set 9 (.int v))) = tc_h G (tc_f S 6 v) ++ T := rfl
theorem th_f7 (G : ts_GX) (T : List va_E) (S : tc_S) (v : Int32) : (tc_h G S ++ T).set 0 (.inr (4, ([.int (S.1 0), .int (S.1 1), .ref 2, .ref 3, .ref 5, .int (S.1 2), .int (S.1 3), .int (S.1 4), .int (S.1 5), .int (S.1 6), .int (S.1 7), .int (S.1 8), .ref (cond S.2.2 14 11), .ref (cond S.2.2 11 14), .int (S.1 9), .int (S.1 10), .int (S.1 11)] : List Value).set 10 (.int v))) = tc_h G (tc_f S 7 v) ++ T := rfl
theorem th_f8 (G : ts_GX) (T : List va_E) (S : tc_S) (v : Int32) : (tc_h G S ++ T).set 0 (.inr (4, ([.int (S.1 0), .int (S.1 1), .ref 2, .ref 3, .ref 5, .int (S.1 2), .int (S.1 3), .int (S.1 4), .int (S.1 5), .int (S.1 6), .int (S.1 7), .int (S.1 8), .ref (cond S.2.2 14 11), .ref (cond S.2.2 11 14), .int (S.1 9), .int (S.1 10), .int (S.1 11)] : List Value).set 11 (.int v))) = tc_h G (tc_f S 8 v) ++ T := rfl
theorem th_f9 (G : ts_GX) (T : List va_E) (S : tc_S) (v : Int32) : (tc_h G S ++ T).set 0 (.inr (4, ([.int (S.1 0), .int (S.1 1), .ref 2, .ref 3, .ref 5, .int (S.1 2), .int (S.1 3), .int (S.1 4), .int (S.1 5), .int (S.1 6), .int (S.1 7), .int (S.1 8), .ref (cond S.2.2 14 11), .ref (cond S.2.2 11 14), .int (S.1 9), .int (S.1 10), .int (S.1 11)] : List Value).set 14 (.int v))) = tc_h G (tc_f S 9 v) ++ T := rfl
theorem th_f10 (G : ts_GX) (T : List va_E) (S : tc_S) (v : Int32) : (tc_h G S ++ T).set 0 (.inr (4, ([.int (S.1 0), .int (S.1 1), .ref 2, .ref 3, .ref 5, .int (S.1 2), .int (S.1 3), .int (S.1 4), .int (S.1 5), .int (S.1 6), .int (S.1 7), .int (S.1 8), .ref (cond S.2.2 14 11), .ref (cond S.2.2 11 14), .int (S.1 9), .int (S.1 10), .int (S.1 11)] : List Value).set 15 (.int v))) = tc_h G (tc_f S 10 v) ++ T := rfl
theorem th_f11 (G : ts_GX) (T : List va_E) (S : tc_S) (v : Int32) : (tc_h G S ++ T).set 0 (.inr (4, ([.int (S.1 0), .int (S.1 1), .ref 2, .ref 3, .ref 5, .int (S.1 2), .int (S.1 3), .int (S.1 4), .int (S.1 5), .int (S.1 6), .int (S.1 7), .int (S.1 8), .ref (cond S.2.2 14 11), .ref (cond S.2.2 11 14), .int (S.1 9), .int (S.1 10), .int (S.1 11)] : List Value).set 16 (.int v))) = tc_h G (tc_f S 11 v) ++ T := rfl
theorem th_f12 (G : ts_GX) (T : List va_E) (S : tc_S) (v : Int32) : (tc_h G S ++ T).set 1 (.inr (1, ([.int (S.1 12), .int (S.1 13), .int (S.1 14), .int (S.1 15)] : List Value).set 0 (.int v))) = tc_h G (tc_f S 12 v) ++ T := rfl
theorem th_f13 (G : ts_GX) (T : List va_E) (S : tc_S) (v : Int32) : (tc_h G S ++ T).set 1 (.inr (1, ([.int (S.1 12), .int (S.1 13), .int (S.1 14), .int (S.1 15)] : List Value).set 1 (.int v))) = tc_h G (tc_f S 13 v) ++ T := rfl
theorem th_f14 (G : ts_GX) (T : List va_E) (S : tc_S) (v : Int32) : (tc_h G S ++ T).set 1 (.inr (1, ([.int (S.1 12), .int (S.1 13), .int (S.1 14), .int (S.1 15)] : List Value).set 2 (.int v))) = tc_h G (tc_f S 14 v) ++ T := rfl
theorem th_f15 (G : ts_GX) (T : List va_E) (S : tc_S) (v : Int32) : (tc_h G S ++ T).set 1 (.inr (1, ([.int (S.1 12), .int (S.1 13), .int (S.1 14), .int (S.1 15)] : List Value).set 3 (.int v))) = tc_h G (tc_f S 15 v) ++ T := rfl
theorem th_f16 (G : ts_GX) (T : List va_E) (S : tc_S) (v : Int32) : (tc_h G S ++ T).set 2 (.inr (0, ([.int (S.1 16), .int (S.1 17), .ref 4] : List Value).set 0 (.int v))) = tc_h G (tc_f S 16 v) ++ T := rfl
theorem th_f17 (G : ts_GX) (T : List va_E) (S : tc_S) (v : Int32) : (tc_h G S ++ T).set 2 (.inr (0, ([.int (S.1 16), .int (S.1 17), .ref 4] : List Value).set 1 (.int v))) = tc_h G (tc_f S 17 v) ++ T := rfl
theorem th_a0 (G : ts_GX) (T : List va_E) (S : tc_S) (x v : Int32) : (tc_h G S ++ T).set 3 (.inl (ts_gI G, 16, .inl (upd (S.2.1 0) x.toNatClampNeg v))) = tc_h G (tc_a S 0 x v) ++ T := rfl
theorem th_a1 (G : ts_GX) (T : List va_E) (S : tc_S) (x v : Int32) : (tc_h G S ++ T).set 5 (.inl (ts_gI G, 400, .inl (upd (S.2.1 1) x.toNatClampNeg v))) = tc_h G (tc_a S 1 x v) ++ T := rfl
theorem th_a2 (G : ts_GX) (T : List va_E) (S : tc_S) (x v : Int32) : (tc_h G S ++ T).set 6 (.inl (ts_gI G, 400, .inl (upd (S.2.1 2) x.toNatClampNeg v))) = tc_h G (tc_a S 2 x v) ++ T := rfl
theorem th_a3 (G : ts_GX) (T : List va_E) (S : tc_S) (x v : Int32) : (tc_h G S ++ T).set 7 (.inl (ts_gI G, 400, .inl (upd (S.2.1 3) x.toNatClampNeg v))) = tc_h G (tc_a S 3 x v) ++ T := rfl
theorem th_a4 (G : ts_GX) (T : List va_E) (S : tc_S) (x v : Int32) : (tc_h G S ++ T).set 8 (.inl (ts_gI G, 400, .inl (upd (S.2.1 4) x.toNatClampNeg v))) = tc_h G (tc_a S 4 x v) ++ T := rfl
theorem th_a5 (G : ts_GX) (T : List va_E) (S : tc_S) (x v : Int32) : (tc_h G S ++ T).set 9 (.inl (ts_gB G, 400, .inl (upd (S.2.1 5) x.toNatClampNeg v))) = tc_h G (tc_a S 5 x v) ++ T := rfl
theorem th_f24_1 (G : ts_GX) (T : List va_E) (S : tc_S) (v : Int32) (hS : S.2.2 = true) : (tc_h G S ++ T).set 10 (.inr (3, ([.int (cond S.2.2 (S.1 24) (S.1 18)), .int (cond S.2.2 (S.1 25) (S.1 19)), .int (cond S.2.2 (S.1 26) (S.1 20)), .int (cond S.2.2 (S.1 27) (S.1 21)), .ref 12] : List Value).set 0 (.int v))) = tc_h G (tc_f S 24 v) ++ T := by
  obtain ⟨F, A, w⟩ := S
  have h : w = true := hS
  subst h
  rfl
theorem th_f18_0 (G : ts_GX) (T : List va_E) (S : tc_S) (v : Int32) (hS : S.2.2 = false) : (tc_h G S ++ T).set 10 (.inr (3, ([.int (cond S.2.2 (S.1 24) (S.1 18)), .int (cond S.2.2 (S.1 25) (S.1 19)), .int (cond S.2.2 (S.1 26) (S.1 20)), .int (cond S.2.2 (S.1 27) (S.1 21)), .ref 12] : List Value).set 0 (.int v))) = tc_h G (tc_f S 18 v) ++ T := by
  obtain ⟨F, A, w⟩ := S
  have h : w = false := hS
  subst h
  rfl
theorem th_f25_1 (G : ts_GX) (T : List va_E) (S : tc_S) (v : Int32) (hS : S.2.2 = true) : (tc_h G S ++ T).set 10 (.inr (3, ([.int (cond S.2.2 (S.1 24) (S.1 18)), .int (cond S.2.2 (S.1 25) (S.1 19)), .int (cond S.2.2 (S.1 26) (S.1 20)), .int (cond S.2.2 (S.1 27) (S.1 21)), .ref 12] : List Value).set 1 (.int v))) = tc_h G (tc_f S 25 v) ++ T := by
  obtain ⟨F, A, w⟩ := S
  have h : w = true := hS
  subst h
  rfl
theorem th_f19_0 (G : ts_GX) (T : List va_E) (S : tc_S) (v : Int32) (hS : S.2.2 = false) : (tc_h G S ++ T).set 10 (.inr (3, ([.int (cond S.2.2 (S.1 24) (S.1 18)), .int (cond S.2.2 (S.1 25) (S.1 19)), .int (cond S.2.2 (S.1 26) (S.1 20)), .int (cond S.2.2 (S.1 27) (S.1 21)), .ref 12] : List Value).set 1 (.int v))) = tc_h G (tc_f S 19 v) ++ T := by
  obtain ⟨F, A, w⟩ := S
  have h : w = false := hS
  subst h
  rfl
theorem th_f26_1 (G : ts_GX) (T : List va_E) (S : tc_S) (v : Int32) (hS : S.2.2 = true) : (tc_h G S ++ T).set 10 (.inr (3, ([.int (cond S.2.2 (S.1 24) (S.1 18)), .int (cond S.2.2 (S.1 25) (S.1 19)), .int (cond S.2.2 (S.1 26) (S.1 20)), .int (cond S.2.2 (S.1 27) (S.1 21)), .ref 12] : List Value).set 2 (.int v))) = tc_h G (tc_f S 26 v) ++ T := by
  obtain ⟨F, A, w⟩ := S
  have h : w = true := hS
  subst h
  rfl
theorem th_f20_0 (G : ts_GX) (T : List va_E) (S : tc_S) (v : Int32) (hS : S.2.2 = false) : (tc_h G S ++ T).set 10 (.inr (3, ([.int (cond S.2.2 (S.1 24) (S.1 18)), .int (cond S.2.2 (S.1 25) (S.1 19)), .int (cond S.2.2 (S.1 26) (S.1 20)), .int (cond S.2.2 (S.1 27) (S.1 21)), .ref 12] : List Value).set 2 (.int v))) = tc_h G (tc_f S 20 v) ++ T := by
  obtain ⟨F, A, w⟩ := S
  have h : w = false := hS
  subst h
  rfl
theorem th_f27_1 (G : ts_GX) (T : List va_E) (S : tc_S) (v : Int32) (hS : S.2.2 = true) : (tc_h G S ++ T).set 10 (.inr (3, ([.int (cond S.2.2 (S.1 24) (S.1 18)), .int (cond S.2.2 (S.1 25) (S.1 19)), .int (cond S.2.2 (S.1 26) (S.1 20)), .int (cond S.2.2 (S.1 27) (S.1 21)), .ref 12] : List Value).set 3 (.int v))) = tc_h G (tc_f S 27 v) ++ T := by
  obtain ⟨F, A, w⟩ := S
  have h : w = true := hS
  subst h
  rfl
theorem th_f21_0 (G : ts_GX) (T : List va_E) (S : tc_S) (v : Int32) (hS : S.2.2 = false) : (tc_h G S ++ T).set 10 (.inr (3, ([.int (cond S.2.2 (S.1 24) (S.1 18)), .int (cond S.2.2 (S.1 25) (S.1 19)), .int (cond S.2.2 (S.1 26) (S.1 20)), .int (cond S.2.2 (S.1 27) (S.1 21)), .ref 12] : List Value).set 3 (.int v))) = tc_h G (tc_f S 21 v) ++ T := by
  obtain ⟨F, A, w⟩ := S
  have h : w = false := hS
  subst h
  rfl
theorem th_f28_1 (G : ts_GX) (T : List va_E) (S : tc_S) (v : Int32) (hS : S.2.2 = true) : (tc_h G S ++ T).set 11 (.inr (0, ([.int (cond S.2.2 (S.1 28) (S.1 22)), .int (cond S.2.2 (S.1 29) (S.1 23)), .ref 13] : List Value).set 0 (.int v))) = tc_h G (tc_f S 28 v) ++ T := by
  obtain ⟨F, A, w⟩ := S
  have h : w = true := hS
  subst h
  rfl
theorem th_f22_0 (G : ts_GX) (T : List va_E) (S : tc_S) (v : Int32) (hS : S.2.2 = false) : (tc_h G S ++ T).set 11 (.inr (0, ([.int (cond S.2.2 (S.1 28) (S.1 22)), .int (cond S.2.2 (S.1 29) (S.1 23)), .ref 13] : List Value).set 0 (.int v))) = tc_h G (tc_f S 22 v) ++ T := by
  obtain ⟨F, A, w⟩ := S
  have h : w = false := hS
  subst h
  rfl
theorem th_f29_1 (G : ts_GX) (T : List va_E) (S : tc_S) (v : Int32) (hS : S.2.2 = true) : (tc_h G S ++ T).set 11 (.inr (0, ([.int (cond S.2.2 (S.1 28) (S.1 22)), .int (cond S.2.2 (S.1 29) (S.1 23)), .ref 13] : List Value).set 1 (.int v))) = tc_h G (tc_f S 29 v) ++ T := by
  obtain ⟨F, A, w⟩ := S
  have h : w = true := hS
  subst h
  rfl
theorem th_f23_0 (G : ts_GX) (T : List va_E) (S : tc_S) (v : Int32) (hS : S.2.2 = false) : (tc_h G S ++ T).set 11 (.inr (0, ([.int (cond S.2.2 (S.1 28) (S.1 22)), .int (cond S.2.2 (S.1 29) (S.1 23)), .ref 13] : List Value).set 1 (.int v))) = tc_h G (tc_f S 23 v) ++ T := by
  obtain ⟨F, A, w⟩ := S
  have h : w = false := hS
  subst h
  rfl
theorem th_a7_1 (G : ts_GX) (T : List va_E) (S : tc_S) (x v : Int32) (hS : S.2.2 = true) : (tc_h G S ++ T).set 12 (.inl (ts_gI G, 16, .inl (upd (cond S.2.2 (S.2.1 7) (S.2.1 6)) x.toNatClampNeg v))) = tc_h G (tc_a S 7 x v) ++ T := by
  obtain ⟨F, A, w⟩ := S
  have h : w = true := hS
  subst h
  rfl
theorem th_a6_0 (G : ts_GX) (T : List va_E) (S : tc_S) (x v : Int32) (hS : S.2.2 = false) : (tc_h G S ++ T).set 12 (.inl (ts_gI G, 16, .inl (upd (cond S.2.2 (S.2.1 7) (S.2.1 6)) x.toNatClampNeg v))) = tc_h G (tc_a S 6 x v) ++ T := by
  obtain ⟨F, A, w⟩ := S
  have h : w = false := hS
  subst h
  rfl
theorem th_f18_1 (G : ts_GX) (T : List va_E) (S : tc_S) (v : Int32) (hS : S.2.2 = true) : (tc_h G S ++ T).set 13 (.inr (3, ([.int (cond S.2.2 (S.1 18) (S.1 24)), .int (cond S.2.2 (S.1 19) (S.1 25)), .int (cond S.2.2 (S.1 20) (S.1 26)), .int (cond S.2.2 (S.1 21) (S.1 27)), .ref 15] : List Value).set 0 (.int v))) = tc_h G (tc_f S 18 v) ++ T := by
  obtain ⟨F, A, w⟩ := S
  have h : w = true := hS
  subst h
  rfl
theorem th_f24_0 (G : ts_GX) (T : List va_E) (S : tc_S) (v : Int32) (hS : S.2.2 = false) : (tc_h G S ++ T).set 13 (.inr (3, ([.int (cond S.2.2 (S.1 18) (S.1 24)), .int (cond S.2.2 (S.1 19) (S.1 25)), .int (cond S.2.2 (S.1 20) (S.1 26)), .int (cond S.2.2 (S.1 21) (S.1 27)), .ref 15] : List Value).set 0 (.int v))) = tc_h G (tc_f S 24 v) ++ T := by
  obtain ⟨F, A, w⟩ := S
  have h : w = false := hS
  subst h
  rfl
theorem th_f19_1 (G : ts_GX) (T : List va_E) (S : tc_S) (v : Int32) (hS : S.2.2 = true) : (tc_h G S ++ T).set 13 (.inr (3, ([.int (cond S.2.2 (S.1 18) (S.1 24)), .int (cond S.2.2 (S.1 19) (S.1 25)), .int (cond S.2.2 (S.1 20) (S.1 26)), .int (cond S.2.2 (S.1 21) (S.1 27)), .ref 15] : List Value).set 1 (.int v))) = tc_h G (tc_f S 19 v) ++ T := by
  obtain ⟨F, A, w⟩ := S
  have h : w = true := hS
  subst h
  rfl
theorem th_f25_0 (G : ts_GX) (T : List va_E) (S : tc_S) (v : Int32) (hS : S.2.2 = false) : (tc_h G S ++ T).set 13 (.inr (3, ([.int (cond S.2.2 (S.1 18) (S.1 24)), .int (cond S.2.2 (S.1 19) (S.1 25)), .int (cond S.2.2 (S.1 20) (S.1 26)), .int (cond S.2.2 (S.1 21) (S.1 27)), .ref 15] : List Value).set 1 (.int v))) = tc_h G (tc_f S 25 v) ++ T := by
  obtain ⟨F, A, w⟩ := S
  have h : w = false := hS
  subst h
  rfl
theorem th_f20_1 (G : ts_GX) (T : List va_E) (S : tc_S) (v : Int32) (hS : S.2.2 = true) : (tc_h G S ++ T).set 13 (.inr (3, ([.int (cond S.2.2 (S.1 18) (S.1 24)), .int (cond S.2.2 (S.1 19) (S.1 25)), .int (cond S.2.2 (S.1 20) (S.1 26)), .int (cond S.2.2 (S.1 21) (S.1 27)), .ref 15] : List Value).set 2 (.int v))) = tc_h G (tc_f S 20 v) ++ T := by
  obtain ⟨F, A, w⟩ := S
  have h : w = true := hS
  subst h
  rfl
theorem th_f26_0 (G : ts_GX) (T : List va_E) (S : tc_S) (v : Int32) (hS : S.2.2 = false) : (tc_h G S ++ T).set 13 (.inr (3, ([.int (cond S.2.2 (S.1 18) (S.1 24)), .int (cond S.2.2 (S.1 19) (S.1 25)), .int (cond S.2.2 (S.1 20) (S.1 26)), .int (cond S.2.2 (S.1 21) (S.1 27)), .ref 15] : List Value).set 2 (.int v))) = tc_h G (tc_f S 26 v) ++ T := by
  obtain ⟨F, A, w⟩ := S
  have h : w = false := hS
  subst h
  rfl
theorem th_f21_1 (G : ts_GX) (T : List va_E) (S : tc_S) (v : Int32) (hS : S.2.2 = true) : (tc_h G S ++ T).set 13 (.inr (3, ([.int (cond S.2.2 (S.1 18) (S.1 24)), .int (cond S.2.2 (S.1 19) (S.1 25)), .int (cond S.2.2 (S.1 20) (S.1 26)), .int (cond S.2.2 (S.1 21) (S.1 27)), .ref 15] : List Value).set 3 (.int v))) = tc_h G (tc_f S 21 v) ++ T := by
  obtain ⟨F, A, w⟩ := S
  have h : w = true := hS
  subst h
  rfl
theorem th_f27_0 (G : ts_GX) (T : List va_E) (S : tc_S) (v : Int32) (hS : S.2.2 = false) : (tc_h G S ++ T).set 13 (.inr (3, ([.int (cond S.2.2 (S.1 18) (S.1 24)), .int (cond S.2.2 (S.1 19) (S.1 25)), .int (cond S.2.2 (S.1 20) (S.1 26)), .int (cond S.2.2 (S.1 21) (S.1 27)), .ref 15] : List Value).set 3 (.int v))) = tc_h G (tc_f S 27 v) ++ T := by
  obtain ⟨F, A, w⟩ := S
  have h : w = false := hS
  subst h
  rfl
theorem th_f22_1 (G : ts_GX) (T : List va_E) (S : tc_S) (v : Int32) (hS : S.2.2 = true) : (tc_h G S ++ T).set 14 (.inr (0, ([.int (cond S.2.2 (S.1 22) (S.1 28)), .int (cond S.2.2 (S.1 23) (S.1 29)), .ref 16] : List Value).set 0 (.int v))) = tc_h G (tc_f S 22 v) ++ T := by
  obtain ⟨F, A, w⟩ := S
  have h : w = true := hS
  subst h
  rfl
theorem th_f28_0 (G : ts_GX) (T : List va_E) (S : tc_S) (v : Int32) (hS : S.2.2 = false) : (tc_h G S ++ T).set 14 (.inr (0, ([.int (cond S.2.2 (S.1 22) (S.1 28)), .int (cond S.2.2 (S.1 23) (S.1 29)), .ref 16] : List Value).set 0 (.int v))) = tc_h G (tc_f S 28 v) ++ T := by
  obtain ⟨F, A, w⟩ := S
  have h : w = false := hS
  subst h
  rfl
theorem th_f23_1 (G : ts_GX) (T : List va_E) (S : tc_S) (v : Int32) (hS : S.2.2 = true) : (tc_h G S ++ T).set 14 (.inr (0, ([.int (cond S.2.2 (S.1 22) (S.1 28)), .int (cond S.2.2 (S.1 23) (S.1 29)), .ref 16] : List Value).set 1 (.int v))) = tc_h G (tc_f S 23 v) ++ T := by
  obtain ⟨F, A, w⟩ := S
  have h : w = true := hS
  subst h
  rfl
theorem th_f29_0 (G : ts_GX) (T : List va_E) (S : tc_S) (v : Int32) (hS : S.2.2 = false) : (tc_h G S ++ T).set 14 (.inr (0, ([.int (cond S.2.2 (S.1 22) (S.1 28)), .int (cond S.2.2 (S.1 23) (S.1 29)), .ref 16] : List Value).set 1 (.int v))) = tc_h G (tc_f S 29 v) ++ T := by
  obtain ⟨F, A, w⟩ := S
  have h : w = false := hS
  subst h
  rfl
theorem th_a6_1 (G : ts_GX) (T : List va_E) (S : tc_S) (x v : Int32) (hS : S.2.2 = true) : (tc_h G S ++ T).set 15 (.inl (ts_gI G, 16, .inl (upd (cond S.2.2 (S.2.1 6) (S.2.1 7)) x.toNatClampNeg v))) = tc_h G (tc_a S 6 x v) ++ T := by
  obtain ⟨F, A, w⟩ := S
  have h : w = true := hS
  subst h
  rfl
theorem th_a7_0 (G : ts_GX) (T : List va_E) (S : tc_S) (x v : Int32) (hS : S.2.2 = false) : (tc_h G S ++ T).set 15 (.inl (ts_gI G, 16, .inl (upd (cond S.2.2 (S.2.1 6) (S.2.1 7)) x.toNatClampNeg v))) = tc_h G (tc_a S 7 x v) ++ T := by
  obtain ⟨F, A, w⟩ := S
  have h : w = false := hS
  subst h
  rfl
