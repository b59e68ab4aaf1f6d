set_option maxHeartbeats 4000000 in
set_option maxRecDepth 100000 in
theorem cTS_keysWithValue_loop (G : ts_GX) (T : List va_E) (S : tc_S) (hI : tj S) (X : ts_VX) : ∀ (n : Nat) (c : Int32), n ≤ 32 → ts_V G X YTS_keysWithValue (ts_QX G X (some (.int (tc_keysGo S n (nI (32 - n)) c))) (tc_h G S ++ T) 0 0) 0 0 4 [.ref 1, .int c, .int (nI (32 - n))] [] (tc_h G S ++ T) := by
  intro n
  induction n with
  | zero =>
    intro c hn
    refine ts_iload_n dTS_keysWithValue_4 rfl rfl ?_
    refine ts_bipush (v := 32) dTS_keysWithValue_5 (by decide) ?_
    refine ts_icmp_ge (tgt := 32) dTS_keysWithValue_7 rfl (fun _ => ?_) (fun hq => absurd (by decide) hq)
    refine ts_iload_n dTS_keysWithValue_32 rfl rfl ?_
    exact ts_iret dTS_keysWithValue_33 rfl rfl rfl
  | succ n ih =>
    intro c hn
    refine ts_iload_n dTS_keysWithValue_4 rfl rfl ?_
    refine ts_bipush (v := 32) dTS_keysWithValue_5 (by decide) ?_
    refine ts_icmp_ge (tgt := 32) dTS_keysWithValue_7 rfl (fun hq => absurd hq (tc_nge (k := 32) (by omega) (by omega))) (fun _ => ?_)
    refine ts_aload_n dTS_keysWithValue_10 rfl rfl ?_
    refine ts_aload_n dTS_keysWithValue_11 rfl rfl ?_
    refine ts_iload_n dTS_keysWithValue_12 rfl rfl ?_
    refine ts_iconst (v := 0) dTS_keysWithValue_13 (by decide) ?_
    refine ts_callV (cTS_find G T S (nI (32 - (n + 1))) 0 hI (tc_keyN (by omega))) pTS_C70.1 pTS_C70.2 rfl rfl rfl rfl ⟨Nat.le_of_ble_eq_true rfl, Nat.le_of_ble_eq_true rfl⟩ ⟨Nat.le_of_ble_eq_true rfl, Nat.le_of_ble_eq_true rfl⟩ rfl (Nat.le_of_ble_eq_true rfl) dTS_keysWithValue_14 ?_
    refine ts_conv (lo' := [.ref 1, .int c, .int (nI (32 - (n + 1)))]) (st' := [.int ((tc_find0 S (nI (32 - (n + 1))) 0).1), .ref 1]) (h' := tc_h G S ++ T) rfl rfl (by rw [tc_find_same]) ?_
    refine ts_callV (cTS_hasValue G T S ((tc_find0 S (nI (32 - (n + 1))) 0).1) (tc_find_in hI (tc_keyN (by omega)))) pTS_C78.1 pTS_C78.2 rfl rfl rfl rfl ⟨Nat.le_of_ble_eq_true rfl, Nat.le_of_ble_eq_true rfl⟩ ⟨Nat.le_of_ble_eq_true rfl, Nat.le_of_ble_eq_true rfl⟩ rfl (Nat.le_of_ble_eq_true rfl) dTS_keysWithValue_17 ?_
    refine ts_conv (lo' := [.ref 1, .int c, .int (nI (32 - (n + 1)))]) (st' := [.int (tc_hasValue S ((tc_find0 S (nI (32 - (n + 1))) 0).1))]) (h' := tc_h G S ++ T) rfl rfl rfl ?_
    refine ts_if_eq (tgt := 26) dTS_keysWithValue_20 rfl (fun (h20 : (tc_hasValue S ((tc_find0 S (nI (32 - (n + 1))) 0).1)) = 0) => ?_) (fun (h20 : ¬ (tc_hasValue S ((tc_find0 S (nI (32 - (n + 1))) 0).1)) = 0) => ?_)
    · refine ts_iinc (v := nI (32 - n)) (lo' := [.ref 1, .int c, .int (nI (32 - n))]) dTS_keysWithValue_26 rfl (tc_up (by omega)) (Nat.le_of_ble_eq_true rfl) rfl ?_
      refine ts_goto (tgt := 4) dTS_keysWithValue_29 rfl ?_
      have e : tc_keysGo S (n + 1) (nI (32 - (n + 1))) c = tc_keysGo S n (nI (32 - n)) c := by simp only [tc_keysGo, h20, tc_up32 hn, ↓reduceIte]
      rw [e]
      exact ih _ (by omega)
    · refine ts_iinc (v := c + 1) (lo' := [.ref 1, .int (c + 1), .int (nI (32 - (n + 1)))]) dTS_keysWithValue_23 rfl rfl (Nat.le_of_ble_eq_true rfl) rfl ?_
      refine ts_iinc (v := nI (32 - n)) (lo' := [.ref 1, .int (c + 1), .int (nI (32 - n))]) dTS_keysWithValue_26 rfl (tc_up (by omega)) (Nat.le_of_ble_eq_true rfl) rfl ?_
      refine ts_goto (tgt := 4) dTS_keysWithValue_29 rfl ?_
      have e : tc_keysGo S (n + 1) (nI (32 - (n + 1))) c = tc_keysGo S n (nI (32 - n)) (c + 1) := by simp only [tc_keysGo, h20, tc_up32 hn, ↓reduceIte]
      rw [e]
      exact ih _ (by omega)
set_option maxHeartbeats 4000000 in
set_option maxRecDepth 100000 in
theorem cTS_keysWithValue (G : ts_GX) (T : List va_E) (S : tc_S) (hI : tj S) : ts_M G yTS_keysWithValue YTS_keysWithValue [.ref 1] (tc_h G S ++ T) (some (.int (tc_keys S))) (tc_h G S ++ T) 0 0 := by
  refine ts_of rfl rfl rfl rfl rfl rfl (Nat.le_of_ble_eq_true rfl) (ts_cat1 rfl) (fun X => ?_)
  refine ts_iconst (v := 0) dTS_keysWithValue_0 (by decide) ?_
  refine ts_istore_n (lo' := [.ref 1, .int 0]) dTS_keysWithValue_1 rfl (Nat.le_of_ble_eq_true rfl) (Nat.le_of_ble_eq_true rfl) rfl ?_
  refine ts_iconst (v := 0) dTS_keysWithValue_2 (by decide) ?_
  refine ts_istore_n (lo' := [.ref 1, .int 0, .int 0]) dTS_keysWithValue_3 rfl (Nat.le_of_ble_eq_true rfl) (Nat.le_of_ble_eq_true rfl) rfl ?_
  exact cTS_keysWithValue_loop G T S hI X 32 0 (Nat.le_refl _)
