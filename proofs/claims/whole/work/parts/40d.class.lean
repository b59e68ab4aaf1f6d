set_option maxHeartbeats 4000000 in
set_option maxRecDepth 100000 in
theorem cTS_flushPage (G : ts_GX) (T : List va_E) (S : tc_S) (t : Int32) : ts_M G yTS_flushPage YTS_flushPage [.ref 1, .int t] (tc_h G S ++ T) (some (.int (tc_flushPage S t).1)) (tc_h G (tc_flushPage S t).2 ++ T) 0 0 := by
  refine ts_of rfl rfl rfl rfl rfl rfl (Nat.le_of_ble_eq_true rfl) (ts_cat1 rfl) (fun X => ?_)
  refine ts_aload_n dTS_flushPage_0 rfl rfl ?_
  refine ts_iload_n dTS_flushPage_1 rfl rfl ?_
  refine ts_aload_n dTS_flushPage_2 rfl rfl ?_
  refine ts_get pTS_F160 dTS_flushPage_3 rfl rfl ?_
  refine ts_callS (cTS_pageEnd G T S (S.1 4)) pTS_C137.1 pTS_C137.2 rfl rfl ⟨Nat.le_of_ble_eq_true rfl, Nat.le_of_ble_eq_true rfl⟩ ⟨Nat.le_of_ble_eq_true rfl, Nat.le_of_ble_eq_true rfl⟩ rfl (Nat.le_of_ble_eq_true rfl) dTS_flushPage_6 ?_
  refine ts_conv (lo' := [.ref 1, .int t]) (st' := [.int (tc_pageEnd (S.1 4)), .int t, .ref 1]) (h' := tc_h G S ++ T) rfl rfl rfl ?_
  refine ts_min pTS_L47 tn_min_s tn_math tn_min_c (Nat.le_of_ble_eq_true rfl) (Nat.le_of_ble_eq_true rfl) ⟨Nat.le_of_ble_eq_true rfl, Nat.le_of_ble_eq_true rfl⟩ dTS_flushPage_9 ?_
  obtain ⟨v9, g9⟩ : ∃ v : Int32, v = tc_min t (tc_pageEnd (S.1 4)) := ⟨_, rfl⟩
  refine ts_conv (lo' := [.ref 1, .int t]) (st' := [.int v9, .ref 1]) (h' := tc_h G S ++ T) rfl (by subst g9; rfl) rfl ?_
  refine ts_put pTS_P160 dTS_flushPage_12 rfl (Nat.le_of_ble_eq_true rfl) rfl rfl (h' := tc_h G (tc_f S 4 v9) ++ T) (th_f4 _ _ _ _) ?_
  refine ts_aload_n dTS_flushPage_15 rfl rfl ?_
  refine ts_get pTS_F12 dTS_flushPage_16 rfl rfl ?_
  refine ts_callV (cMA_writeBlock G T (tc_f S 4 v9)) pTS_C197.1 pTS_C197.2 rfl rfl rfl rfl ⟨Nat.le_of_ble_eq_true rfl, Nat.le_of_ble_eq_true rfl⟩ ⟨Nat.le_of_ble_eq_true rfl, Nat.le_of_ble_eq_true rfl⟩ rfl (Nat.le_of_ble_eq_true rfl) dTS_flushPage_19 ?_
  refine ts_conv (lo' := [.ref 1, .int t]) (st' := [.int ((tc_writeBlock (tc_f S 4 v9)).1)]) (h' := tc_h G ((tc_writeBlock (tc_f S 4 v9)).2) ++ T) rfl rfl rfl ?_
  subst g9
  exact ts_zret dTS_flushPage_22 rfl (tc_wb_bit _) rfl rfl
set_option maxHeartbeats 4000000 in
set_option maxRecDepth 100000 in
theorem cTS_settle (G : ts_GX) (T : List va_E) (S : tc_S) : ts_M G yTS_settle YTS_settle [.ref 1] (tc_h G S ++ T) (some (.int (tc_settle S).1)) (tc_h G (tc_settle S).2 ++ T) 0 0 := by
  refine ts_of rfl rfl rfl rfl rfl rfl (Nat.le_of_ble_eq_true rfl) (ts_cat1 rfl) (fun X => ?_)
  obtain ⟨F, A, sw⟩ := S
  cases sw with
  | false =>
    refine ts_aload_n dTS_settle_0 rfl rfl ?_
    refine ts_get pTS_F37 dTS_settle_1 rfl rfl ?_
    refine ts_astore_n (lo' := [.ref 1, .ref 11]) dTS_settle_4 rfl (Nat.le_of_ble_eq_true rfl) (Nat.le_of_ble_eq_true rfl) rfl ?_
    refine ts_aload_n dTS_settle_5 rfl rfl ?_
    refine ts_aload_n dTS_settle_6 rfl rfl ?_
    refine ts_get pTS_F41 dTS_settle_7 rfl rfl ?_
    refine ts_put pTS_P37 dTS_settle_10 rfl (Nat.le_of_ble_eq_true rfl) rfl rfl rfl ?_
    refine ts_aload_n dTS_settle_13 rfl rfl ?_
    refine ts_aload_n dTS_settle_14 rfl rfl ?_
    refine ts_put pTS_P41 dTS_settle_15 rfl (Nat.le_of_ble_eq_true rfl) rfl rfl (h' := tc_h G (tc_swap (F, A, false)) ++ T) rfl ?_
    refine ts_aload_n dTS_settle_18 rfl rfl ?_
    refine ts_iconst (v := 0) dTS_settle_19 (by decide) ?_
    refine ts_put pTS_P44 dTS_settle_20 rfl (Nat.le_of_ble_eq_true rfl) rfl rfl (h' := tc_h G (tc_f (tc_swap (F, A, false)) 9 0) ++ T) (th_f9 _ _ _ _) ?_
    refine ts_aload_n dTS_settle_23 rfl rfl ?_
    refine ts_get pTS_F12 dTS_settle_24 rfl rfl ?_
    refine ts_callV (cMA_writeBlock G T (tc_f (tc_swap (F, A, false)) 9 0)) pTS_C197.1 pTS_C197.2 rfl rfl rfl rfl ⟨Nat.le_of_ble_eq_true rfl, Nat.le_of_ble_eq_true rfl⟩ ⟨Nat.le_of_ble_eq_true rfl, Nat.le_of_ble_eq_true rfl⟩ rfl (Nat.le_of_ble_eq_true rfl) dTS_settle_27 ?_
    refine ts_conv (lo' := [.ref 1, .ref 11]) (st' := [.int ((tc_writeBlock (tc_f (tc_swap (F, A, false)) 9 0)).1)]) (h' := tc_h G ((tc_writeBlock (tc_f (tc_swap (F, A, false)) 9 0)).2) ++ T) rfl rfl rfl ?_
    exact ts_zret dTS_settle_30 rfl (tc_wb_bit _) rfl rfl
  | true =>
    refine ts_aload_n dTS_settle_0 rfl rfl ?_
    refine ts_get pTS_F37 dTS_settle_1 rfl rfl ?_
    refine ts_astore_n (lo' := [.ref 1, .ref 14]) dTS_settle_4 rfl (Nat.le_of_ble_eq_true rfl) (Nat.le_of_ble_eq_true rfl) rfl ?_
    refine ts_aload_n dTS_settle_5 rfl rfl ?_
    refine ts_aload_n dTS_settle_6 rfl rfl ?_
    refine ts_get pTS_F41 dTS_settle_7 rfl rfl ?_
    refine ts_put pTS_P37 dTS_settle_10 rfl (Nat.le_of_ble_eq_true rfl) rfl rfl rfl ?_
    refine ts_aload_n dTS_settle_13 rfl rfl ?_
    refine ts_aload_n dTS_settle_14 rfl rfl ?_
    refine ts_put pTS_P41 dTS_settle_15 rfl (Nat.le_of_ble_eq_true rfl) rfl rfl (h' := tc_h G (tc_swap (F, A, true)) ++ T) rfl ?_
    refine ts_aload_n dTS_settle_18 rfl rfl ?_
    refine ts_iconst (v := 0) dTS_settle_19 (by decide) ?_
    refine ts_put pTS_P44 dTS_settle_20 rfl (Nat.le_of_ble_eq_true rfl) rfl rfl (h' := tc_h G (tc_f (tc_swap (F, A, true)) 9 0) ++ T) (th_f9 _ _ _ _) ?_
    refine ts_aload_n dTS_settle_23 rfl rfl ?_
    refine ts_get pTS_F12 dTS_settle_24 rfl rfl ?_
    refine ts_callV (cMA_writeBlock G T (tc_f (tc_swap (F, A, true)) 9 0)) pTS_C197.1 pTS_C197.2 rfl rfl rfl rfl ⟨Nat.le_of_ble_eq_true rfl, Nat.le_of_ble_eq_true rfl⟩ ⟨Nat.le_of_ble_eq_true rfl, Nat.le_of_ble_eq_true rfl⟩ rfl (Nat.le_of_ble_eq_true rfl) dTS_settle_27 ?_
    refine ts_conv (lo' := [.ref 1, .ref 14]) (st' := [.int ((tc_writeBlock (tc_f (tc_swap (F, A, true)) 9 0)).1)]) (h' := tc_h G ((tc_writeBlock (tc_f (tc_swap (F, A, true)) 9 0)).2) ++ T) rfl rfl rfl ?_
    exact ts_zret dTS_settle_30 rfl (tc_wb_bit _) rfl rfl
set_option maxHeartbeats 4000000 in
set_option maxRecDepth 100000 in
theorem cTS_flush_loop (G : ts_GX) (T : List va_E) (t : Int32) (X : ts_VX) : ∀ (n : Nat) (S : tc_S), n ≤ 100 → ts_V G X YTS_flush (ts_QX G X (some (.int (tc_flushGo n S t).1)) (tc_h G (tc_flushGo n S t).2 ++ T) 0 0) 0 0 2 [.ref 1, .int t, .int (nI (100 - n))] [] (tc_h G S ++ T) := by
  intro n
  induction n with
  | zero =>
    intro S hn
    refine ts_iload_n dTS_flush_2 rfl rfl ?_
    refine ts_bipush (v := 100) dTS_flush_3 (by decide) ?_
    refine ts_icmp_ge (tgt := 32) dTS_flush_5 rfl (fun _ => ?_) (fun hq => absurd (by decide) hq)
    refine ts_iconst (v := 1) dTS_flush_32 (by decide) ?_
    exact ts_zret dTS_flush_33 rfl (by decide) rfl rfl
  | succ n ih =>
    intro S hn
    refine ts_iload_n dTS_flush_2 rfl rfl ?_
    refine ts_bipush (v := 100) dTS_flush_3 (by decide) ?_
    refine ts_icmp_ge (tgt := 32) dTS_flush_5 rfl (fun hq => absurd hq (tc_nge (k := 100) (by omega) (by omega))) (fun _ => ?_)
    refine ts_aload_n dTS_flush_8 rfl rfl ?_
    refine ts_get pTS_F160 dTS_flush_9 rfl rfl ?_
    refine ts_iload_n dTS_flush_12 rfl rfl ?_
    refine ts_icmp_ge (tgt := 32) dTS_flush_13 rfl (fun (h13 : t ≤ (S.1 4)) => ?_) (fun (h13 : ¬ t ≤ (S.1 4)) => ?_)
    · refine ts_iconst (v := 1) dTS_flush_32 (by decide) ?_
      have e : tc_flushGo (n + 1) S t = (1, S) := by simp only [tc_flushGo, h13, ↓reduceIte]
      exact ts_zret dTS_flush_33 rfl (by decide) (tc_e1 e) (tc_e2 e)
    · refine ts_aload_n dTS_flush_16 rfl rfl ?_
      refine ts_iload_n dTS_flush_17 rfl rfl ?_
      refine ts_callV (cTS_flushPage G T S t) pTS_C194.1 pTS_C194.2 rfl rfl rfl rfl ⟨Nat.le_of_ble_eq_true rfl, Nat.le_of_ble_eq_true rfl⟩ ⟨Nat.le_of_ble_eq_true rfl, Nat.le_of_ble_eq_true rfl⟩ rfl (Nat.le_of_ble_eq_true rfl) dTS_flush_18 ?_
      refine ts_conv (lo' := [.ref 1, .int t, .int (nI (100 - (n + 1)))]) (st' := [.int ((tc_flushPage S t).1)]) (h' := tc_h G ((tc_flushPage S t).2) ++ T) rfl rfl rfl ?_
      refine ts_if_ne (tgt := 26) dTS_flush_21 rfl (fun (h21 : ¬ ((tc_flushPage S t).1) = 0) => ?_) (fun (h21 : ((tc_flushPage S t).1) = 0) => ?_)
      · refine ts_iinc (v := nI (100 - n)) (lo' := [.ref 1, .int t, .int (nI (100 - n))]) dTS_flush_26 rfl (tc_up (by omega)) (Nat.le_of_ble_eq_true rfl) rfl ?_
        refine ts_goto (tgt := 2) dTS_flush_29 rfl ?_
        have e : tc_flushGo (n + 1) S t = tc_flushGo n ((tc_flushPage S t).2) t := by simp only [tc_flushGo, h13, h21, ↓reduceIte]
        rw [e]
        exact ih _ (by omega)
      · refine ts_iconst (v := 0) dTS_flush_24 (by decide) ?_
        have e : tc_flushGo (n + 1) S t = (0, (tc_flushPage S t).2) := by simp only [tc_flushGo, h13, h21, ↓reduceIte]
        exact ts_zret dTS_flush_25 rfl (by decide) (tc_e1 e) (tc_e2 e)
set_option maxHeartbeats 4000000 in
set_option maxRecDepth 100000 in
theorem cTS_flush (G : ts_GX) (T : List va_E) (S : tc_S) (t : Int32) : ts_M G yTS_flush YTS_flush [.ref 1, .int t] (tc_h G S ++ T) (some (.int (tc_flush S t).1)) (tc_h G (tc_flush S t).2 ++ T) 0 0 := by
  refine ts_of rfl rfl rfl rfl rfl rfl (Nat.le_of_ble_eq_true rfl) (ts_cat1 rfl) (fun X => ?_)
  refine ts_iconst (v := 0) dTS_flush_0 (by decide) ?_
  refine ts_istore_n (lo' := [.ref 1, .int t, .int 0]) dTS_flush_1 rfl (Nat.le_of_ble_eq_true rfl) (Nat.le_of_ble_eq_true rfl) rfl ?_
  exact cTS_flush_loop G T t X 100 S (Nat.le_refl _)
