set_option maxHeartbeats 4000000 in
set_option maxRecDepth 100000 in
theorem cTS_lastBelowCut_loop (G : ts_GX) (T : List va_E) (F : Nat → Int32) (A : Nat → Nat → Int32) (sw : Bool) (a0 : Int32) (hR : tc_Rc (F, A, sw)) (X : ts_VX) : ∀ (n : Nat) (a r : Int32), n ≤ 400 → a.toInt < (F 6).toInt → ts_V G X YTS_lastBelowCut (ts_QX G X (some (.int (tc_cutGo (F, A, sw) n a r).1)) (tc_h G (tc_f (F, A, sw) 15 (tc_cutGo (F, A, sw) n a r).2) ++ T) 0 0) 0 0 4 [.ref 1, .int a0, .int a, .int (nI (400 - n))] [] (tc_h G (tc_f (F, A, sw) 15 r) ++ T) := by
  intro n
  induction n with
  | zero =>
    intro a r hn ha
    cases sw with
    | false =>
      refine ts_iload_n dTS_lastBelowCut_4 rfl rfl ?_
      refine ts_sipush (v := 400) dTS_lastBelowCut_5 (by decide) ?_
      refine ts_icmp_ge (tgt := 51) dTS_lastBelowCut_8 rfl (fun _ => ?_) (fun hq => absurd (by decide) hq)
      refine ts_iload_n dTS_lastBelowCut_51 rfl rfl ?_
      exact ts_iret dTS_lastBelowCut_52 rfl rfl rfl
    | true =>
      refine ts_iload_n dTS_lastBelowCut_4 rfl rfl ?_
      refine ts_sipush (v := 400) dTS_lastBelowCut_5 (by decide) ?_
      refine ts_icmp_ge (tgt := 51) dTS_lastBelowCut_8 rfl (fun _ => ?_) (fun hq => absurd (by decide) hq)
      refine ts_iload_n dTS_lastBelowCut_51 rfl rfl ?_
      exact ts_iret dTS_lastBelowCut_52 rfl rfl rfl
  | succ n ih =>
    intro a r hn ha
    cases sw with
    | false =>
      refine ts_iload_n dTS_lastBelowCut_4 rfl rfl ?_
      refine ts_sipush (v := 400) dTS_lastBelowCut_5 (by decide) ?_
      refine ts_icmp_ge (tgt := 51) dTS_lastBelowCut_8 rfl (fun hq => absurd hq (tc_nge (k := 400) (by omega) (by omega))) (fun _ => ?_)
      refine ts_iload_n dTS_lastBelowCut_11 rfl rfl ?_
      refine ts_aload_n dTS_lastBelowCut_12 rfl rfl ?_
      refine ts_get pTS_F37 dTS_lastBelowCut_13 rfl rfl ?_
      refine ts_get pTS_F102 dTS_lastBelowCut_16 rfl rfl ?_
      refine ts_icmp_lt (tgt := 51) dTS_lastBelowCut_19 rfl (fun (h19 : a < (F 20)) => ?_) (fun (h19 : ¬ a < (F 20)) => ?_)
      · refine ts_iload_n dTS_lastBelowCut_51 rfl rfl ?_
        have e : tc_cutGo (F, A, false) (n + 1) a r = (a, r) := by simp only [tc_cutGo, h19, ↓reduceIte]
        exact ts_iret dTS_lastBelowCut_52 rfl (tc_e1 e) (tc_e4 e)
      · refine ts_aload_n dTS_lastBelowCut_22 rfl rfl ?_
        refine ts_get pTS_F12 dTS_lastBelowCut_23 rfl rfl ?_
        refine ts_dup dTS_lastBelowCut_26 rfl ?_
        refine ts_get pTS_F141 dTS_lastBelowCut_27 rfl rfl ?_
        refine ts_iconst (v := 1) dTS_lastBelowCut_30 (by decide) ?_
        refine ts_iadd dTS_lastBelowCut_31 ?_
        refine ts_put pTS_P141 dTS_lastBelowCut_32 rfl (Nat.le_of_ble_eq_true rfl) rfl rfl (h' := tc_h G (tc_f (F, A, false) 15 (r + 1)) ++ T) ((th_f15 _ _ _ _).trans (congrArg (fun z => tc_h G z ++ T) (tc_ff _ _ _ _))) ?_
        refine ts_aload_n dTS_lastBelowCut_35 rfl rfl ?_
        refine ts_get pTS_F26 dTS_lastBelowCut_36 rfl rfl ?_
        refine ts_get pTS_F166 dTS_lastBelowCut_39 rfl rfl ?_
        refine ts_iload_n dTS_lastBelowCut_42 rfl rfl ?_
        refine ts_iald dTS_lastBelowCut_43 rfl (tc_inC hR ha h19) ?_
        refine ts_istore_n (lo' := [.ref 1, .int a0, .int (tc_r (F, A, false) 3 a), .int (nI (400 - (n + 1)))]) dTS_lastBelowCut_44 rfl (Nat.le_of_ble_eq_true rfl) (Nat.le_of_ble_eq_true rfl) rfl ?_
        refine ts_iinc (v := nI (400 - n)) (lo' := [.ref 1, .int a0, .int (tc_r (F, A, false) 3 a), .int (nI (400 - n))]) dTS_lastBelowCut_45 rfl (tc_up (by omega)) (Nat.le_of_ble_eq_true rfl) rfl ?_
        refine ts_goto (tgt := 4) dTS_lastBelowCut_48 rfl ?_
        have e : tc_cutGo (F, A, false) (n + 1) a r = tc_cutGo (F, A, false) n (tc_r (F, A, false) 3 a) (r + 1) := by simp only [tc_cutGo, h19, ↓reduceIte]
        rw [e]
        exact ih _ _ (by omega) (tc_prevC hR ha h19)
    | true =>
      refine ts_iload_n dTS_lastBelowCut_4 rfl rfl ?_
      refine ts_sipush (v := 400) dTS_lastBelowCut_5 (by decide) ?_
      refine ts_icmp_ge (tgt := 51) dTS_lastBelowCut_8 rfl (fun hq => absurd hq (tc_nge (k := 400) (by omega) (by omega))) (fun _ => ?_)
      refine ts_iload_n dTS_lastBelowCut_11 rfl rfl ?_
      refine ts_aload_n dTS_lastBelowCut_12 rfl rfl ?_
      refine ts_get pTS_F37 dTS_lastBelowCut_13 rfl rfl ?_
      refine ts_get pTS_F102 dTS_lastBelowCut_16 rfl rfl ?_
      refine ts_icmp_lt (tgt := 51) dTS_lastBelowCut_19 rfl (fun (h19 : a < (F 20)) => ?_) (fun (h19 : ¬ a < (F 20)) => ?_)
      · refine ts_iload_n dTS_lastBelowCut_51 rfl rfl ?_
        have e : tc_cutGo (F, A, true) (n + 1) a r = (a, r) := by simp only [tc_cutGo, h19, ↓reduceIte]
        exact ts_iret dTS_lastBelowCut_52 rfl (tc_e1 e) (tc_e4 e)
      · refine ts_aload_n dTS_lastBelowCut_22 rfl rfl ?_
        refine ts_get pTS_F12 dTS_lastBelowCut_23 rfl rfl ?_
        refine ts_dup dTS_lastBelowCut_26 rfl ?_
        refine ts_get pTS_F141 dTS_lastBelowCut_27 rfl rfl ?_
        refine ts_iconst (v := 1) dTS_lastBelowCut_30 (by decide) ?_
        refine ts_iadd dTS_lastBelowCut_31 ?_
        refine ts_put pTS_P141 dTS_lastBelowCut_32 rfl (Nat.le_of_ble_eq_true rfl) rfl rfl (h' := tc_h G (tc_f (F, A, true) 15 (r + 1)) ++ T) ((th_f15 _ _ _ _).trans (congrArg (fun z => tc_h G z ++ T) (tc_ff _ _ _ _))) ?_
        refine ts_aload_n dTS_lastBelowCut_35 rfl rfl ?_
        refine ts_get pTS_F26 dTS_lastBelowCut_36 rfl rfl ?_
        refine ts_get pTS_F166 dTS_lastBelowCut_39 rfl rfl ?_
        refine ts_iload_n dTS_lastBelowCut_42 rfl rfl ?_
        refine ts_iald dTS_lastBelowCut_43 rfl (tc_inC hR ha h19) ?_
        refine ts_istore_n (lo' := [.ref 1, .int a0, .int (tc_r (F, A, true) 3 a), .int (nI (400 - (n + 1)))]) dTS_lastBelowCut_44 rfl (Nat.le_of_ble_eq_true rfl) (Nat.le_of_ble_eq_true rfl) rfl ?_
        refine ts_iinc (v := nI (400 - n)) (lo' := [.ref 1, .int a0, .int (tc_r (F, A, true) 3 a), .int (nI (400 - n))]) dTS_lastBelowCut_45 rfl (tc_up (by omega)) (Nat.le_of_ble_eq_true rfl) rfl ?_
        refine ts_goto (tgt := 4) dTS_lastBelowCut_48 rfl ?_
        have e : tc_cutGo (F, A, true) (n + 1) a r = tc_cutGo (F, A, true) n (tc_r (F, A, true) 3 a) (r + 1) := by simp only [tc_cutGo, h19, ↓reduceIte]
        rw [e]
        exact ih _ _ (by omega) (tc_prevC hR ha h19)
set_option maxHeartbeats 4000000 in
set_option maxRecDepth 100000 in
theorem cTS_lastBelowCut (G : ts_GX) (T : List va_E) (S : tc_S) (a0 : Int32) (hR : tc_Rc S) (ha : a0.toInt < (S.1 6).toInt) : ts_M G yTS_lastBelowCut YTS_lastBelowCut [.ref 1, .int a0] (tc_h G S ++ T) (some (.int (tc_cut S a0).1)) (tc_h G (tc_cut S a0).2 ++ T) 0 0 := by
  refine ts_of rfl rfl rfl rfl rfl rfl (Nat.le_of_ble_eq_true rfl) (ts_cat1 rfl) (fun X => ?_)
  refine ts_iload_n dTS_lastBelowCut_0 rfl rfl ?_
  refine ts_istore_n (lo' := [.ref 1, .int a0, .int a0]) dTS_lastBelowCut_1 rfl (Nat.le_of_ble_eq_true rfl) (Nat.le_of_ble_eq_true rfl) rfl ?_
  refine ts_iconst (v := 0) dTS_lastBelowCut_2 (by decide) ?_
  refine ts_istore_n (lo' := [.ref 1, .int a0, .int a0, .int 0]) dTS_lastBelowCut_3 rfl (Nat.le_of_ble_eq_true rfl) (Nat.le_of_ble_eq_true rfl) rfl ?_
  exact cTS_lastBelowCut_loop G T S.1 S.2.1 S.2.2 a0 hR X 400 a0 (S.1 15) (Nat.le_refl _) ha
