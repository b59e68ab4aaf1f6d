set_option maxHeartbeats 4000000 in
set_option maxRecDepth 100000 in
theorem cMO_compact (G : ts_GX) (S : tc_S) (M : tc_S) (hJ : tj M) : ts_M G yMO_compact YMO_compact [.ref 17] (tc_h G S ++ tm_h G M) (some (.int (tc_compact M).1)) (tc_h G S ++ tm_h G ((tc_compact M).2)) 0 0 := by
  refine ts_of rfl rfl rfl rfl rfl rfl (Nat.le_of_ble_eq_true rfl) (ts_cat1 rfl) (fun X => ?_)
  refine ts_aload_n dMO_compact_0 rfl rfl ?_
  refine ts_get pMO_F100 dMO_compact_1 rfl rfl ?_
  refine ts_if_eq (tgt := 10) dMO_compact_4 rfl (fun (h4 : (M.1 12) = 0) => ?_) (fun (h4 : ¬ (M.1 12) = 0) => ?_)
  · refine ts_aload_n dMO_compact_10 rfl rfl ?_
    refine ts_get pMO_F63 dMO_compact_11 rfl rfl ?_
    refine ts_callS (cMO_pageEnd G S M (M.1 2)) pMO_C104.1 pMO_C104.2 rfl rfl ⟨Nat.le_of_ble_eq_true rfl, Nat.le_of_ble_eq_true rfl⟩ ⟨Nat.le_of_ble_eq_true rfl, Nat.le_of_ble_eq_true rfl⟩ rfl (Nat.le_of_ble_eq_true rfl) dMO_compact_14 ?_
    refine ts_conv (lo' := [.ref 17]) (st' := [.int (tc_pageEnd (M.1 2))]) (h' := tc_h G S ++ tm_h G M) rfl rfl rfl ?_
    refine ts_istore_n (lo' := [.ref 17, .int (tc_pageEnd (M.1 2))]) dMO_compact_17 rfl (Nat.le_of_ble_eq_true rfl) (Nat.le_of_ble_eq_true rfl) rfl ?_
    refine ts_iload_n dMO_compact_18 rfl rfl ?_
    refine ts_aload_n dMO_compact_19 rfl rfl ?_
    refine ts_get pMO_F66 dMO_compact_20 rfl rfl ?_
    refine ts_icmp_le (tgt := 29) dMO_compact_23 rfl (fun (h23 : (tc_pageEnd (M.1 2)) ≤ (M.1 3)) => ?_) (fun (h23 : ¬ (tc_pageEnd (M.1 2)) ≤ (M.1 3)) => ?_)
    · refine ts_aload_n dMO_compact_29 rfl rfl ?_
      refine ts_get pMO_F75 dMO_compact_30 rfl rfl ?_
      refine ts_sipush (v := 396) dMO_compact_33 (by decide) ?_
      refine ts_icmp_le (tgt := 42) dMO_compact_36 rfl (fun (h36 : (M.1 6) ≤ 396) => ?_) (fun (h36 : ¬ (M.1 6) ≤ 396) => ?_)
      · refine ts_iconst (v := 0) dMO_compact_42 (by decide) ?_
        refine ts_istore_n (lo' := [.ref 17, .int (tc_pageEnd (M.1 2)), .int 0]) dMO_compact_43 rfl (Nat.le_of_ble_eq_true rfl) (Nat.le_of_ble_eq_true rfl) rfl ?_
        refine ts_aload_n dMO_compact_44 rfl rfl ?_
        refine ts_get pMO_F63 dMO_compact_45 rfl rfl ?_
        refine ts_istore_n (lo' := [.ref 17, .int (tc_pageEnd (M.1 2)), .int 0, .int (M.1 2)]) dMO_compact_48 rfl (Nat.le_of_ble_eq_true rfl) (Nat.le_of_ble_eq_true rfl) rfl ?_
        have e9 : tc_compact M = tc_compactGo 5 M (M.1 2) (tc_pageEnd (M.1 2)) 0 := by simp only [tc_compact, h4, h23, h36, ↓reduceIte]
        rw [e9]
        exact cMO_compact_loop G S _ (tc_pe400 hJ h23) X 5 M _ _ hJ h4 (tc_begin0 hJ) (tc_pe0 hJ) (tc_pe5 hJ) (tc_pe396 hJ h36)
      · refine ts_bipush (v := -2) dMO_compact_39 (by decide) ?_
        have e : tc_compact M = ((-2), M) := by simp only [tc_compact, h4, h23, h36, ↓reduceIte]
        exact ts_iret dMO_compact_41 rfl (tc_e1 e) (tm_e2 e)
    · refine ts_bipush (v := -3) dMO_compact_26 (by decide) ?_
      have e : tc_compact M = ((-3), M) := by simp only [tc_compact, h4, h23, ↓reduceIte]
      exact ts_iret dMO_compact_28 rfl (tc_e1 e) (tm_e2 e)
  · refine ts_bipush (v := -9) dMO_compact_7 (by decide) ?_
    have e : tc_compact M = ((-9), M) := by simp only [tc_compact, h4, ↓reduceIte]
    exact ts_iret dMO_compact_9 rfl (tc_e1 e) (tm_e2 e)
set_option maxHeartbeats 4000000 in
set_option maxRecDepth 100000 in
theorem cMO_empty_loop (G : ts_GX) (S : tc_S) (X : ts_VX) : ∀ (n : Nat) (M : tc_S) (k : Int32), 0 ≤ k.toInt → (16 : Int32).toInt ≤ k.toInt + n → ts_V G X YMO_empty (ts_QX G X none (tc_h G S ++ tm_h G (tm_emptyGo n M k)) 0 0) 0 0 42 [.ref 17, .int k] [] (tc_h G S ++ tm_h G M) := by
  intro n
  induction n with
  | zero =>
    intro M k hk hn
    refine ts_iload_n dMO_empty_42 rfl rfl ?_
    refine ts_bipush (v := 16) dMO_empty_43 (by decide) ?_
    refine ts_icmp_ge (tgt := 61) dMO_empty_45 rfl (fun _ => ?_) (fun (hq : ¬ 16 ≤ k) => absurd (tc_kz hn) hq)
    exact ts_vret dMO_empty_61 rfl rfl rfl
  | succ n ih =>
    intro M k hk hn
    refine ts_iload_n dMO_empty_42 rfl rfl ?_
    refine ts_bipush (v := 16) dMO_empty_43 (by decide) ?_
    refine ts_icmp_ge (tgt := 61) dMO_empty_45 rfl (fun (h45 : 16 ≤ k) => ?_) (fun (h45 : ¬ 16 ≤ k) => ?_)
    · have e9 : tm_emptyGo (n + 1) M k = M := by simp only [tm_emptyGo, h45, ↓reduceIte]
      exact ts_vret dMO_empty_61 rfl rfl (tm_e3 e9)
    · refine ts_aload_n dMO_empty_48 rfl rfl ?_
      refine ts_get pMO_F26 dMO_empty_49 rfl rfl ?_
      refine ts_iload_n dMO_empty_52 rfl rfl ?_
      refine ts_iconst (v := -1) dMO_empty_53 (by decide) ?_
      refine ts_iast dMO_empty_54 rfl (tc_in16 hk (by decide) h45) (h' := tc_h G S ++ tm_h G (tc_a M 0 k (-1))) (tn_a0 _ _ _ _ _) ?_
      refine ts_iinc (v := k + 1) (lo' := [.ref 17, .int (k + 1)]) dMO_empty_55 rfl rfl (Nat.le_of_ble_eq_true rfl) rfl ?_
      refine ts_goto (tgt := 42) dMO_empty_58 rfl ?_
      have e9 : tm_emptyGo (n + 1) M k = tm_emptyGo n (tc_a M 0 k (-1)) (k + 1) := by simp only [tm_emptyGo, h45, ↓reduceIte]
      rw [e9]
      exact ih _ _ (tc_kb hk h45) (tc_kn (m := 16) (by decide) hn h45)
set_option maxHeartbeats 4000000 in
set_option maxRecDepth 100000 in
theorem cMO_empty (G : ts_GX) (S : tc_S) (M : tc_S)  : ts_M G yMO_empty YMO_empty [.ref 17] (tc_h G S ++ tm_h G M) none (tc_h G S ++ tm_h G (tm_empty M)) 0 0 := by
  refine ts_of rfl rfl rfl rfl rfl rfl (Nat.le_of_ble_eq_true rfl) (ts_cat1 rfl) (fun X => ?_)
  refine ts_aload_n dMO_empty_0 rfl rfl ?_
  refine ts_iconst (v := 0) dMO_empty_1 (by decide) ?_
  refine ts_put pMO_P63 dMO_empty_2 rfl (Nat.le_of_ble_eq_true rfl) rfl rfl (h' := tc_h G S ++ tm_h G (tc_f M 2 0)) (tn_f2 _ _ _ _) ?_
  refine ts_aload_n dMO_empty_5 rfl rfl ?_
  refine ts_iconst (v := 0) dMO_empty_6 (by decide) ?_
  refine ts_put pMO_P66 dMO_empty_7 rfl (Nat.le_of_ble_eq_true rfl) rfl rfl (h' := tc_h G S ++ tm_h G (tc_f (tc_f M 2 0) 3 0)) (tn_f3 _ _ _ _) ?_
  refine ts_aload_n dMO_empty_10 rfl rfl ?_
  refine ts_iconst (v := 0) dMO_empty_11 (by decide) ?_
  refine ts_put pMO_P69 dMO_empty_12 rfl (Nat.le_of_ble_eq_true rfl) rfl rfl (h' := tc_h G S ++ tm_h G (tc_f (tc_f (tc_f M 2 0) 3 0) 4 0)) (tn_f4 _ _ _ _) ?_
  refine ts_aload_n dMO_empty_15 rfl rfl ?_
  refine ts_iconst (v := 0) dMO_empty_16 (by decide) ?_
  refine ts_put pMO_P72 dMO_empty_17 rfl (Nat.le_of_ble_eq_true rfl) rfl rfl (h' := tc_h G S ++ tm_h G (tc_f (tc_f (tc_f (tc_f M 2 0) 3 0) 4 0) 5 0)) (tn_f5 _ _ _ _) ?_
  refine ts_aload_n dMO_empty_20 rfl rfl ?_
  refine ts_iconst (v := 0) dMO_empty_21 (by decide) ?_
  refine ts_put pMO_P75 dMO_empty_22 rfl (Nat.le_of_ble_eq_true rfl) rfl rfl (h' := tc_h G S ++ tm_h G (tc_f (tc_f (tc_f (tc_f (tc_f M 2 0) 3 0) 4 0) 5 0) 6 0)) (tn_f6 _ _ _ _) ?_
  refine ts_aload_n dMO_empty_25 rfl rfl ?_
  refine ts_iconst (v := 1) dMO_empty_26 (by decide) ?_
  refine ts_put pMO_P78 dMO_empty_27 rfl (Nat.le_of_ble_eq_true rfl) rfl rfl (h' := tc_h G S ++ tm_h G (tc_f (tc_f (tc_f (tc_f (tc_f (tc_f M 2 0) 3 0) 4 0) 5 0) 6 0) 16 1)) (tn_f16 _ _ _ _) ?_
  refine ts_aload_n dMO_empty_30 rfl rfl ?_
  refine ts_iconst (v := 0) dMO_empty_31 (by decide) ?_
  refine ts_put pMO_P81 dMO_empty_32 rfl (Nat.le_of_ble_eq_true rfl) rfl rfl (h' := tc_h G S ++ tm_h G (tc_f (tc_f (tc_f (tc_f (tc_f (tc_f (tc_f M 2 0) 3 0) 4 0) 5 0) 6 0) 16 1) 17 0)) (tn_f17 _ _ _ _) ?_
  refine ts_aload_n dMO_empty_35 rfl rfl ?_
  refine ts_iconst (v := 1) dMO_empty_36 (by decide) ?_
  refine ts_put pMO_P84 dMO_empty_37 rfl (Nat.le_of_ble_eq_true rfl) rfl rfl (h' := tc_h G S ++ tm_h G (tc_f (tc_f (tc_f (tc_f (tc_f (tc_f (tc_f (tc_f M 2 0) 3 0) 4 0) 5 0) 6 0) 16 1) 17 0) 7 1)) (tn_f7 _ _ _ _) ?_
  refine ts_iconst (v := 0) dMO_empty_40 (by decide) ?_
  refine ts_istore_n (lo' := [.ref 17, .int 0]) dMO_empty_41 rfl (Nat.le_of_ble_eq_true rfl) (Nat.le_of_ble_eq_true rfl) rfl ?_
  exact cMO_empty_loop G S X 17 _ 0 (by decide) tm_e17
