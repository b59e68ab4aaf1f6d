set_option maxHeartbeats 4000000 in
set_option maxRecDepth 100000 in
theorem cMO_grow (G : ts_GX) (S : tc_S) (M : tc_S) (hJ : tj M) : ts_M G yMO_grow YMO_grow [.ref 17] (tc_h G S ++ tm_h G M) (some (.int (tm_grow M).1)) (tc_h G S ++ tm_h G ((tm_grow M).2)) 0 0 := by
  refine ts_of rfl rfl rfl rfl rfl rfl (Nat.le_of_ble_eq_true rfl) (ts_cat1 rfl) (fun X => ?_)
  refine ts_aload_n dMO_grow_0 rfl rfl ?_
  refine ts_get pMO_F100 dMO_grow_1 rfl rfl ?_
  refine ts_if_eq (tgt := 10) dMO_grow_4 rfl (fun (h4 : (M.1 12) = 0) => ?_) (fun (h4 : ¬ (M.1 12) = 0) => ?_)
  · refine ts_aload_n dMO_grow_10 rfl rfl ?_
    refine ts_get pMO_F136 dMO_grow_11 rfl rfl ?_
    refine ts_if_gt (tgt := 26) dMO_grow_14 rfl (fun (h14 : 0 < (M.1 9)) => ?_) (fun (h14 : ¬ 0 < (M.1 9)) => ?_)
    · refine ts_bipush (v := -3) dMO_grow_26 (by decide) ?_
      have e : tm_grow M = ((-3), M) := by simp only [tm_grow, tc_twin, h4, h14, ↓reduceIte]
      exact ts_iret dMO_grow_28 rfl (tc_e1 e) (tm_e2 e)
    · refine ts_aload_n dMO_grow_17 rfl rfl ?_
      refine ts_callV (cMO_bucketCount G S M) pMO_C145.1 pMO_C145.2 rfl rfl rfl rfl ⟨Nat.le_of_ble_eq_true rfl, Nat.le_of_ble_eq_true rfl⟩ ⟨Nat.le_of_ble_eq_true rfl, Nat.le_of_ble_eq_true rfl⟩ rfl (Nat.le_of_ble_eq_true rfl) dMO_grow_18 ?_
      refine ts_conv (lo' := [.ref 17]) (st' := [.int (tc_count M)]) (h' := tc_h G S ++ tm_h G M) rfl rfl rfl ?_
      refine ts_bipush (v := 16) dMO_grow_21 (by decide) ?_
      refine ts_icmp_ne (tgt := 29) dMO_grow_23 rfl (fun (h23 : ¬ (tc_count M) = 16) => ?_) (fun (h23 : (tc_count M) = 16) => ?_)
      · refine ts_aload_n dMO_grow_29 rfl rfl ?_
        refine ts_get pMO_F26 dMO_grow_30 rfl rfl ?_
        refine ts_aload_n dMO_grow_33 rfl rfl ?_
        refine ts_callV (cMO_bucketCount G S M) pMO_C145.1 pMO_C145.2 rfl rfl rfl rfl ⟨Nat.le_of_ble_eq_true rfl, Nat.le_of_ble_eq_true rfl⟩ ⟨Nat.le_of_ble_eq_true rfl, Nat.le_of_ble_eq_true rfl⟩ rfl (Nat.le_of_ble_eq_true rfl) dMO_grow_34 ?_
        refine ts_conv (lo' := [.ref 17]) (st' := [.int (tc_count M), .ref 23]) (h' := tc_h G S ++ tm_h G M) rfl rfl rfl ?_
        refine ts_aload_n dMO_grow_37 rfl rfl ?_
        refine ts_get pMO_F26 dMO_grow_38 rfl rfl ?_
        refine ts_aload_n dMO_grow_41 rfl rfl ?_
        refine ts_get pMO_F81 dMO_grow_42 rfl rfl ?_
        refine ts_iald dMO_grow_45 rfl (tc_inSplit hJ) ?_
        refine ts_iast dMO_grow_46 rfl (tc_inCount hJ (tm_lt16 hJ h23)) (h' := tc_h G S ++ tm_h G (tc_a M 0 (tc_count M) (tc_r M 0 (M.1 17)))) (tn_a0 _ _ _ _ _) ?_
        refine ts_aload_n dMO_grow_47 rfl rfl ?_
        refine ts_dup dMO_grow_48 rfl ?_
        refine ts_get pMO_F81 dMO_grow_49 rfl rfl ?_
        refine ts_iconst (v := 1) dMO_grow_52 (by decide) ?_
        refine ts_iadd dMO_grow_53 ?_
        refine ts_put pMO_P81 dMO_grow_54 rfl (Nat.le_of_ble_eq_true rfl) rfl rfl (h' := tc_h G S ++ tm_h G (tc_f (tc_a M 0 (tc_count M) (tc_r M 0 (M.1 17))) 17 ((M.1 17) + 1))) (tn_f17 _ _ _ _) ?_
        refine ts_aload_n dMO_grow_57 rfl rfl ?_
        refine ts_get pMO_F81 dMO_grow_58 rfl rfl ?_
        refine ts_iconst (v := 1) dMO_grow_61 (by decide) ?_
        refine ts_aload_n dMO_grow_62 rfl rfl ?_
        refine ts_get pMO_F78 dMO_grow_63 rfl rfl ?_
        refine ts_ishl dMO_grow_66 ?_
        refine ts_icmp_ne (tgt := 85) dMO_grow_67 rfl (fun (h67 : ¬ ((M.1 17) + 1) = (tc_two (M.1 16))) => ?_) (fun (h67 : ((M.1 17) + 1) = (tc_two (M.1 16))) => ?_)
        · refine ts_aload_n dMO_grow_85 rfl rfl ?_
          refine ts_callV (cMO_bucketCount G S (tc_f (tc_a M 0 (tc_count M) (tc_r M 0 (M.1 17))) 17 ((M.1 17) + 1))) pMO_C145.1 pMO_C145.2 rfl rfl rfl rfl ⟨Nat.le_of_ble_eq_true rfl, Nat.le_of_ble_eq_true rfl⟩ ⟨Nat.le_of_ble_eq_true rfl, Nat.le_of_ble_eq_true rfl⟩ rfl (Nat.le_of_ble_eq_true rfl) dMO_grow_86 ?_
          refine ts_conv (lo' := [.ref 17]) (st' := [.int (tc_count (tc_f (tc_a M 0 (tc_count M) (tc_r M 0 (M.1 17))) 17 ((M.1 17) + 1)))]) (h' := tc_h G S ++ tm_h G (tc_f (tc_a M 0 (tc_count M) (tc_r M 0 (M.1 17))) 17 ((M.1 17) + 1))) rfl rfl rfl ?_
          have e : tm_grow M = (tc_count (tc_f (tc_a M 0 (tc_count M) (tc_r M 0 (M.1 17))) 17 ((M.1 17) + 1)), tc_f (tc_a M 0 (tc_count M) (tc_r M 0 (M.1 17))) 17 ((M.1 17) + 1)) := by simp only [tm_grow, tc_twin, h4, h14, h23, h67, ↓reduceIte]
          exact ts_iret dMO_grow_89 rfl (tc_e1 e) (tm_e2 e)
        · refine ts_aload_n dMO_grow_70 rfl rfl ?_
          refine ts_dup dMO_grow_71 rfl ?_
          refine ts_get pMO_F78 dMO_grow_72 rfl rfl ?_
          refine ts_iconst (v := 1) dMO_grow_75 (by decide) ?_
          refine ts_iadd dMO_grow_76 ?_
          refine ts_put pMO_P78 dMO_grow_77 rfl (Nat.le_of_ble_eq_true rfl) rfl rfl (h' := tc_h G S ++ tm_h G (tc_f (tc_f (tc_a M 0 (tc_count M) (tc_r M 0 (M.1 17))) 17 ((M.1 17) + 1)) 16 ((M.1 16) + 1))) (tn_f16 _ _ _ _) ?_
          refine ts_aload_n dMO_grow_80 rfl rfl ?_
          refine ts_iconst (v := 0) dMO_grow_81 (by decide) ?_
          refine ts_put pMO_P81 dMO_grow_82 rfl (Nat.le_of_ble_eq_true rfl) rfl rfl (h' := tc_h G S ++ tm_h G (tc_f (tc_f (tc_f (tc_a M 0 (tc_count M) (tc_r M 0 (M.1 17))) 17 ((M.1 17) + 1)) 16 ((M.1 16) + 1)) 17 0)) (tn_f17 _ _ _ _) ?_
          refine ts_aload_n dMO_grow_85 rfl rfl ?_
          refine ts_callV (cMO_bucketCount G S (tc_f (tc_f (tc_f (tc_a M 0 (tc_count M) (tc_r M 0 (M.1 17))) 17 ((M.1 17) + 1)) 16 ((M.1 16) + 1)) 17 0)) pMO_C145.1 pMO_C145.2 rfl rfl rfl rfl ⟨Nat.le_of_ble_eq_true rfl, Nat.le_of_ble_eq_true rfl⟩ ⟨Nat.le_of_ble_eq_true rfl, Nat.le_of_ble_eq_true rfl⟩ rfl (Nat.le_of_ble_eq_true rfl) dMO_grow_86 ?_
          refine ts_conv (lo' := [.ref 17]) (st' := [.int (tc_count (tc_f (tc_f (tc_f (tc_a M 0 (tc_count M) (tc_r M 0 (M.1 17))) 17 ((M.1 17) + 1)) 16 ((M.1 16) + 1)) 17 0))]) (h' := tc_h G S ++ tm_h G (tc_f (tc_f (tc_f (tc_a M 0 (tc_count M) (tc_r M 0 (M.1 17))) 17 ((M.1 17) + 1)) 16 ((M.1 16) + 1)) 17 0)) rfl rfl rfl ?_
          have e : tm_grow M = (tc_count (tc_f (tc_f (tc_f (tc_a M 0 (tc_count M) (tc_r M 0 (M.1 17))) 17 ((M.1 17) + 1)) 16 ((M.1 16) + 1)) 17 0), tc_f (tc_f (tc_f (tc_a M 0 (tc_count M) (tc_r M 0 (M.1 17))) 17 ((M.1 17) + 1)) 16 ((M.1 16) + 1)) 17 0) := by simp only [tm_grow, tc_twin, h4, h14, h23, h67, ↓reduceIte]
          exact ts_iret dMO_grow_89 rfl (tc_e1 e) (tm_e2 e)
      · refine ts_bipush (v := -3) dMO_grow_26 (by decide) ?_
        have e : tm_grow M = ((-3), M) := by simp only [tm_grow, tc_twin, h4, h14, h23, ↓reduceIte]
        exact ts_iret dMO_grow_28 rfl (tc_e1 e) (tm_e2 e)
  · refine ts_bipush (v := -9) dMO_grow_7 (by decide) ?_
    have e : tm_grow M = ((-9), M) := by simp only [tm_grow, tc_twin, h4, ↓reduceIte]
    exact ts_iret dMO_grow_9 rfl (tc_e1 e) (tm_e2 e)
