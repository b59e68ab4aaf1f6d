set_option maxHeartbeats 4000000 in
set_option maxRecDepth 100000 in
theorem cMO_checkpoint (G : ts_GX) (S : tc_S) (M : tc_S) (hP : tm_P M) : ts_M G yMO_checkpoint YMO_checkpoint [.ref 17] (tc_h G S ++ tm_h G M) (some (.int (tm_checkpoint M).1)) (tc_h G S ++ tm_h G ((tm_checkpoint M).2)) 0 0 := by
  refine ts_of rfl rfl rfl rfl rfl rfl (Nat.le_of_ble_eq_true rfl) (ts_cat1 rfl) (fun X => ?_)
  refine ts_aload_n dMO_checkpoint_0 rfl rfl ?_
  refine ts_get pMO_F100 dMO_checkpoint_1 rfl rfl ?_
  refine ts_if_eq (tgt := 10) dMO_checkpoint_4 rfl (fun (h4 : (M.1 12) = 0) => ?_) (fun (h4 : ¬ (M.1 12) = 0) => ?_)
  · refine ts_aload_n dMO_checkpoint_10 rfl rfl ?_
    refine ts_get pMO_F136 dMO_checkpoint_11 rfl rfl ?_
    refine ts_if_le (tgt := 20) dMO_checkpoint_14 rfl (fun (h14 : (M.1 9) ≤ 0) => ?_) (fun (h14 : ¬ (M.1 9) ≤ 0) => ?_)
    · refine ts_iconst (v := 1) dMO_checkpoint_20 (by decide) ?_
      refine ts_aload_n dMO_checkpoint_21 rfl rfl ?_
      refine ts_get pMO_F57 dMO_checkpoint_22 rfl rfl ?_
      obtain ⟨v25, g25⟩ : ∃ v : Int32, v = if 0 ≤ M.1 18 then M.1 18 else 1 := ⟨_, rfl⟩
      refine ts_join (j := 36) (lo' := [.ref 17]) (st' := [.int v25, .int 1]) (h' := tc_h G S ++ tm_h G M) (fun K => ?_) ?_
      · refine ts_if_ge (tgt := 32) dMO_checkpoint_25 rfl (fun (h25 : 0 ≤ (M.1 18)) => ?_) (fun (h25 : ¬ 0 ≤ (M.1 18)) => ?_)
        · refine ts_aload_n dMO_checkpoint_32 rfl rfl ?_
          refine ts_get pMO_F57 dMO_checkpoint_33 rfl rfl ?_
          exact ts_conv rfl (by rw [g25]; exact congrArg (fun z : Int32 => (Value.int z :: [.int 1] : List Value)) (show M.1 18 = if 0 ≤ M.1 18 then M.1 18 else 1 by simp only [ite_self, h4, h14, h25, ↓reduceIte])) rfl K
        · refine ts_iconst (v := 1) dMO_checkpoint_28 (by decide) ?_
          refine ts_goto (tgt := 36) dMO_checkpoint_29 rfl ?_
          exact ts_conv rfl (by rw [g25]; exact congrArg (fun z : Int32 => (Value.int z :: [.int 1] : List Value)) (show 1 = if 0 ≤ M.1 18 then M.1 18 else 1 by simp only [ite_self, h4, h14, h25, ↓reduceIte])) rfl K
      refine ts_isub dMO_checkpoint_36 ?_
      refine ts_conv (lo' := [.ref 17]) (st' := [.int (tm_to M)]) (h' := tc_h G S ++ tm_h G M) rfl (by subst g25; rfl) rfl ?_
      refine ts_istore_n (lo' := [.ref 17, .int (tm_to M)]) dMO_checkpoint_37 rfl (Nat.le_of_ble_eq_true rfl) (Nat.le_of_ble_eq_true rfl) rfl ?_
      refine ts_aload_n dMO_checkpoint_38 rfl rfl ?_
      refine ts_get pMO_F29 dMO_checkpoint_39 rfl rfl ?_
      refine ts_iload_n dMO_checkpoint_42 rfl rfl ?_
      refine ts_aload_n dMO_checkpoint_43 rfl rfl ?_
      refine ts_get pMO_F84 dMO_checkpoint_44 rfl rfl ?_
      refine ts_iast dMO_checkpoint_47 rfl (tm_to_in hP) (h' := tc_h G S ++ tm_h G (tc_a M 6 (tm_to M) (M.1 7))) (tn_a6 _ _ _ _ _) ?_
      refine ts_aload_n dMO_checkpoint_48 rfl rfl ?_
      refine ts_get pMO_F32 dMO_checkpoint_49 rfl rfl ?_
      refine ts_iload_n dMO_checkpoint_52 rfl rfl ?_
      refine ts_aload_n dMO_checkpoint_53 rfl rfl ?_
      refine ts_get pMO_F63 dMO_checkpoint_54 rfl rfl ?_
      refine ts_iast dMO_checkpoint_57 rfl (tm_to_in hP) (h' := tc_h G S ++ tm_h G (tc_a (tc_a M 6 (tm_to M) (M.1 7)) 7 (tm_to M) (M.1 2))) (tn_a7 _ _ _ _ _) ?_
      refine ts_aload_n dMO_checkpoint_58 rfl rfl ?_
      refine ts_get pMO_F35 dMO_checkpoint_59 rfl rfl ?_
      refine ts_iload_n dMO_checkpoint_62 rfl rfl ?_
      refine ts_aload_n dMO_checkpoint_63 rfl rfl ?_
      refine ts_get pMO_F75 dMO_checkpoint_64 rfl rfl ?_
      refine ts_iast dMO_checkpoint_67 rfl (tm_to_in hP) (h' := tc_h G S ++ tm_h G (tc_a (tc_a (tc_a M 6 (tm_to M) (M.1 7)) 7 (tm_to M) (M.1 2)) 8 (tm_to M) (M.1 6))) (tn_a8 _ _ _ _ _) ?_
      refine ts_aload_n dMO_checkpoint_68 rfl rfl ?_
      refine ts_get pMO_F41 dMO_checkpoint_69 rfl rfl ?_
      refine ts_iload_n dMO_checkpoint_72 rfl rfl ?_
      refine ts_aload_n dMO_checkpoint_73 rfl rfl ?_
      refine ts_get pMO_F78 dMO_checkpoint_74 rfl rfl ?_
      refine ts_iast dMO_checkpoint_77 rfl (tm_to_in hP) (h' := tc_h G S ++ tm_h G (tc_a (tc_a (tc_a (tc_a M 6 (tm_to M) (M.1 7)) 7 (tm_to M) (M.1 2)) 8 (tm_to M) (M.1 6)) 10 (tm_to M) (M.1 16))) (tn_a10 _ _ _ _ _) ?_
      refine ts_aload_n dMO_checkpoint_78 rfl rfl ?_
      refine ts_get pMO_F44 dMO_checkpoint_79 rfl rfl ?_
      refine ts_iload_n dMO_checkpoint_82 rfl rfl ?_
      refine ts_aload_n dMO_checkpoint_83 rfl rfl ?_
      refine ts_get pMO_F81 dMO_checkpoint_84 rfl rfl ?_
      refine ts_iast dMO_checkpoint_87 rfl (tm_to_in hP) (h' := tc_h G S ++ tm_h G (tc_a (tc_a (tc_a (tc_a (tc_a M 6 (tm_to M) (M.1 7)) 7 (tm_to M) (M.1 2)) 8 (tm_to M) (M.1 6)) 10 (tm_to M) (M.1 16)) 11 (tm_to M) (M.1 17))) (tn_a11 _ _ _ _ _) ?_
      refine ts_aload_n dMO_checkpoint_88 rfl rfl ?_
      refine ts_dup dMO_checkpoint_89 rfl ?_
      refine ts_get pMO_F84 dMO_checkpoint_90 rfl rfl ?_
      refine ts_iconst (v := 1) dMO_checkpoint_93 (by decide) ?_
      refine ts_iadd dMO_checkpoint_94 ?_
      refine ts_put pMO_P84 dMO_checkpoint_95 rfl (Nat.le_of_ble_eq_true rfl) rfl rfl (h' := tc_h G S ++ tm_h G (tc_f (tc_a (tc_a (tc_a (tc_a (tc_a M 6 (tm_to M) (M.1 7)) 7 (tm_to M) (M.1 2)) 8 (tm_to M) (M.1 6)) 10 (tm_to M) (M.1 16)) 11 (tm_to M) (M.1 17)) 7 ((M.1 7) + 1))) (tn_f7 _ _ _ _) ?_
      refine ts_aload_n dMO_checkpoint_98 rfl rfl ?_
      refine ts_iconst (v := 1) dMO_checkpoint_99 (by decide) ?_
      refine ts_put pMO_P136 dMO_checkpoint_100 rfl (Nat.le_of_ble_eq_true rfl) rfl rfl (h' := tc_h G S ++ tm_h G (tc_f (tc_f (tc_a (tc_a (tc_a (tc_a (tc_a M 6 (tm_to M) (M.1 7)) 7 (tm_to M) (M.1 2)) 8 (tm_to M) (M.1 6)) 10 (tm_to M) (M.1 16)) 11 (tm_to M) (M.1 17)) 7 ((M.1 7) + 1)) 9 1)) (tn_f9 _ _ _ _) ?_
      refine ts_aload_n dMO_checkpoint_103 rfl rfl ?_
      refine ts_iconst (v := 0) dMO_checkpoint_104 (by decide) ?_
      refine ts_put pMO_P139 dMO_checkpoint_105 rfl (Nat.le_of_ble_eq_true rfl) rfl rfl (h' := tc_h G S ++ tm_h G (tc_f (tc_f (tc_f (tc_a (tc_a (tc_a (tc_a (tc_a M 6 (tm_to M) (M.1 7)) 7 (tm_to M) (M.1 2)) 8 (tm_to M) (M.1 6)) 10 (tm_to M) (M.1 16)) 11 (tm_to M) (M.1 17)) 7 ((M.1 7) + 1)) 9 1) 10 0)) (tn_f10 _ _ _ _) ?_
      refine ts_aload_n dMO_checkpoint_108 rfl rfl ?_
      refine ts_iconst (v := 0) dMO_checkpoint_109 (by decide) ?_
      refine ts_put pMO_P142 dMO_checkpoint_110 rfl (Nat.le_of_ble_eq_true rfl) rfl rfl (h' := tc_h G S ++ tm_h G (tc_f (tc_f (tc_f (tc_f (tc_a (tc_a (tc_a (tc_a (tc_a M 6 (tm_to M) (M.1 7)) 7 (tm_to M) (M.1 2)) 8 (tm_to M) (M.1 6)) 10 (tm_to M) (M.1 16)) 11 (tm_to M) (M.1 17)) 7 ((M.1 7) + 1)) 9 1) 10 0) 11 0)) (tn_f11 _ _ _ _) ?_
      refine ts_aload_n dMO_checkpoint_113 rfl rfl ?_
      refine ts_get pMO_F84 dMO_checkpoint_114 rfl rfl ?_
      refine ts_iconst (v := 1) dMO_checkpoint_117 (by decide) ?_
      refine ts_isub dMO_checkpoint_118 ?_
      subst g25
      have e : tm_checkpoint M = (((M.1 7) + 1) - 1, tc_f (tc_f (tc_f (tc_f (tc_a (tc_a (tc_a (tc_a (tc_a M 6 (tm_to M) (M.1 7)) 7 (tm_to M) (M.1 2)) 8 (tm_to M) (M.1 6)) 10 (tm_to M) (M.1 16)) 11 (tm_to M) (M.1 17)) 7 ((M.1 7) + 1)) 9 1) 10 0) 11 0) := by simp only [tm_checkpoint, h4, h14, ↓reduceIte]
      exact ts_iret dMO_checkpoint_119 rfl (tc_e1 e) (tm_e2 e)
    · refine ts_bipush (v := -3) dMO_checkpoint_17 (by decide) ?_
      have e : tm_checkpoint M = ((-3), M) := by simp only [tm_checkpoint, h4, h14, ↓reduceIte]
      exact ts_iret dMO_checkpoint_19 rfl (tc_e1 e) (tm_e2 e)
  · refine ts_bipush (v := -9) dMO_checkpoint_7 (by decide) ?_
    have e : tm_checkpoint M = ((-9), M) := by simp only [tm_checkpoint, h4, ↓reduceIte]
    exact ts_iret dMO_checkpoint_9 rfl (tc_e1 e) (tm_e2 e)
