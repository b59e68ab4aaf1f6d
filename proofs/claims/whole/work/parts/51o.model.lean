set_option maxHeartbeats 4000000 in
set_option maxRecDepth 100000 in
theorem cMO_flushing (G : ts_GX) (S : tc_S) (M : tc_S) (hJ : tj M) (hP : tm_P M) (h12 : M.1 12 = 0) : ts_M G yMO_flushing YMO_flushing [.ref 17] (tc_h G S ++ tm_h G M) (some (.int (tm_flushing M).1)) (tc_h G S ++ tm_h G ((tm_flushing M).2)) 0 0 := by
  refine ts_of rfl rfl rfl rfl rfl rfl (Nat.le_of_ble_eq_true rfl) (ts_cat1 rfl) (fun X => ?_)
  refine ts_aload_n dMO_flushing_0 rfl rfl ?_
  refine ts_callV (cMO_writing G S M) pMO_C149.1 pMO_C149.2 rfl rfl rfl rfl ⟨Nat.le_of_ble_eq_true rfl, Nat.le_of_ble_eq_true rfl⟩ ⟨Nat.le_of_ble_eq_true rfl, Nat.le_of_ble_eq_true rfl⟩ rfl (Nat.le_of_ble_eq_true rfl) dMO_flushing_1 ?_
  refine ts_conv (lo' := [.ref 17]) (st' := [.int (tm_to M)]) (h' := tc_h G S ++ tm_h G M) rfl rfl rfl ?_
  refine ts_istore_n (lo' := [.ref 17, .int (tm_to M)]) dMO_flushing_4 rfl (Nat.le_of_ble_eq_true rfl) (Nat.le_of_ble_eq_true rfl) rfl ?_
  refine ts_aload_n dMO_flushing_5 rfl rfl ?_
  refine ts_get pMO_F142 dMO_flushing_6 rfl rfl ?_
  refine ts_join (j := 35) (lo' := [.ref 17, .int (tm_to M)]) (st' := []) (h' := tc_h G S ++ tm_h G (tm_end1 M)) (fun K => ?_) ?_
  · refine ts_if_ne (tgt := 35) dMO_flushing_9 rfl (fun (h9 : ¬ (M.1 11) = 0) => ?_) (fun (h9 : (M.1 11) = 0) => ?_)
    · exact ts_conv rfl rfl (congrArg (fun z : tc_S => tc_h G S ++ tm_h G z) (show M = tm_end1 M by simp only [tm_end1, h9, ↓reduceIte])) K
    · refine ts_aload_n dMO_flushing_12 rfl rfl ?_
      refine ts_aload_n dMO_flushing_13 rfl rfl ?_
      refine ts_get pMO_F75 dMO_flushing_14 rfl rfl ?_
      refine ts_put pMO_P72 dMO_flushing_17 rfl (Nat.le_of_ble_eq_true rfl) rfl rfl (h' := tc_h G S ++ tm_h G (tc_f M 5 (M.1 6))) (tn_f5 _ _ _ _) ?_
      refine ts_aload_n dMO_flushing_20 rfl rfl ?_
      refine ts_get pMO_F38 dMO_flushing_21 rfl rfl ?_
      refine ts_iload_n dMO_flushing_24 rfl rfl ?_
      refine ts_aload_n dMO_flushing_25 rfl rfl ?_
      refine ts_get pMO_F75 dMO_flushing_26 rfl rfl ?_
      refine ts_iast dMO_flushing_29 rfl (tm_to_in hP) (h' := tc_h G S ++ tm_h G (tc_a (tc_f M 5 (M.1 6)) 9 (tm_to M) (M.1 6))) (tn_a9 _ _ _ _ _) ?_
      refine ts_aload_n dMO_flushing_30 rfl rfl ?_
      refine ts_iconst (v := 1) dMO_flushing_31 (by decide) ?_
      refine ts_put pMO_P142 dMO_flushing_32 rfl (Nat.le_of_ble_eq_true rfl) rfl rfl (h' := tc_h G S ++ tm_h G (tc_f (tc_a (tc_f M 5 (M.1 6)) 9 (tm_to M) (M.1 6)) 11 1)) (tn_f11 _ _ _ _) ?_
      exact ts_conv rfl rfl (congrArg (fun z : tc_S => tc_h G S ++ tm_h G z) (show tc_f (tc_a (tc_f M 5 (M.1 6)) 9 (tm_to M) (M.1 6)) 11 1 = tm_end1 M by simp only [tm_end1, h9, ↓reduceIte])) K
  refine ts_iconst (v := 1) dMO_flushing_35 (by decide) ?_
  refine ts_istore_n (lo' := [.ref 17, .int (tm_to M), .int 1]) dMO_flushing_36 rfl (Nat.le_of_ble_eq_true rfl) (Nat.le_of_ble_eq_true rfl) rfl ?_
  refine ts_aload_n dMO_flushing_37 rfl rfl ?_
  refine ts_get pMO_F69 dMO_flushing_38 rfl rfl ?_
  refine ts_aload_n dMO_flushing_41 rfl rfl ?_
  refine ts_get pMO_F38 dMO_flushing_42 rfl rfl ?_
  refine ts_iload_n dMO_flushing_45 rfl rfl ?_
  refine ts_iald dMO_flushing_46 rfl (tm_to_in hP) ?_
  refine ts_icmp_ge (tgt := 83) dMO_flushing_47 rfl (fun (h47 : (tc_r (tm_end1 M) 9 (tm_to M)) ≤ ((tm_end1 M).1 4)) => ?_) (fun (h47 : ¬ (tc_r (tm_end1 M) 9 (tm_to M)) ≤ ((tm_end1 M).1 4)) => ?_)
  · have e9 : tm_flushing M = tm_end2 (tm_end1 M) (tm_to M) 1 := if_pos h47
    rw [e9]
    exact cMO_flushing_end G S _ _ _ (tm_to_in hP) X
  · refine ts_aload_n dMO_flushing_50 rfl rfl ?_
    refine ts_get pMO_F69 dMO_flushing_51 rfl rfl ?_
    refine ts_callS (cMO_pageEnd G S (tm_end1 M) ((tm_end1 M).1 4)) pMO_C104.1 pMO_C104.2 rfl rfl ⟨Nat.le_of_ble_eq_true rfl, Nat.le_of_ble_eq_true rfl⟩ ⟨Nat.le_of_ble_eq_true rfl, Nat.le_of_ble_eq_true rfl⟩ rfl (Nat.le_of_ble_eq_true rfl) dMO_flushing_54 ?_
    refine ts_conv (lo' := [.ref 17, .int (tm_to M), .int 1]) (st' := [.int (tc_pageEnd ((tm_end1 M).1 4))]) (h' := tc_h G S ++ tm_h G (tm_end1 M)) rfl rfl rfl ?_
    refine ts_istore_n (lo' := [.ref 17, .int (tm_to M), .int 1, .int (tc_pageEnd ((tm_end1 M).1 4))]) dMO_flushing_57 rfl (Nat.le_of_ble_eq_true rfl) (Nat.le_of_ble_eq_true rfl) rfl ?_
    refine ts_aload_n dMO_flushing_58 rfl rfl ?_
    refine ts_iload_n dMO_flushing_59 rfl rfl ?_
    refine ts_aload_n dMO_flushing_60 rfl rfl ?_
    refine ts_get pMO_F38 dMO_flushing_61 rfl rfl ?_
    refine ts_iload_n dMO_flushing_64 rfl rfl ?_
    refine ts_iald dMO_flushing_65 rfl (tm_to_in hP) ?_
    obtain ⟨v66, g66⟩ : ∃ v : Int32, v = tc_min (tc_r (tm_end1 M) 9 (tm_to M)) (tc_pageEnd ((tm_end1 M).1 4)) := ⟨_, rfl⟩
    refine ts_join (j := 79) (lo' := [.ref 17, .int (tm_to M), .int 1, .int (tc_pageEnd ((tm_end1 M).1 4))]) (st' := [.int v66, .ref 17]) (h' := tc_h G S ++ tm_h G (tm_end1 M)) (fun K => ?_) ?_
    · refine ts_icmp_ge (tgt := 73) dMO_flushing_66 rfl (fun (h66 : (tc_r (tm_end1 M) 9 (tm_to M)) ≤ (tc_pageEnd ((tm_end1 M).1 4))) => ?_) (fun (h66 : ¬ (tc_r (tm_end1 M) 9 (tm_to M)) ≤ (tc_pageEnd ((tm_end1 M).1 4))) => ?_)
      · refine ts_aload_n dMO_flushing_73 rfl rfl ?_
        refine ts_get pMO_F38 dMO_flushing_74 rfl rfl ?_
        refine ts_iload_n dMO_flushing_77 rfl rfl ?_
        refine ts_iald dMO_flushing_78 rfl (tm_to_in hP) ?_
        exact ts_conv rfl (by rw [g66]; exact congrArg (fun z : Int32 => (Value.int z :: [.ref 17] : List Value)) (show tc_r (tm_end1 M) 9 (tm_to M) = tc_min (tc_r (tm_end1 M) 9 (tm_to M)) (tc_pageEnd ((tm_end1 M).1 4)) by simp only [tm_minE, h47, h66, ↓reduceIte])) rfl K
      · refine ts_iload_n dMO_flushing_69 rfl rfl ?_
        refine ts_goto (tgt := 79) dMO_flushing_70 rfl ?_
        exact ts_conv rfl (by rw [g66]; exact congrArg (fun z : Int32 => (Value.int z :: [.ref 17] : List Value)) (show tc_pageEnd ((tm_end1 M).1 4) = tc_min (tc_r (tm_end1 M) 9 (tm_to M)) (tc_pageEnd ((tm_end1 M).1 4)) by simp only [tm_minE, h47, h66, ↓reduceIte])) rfl K
    refine ts_callV (cMO_flush G S (tm_end1 M) v66 (tj_end1 hJ) (tm_end1_12 h12) (by subst g66; exact tm_end1_t hJ hP _ _)) pMO_C111.1 pMO_C111.2 rfl rfl rfl rfl ⟨Nat.le_of_ble_eq_true rfl, Nat.le_of_ble_eq_true rfl⟩ ⟨Nat.le_of_ble_eq_true rfl, Nat.le_of_ble_eq_true rfl⟩ rfl (Nat.le_of_ble_eq_true rfl) dMO_flushing_79 ?_
    refine ts_conv (lo' := [.ref 17, .int (tm_to M), .int 1, .int (tc_pageEnd ((tm_end1 M).1 4))]) (st' := [.int ((tc_flush (tm_end1 M) v66).1)]) (h' := tc_h G S ++ tm_h G ((tc_flush (tm_end1 M) v66).2)) rfl rfl rfl ?_
    refine ts_istore_n (lo' := [.ref 17, .int (tm_to M), .int ((tc_flush (tm_end1 M) v66).1), .int (tc_pageEnd ((tm_end1 M).1 4))]) dMO_flushing_82 rfl (Nat.le_of_ble_eq_true rfl) (Nat.le_of_ble_eq_true rfl) rfl ?_
    subst g66
    refine ts_less 3 rfl ?_
    have e9 : tm_flushing M = tm_end2 ((tc_flush (tm_end1 M) (tc_min (tc_r (tm_end1 M) 9 (tm_to M)) (tc_pageEnd ((tm_end1 M).1 4)))).2) (tm_to M) ((tc_flush (tm_end1 M) (tc_min (tc_r (tm_end1 M) 9 (tm_to M)) (tc_pageEnd ((tm_end1 M).1 4)))).1) := if_neg h47
    rw [e9]
    exact cMO_flushing_end G S _ _ _ (tm_to_in hP) X
