set_option maxHeartbeats 4000000 in
set_option maxRecDepth 100000 in
theorem cMO_room (G : ts_GX) (S : tc_S) (M : tc_S) (hJ : tj M) (h12 : M.1 12 = 0) : ts_M G yMO_room YMO_room [.ref 17] (tc_h G S ++ tm_h G M) (some (.int (tm_room M).1)) (tc_h G S ++ tm_h G ((tm_room M).2)) 0 0 := by
  refine ts_of rfl rfl rfl rfl rfl rfl (Nat.le_of_ble_eq_true rfl) (ts_cat1 rfl) (fun X => ?_)
  refine ts_aload_n dMO_room_0 rfl rfl ?_
  refine ts_get pMO_F75 dMO_room_1 rfl rfl ?_
  refine ts_iconst (v := 4) dMO_room_4 (by decide) ?_
  refine ts_irem dMO_room_5 (by decide) ?_
  refine ts_if_eq (tgt := 11) dMO_room_6 rfl (fun (h6 : (tc_rem (M.1 6) 4) = 0) => ?_) (fun (h6 : ¬ (tc_rem (M.1 6) 4) = 0) => ?_)
  · refine ts_aload_n dMO_room_11 rfl rfl ?_
    refine ts_get pMO_F75 dMO_room_12 rfl rfl ?_
    refine ts_iconst (v := 4) dMO_room_15 (by decide) ?_
    refine ts_aload_n dMO_room_16 rfl rfl ?_
    refine ts_get pMO_F54 dMO_room_17 rfl rfl ?_
    refine ts_iconst (v := 1) dMO_room_20 (by decide) ?_
    refine ts_isub dMO_room_21 ?_
    refine ts_imul dMO_room_22 ?_
    refine ts_conv (lo' := [.ref 17]) (st' := [.int ((M.1 1 - 1) * 4), .int (M.1 6)]) (h' := tc_h G S ++ tm_h G M) rfl (congrArg (fun z : Int32 => ([Value.int z, Value.int (M.1 6)] : List Value)) (Int32.mul_comm 4 (M.1 1 - 1))) rfl ?_
    refine ts_isub dMO_room_23 ?_
    refine ts_istore_n (lo' := [.ref 17, .int ((M.1 6) - ((M.1 1 - 1) * 4))]) dMO_room_24 rfl (Nat.le_of_ble_eq_true rfl) (Nat.le_of_ble_eq_true rfl) rfl ?_
    refine ts_aload_n dMO_room_25 rfl rfl ?_
    refine ts_iload_n dMO_room_26 rfl rfl ?_
    refine ts_aload_n dMO_room_27 rfl rfl ?_
    refine ts_get pMO_F72 dMO_room_28 rfl rfl ?_
    obtain ⟨v31, g31⟩ : ∃ v : Int32, v = tc_max (M.1 5) (M.1 6 - (M.1 1 - 1) * 4) := ⟨_, rfl⟩
    refine ts_join (j := 42) (lo' := [.ref 17, .int ((M.1 6) - ((M.1 1 - 1) * 4))]) (st' := [.int v31, .ref 17]) (h' := tc_h G S ++ tm_h G M) (fun K => ?_) ?_
    · refine ts_icmp_le (tgt := 38) dMO_room_31 rfl (fun (h31 : ((M.1 6) - ((M.1 1 - 1) * 4)) ≤ (M.1 5)) => ?_) (fun (h31 : ¬ ((M.1 6) - ((M.1 1 - 1) * 4)) ≤ (M.1 5)) => ?_)
      · refine ts_aload_n dMO_room_38 rfl rfl ?_
        refine ts_get pMO_F72 dMO_room_39 rfl rfl ?_
        exact ts_conv rfl (by rw [g31]; exact congrArg (fun z : Int32 => (Value.int z :: [.ref 17] : List Value)) (show M.1 5 = tc_max (M.1 5) (M.1 6 - (M.1 1 - 1) * 4) by simp only [tm_maxE, h6, h31, ↓reduceIte])) rfl K
      · refine ts_iload_n dMO_room_34 rfl rfl ?_
        refine ts_goto (tgt := 42) dMO_room_35 rfl ?_
        exact ts_conv rfl (by rw [g31]; exact congrArg (fun z : Int32 => (Value.int z :: [.ref 17] : List Value)) (show (M.1 6) - ((M.1 1 - 1) * 4) = tc_max (M.1 5) (M.1 6 - (M.1 1 - 1) * 4) by simp only [tm_maxE, h6, h31, ↓reduceIte])) rfl K
    refine ts_put pMO_P72 dMO_room_42 rfl (Nat.le_of_ble_eq_true rfl) rfl rfl (h' := tc_h G S ++ tm_h G (tc_f M 5 v31)) (tn_f5 _ _ _ _) ?_
    refine ts_aload_n dMO_room_45 rfl rfl ?_
    refine ts_get pMO_F75 dMO_room_46 rfl rfl ?_
    refine ts_iconst (v := 4) dMO_room_49 (by decide) ?_
    refine ts_aload_n dMO_room_50 rfl rfl ?_
    refine ts_get pMO_F50 dMO_room_51 rfl rfl ?_
    refine ts_iconst (v := 1) dMO_room_54 (by decide) ?_
    refine ts_isub dMO_room_55 ?_
    refine ts_imul dMO_room_56 ?_
    refine ts_conv (lo' := [.ref 17, .int ((M.1 6) - ((M.1 1 - 1) * 4))]) (st' := [.int ((M.1 0 - 1) * 4), .int (M.1 6)]) (h' := tc_h G S ++ tm_h G (tc_f M 5 v31)) rfl (congrArg (fun z : Int32 => ([Value.int z, Value.int (M.1 6)] : List Value)) (Int32.mul_comm 4 (M.1 0 - 1))) rfl ?_
    refine ts_isub dMO_room_57 ?_
    refine ts_istore_n (lo' := [.ref 17, .int ((M.1 6) - ((M.1 1 - 1) * 4)), .int ((M.1 6) - ((M.1 0 - 1) * 4))]) dMO_room_58 rfl (Nat.le_of_ble_eq_true rfl) (Nat.le_of_ble_eq_true rfl) rfl ?_
    refine ts_aload_n dMO_room_59 rfl rfl ?_
    refine ts_get pMO_F66 dMO_room_60 rfl rfl ?_
    refine ts_iload_n dMO_room_63 rfl rfl ?_
    refine ts_icmp_ge (tgt := 94) dMO_room_64 rfl (fun (h64 : ((M.1 6) - ((M.1 0 - 1) * 4)) ≤ (M.1 3)) => ?_) (fun (h64 : ¬ ((M.1 6) - ((M.1 0 - 1) * 4)) ≤ (M.1 3)) => ?_)
    · subst g31
      have e : tm_room M = (1, tc_open2 (tc_f M 5 (tc_max (M.1 5) (M.1 6 - (M.1 1 - 1) * 4))) (tc_newHead M)) := (if_pos h6).trans (if_pos h64)
      rw [e]
      exact cMO_room_end G S _ _ _ X
    · refine ts_aload_n dMO_room_67 rfl rfl ?_
      refine ts_get pMO_F69 dMO_room_68 rfl rfl ?_
      refine ts_aload_n dMO_room_71 rfl rfl ?_
      refine ts_get pMO_F66 dMO_room_72 rfl rfl ?_
      refine ts_callS (cMO_pageEnd G S (tc_f M 5 v31) (M.1 3)) pMO_C104.1 pMO_C104.2 rfl rfl ⟨Nat.le_of_ble_eq_true rfl, Nat.le_of_ble_eq_true rfl⟩ ⟨Nat.le_of_ble_eq_true rfl, Nat.le_of_ble_eq_true rfl⟩ rfl (Nat.le_of_ble_eq_true rfl) dMO_room_75 ?_
      refine ts_conv (lo' := [.ref 17, .int ((M.1 6) - ((M.1 1 - 1) * 4)), .int ((M.1 6) - ((M.1 0 - 1) * 4))]) (st' := [.int (tc_pageEnd (M.1 3)), .int (M.1 4)]) (h' := tc_h G S ++ tm_h G (tc_f M 5 v31)) rfl rfl rfl ?_
      refine ts_icmp_ge (tgt := 94) dMO_room_78 rfl (fun (h78 : (tc_pageEnd (M.1 3)) ≤ (M.1 4)) => ?_) (fun (h78 : ¬ (tc_pageEnd (M.1 3)) ≤ (M.1 4)) => ?_)
      · subst g31
        have e : tm_room M = (1, tc_open2 (tc_f M 5 (tc_max (M.1 5) (M.1 6 - (M.1 1 - 1) * 4))) (tc_newHead M)) := (if_pos h6).trans ((if_neg h64).trans (if_pos h78))
        rw [e]
        exact cMO_room_end G S _ _ _ X
      · refine ts_aload_n dMO_room_81 rfl rfl ?_
        refine ts_aload_n dMO_room_82 rfl rfl ?_
        refine ts_get pMO_F72 dMO_room_83 rfl rfl ?_
        refine ts_callV (cMO_flush G S (tc_f M 5 v31) v31 (by subst g31; exact tj_open1 hJ) h12 (by subst g31; exact tc_fixed_le hJ)) pMO_C111.1 pMO_C111.2 rfl rfl rfl rfl ⟨Nat.le_of_ble_eq_true rfl, Nat.le_of_ble_eq_true rfl⟩ ⟨Nat.le_of_ble_eq_true rfl, Nat.le_of_ble_eq_true rfl⟩ rfl (Nat.le_of_ble_eq_true rfl) dMO_room_86 ?_
        refine ts_conv (lo' := [.ref 17, .int ((M.1 6) - ((M.1 1 - 1) * 4)), .int ((M.1 6) - ((M.1 0 - 1) * 4))]) (st' := [.int ((tc_flush (tc_f M 5 v31) v31).1)]) (h' := tc_h G S ++ tm_h G ((tc_flush (tc_f M 5 v31) v31).2)) rfl rfl rfl ?_
        refine ts_if_ne (tgt := 94) dMO_room_89 rfl (fun (h89 : ¬ ((tc_flush (tc_f M 5 v31) v31).1) = 0) => ?_) (fun (h89 : ((tc_flush (tc_f M 5 v31) v31).1) = 0) => ?_)
        · subst g31
          have e : tm_room M = (1, tc_open2 ((tc_flush (tc_f M 5 (tc_max (M.1 5) (M.1 6 - (M.1 1 - 1) * 4))) (tc_max (M.1 5) (M.1 6 - (M.1 1 - 1) * 4))).2) (tc_newHead M)) := (if_pos h6).trans ((if_neg h64).trans ((if_neg h78).trans (if_neg h89)))
          rw [e]
          exact cMO_room_end G S _ _ _ X
        · refine ts_iconst (v := 0) dMO_room_92 (by decide) ?_
          subst g31
          have e : tm_room M = (0, (tc_flush (tc_f M 5 (tc_max (M.1 5) (M.1 6 - (M.1 1 - 1) * 4))) (tc_max (M.1 5) (M.1 6 - (M.1 1 - 1) * 4))).2) := (if_pos h6).trans ((if_neg h64).trans ((if_neg h78).trans (if_pos h89)))
          exact ts_zret dMO_room_93 rfl (by decide) (tc_e1 e) (tm_e2 e)
  · refine ts_iconst (v := 1) dMO_room_9 (by decide) ?_
    have e : tm_room M = (1, M) := if_neg h6
    exact ts_zret dMO_room_10 rfl (by decide) (tc_e1 e) (tm_e2 e)
