set_option maxHeartbeats 4000000 in
set_option maxRecDepth 100000 in
theorem cMO_append_rec (G : ts_GX) (S : tc_S) (M : tc_S) (key value stone : Int32) (hJ : tj M) (hk : tc_key key) (hs : stone = 0 ∨ stone = 1) (ht : ¬ 400 ≤ M.1 6) (X : ts_VX) : ts_V G X YMO_append (ts_QX G X (some (.int 1)) (tc_h G S ++ tm_h G (tc_record M key value stone)) 0 0) 0 0 9 [.ref 17, .int key, .int value, .int stone] [] (tc_h G S ++ tm_h G M) := by
  refine ts_aload_n dMO_append_9 rfl rfl ?_
  refine ts_iload_n dMO_append_10 rfl rfl ?_
  refine ts_callV (cMO_bucketOf G S M key hJ) pMO_C87.1 pMO_C87.2 rfl rfl rfl rfl ⟨Nat.le_of_ble_eq_true rfl, Nat.le_of_ble_eq_true rfl⟩ ⟨Nat.le_of_ble_eq_true rfl, Nat.le_of_ble_eq_true rfl⟩ rfl (Nat.le_of_ble_eq_true rfl) dMO_append_11 ?_
  refine ts_conv (lo' := [.ref 17, .int key, .int value, .int stone]) (st' := [.int (tc_bucketOf M key)]) (h' := tc_h G S ++ tm_h G M) rfl rfl rfl ?_
  refine ts_istore (lo' := [.ref 17, .int key, .int value, .int stone, .int (tc_bucketOf M key)]) dMO_append_14 (Nat.le_of_ble_eq_true rfl) (Nat.le_of_ble_eq_true rfl) rfl ?_
  refine ts_aload_n dMO_append_16 rfl rfl ?_
  refine ts_get pMO_F7 dMO_append_17 rfl rfl ?_
  refine ts_aload_n dMO_append_20 rfl rfl ?_
  refine ts_get pMO_F75 dMO_append_21 rfl rfl ?_
  refine ts_iload_n dMO_append_24 rfl rfl ?_
  refine ts_iast dMO_append_25 rfl (tc_inTail (S := M) hJ ht) (h' := tc_h G S ++ tm_h G (tc_a M 1 (M.1 6) key)) (tn_a1 _ _ _ _ _) ?_
  refine ts_aload_n dMO_append_26 rfl rfl ?_
  refine ts_get pMO_F13 dMO_append_27 rfl rfl ?_
  refine ts_aload_n dMO_append_30 rfl rfl ?_
  refine ts_get pMO_F75 dMO_append_31 rfl rfl ?_
  refine ts_iload_n dMO_append_34 rfl rfl ?_
  refine ts_iast dMO_append_35 rfl (tc_inTail (S := M) hJ ht) (h' := tc_h G S ++ tm_h G (tc_a (tc_a M 1 (M.1 6) key) 2 (M.1 6) value)) (tn_a2 _ _ _ _ _) ?_
  refine ts_aload_n dMO_append_36 rfl rfl ?_
  refine ts_get pMO_F22 dMO_append_37 rfl rfl ?_
  refine ts_aload_n dMO_append_40 rfl rfl ?_
  refine ts_get pMO_F75 dMO_append_41 rfl rfl ?_
  refine ts_iload_n dMO_append_44 rfl rfl ?_
  refine ts_zast dMO_append_45 rfl (tc_inTail (S := M) hJ ht) (h' := tc_h G S ++ tm_h G (tc_a (tc_a (tc_a M 1 (M.1 6) key) 2 (M.1 6) value) 5 (M.1 6) stone)) (by rw [tc_nar hs]; exact tn_a5 _ _ _ _ _) ?_
  refine ts_aload_n dMO_append_46 rfl rfl ?_
  refine ts_get pMO_F19 dMO_append_47 rfl rfl ?_
  refine ts_aload_n dMO_append_50 rfl rfl ?_
  refine ts_get pMO_F75 dMO_append_51 rfl rfl ?_
  refine ts_aload_n dMO_append_54 rfl rfl ?_
  refine ts_get pMO_F84 dMO_append_55 rfl rfl ?_
  refine ts_iast dMO_append_58 rfl (tc_inTail (S := M) hJ ht) (h' := tc_h G S ++ tm_h G (tc_a (tc_a (tc_a (tc_a M 1 (M.1 6) key) 2 (M.1 6) value) 5 (M.1 6) stone) 4 (M.1 6) (M.1 7))) (tn_a4 _ _ _ _ _) ?_
  refine ts_aload_n dMO_append_59 rfl rfl ?_
  refine ts_get pMO_F16 dMO_append_60 rfl rfl ?_
  refine ts_aload_n dMO_append_63 rfl rfl ?_
  refine ts_get pMO_F75 dMO_append_64 rfl rfl ?_
  refine ts_aload_n dMO_append_67 rfl rfl ?_
  refine ts_get pMO_F26 dMO_append_68 rfl rfl ?_
  refine ts_iload dMO_append_71 rfl ?_
  refine ts_iald dMO_append_73 rfl (tc_inBucket (S := M) hJ hk) ?_
  refine ts_iast dMO_append_74 rfl (tc_inTail (S := M) hJ ht) (h' := tc_h G S ++ tm_h G (tc_a (tc_a (tc_a (tc_a (tc_a M 1 (M.1 6) key) 2 (M.1 6) value) 5 (M.1 6) stone) 4 (M.1 6) (M.1 7)) 3 (M.1 6) (tc_r M 0 (tc_bucketOf M key)))) (tn_a3 _ _ _ _ _) ?_
  refine ts_aload_n dMO_append_75 rfl rfl ?_
  refine ts_get pMO_F26 dMO_append_76 rfl rfl ?_
  refine ts_iload dMO_append_79 rfl ?_
  refine ts_aload_n dMO_append_81 rfl rfl ?_
  refine ts_get pMO_F75 dMO_append_82 rfl rfl ?_
  refine ts_iast dMO_append_85 rfl (tc_inBucket (S := M) hJ hk) (h' := tc_h G S ++ tm_h G (tc_a (tc_a (tc_a (tc_a (tc_a (tc_a M 1 (M.1 6) key) 2 (M.1 6) value) 5 (M.1 6) stone) 4 (M.1 6) (M.1 7)) 3 (M.1 6) (tc_r M 0 (tc_bucketOf M key))) 0 (tc_bucketOf M key) (M.1 6))) (tn_a0 _ _ _ _ _) ?_
  refine ts_aload_n dMO_append_86 rfl rfl ?_
  refine ts_dup dMO_append_87 rfl ?_
  refine ts_get pMO_F75 dMO_append_88 rfl rfl ?_
  refine ts_iconst (v := 1) dMO_append_91 (by decide) ?_
  refine ts_iadd dMO_append_92 ?_
  refine ts_put pMO_P75 dMO_append_93 rfl (Nat.le_of_ble_eq_true rfl) rfl rfl (h' := tc_h G S ++ tm_h G (tc_f (tc_a (tc_a (tc_a (tc_a (tc_a (tc_a M 1 (M.1 6) key) 2 (M.1 6) value) 5 (M.1 6) stone) 4 (M.1 6) (M.1 7)) 3 (M.1 6) (tc_r M 0 (tc_bucketOf M key))) 0 (tc_bucketOf M key) (M.1 6)) 6 ((M.1 6) + 1))) (tn_f6 _ _ _ _) ?_
  refine ts_iconst (v := 1) dMO_append_96 (by decide) ?_
  exact ts_zret dMO_append_97 rfl (by decide) rfl rfl
set_option maxHeartbeats 4000000 in
set_option maxRecDepth 100000 in
theorem cMO_append (G : ts_GX) (S : tc_S) (M : tc_S) (key value stone : Int32) (hJ : tj M) (h12 : M.1 12 = 0) (hk : tc_key key) (hs : stone = 0 ∨ stone = 1) (ht : ¬ 400 ≤ M.1 6) : ts_M G yMO_append YMO_append [.ref 17, .int key, .int value, .int stone] (tc_h G S ++ tm_h G M) (some (.int (tc_append M key value stone).1)) (tc_h G S ++ tm_h G ((tc_append M key value stone).2)) 0 0 := by
  refine ts_of rfl rfl rfl rfl rfl rfl (Nat.le_of_ble_eq_true rfl) (ts_cat1 rfl) (fun X => ?_)
  refine ts_aload_n dMO_append_0 rfl rfl ?_
  refine ts_callV (cMO_room G S M hJ h12) pMO_C115.1 pMO_C115.2 rfl rfl rfl rfl ⟨Nat.le_of_ble_eq_true rfl, Nat.le_of_ble_eq_true rfl⟩ ⟨Nat.le_of_ble_eq_true rfl, Nat.le_of_ble_eq_true rfl⟩ rfl (Nat.le_of_ble_eq_true rfl) dMO_append_1 ?_
  refine ts_conv (lo' := [.ref 17, .int key, .int value, .int stone]) (st' := [.int ((tm_room M).1)]) (h' := tc_h G S ++ tm_h G ((tm_room M).2)) rfl rfl rfl ?_
  refine ts_if_ne (tgt := 9) dMO_append_4 rfl (fun (h4 : ¬ ((tm_room M).1) = 0) => ?_) (fun (h4 : ((tm_room M).1) = 0) => ?_)
  · have e : tc_append M key value stone = (1, tc_record (tm_room M).2 key value stone) := by rw [tm_app_eq, if_neg h4]
    rw [e]
    exact cMO_append_rec G S (tm_room M).2 key value stone (tm_room_I hJ) hk hs (tm_room_t ht) X
  · refine ts_iconst (v := 0) dMO_append_7 (by decide) ?_
    have e : tc_append M key value stone = (0, (tm_room M).2) := by rw [tm_app_eq, if_pos h4]
    exact ts_zret dMO_append_8 rfl (by decide) (tc_e1 e) (tm_e2 e)
