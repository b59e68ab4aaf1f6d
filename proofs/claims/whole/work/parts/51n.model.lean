set_option maxHeartbeats 4000000 in
set_option maxRecDepth 100000 in
theorem cMO_image (G : ts_GX) (S : tc_S) (M : tc_S) (hJ : tj M) (hP : tm_P M) (h12 : M.1 12 = 0) : ts_M G yMO_image YMO_image [.ref 17] (tc_h G S ++ tm_h G M) (some (.int (tm_image M).1)) (tc_h G S ++ tm_h G ((tm_image M).2)) 0 0 := by
  refine ts_of rfl rfl rfl rfl rfl rfl (Nat.le_of_ble_eq_true rfl) (ts_cat1 rfl) (fun X => ?_)
  refine ts_aload_n dMO_image_0 rfl rfl ?_
  refine ts_get pMO_F139 dMO_image_1 rfl rfl ?_
  refine ts_iconst (v := 4) dMO_image_4 (by decide) ?_
  refine ts_iadd dMO_image_5 ?_
  refine ts_aload_n dMO_image_6 rfl rfl ?_
  refine ts_callV (cMO_bucketCount G S M) pMO_C145.1 pMO_C145.2 rfl rfl rfl rfl ⟨Nat.le_of_ble_eq_true rfl, Nat.le_of_ble_eq_true rfl⟩ ⟨Nat.le_of_ble_eq_true rfl, Nat.le_of_ble_eq_true rfl⟩ rfl (Nat.le_of_ble_eq_true rfl) dMO_image_7 ?_
  refine ts_conv (lo' := [.ref 17]) (st' := [.int (tc_count M), .int ((M.1 10) + 4)]) (h' := tc_h G S ++ tm_h G M) rfl rfl rfl ?_
  obtain ⟨v10, g10⟩ : ∃ v : Int32, v = tc_min (tc_count M) (M.1 10 + 4) := ⟨_, rfl⟩
  refine ts_join (j := 26) (lo' := [.ref 17]) (st' := [.int v10]) (h' := tc_h G S ++ tm_h G M) (fun K => ?_) ?_
  · refine ts_icmp_ge (tgt := 22) dMO_image_10 rfl (fun (h10 : (tc_count M) ≤ ((M.1 10) + 4)) => ?_) (fun (h10 : ¬ (tc_count M) ≤ ((M.1 10) + 4)) => ?_)
    · refine ts_aload_n dMO_image_22 rfl rfl ?_
      refine ts_callV (cMO_bucketCount G S M) pMO_C145.1 pMO_C145.2 rfl rfl rfl rfl ⟨Nat.le_of_ble_eq_true rfl, Nat.le_of_ble_eq_true rfl⟩ ⟨Nat.le_of_ble_eq_true rfl, Nat.le_of_ble_eq_true rfl⟩ rfl (Nat.le_of_ble_eq_true rfl) dMO_image_23 ?_
      refine ts_conv (lo' := [.ref 17]) (st' := [.int (tc_count M)]) (h' := tc_h G S ++ tm_h G M) rfl rfl rfl ?_
      exact ts_conv rfl (by rw [g10]; exact congrArg (fun z : Int32 => (Value.int z :: [] : List Value)) (show tc_count M = tc_min (tc_count M) (M.1 10 + 4) by simp only [tm_minE, h10, ↓reduceIte])) rfl K
    · refine ts_aload_n dMO_image_13 rfl rfl ?_
      refine ts_get pMO_F139 dMO_image_14 rfl rfl ?_
      refine ts_iconst (v := 4) dMO_image_17 (by decide) ?_
      refine ts_iadd dMO_image_18 ?_
      refine ts_goto (tgt := 26) dMO_image_19 rfl ?_
      exact ts_conv rfl (by rw [g10]; exact congrArg (fun z : Int32 => (Value.int z :: [] : List Value)) (show (M.1 10) + 4 = tc_min (tc_count M) (M.1 10 + 4) by simp only [tm_minE, h10, ↓reduceIte])) rfl K
  refine ts_istore_n (lo' := [.ref 17, .int v10]) dMO_image_26 rfl (Nat.le_of_ble_eq_true rfl) (Nat.le_of_ble_eq_true rfl) rfl ?_
  refine ts_aload_n dMO_image_27 rfl rfl ?_
  refine ts_get pMO_F139 dMO_image_28 rfl rfl ?_
  refine ts_istore_n (lo' := [.ref 17, .int v10, .int (M.1 10)]) dMO_image_31 rfl (Nat.le_of_ble_eq_true rfl) (Nat.le_of_ble_eq_true rfl) rfl ?_
  subst g10
  refine cMO_image_loop G S (tc_min (tc_count M) (M.1 10 + 4)) (tc_min16 hJ) X _ 16 M (M.1 10) (tc_bi0 hJ) (tc_bi16 hJ) hP (fun k9 => ?_)
  exact cMO_image_end G S (tm_image1 M) (tc_min (tc_count M) (M.1 10 + 4)) k9 (tj_image2 (tj_image1 hJ) (tm_min0 hJ) (tc_min16 hJ)) (tm_cp12 h12) X
set_option maxHeartbeats 4000000 in
set_option maxRecDepth 100000 in
theorem cMO_flushing_end (G : ts_GX) (S : tc_S) (M : tc_S) (to on : Int32) (hx : vp_in to 2) (X : ts_VX) : ts_V G X YMO_flushing (ts_QX G X (some (.int (tm_end2 M to on).1)) (tc_h G S ++ tm_h G ((tm_end2 M to on).2)) 0 0) 0 0 83 [.ref 17, .int to, .int on] [] (tc_h G S ++ tm_h G M) := by
  refine ts_aload_n dMO_flushing_83 rfl rfl ?_
  refine ts_aload_n dMO_flushing_84 rfl rfl ?_
  refine ts_get pMO_F69 dMO_flushing_85 rfl rfl ?_
  refine ts_aload_n dMO_flushing_88 rfl rfl ?_
  refine ts_get pMO_F38 dMO_flushing_89 rfl rfl ?_
  refine ts_iload_n dMO_flushing_92 rfl rfl ?_
  refine ts_iald dMO_flushing_93 rfl hx ?_
  obtain ⟨v94, g94⟩ : ∃ v : Int32, v = if M.1 4 < tc_r M 9 to then 2 else 3 := ⟨_, rfl⟩
  refine ts_join (j := 102) (lo' := [.ref 17, .int to, .int on]) (st' := [.int v94, .ref 17]) (h' := tc_h G S ++ tm_h G M) (fun K => ?_) ?_
  · refine ts_icmp_lt (tgt := 101) dMO_flushing_94 rfl (fun (h94 : (M.1 4) < (tc_r M 9 to)) => ?_) (fun (h94 : ¬ (M.1 4) < (tc_r M 9 to)) => ?_)
    · refine ts_iconst (v := 2) dMO_flushing_101 (by decide) ?_
      exact ts_conv rfl (by rw [g94]; exact congrArg (fun z : Int32 => (Value.int z :: [.ref 17] : List Value)) (show 2 = if M.1 4 < tc_r M 9 to then 2 else 3 by simp only [ite_self, h94, ↓reduceIte])) rfl K
    · refine ts_iconst (v := 3) dMO_flushing_97 (by decide) ?_
      refine ts_goto (tgt := 102) dMO_flushing_98 rfl ?_
      exact ts_conv rfl (by rw [g94]; exact congrArg (fun z : Int32 => (Value.int z :: [.ref 17] : List Value)) (show 3 = if M.1 4 < tc_r M 9 to then 2 else 3 by simp only [ite_self, h94, ↓reduceIte])) rfl K
  refine ts_put pMO_P136 dMO_flushing_102 rfl (Nat.le_of_ble_eq_true rfl) rfl rfl (h' := tc_h G S ++ tm_h G (tc_f M 9 v94)) (tn_f9 _ _ _ _) ?_
  refine ts_iload_n dMO_flushing_105 rfl rfl ?_
  refine ts_if_eq (tgt := 113) dMO_flushing_106 rfl (fun (h106 : on = 0) => ?_) (fun (h106 : ¬ on = 0) => ?_)
  · refine ts_bipush (v := -9) dMO_flushing_113 (by decide) ?_
    subst g94
    have e : tm_end2 M to on = ((-9), tc_f M 9 (if M.1 4 < tc_r M 9 to then 2 else 3)) := by simp only [tm_end2, h106, ↓reduceIte]
    exact ts_iret dMO_flushing_115 rfl (tc_e1 e) (tm_e2 e)
  · refine ts_iconst (v := 2) dMO_flushing_109 (by decide) ?_
    refine ts_goto (tgt := 115) dMO_flushing_110 rfl ?_
    subst g94
    have e : tm_end2 M to on = (2, tc_f M 9 (if M.1 4 < tc_r M 9 to then 2 else 3)) := by simp only [tm_end2, h106, ↓reduceIte]
    exact ts_iret dMO_flushing_115 rfl (tc_e1 e) (tm_e2 e)
