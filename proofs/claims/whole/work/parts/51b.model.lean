set_option maxHeartbeats 4000000 in
set_option maxRecDepth 100000 in
theorem cMO_fuse (G : ts_GX) (S : tc_S) (M : tc_S) (n : Int32) : ts_M G yMO_fuse YMO_fuse [.ref 17, .int n] (tc_h G S ++ tm_h G M) (some (.int (tc_fuse M n).1)) (tc_h G S ++ tm_h G ((tc_fuse M n).2)) 0 0 := by
  refine ts_of rfl rfl rfl rfl rfl rfl (Nat.le_of_ble_eq_true rfl) (ts_cat1 rfl) (fun X => ?_)
  refine ts_aload_n dMO_fuse_0 rfl rfl ?_
  refine ts_get pMO_F100 dMO_fuse_1 rfl rfl ?_
  refine ts_if_ne (tgt := 18) dMO_fuse_4 rfl (fun (h4 : ¬ (M.1 12) = 0) => ?_) (fun (h4 : (M.1 12) = 0) => ?_)
  · refine ts_iconst (v := 0) dMO_fuse_18 (by decide) ?_
    have e : tc_fuse M n = (0, M) := by simp only [tc_fuse, h4, ↓reduceIte]
    exact ts_zret dMO_fuse_19 rfl (by decide) (tc_e1 e) (tm_e2 e)
  · refine ts_iload_n dMO_fuse_7 rfl rfl ?_
    refine ts_iconst (v := 1) dMO_fuse_8 (by decide) ?_
    refine ts_icmp_lt (tgt := 18) dMO_fuse_9 rfl (fun (h9 : n < 1) => ?_) (fun (h9 : ¬ n < 1) => ?_)
    · refine ts_iconst (v := 0) dMO_fuse_18 (by decide) ?_
      have e : tc_fuse M n = (0, M) := by simp only [tc_fuse, h4, h9, ↓reduceIte]
      exact ts_zret dMO_fuse_19 rfl (by decide) (tc_e1 e) (tm_e2 e)
    · refine ts_iload_n dMO_fuse_12 rfl rfl ?_
      refine ts_bipush (v := 50) dMO_fuse_13 (by decide) ?_
      refine ts_icmp_le (tgt := 20) dMO_fuse_15 rfl (fun (h15 : n ≤ 50) => ?_) (fun (h15 : ¬ n ≤ 50) => ?_)
      · refine ts_aload_n dMO_fuse_20 rfl rfl ?_
        refine ts_iload_n dMO_fuse_21 rfl rfl ?_
        refine ts_put pMO_P97 dMO_fuse_22 rfl (Nat.le_of_ble_eq_true rfl) rfl rfl (h' := tc_h G S ++ tm_h G (tc_f M 13 n)) (tn_f13 _ _ _ _) ?_
        refine ts_iconst (v := 1) dMO_fuse_25 (by decide) ?_
        have e : tc_fuse M n = (1, tc_f M 13 n) := by simp only [tc_fuse, h4, h9, h15, ↓reduceIte]
        exact ts_zret dMO_fuse_26 rfl (by decide) (tc_e1 e) (tm_e2 e)
      · refine ts_iconst (v := 0) dMO_fuse_18 (by decide) ?_
        have e : tc_fuse M n = (0, M) := by simp only [tc_fuse, h4, h9, h15, ↓reduceIte]
        exact ts_zret dMO_fuse_19 rfl (by decide) (tc_e1 e) (tm_e2 e)
set_option maxHeartbeats 4000000 in
set_option maxRecDepth 100000 in
theorem cMO_address (G : ts_GX) (S : tc_S) (M : tc_S) (w : Int32) : ts_M G yMO_address YMO_address [.ref 17, .int w] (tc_h G S ++ tm_h G M) (some (.int (tc_address M w))) (tc_h G S ++ tm_h G M) 0 0 := by
  refine ts_of rfl rfl rfl rfl rfl rfl (Nat.le_of_ble_eq_true rfl) (ts_cat1 rfl) (fun X => ?_)
  refine ts_aload_n dMO_address_0 rfl rfl ?_
  refine ts_get pMO_F100 dMO_address_1 rfl rfl ?_
  refine ts_if_eq (tgt := 10) dMO_address_4 rfl (fun (h4 : (M.1 12) = 0) => ?_) (fun (h4 : ¬ (M.1 12) = 0) => ?_)
  · refine ts_iload_n dMO_address_10 rfl rfl ?_
    refine ts_if_ne (tgt := 21) dMO_address_11 rfl (fun (h11 : ¬ w = 0) => ?_) (fun (h11 : w = 0) => ?_)
    · refine ts_iload_n dMO_address_21 rfl rfl ?_
      refine ts_iconst (v := 1) dMO_address_22 (by decide) ?_
      refine ts_icmp_ne (tgt := 33) dMO_address_23 rfl (fun (h23 : ¬ w = 1) => ?_) (fun (h23 : w = 1) => ?_)
      · refine ts_iload_n dMO_address_33 rfl rfl ?_
        refine ts_iconst (v := 2) dMO_address_34 (by decide) ?_
        refine ts_icmp_ne (tgt := 45) dMO_address_35 rfl (fun (h35 : ¬ w = 2) => ?_) (fun (h35 : w = 2) => ?_)
        · refine ts_iload_n dMO_address_45 rfl rfl ?_
          refine ts_iconst (v := 3) dMO_address_46 (by decide) ?_
          refine ts_icmp_ne (tgt := 57) dMO_address_47 rfl (fun (h47 : ¬ w = 3) => ?_) (fun (h47 : w = 3) => ?_)
          · refine ts_iload_n dMO_address_57 rfl rfl ?_
            refine ts_iconst (v := 4) dMO_address_58 (by decide) ?_
            refine ts_icmp_ne (tgt := 69) dMO_address_59 rfl (fun (h59 : ¬ w = 4) => ?_) (fun (h59 : w = 4) => ?_)
            · refine ts_iconst (v := -1) dMO_address_69 (by decide) ?_
              have e : tc_address M w = (-1) := by simp only [tc_address, tz_d10, tz_d20, tz_d21, tz_d30, tz_d31, tz_d32, tz_d40, tz_d41, tz_d42, tz_d43, h4, h11, h23, h35, h47, h59, ↓reduceIte]
              exact ts_iret dMO_address_70 rfl (tc_e1v e) rfl
            · refine ts_aload_n dMO_address_62 rfl rfl ?_
              refine ts_get pMO_F75 dMO_address_63 rfl rfl ?_
              refine ts_goto (tgt := 70) dMO_address_66 rfl ?_
              have e : tc_address M w = M.1 6 := by simp only [tc_address, tz_d10, tz_d20, tz_d21, tz_d30, tz_d31, tz_d32, tz_d40, tz_d41, tz_d42, tz_d43, h4, h11, h23, h35, h47, h59, ↓reduceIte]
              exact ts_iret dMO_address_70 rfl (tc_e1v e) rfl
          · refine ts_aload_n dMO_address_50 rfl rfl ?_
            refine ts_get pMO_F72 dMO_address_51 rfl rfl ?_
            refine ts_goto (tgt := 70) dMO_address_54 rfl ?_
            have e : tc_address M w = M.1 5 := by simp only [tc_address, tz_d10, tz_d20, tz_d21, tz_d30, tz_d31, tz_d32, tz_d40, tz_d41, tz_d42, tz_d43, h4, h11, h23, h35, h47, ↓reduceIte]
            exact ts_iret dMO_address_70 rfl (tc_e1v e) rfl
        · refine ts_aload_n dMO_address_38 rfl rfl ?_
          refine ts_get pMO_F69 dMO_address_39 rfl rfl ?_
          refine ts_goto (tgt := 70) dMO_address_42 rfl ?_
          have e : tc_address M w = M.1 4 := by simp only [tc_address, tz_d10, tz_d20, tz_d21, tz_d30, tz_d31, tz_d32, tz_d40, tz_d41, tz_d42, tz_d43, h4, h11, h23, h35, ↓reduceIte]
          exact ts_iret dMO_address_70 rfl (tc_e1v e) rfl
      · refine ts_aload_n dMO_address_26 rfl rfl ?_
        refine ts_get pMO_F66 dMO_address_27 rfl rfl ?_
        refine ts_goto (tgt := 70) dMO_address_30 rfl ?_
        have e : tc_address M w = M.1 3 := by simp only [tc_address, tz_d10, tz_d20, tz_d21, tz_d30, tz_d31, tz_d32, tz_d40, tz_d41, tz_d42, tz_d43, h4, h11, h23, ↓reduceIte]
        exact ts_iret dMO_address_70 rfl (tc_e1v e) rfl
    · refine ts_aload_n dMO_address_14 rfl rfl ?_
      refine ts_get pMO_F63 dMO_address_15 rfl rfl ?_
      refine ts_goto (tgt := 70) dMO_address_18 rfl ?_
      have e : tc_address M w = M.1 2 := by simp only [tc_address, tz_d10, tz_d20, tz_d21, tz_d30, tz_d31, tz_d32, tz_d40, tz_d41, tz_d42, tz_d43, h4, h11, ↓reduceIte]
      exact ts_iret dMO_address_70 rfl (tc_e1v e) rfl
  · refine ts_bipush (v := -9) dMO_address_7 (by decide) ?_
    have e : tc_address M w = (-9) := by simp only [tc_address, tz_d10, tz_d20, tz_d21, tz_d30, tz_d31, tz_d32, tz_d40, tz_d41, tz_d42, tz_d43, h4, ↓reduceIte]
    exact ts_iret dMO_address_9 rfl (tc_e1v e) rfl
set_option maxHeartbeats 4000000 in
set_option maxRecDepth 100000 in
theorem cMO_writing (G : ts_GX) (S : tc_S) (M : tc_S)  : ts_M G yMO_writing YMO_writing [.ref 17] (tc_h G S ++ tm_h G M) (some (.int (tm_to M))) (tc_h G S ++ tm_h G M) 0 0 := by
  refine ts_of rfl rfl rfl rfl rfl rfl (Nat.le_of_ble_eq_true rfl) (ts_cat1 rfl) (fun X => ?_)
  refine ts_iconst (v := 1) dMO_writing_0 (by decide) ?_
  refine ts_aload_n dMO_writing_1 rfl rfl ?_
  refine ts_get pMO_F57 dMO_writing_2 rfl rfl ?_
  obtain ⟨v5, g5⟩ : ∃ v : Int32, v = if 0 ≤ M.1 18 then M.1 18 else 1 := ⟨_, rfl⟩
  refine ts_join (j := 16) (lo' := [.ref 17]) (st' := [.int v5, .int 1]) (h' := tc_h G S ++ tm_h G M) (fun K => ?_) ?_
  · refine ts_if_ge (tgt := 12) dMO_writing_5 rfl (fun (h5 : 0 ≤ (M.1 18)) => ?_) (fun (h5 : ¬ 0 ≤ (M.1 18)) => ?_)
    · refine ts_aload_n dMO_writing_12 rfl rfl ?_
      refine ts_get pMO_F57 dMO_writing_13 rfl rfl ?_
      exact ts_conv rfl (by rw [g5]; exact congrArg (fun z : Int32 => (Value.int z :: [.int 1] : List Value)) (show M.1 18 = if 0 ≤ M.1 18 then M.1 18 else 1 by simp only [ite_self, h5, ↓reduceIte])) rfl K
    · refine ts_iconst (v := 1) dMO_writing_8 (by decide) ?_
      refine ts_goto (tgt := 16) dMO_writing_9 rfl ?_
      exact ts_conv rfl (by rw [g5]; exact congrArg (fun z : Int32 => (Value.int z :: [.int 1] : List Value)) (show 1 = if 0 ≤ M.1 18 then M.1 18 else 1 by simp only [ite_self, h5, ↓reduceIte])) rfl K
  refine ts_isub dMO_writing_16 ?_
  subst g5
  have e : tm_to M = 1 - (if 0 ≤ M.1 18 then M.1 18 else 1) := rfl
  exact ts_iret dMO_writing_17 rfl (tc_e1v e) rfl
