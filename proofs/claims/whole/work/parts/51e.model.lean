set_option maxHeartbeats 4000000 in
set_option maxRecDepth 100000 in
theorem cMO_flush_loop (G : ts_GX) (S : tc_S) (t : Int32) (ht : t.toInt ≤ 400) (X : ts_VX) : ∀ (n : Nat) (M : tc_S), tj M → M.1 12 = 0 → tm_pg t (M.1 4) n → ts_V G X YMO_flush (ts_QX G X (some (.int (tc_flushGo n M t).1)) (tc_h G S ++ tm_h G ((tc_flushGo n M t).2)) 0 0) 0 0 0 [.ref 17, .int t] [] (tc_h G S ++ tm_h G M) := by
  intro n
  induction n with
  | zero =>
    intro M hJ h12 hn
    refine ts_aload_n dMO_flush_0 rfl rfl ?_
    refine ts_get pMO_F69 dMO_flush_1 rfl rfl ?_
    refine ts_iload_n dMO_flush_4 rfl rfl ?_
    refine ts_icmp_ge (tgt := 43) dMO_flush_5 rfl (fun _ => ?_) (fun (hq : ¬ t ≤ (M.1 4)) => absurd (tm_pg0 hJ.ad.2.2.1 hn) hq)
    refine ts_iconst (v := 1) dMO_flush_43 (by decide) ?_
    exact ts_zret dMO_flush_44 rfl (by decide) rfl rfl
  | succ n ih =>
    intro M hJ h12 hn
    refine ts_aload_n dMO_flush_0 rfl rfl ?_
    refine ts_get pMO_F69 dMO_flush_1 rfl rfl ?_
    refine ts_iload_n dMO_flush_4 rfl rfl ?_
    refine ts_icmp_ge (tgt := 43) dMO_flush_5 rfl (fun (h5 : t ≤ (M.1 4)) => ?_) (fun (h5 : ¬ t ≤ (M.1 4)) => ?_)
    · refine ts_iconst (v := 1) dMO_flush_43 (by decide) ?_
      have e : tc_flushGo (n + 1) M t = (1, M) := by simp only [tc_flushGo, tc_flushPage, h5, ↓reduceIte]
      exact ts_zret dMO_flush_44 rfl (by decide) (tc_e1 e) (tm_e2 e)
    · refine ts_aload_n dMO_flush_8 rfl rfl ?_
      refine ts_aload_n dMO_flush_9 rfl rfl ?_
      refine ts_get pMO_F69 dMO_flush_10 rfl rfl ?_
      refine ts_callS (cMO_pageEnd G S M (M.1 4)) pMO_C104.1 pMO_C104.2 rfl rfl ⟨Nat.le_of_ble_eq_true rfl, Nat.le_of_ble_eq_true rfl⟩ ⟨Nat.le_of_ble_eq_true rfl, Nat.le_of_ble_eq_true rfl⟩ rfl (Nat.le_of_ble_eq_true rfl) dMO_flush_13 ?_
      refine ts_conv (lo' := [.ref 17, .int t]) (st' := [.int (tc_pageEnd (M.1 4)), .ref 17]) (h' := tc_h G S ++ tm_h G M) rfl rfl rfl ?_
      refine ts_iload_n dMO_flush_16 rfl rfl ?_
      obtain ⟨v17, g17⟩ : ∃ v : Int32, v = tc_min t (tc_pageEnd (M.1 4)) := ⟨_, rfl⟩
      refine ts_join (j := 31) (lo' := [.ref 17, .int t]) (st' := [.int v17, .ref 17]) (h' := tc_h G S ++ tm_h G M) (fun K => ?_) ?_
      · refine ts_icmp_ge (tgt := 30) dMO_flush_17 rfl (fun (h17 : t ≤ (tc_pageEnd (M.1 4))) => ?_) (fun (h17 : ¬ t ≤ (tc_pageEnd (M.1 4))) => ?_)
        · refine ts_iload_n dMO_flush_30 rfl rfl ?_
          exact ts_conv rfl (by rw [g17]; exact congrArg (fun z : Int32 => (Value.int z :: [.ref 17] : List Value)) (show t = tc_min t (tc_pageEnd (M.1 4)) by simp only [tm_minE, h5, h17, ↓reduceIte])) rfl K
        · refine ts_aload_n dMO_flush_20 rfl rfl ?_
          refine ts_get pMO_F69 dMO_flush_21 rfl rfl ?_
          refine ts_callS (cMO_pageEnd G S M (M.1 4)) pMO_C104.1 pMO_C104.2 rfl rfl ⟨Nat.le_of_ble_eq_true rfl, Nat.le_of_ble_eq_true rfl⟩ ⟨Nat.le_of_ble_eq_true rfl, Nat.le_of_ble_eq_true rfl⟩ rfl (Nat.le_of_ble_eq_true rfl) dMO_flush_24 ?_
          refine ts_conv (lo' := [.ref 17, .int t]) (st' := [.int (tc_pageEnd (M.1 4)), .ref 17]) (h' := tc_h G S ++ tm_h G M) rfl rfl rfl ?_
          refine ts_goto (tgt := 31) dMO_flush_27 rfl ?_
          exact ts_conv rfl (by rw [g17]; exact congrArg (fun z : Int32 => (Value.int z :: [.ref 17] : List Value)) (show tc_pageEnd (M.1 4) = tc_min t (tc_pageEnd (M.1 4)) by simp only [tm_minE, h5, h17, ↓reduceIte])) rfl K
      refine ts_put pMO_P69 dMO_flush_31 rfl (Nat.le_of_ble_eq_true rfl) rfl rfl (h' := tc_h G S ++ tm_h G (tc_f M 4 v17)) (tn_f4 _ _ _ _) ?_
      refine ts_aload_n dMO_flush_34 rfl rfl ?_
      refine ts_callV (cMO_block G S (tc_f M 4 v17) (by subst g17; exact tj_min hJ h5 ht) h12) pMO_C107.1 pMO_C107.2 rfl rfl rfl rfl ⟨Nat.le_of_ble_eq_true rfl, Nat.le_of_ble_eq_true rfl⟩ ⟨Nat.le_of_ble_eq_true rfl, Nat.le_of_ble_eq_true rfl⟩ rfl (Nat.le_of_ble_eq_true rfl) dMO_flush_35 ?_
      refine ts_conv (lo' := [.ref 17, .int t]) (st' := [.int ((tc_writeBlock (tc_f M 4 v17)).1)]) (h' := tc_h G S ++ tm_h G ((tc_writeBlock (tc_f M 4 v17)).2)) rfl rfl rfl ?_
      refine ts_if_ne (tgt := 0) dMO_flush_38 rfl (fun (h38 : ¬ ((tc_writeBlock (tc_f M 4 v17)).1) = 0) => ?_) (fun (h38 : ((tc_writeBlock (tc_f M 4 v17)).1) = 0) => ?_)
      · subst g17
        have e : tc_flushGo (n + 1) M t = tc_flushGo n ((tc_writeBlock (tc_f M 4 (tc_min t (tc_pageEnd (M.1 4))))).2) t := by simp only [tc_flushGo, tc_flushPage, h5, h38, ↓reduceIte]
        rw [e]
        exact ih _ (tj_fp hJ h5 ht) (tc_wb_up (S := tc_f M 4 (tc_min t (tc_pageEnd (M.1 4)))) h12 h38) (tm_pgF (tm_pgS hJ.ad.2.2.1 ht h5 hn))
      · refine ts_iconst (v := 0) dMO_flush_41 (by decide) ?_
        subst g17
        have e : tc_flushGo (n + 1) M t = (0, (tc_writeBlock (tc_f M 4 (tc_min t (tc_pageEnd (M.1 4))))).2) := by simp only [tc_flushGo, tc_flushPage, h5, h38, ↓reduceIte]
        exact ts_zret dMO_flush_42 rfl (by decide) (tc_e1 e) (tm_e2 e)
set_option maxHeartbeats 4000000 in
set_option maxRecDepth 100000 in
theorem cMO_flush (G : ts_GX) (S : tc_S) (M : tc_S) (t : Int32) (hJ : tj M) (h12 : M.1 12 = 0) (ht : t.toInt ≤ 400) : ts_M G yMO_flush YMO_flush [.ref 17, .int t] (tc_h G S ++ tm_h G M) (some (.int (tc_flush M t).1)) (tc_h G S ++ tm_h G ((tc_flush M t).2)) 0 0 := by
  refine ts_of rfl rfl rfl rfl rfl rfl (Nat.le_of_ble_eq_true rfl) (ts_cat1 rfl) (fun X => ?_)
  exact cMO_flush_loop G S t ht X 100 M hJ h12 (tm_pgA hJ.ad.2.2.1 ht)
set_option maxHeartbeats 4000000 in
set_option maxRecDepth 100000 in
theorem cMO_room_end (G : ts_GX) (S : tc_S) (M : tc_S) (x y : Int32) (X : ts_VX) : ts_V G X YMO_room (ts_QX G X (some (.int 1)) (tc_h G S ++ tm_h G (tc_open2 M y)) 0 0) 0 0 94 [.ref 17, .int x, .int y] [] (tc_h G S ++ tm_h G M) := by
  refine ts_aload_n dMO_room_94 rfl rfl ?_
  refine ts_aload_n dMO_room_95 rfl rfl ?_
  refine ts_get pMO_F66 dMO_room_96 rfl rfl ?_
  refine ts_iload_n dMO_room_99 rfl rfl ?_
  obtain ⟨v100, g100⟩ : ∃ v : Int32, v = tc_max (M.1 3) y := ⟨_, rfl⟩
  refine ts_join (j := 111) (lo' := [.ref 17, .int x, .int y]) (st' := [.int v100, .ref 17]) (h' := tc_h G S ++ tm_h G M) (fun K => ?_) ?_
  · refine ts_icmp_ge (tgt := 107) dMO_room_100 rfl (fun (h100 : y ≤ (M.1 3)) => ?_) (fun (h100 : ¬ y ≤ (M.1 3)) => ?_)
    · refine ts_aload_n dMO_room_107 rfl rfl ?_
      refine ts_get pMO_F66 dMO_room_108 rfl rfl ?_
      exact ts_conv rfl (by rw [g100]; exact congrArg (fun z : Int32 => (Value.int z :: [.ref 17] : List Value)) (show M.1 3 = tc_max (M.1 3) y by simp only [tm_maxE, h100, ↓reduceIte])) rfl K
    · refine ts_iload_n dMO_room_103 rfl rfl ?_
      refine ts_goto (tgt := 111) dMO_room_104 rfl ?_
      exact ts_conv rfl (by rw [g100]; exact congrArg (fun z : Int32 => (Value.int z :: [.ref 17] : List Value)) (show y = tc_max (M.1 3) y by simp only [tm_maxE, h100, ↓reduceIte])) rfl K
  refine ts_put pMO_P66 dMO_room_111 rfl (Nat.le_of_ble_eq_true rfl) rfl rfl (h' := tc_h G S ++ tm_h G (tc_f M 3 v100)) (tn_f3 _ _ _ _) ?_
  refine ts_iconst (v := 1) dMO_room_114 (by decide) ?_
  subst g100
  exact ts_zret dMO_room_115 rfl (by decide) rfl rfl
