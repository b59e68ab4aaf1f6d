set_option maxHeartbeats 4000000 in
set_option maxRecDepth 100000 in
theorem cTS_writeImageBlock_loop (G : ts_GX) (T : List va_E) (c e : Int32) (he : e.toInt ≤ 16) (X : ts_VX) (Q : State → Prop) : ∀ (n : Nat) (S : tc_S) (k : Int32), 0 ≤ k.toInt → e.toInt ≤ k.toInt + n → (∀ k9 : Int32, ts_V G X YTS_writeImageBlock Q 0 0 56 [.ref 1, .int c, .int e, .int k9] [] (tc_h G (tc_copyGo n S k e) ++ T)) → ts_V G X YTS_writeImageBlock Q 0 0 24 [.ref 1, .int c, .int e, .int k] [] (tc_h G S ++ T) := by
  intro n
  induction n with
  | zero =>
    intro S k hk hn K
    obtain ⟨F, A, sw⟩ := S
    cases sw with
    | false =>
      refine ts_iload_n dTS_writeImageBlock_24 rfl rfl ?_
      refine ts_iload_n dTS_writeImageBlock_25 rfl rfl ?_
      refine ts_icmp_ge (tgt := 56) dTS_writeImageBlock_26 rfl (fun _ => ?_) (fun hq => absurd (tc_kz hn) hq)
      exact K _
    | true =>
      refine ts_iload_n dTS_writeImageBlock_24 rfl rfl ?_
      refine ts_iload_n dTS_writeImageBlock_25 rfl rfl ?_
      refine ts_icmp_ge (tgt := 56) dTS_writeImageBlock_26 rfl (fun _ => ?_) (fun hq => absurd (tc_kz hn) hq)
      exact K _
  | succ n ih =>
    intro S k hk hn K
    obtain ⟨F, A, sw⟩ := S
    cases sw with
    | false =>
      refine ts_iload_n dTS_writeImageBlock_24 rfl rfl ?_
      refine ts_iload_n dTS_writeImageBlock_25 rfl rfl ?_
      refine ts_icmp_ge (tgt := 56) dTS_writeImageBlock_26 rfl (fun (h26 : e ≤ k) => ?_) (fun (h26 : ¬ e ≤ k) => ?_)
      · have e9 : tc_copyGo (n + 1) (F, A, false) k e = (F, A, false) := by simp only [tc_copyGo, h26, ↓reduceIte]
        rw [e9] at K
        exact K _
      · refine ts_aload_n dTS_writeImageBlock_29 rfl rfl ?_
        refine ts_get pTS_F41 dTS_writeImageBlock_30 rfl rfl ?_
        refine ts_get pTS_F105 dTS_writeImageBlock_33 rfl rfl ?_
        refine ts_get pTS_F176 dTS_writeImageBlock_36 rfl rfl ?_
        refine ts_iload_n dTS_writeImageBlock_39 rfl rfl ?_
        refine ts_aload_n dTS_writeImageBlock_40 rfl rfl ?_
        refine ts_get pTS_F19 dTS_writeImageBlock_41 rfl rfl ?_
        refine ts_get pTS_F176 dTS_writeImageBlock_44 rfl rfl ?_
        refine ts_iload_n dTS_writeImageBlock_47 rfl rfl ?_
        refine ts_iald dTS_writeImageBlock_48 rfl (tc_in16 hk he h26) ?_
        refine ts_iast dTS_writeImageBlock_49 rfl (tc_in16 hk he h26) (h' := tc_h G (tc_a (F, A, false) 7 k (tc_r (F, A, false) 0 k)) ++ T) (th_a7_0 _ _ _ _ _ rfl) ?_
        refine ts_iinc (v := k + 1) (lo' := [.ref 1, .int c, .int e, .int (k + 1)]) dTS_writeImageBlock_50 rfl rfl (Nat.le_of_ble_eq_true rfl) rfl ?_
        refine ts_goto (tgt := 24) dTS_writeImageBlock_53 rfl ?_
        refine ih (tc_a (F, A, false) 7 k (tc_r (F, A, false) 0 k)) (k + 1) (tc_kb hk h26) (tc_kn he hn h26) ?_
        have e9 : tc_copyGo (n + 1) (F, A, false) k e = tc_copyGo n (tc_a (F, A, false) 7 k (tc_r (F, A, false) 0 k)) (k + 1) e := by simp only [tc_copyGo, h26, ↓reduceIte]
        rw [← e9]
        exact K
    | true =>
      refine ts_iload_n dTS_writeImageBlock_24 rfl rfl ?_
      refine ts_iload_n dTS_writeImageBlock_25 rfl rfl ?_
      refine ts_icmp_ge (tgt := 56) dTS_writeImageBlock_26 rfl (fun (h26 : e ≤ k) => ?_) (fun (h26 : ¬ e ≤ k) => ?_)
      · have e9 : tc_copyGo (n + 1) (F, A, true) k e = (F, A, true) := by simp only [tc_copyGo, h26, ↓reduceIte]
        rw [e9] at K
        exact K _
      · refine ts_aload_n dTS_writeImageBlock_29 rfl rfl ?_
        refine ts_get pTS_F41 dTS_writeImageBlock_30 rfl rfl ?_
        refine ts_get pTS_F105 dTS_writeImageBlock_33 rfl rfl ?_
        refine ts_get pTS_F176 dTS_writeImageBlock_36 rfl rfl ?_
        refine ts_iload_n dTS_writeImageBlock_39 rfl rfl ?_
        refine ts_aload_n dTS_writeImageBlock_40 rfl rfl ?_
        refine ts_get pTS_F19 dTS_writeImageBlock_41 rfl rfl ?_
        refine ts_get pTS_F176 dTS_writeImageBlock_44 rfl rfl ?_
        refine ts_iload_n dTS_writeImageBlock_47 rfl rfl ?_
        refine ts_iald dTS_writeImageBlock_48 rfl (tc_in16 hk he h26) ?_
        refine ts_iast dTS_writeImageBlock_49 rfl (tc_in16 hk he h26) (h' := tc_h G (tc_a (F, A, true) 7 k (tc_r (F, A, true) 0 k)) ++ T) (th_a7_1 _ _ _ _ _ rfl) ?_
        refine ts_iinc (v := k + 1) (lo' := [.ref 1, .int c, .int e, .int (k + 1)]) dTS_writeImageBlock_50 rfl rfl (Nat.le_of_ble_eq_true rfl) rfl ?_
        refine ts_goto (tgt := 24) dTS_writeImageBlock_53 rfl ?_
        refine ih (tc_a (F, A, true) 7 k (tc_r (F, A, true) 0 k)) (k + 1) (tc_kb hk h26) (tc_kn he hn h26) ?_
        have e9 : tc_copyGo (n + 1) (F, A, true) k e = tc_copyGo n (tc_a (F, A, true) 7 k (tc_r (F, A, true) 0 k)) (k + 1) e := by simp only [tc_copyGo, h26, ↓reduceIte]
        rw [← e9]
        exact K
set_option maxHeartbeats 4000000 in
set_option maxRecDepth 100000 in
theorem cTS_writeImageBlock (G : ts_GX) (T : List va_E) (S : tc_S) (hI : tj S) : ts_M G yTS_writeImageBlock YTS_writeImageBlock [.ref 1] (tc_h G S ++ T) (some (.int (tc_writeImage S).1)) (tc_h G (tc_writeImage S).2 ++ T) 0 0 := by
  refine ts_of rfl rfl rfl rfl rfl rfl (Nat.le_of_ble_eq_true rfl) (ts_cat1 rfl) (fun X => ?_)
  refine ts_aload_n dTS_writeImageBlock_0 rfl rfl ?_
  refine ts_get pTS_F19 dTS_writeImageBlock_1 rfl rfl ?_
  refine ts_callV (cIX_count G T S) pTS_C130.1 pTS_C130.2 rfl rfl rfl rfl ⟨Nat.le_of_ble_eq_true rfl, Nat.le_of_ble_eq_true rfl⟩ ⟨Nat.le_of_ble_eq_true rfl, Nat.le_of_ble_eq_true rfl⟩ rfl (Nat.le_of_ble_eq_true rfl) dTS_writeImageBlock_4 ?_
  refine ts_conv (lo' := [.ref 1]) (st' := [.int (tc_count S)]) (h' := tc_h G S ++ T) rfl rfl rfl ?_
  refine ts_istore_n (lo' := [.ref 1, .int (tc_count S)]) dTS_writeImageBlock_7 rfl (Nat.le_of_ble_eq_true rfl) (Nat.le_of_ble_eq_true rfl) rfl ?_
  refine ts_iload_n dTS_writeImageBlock_8 rfl rfl ?_
  refine ts_aload_n dTS_writeImageBlock_9 rfl rfl ?_
  refine ts_get pTS_F114 dTS_writeImageBlock_10 rfl rfl ?_
  refine ts_iconst (v := 4) dTS_writeImageBlock_13 (by decide) ?_
  refine ts_iadd dTS_writeImageBlock_14 ?_
  refine ts_min pTS_L47 tn_min_s tn_math tn_min_c (Nat.le_of_ble_eq_true rfl) (Nat.le_of_ble_eq_true rfl) ⟨Nat.le_of_ble_eq_true rfl, Nat.le_of_ble_eq_true rfl⟩ dTS_writeImageBlock_15 ?_
  obtain ⟨v15, g15⟩ : ∃ v : Int32, v = tc_min (tc_count S) ((S.1 10) + 4) := ⟨_, rfl⟩
  refine ts_conv (lo' := [.ref 1, .int (tc_count S)]) (st' := [.int v15]) (h' := tc_h G S ++ T) rfl (by subst g15; rfl) rfl ?_
  refine ts_istore_n (lo' := [.ref 1, .int (tc_count S), .int v15]) dTS_writeImageBlock_18 rfl (Nat.le_of_ble_eq_true rfl) (Nat.le_of_ble_eq_true rfl) rfl ?_
  refine ts_aload_n dTS_writeImageBlock_19 rfl rfl ?_
  refine ts_get pTS_F114 dTS_writeImageBlock_20 rfl rfl ?_
  refine ts_istore_n (lo' := [.ref 1, .int (tc_count S), .int v15, .int (S.1 10)]) dTS_writeImageBlock_23 rfl (Nat.le_of_ble_eq_true rfl) (Nat.le_of_ble_eq_true rfl) rfl ?_
  subst g15
  refine cTS_writeImageBlock_loop G T (tc_count S) (tc_min (tc_count S) (S.1 10 + 4)) (tc_min16 hI) X _ 16 S (S.1 10) (tc_bi0 hI) (tc_bi16 hI) (fun k9 => ?_)
  refine ts_aload_n dTS_writeImageBlock_56 rfl rfl ?_
  refine ts_iload_n dTS_writeImageBlock_57 rfl rfl ?_
  refine ts_put pTS_P114 dTS_writeImageBlock_58 rfl (Nat.le_of_ble_eq_true rfl) rfl rfl (h' := tc_h G (tc_f (tc_copyGo 16 S (S.1 10) (tc_min (tc_count S) (S.1 10 + 4))) 10 (tc_min (tc_count S) (S.1 10 + 4))) ++ T) (th_f10 _ _ _ _) ?_
  refine ts_aload_n dTS_writeImageBlock_61 rfl rfl ?_
  refine ts_get pTS_F114 dTS_writeImageBlock_62 rfl rfl ?_
  refine ts_iload_n dTS_writeImageBlock_65 rfl rfl ?_
  refine ts_icmp_lt (tgt := 74) dTS_writeImageBlock_66 rfl (fun (h66 : (tc_min (tc_count S) (S.1 10 + 4)) < (tc_count S)) => ?_) (fun (h66 : ¬ (tc_min (tc_count S) (S.1 10 + 4)) < (tc_count S)) => ?_)
  · refine ts_aload_n dTS_writeImageBlock_74 rfl rfl ?_
    refine ts_get pTS_F12 dTS_writeImageBlock_75 rfl rfl ?_
    refine ts_callV (cMA_writeBlock G T (tc_f (tc_copyGo 16 S (S.1 10) (tc_min (tc_count S) (S.1 10 + 4))) 10 (tc_min (tc_count S) (S.1 10 + 4)))) pTS_C197.1 pTS_C197.2 rfl rfl rfl rfl ⟨Nat.le_of_ble_eq_true rfl, Nat.le_of_ble_eq_true rfl⟩ ⟨Nat.le_of_ble_eq_true rfl, Nat.le_of_ble_eq_true rfl⟩ rfl (Nat.le_of_ble_eq_true rfl) dTS_writeImageBlock_78 ?_
    refine ts_conv (lo' := [.ref 1, .int (tc_count S), .int (tc_min (tc_count S) (S.1 10 + 4)), .int k9]) (st' := [.int ((tc_writeBlock (tc_f (tc_copyGo 16 S (S.1 10) (tc_min (tc_count S) (S.1 10 + 4))) 10 (tc_min (tc_count S) (S.1 10 + 4)))).1)]) (h' := tc_h G ((tc_writeBlock (tc_f (tc_copyGo 16 S (S.1 10) (tc_min (tc_count S) (S.1 10 + 4))) 10 (tc_min (tc_count S) (S.1 10 + 4)))).2) ++ T) rfl rfl rfl ?_
    have e9 : tc_writeImage S = tc_writeBlock (tc_f (tc_copyGo 16 S (S.1 10) (tc_min (tc_count S) (S.1 10 + 4))) 10 (tc_min (tc_count S) (S.1 10 + 4))) := by simp only [tc_writeImage, tc_image1, h66, ↓reduceIte]
    rw [e9]
    exact ts_zret dTS_writeImageBlock_81 rfl (tc_wb_bit _) rfl rfl
  · refine ts_aload_n dTS_writeImageBlock_69 rfl rfl ?_
    refine ts_iconst (v := 2) dTS_writeImageBlock_70 (by decide) ?_
    refine ts_put pTS_P44 dTS_writeImageBlock_71 rfl (Nat.le_of_ble_eq_true rfl) rfl rfl (h' := tc_h G (tc_f (tc_f (tc_copyGo 16 S (S.1 10) (tc_min (tc_count S) (S.1 10 + 4))) 10 (tc_min (tc_count S) (S.1 10 + 4))) 9 2) ++ T) (th_f9 _ _ _ _) ?_
    refine ts_aload_n dTS_writeImageBlock_74 rfl rfl ?_
    refine ts_get pTS_F12 dTS_writeImageBlock_75 rfl rfl ?_
    refine ts_callV (cMA_writeBlock G T (tc_f (tc_f (tc_copyGo 16 S (S.1 10) (tc_min (tc_count S) (S.1 10 + 4))) 10 (tc_min (tc_count S) (S.1 10 + 4))) 9 2)) pTS_C197.1 pTS_C197.2 rfl rfl rfl rfl ⟨Nat.le_of_ble_eq_true rfl, Nat.le_of_ble_eq_true rfl⟩ ⟨Nat.le_of_ble_eq_true rfl, Nat.le_of_ble_eq_true rfl⟩ rfl (Nat.le_of_ble_eq_true rfl) dTS_writeImageBlock_78 ?_
    refine ts_conv (lo' := [.ref 1, .int (tc_count S), .int (tc_min (tc_count S) (S.1 10 + 4)), .int k9]) (st' := [.int ((tc_writeBlock (tc_f (tc_f (tc_copyGo 16 S (S.1 10) (tc_min (tc_count S) (S.1 10 + 4))) 10 (tc_min (tc_count S) (S.1 10 + 4))) 9 2)).1)]) (h' := tc_h G ((tc_writeBlock (tc_f (tc_f (tc_copyGo 16 S (S.1 10) (tc_min (tc_count S) (S.1 10 + 4))) 10 (tc_min (tc_count S) (S.1 10 + 4))) 9 2)).2) ++ T) rfl rfl rfl ?_
    have e9 : tc_writeImage S = tc_writeBlock (tc_f (tc_f (tc_copyGo 16 S (S.1 10) (tc_min (tc_count S) (S.1 10 + 4))) 10 (tc_min (tc_count S) (S.1 10 + 4))) 9 2) := by simp only [tc_writeImage, tc_image1, h66, ↓reduceIte]
    rw [e9]
    exact ts_zret dTS_writeImageBlock_81 rfl (tc_wb_bit _) rfl rfl
