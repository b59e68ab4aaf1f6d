set_option maxHeartbeats 4000000 in
set_option maxRecDepth 100000 in
theorem cMO_bucket (G : ts_GX) (S : tc_S) (M : tc_S) (k : Int32) (hJ : tj M) : ts_M G yMO_bucket YMO_bucket [.ref 17, .int k] (tc_h G S ++ tm_h G M) (some (.int (tc_bucket M k))) (tc_h G S ++ tm_h G M) 0 0 := by
  refine ts_of rfl rfl rfl rfl rfl rfl (Nat.le_of_ble_eq_true rfl) (ts_cat1 rfl) (fun X => ?_)
  refine ts_aload_n dMO_bucket_0 rfl rfl ?_
  refine ts_get pMO_F100 dMO_bucket_1 rfl rfl ?_
  refine ts_if_eq (tgt := 10) dMO_bucket_4 rfl (fun (h4 : (M.1 12) = 0) => ?_) (fun (h4 : ¬ (M.1 12) = 0) => ?_)
  · refine ts_iload_n dMO_bucket_10 rfl rfl ?_
    refine ts_if_lt (tgt := 22) dMO_bucket_11 rfl (fun (h11 : k < 0) => ?_) (fun (h11 : ¬ k < 0) => ?_)
    · refine ts_iconst (v := -1) dMO_bucket_22 (by decide) ?_
      refine ts_goto (tgt := 32) dMO_bucket_23 rfl ?_
      have e : tc_bucket M k = (-1) := by simp only [tc_bucket, h4, h11, ↓reduceIte]
      exact ts_iret dMO_bucket_32 rfl (tc_e1v e) rfl
    · refine ts_iload_n dMO_bucket_14 rfl rfl ?_
      refine ts_aload_n dMO_bucket_15 rfl rfl ?_
      refine ts_callV (cMO_bucketCount G S M) pMO_C145.1 pMO_C145.2 rfl rfl rfl rfl ⟨Nat.le_of_ble_eq_true rfl, Nat.le_of_ble_eq_true rfl⟩ ⟨Nat.le_of_ble_eq_true rfl, Nat.le_of_ble_eq_true rfl⟩ rfl (Nat.le_of_ble_eq_true rfl) dMO_bucket_16 ?_
      refine ts_conv (lo' := [.ref 17, .int k]) (st' := [.int (tc_count M), .int k]) (h' := tc_h G S ++ tm_h G M) rfl rfl rfl ?_
      refine ts_icmp_lt (tgt := 26) dMO_bucket_19 rfl (fun (h19 : k < (tc_count M)) => ?_) (fun (h19 : ¬ k < (tc_count M)) => ?_)
      · refine ts_aload_n dMO_bucket_26 rfl rfl ?_
        refine ts_get pMO_F26 dMO_bucket_27 rfl rfl ?_
        refine ts_iload_n dMO_bucket_30 rfl rfl ?_
        refine ts_iald dMO_bucket_31 rfl (tc_inIx hJ h11 h19) ?_
        have e : tc_bucket M k = tc_r M 0 k := by simp only [tc_bucket, h4, h11, h19, ↓reduceIte]
        exact ts_iret dMO_bucket_32 rfl (tc_e1v e) rfl
      · refine ts_iconst (v := -1) dMO_bucket_22 (by decide) ?_
        refine ts_goto (tgt := 32) dMO_bucket_23 rfl ?_
        have e : tc_bucket M k = (-1) := by simp only [tc_bucket, h4, h11, h19, ↓reduceIte]
        exact ts_iret dMO_bucket_32 rfl (tc_e1v e) rfl
  · refine ts_bipush (v := -9) dMO_bucket_7 (by decide) ?_
    have e : tc_bucket M k = (-9) := by simp only [tc_bucket, h4, ↓reduceIte]
    exact ts_iret dMO_bucket_9 rfl (tc_e1v e) rfl
set_option maxHeartbeats 4000000 in
set_option maxRecDepth 100000 in
theorem cMO_living_loop (G : ts_GX) (S : tc_S) (M : tc_S) (hJ : tj M) (X : ts_VX) : ∀ (n : Nat) (c : Int32), n ≤ 32 → ts_V G X YMO_living (ts_QX G X (some (.int (tc_keysGo M n (nI (32 - n)) c))) (tc_h G S ++ tm_h G M) 0 0) 0 0 4 [.ref 17, .int c, .int (nI (32 - n))] [] (tc_h G S ++ tm_h G M) := by
  intro n
  induction n with
  | zero =>
    intro c hn
    refine ts_iload_n dMO_living_4 rfl rfl ?_
    refine ts_bipush (v := 32) dMO_living_5 (by decide) ?_
    refine ts_icmp_ge (tgt := 44) dMO_living_7 rfl (fun _ => ?_) (fun (hq : ¬ 32 ≤ (nI (32 - 0))) => absurd (by decide) hq)
    refine ts_iload_n dMO_living_44 rfl rfl ?_
    exact ts_iret dMO_living_45 rfl rfl rfl
  | succ n ih =>
    intro c hn
    refine ts_iload_n dMO_living_4 rfl rfl ?_
    refine ts_bipush (v := 32) dMO_living_5 (by decide) ?_
    refine ts_icmp_ge (tgt := 44) dMO_living_7 rfl (fun (hq : 32 ≤ (nI (32 - (n + 1)))) => absurd hq (tc_nge (k := 32) (by omega) (by omega))) (fun _ => ?_)
    refine ts_aload_n dMO_living_10 rfl rfl ?_
    refine ts_iload_n dMO_living_11 rfl rfl ?_
    refine ts_iconst (v := 0) dMO_living_12 (by decide) ?_
    refine ts_callV (cMO_find G S M (nI (32 - (n + 1))) 0 hJ (tc_keyN (by omega))) pMO_C125.1 pMO_C125.2 rfl rfl rfl rfl ⟨Nat.le_of_ble_eq_true rfl, Nat.le_of_ble_eq_true rfl⟩ ⟨Nat.le_of_ble_eq_true rfl, Nat.le_of_ble_eq_true rfl⟩ rfl (Nat.le_of_ble_eq_true rfl) dMO_living_13 ?_
    refine ts_conv (lo' := [.ref 17, .int c, .int (nI (32 - (n + 1)))]) (st' := [.int ((tc_find0 M (nI (32 - (n + 1))) 0).1)]) (h' := tc_h G S ++ tm_h G M) rfl rfl (by rw [tc_find_same]) ?_
    refine ts_istore_n (lo' := [.ref 17, .int c, .int (nI (32 - (n + 1))), .int ((tc_find0 M (nI (32 - (n + 1))) 0).1)]) dMO_living_16 rfl (Nat.le_of_ble_eq_true rfl) (Nat.le_of_ble_eq_true rfl) rfl ?_
    refine ts_iload_n dMO_living_17 rfl rfl ?_
    obtain ⟨v18, g18⟩ : ∃ v : Int32, v = if (tc_find0 M (nI (32 - (n + 1))) 0).1 < 0 then c else if tc_r M 5 (tc_find0 M (nI (32 - (n + 1))) 0).1 = 0 then c + 1 else c := ⟨_, rfl⟩
    refine ts_join (j := 37) (lo' := [.ref 17, .int c, .int (nI (32 - (n + 1))), .int ((tc_find0 M (nI (32 - (n + 1))) 0).1)]) (st' := [.int v18]) (h' := tc_h G S ++ tm_h G M) (fun K => ?_) ?_
    · refine ts_if_lt (tgt := 36) dMO_living_18 rfl (fun (h18 : ((tc_find0 M (nI (32 - (n + 1))) 0).1) < 0) => ?_) (fun (h18 : ¬ ((tc_find0 M (nI (32 - (n + 1))) 0).1) < 0) => ?_)
      · refine ts_iload_n dMO_living_36 rfl rfl ?_
        exact ts_conv rfl (by rw [g18]; exact congrArg (fun z : Int32 => (Value.int z :: [] : List Value)) (show c = if (tc_find0 M (nI (32 - (n + 1))) 0).1 < 0 then c else if tc_r M 5 (tc_find0 M (nI (32 - (n + 1))) 0).1 = 0 then c + 1 else c by simp only [ite_self, h18, ↓reduceIte])) rfl K
      · refine ts_aload_n dMO_living_21 rfl rfl ?_
        refine ts_get pMO_F22 dMO_living_22 rfl rfl ?_
        refine ts_iload_n dMO_living_25 rfl rfl ?_
        refine ts_zald dMO_living_26 rfl (tm_find_in hJ (tc_keyN (by omega)) h18) ?_
        refine ts_if_ne (tgt := 36) dMO_living_27 rfl (fun (h27 : ¬ (tc_r M 5 ((tc_find0 M (nI (32 - (n + 1))) 0).1)) = 0) => ?_) (fun (h27 : (tc_r M 5 ((tc_find0 M (nI (32 - (n + 1))) 0).1)) = 0) => ?_)
        · refine ts_iload_n dMO_living_36 rfl rfl ?_
          exact ts_conv rfl (by rw [g18]; exact congrArg (fun z : Int32 => (Value.int z :: [] : List Value)) (show c = if (tc_find0 M (nI (32 - (n + 1))) 0).1 < 0 then c else if tc_r M 5 (tc_find0 M (nI (32 - (n + 1))) 0).1 = 0 then c + 1 else c by simp only [ite_self, h18, h27, ↓reduceIte])) rfl K
        · refine ts_iload_n dMO_living_30 rfl rfl ?_
          refine ts_iconst (v := 1) dMO_living_31 (by decide) ?_
          refine ts_iadd dMO_living_32 ?_
          refine ts_goto (tgt := 37) dMO_living_33 rfl ?_
          exact ts_conv rfl (by rw [g18]; exact congrArg (fun z : Int32 => (Value.int z :: [] : List Value)) (show c + 1 = if (tc_find0 M (nI (32 - (n + 1))) 0).1 < 0 then c else if tc_r M 5 (tc_find0 M (nI (32 - (n + 1))) 0).1 = 0 then c + 1 else c by simp only [ite_self, h18, h27, ↓reduceIte])) rfl K
    refine ts_istore_n (lo' := [.ref 17, .int v18, .int (nI (32 - (n + 1))), .int ((tc_find0 M (nI (32 - (n + 1))) 0).1)]) dMO_living_37 rfl (Nat.le_of_ble_eq_true rfl) (Nat.le_of_ble_eq_true rfl) rfl ?_
    refine ts_iinc (v := nI (32 - n)) (lo' := [.ref 17, .int v18, .int (nI (32 - n)), .int ((tc_find0 M (nI (32 - (n + 1))) 0).1)]) dMO_living_38 rfl (tc_up (by omega)) (Nat.le_of_ble_eq_true rfl) rfl ?_
    refine ts_goto (tgt := 4) dMO_living_41 rfl ?_
    subst g18
    refine ts_less 3 rfl ?_
    have e : tc_keysGo M (n + 1) (nI (32 - (n + 1))) c = tc_keysGo M n (nI (32 - n)) (if (tc_find0 M (nI (32 - (n + 1))) 0).1 < 0 then c else if tc_r M 5 (tc_find0 M (nI (32 - (n + 1))) 0).1 = 0 then c + 1 else c) := by simp only [tc_keysGo, tc_up32 hn]; rw [← tm_hv_eq (M := M) (a := (tc_find0 M (nI (32 - (n + 1))) 0).1) (tm_find_o hJ (tc_keyN (by omega)))]; simp only [tm_hv]; (repeat' split) <;> first | rfl | (exfalso; contradiction)
    rw [e]
    exact ih _ (by omega)
set_option maxHeartbeats 4000000 in
set_option maxRecDepth 100000 in
theorem cMO_living (G : ts_GX) (S : tc_S) (M : tc_S) (hJ : tj M) : ts_M G yMO_living YMO_living [.ref 17] (tc_h G S ++ tm_h G M) (some (.int (tc_keys M))) (tc_h G S ++ tm_h G M) 0 0 := by
  refine ts_of rfl rfl rfl rfl rfl rfl (Nat.le_of_ble_eq_true rfl) (ts_cat1 rfl) (fun X => ?_)
  refine ts_iconst (v := 0) dMO_living_0 (by decide) ?_
  refine ts_istore_n (lo' := [.ref 17, .int 0]) dMO_living_1 rfl (Nat.le_of_ble_eq_true rfl) (Nat.le_of_ble_eq_true rfl) rfl ?_
  refine ts_iconst (v := 0) dMO_living_2 (by decide) ?_
  refine ts_istore_n (lo' := [.ref 17, .int 0, .int 0]) dMO_living_3 rfl (Nat.le_of_ble_eq_true rfl) (Nat.le_of_ble_eq_true rfl) rfl ?_
  exact cMO_living_loop G S M hJ X 32 0 (Nat.le_refl _)
