set_option maxHeartbeats 4000000 in
set_option maxRecDepth 100000 in
theorem cMO_find_loop (G : ts_GX) (S : tc_S) (M : tc_S) (key cnt : Int32) (hJ : tj M) (X : ts_VX) : ∀ (n : Nat) (a r : Int32), a.toInt < (n : Nat) → a.toInt < (M.1 6).toInt → ts_V G X YMO_find (ts_QX G X (some (.int (tc_findGo M key cnt n a r).1)) (tc_h G S ++ tm_h G (tc_f M 15 (tc_findGo M key cnt n a r).2)) 0 0) 0 0 11 [.ref 17, .int key, .int cnt, .int a] [] (tc_h G S ++ tm_h G (tc_f M 15 r)) := by
  intro n
  induction n with
  | zero =>
    intro a r hn ha
    refine ts_iload_n dMO_find_11 rfl rfl ?_
    refine ts_aload_n dMO_find_12 rfl rfl ?_
    refine ts_get pMO_F63 dMO_find_13 rfl rfl ?_
    refine ts_icmp_lt (tgt := 74) dMO_find_16 rfl (fun _ => ?_) (fun (hq : ¬ a < (M.1 2)) => absurd (tm_findZ hJ hn) hq)
    refine ts_iconst (v := -1) dMO_find_74 (by decide) ?_
    exact ts_iret dMO_find_75 rfl rfl rfl
  | succ n ih =>
    intro a r hn ha
    refine ts_iload_n dMO_find_11 rfl rfl ?_
    refine ts_aload_n dMO_find_12 rfl rfl ?_
    refine ts_get pMO_F63 dMO_find_13 rfl rfl ?_
    refine ts_icmp_lt (tgt := 74) dMO_find_16 rfl (fun (h16 : a < (M.1 2)) => ?_) (fun (h16 : ¬ a < (M.1 2)) => ?_)
    · refine ts_iconst (v := -1) dMO_find_74 (by decide) ?_
      have e : tc_findGo M key cnt (n + 1) a r = ((-1), r) := by simp only [tc_findGo, h16, ↓reduceIte]
      exact ts_iret dMO_find_75 rfl (tc_e1 e) (tm_e4 e)
    · refine ts_iload_n dMO_find_19 rfl rfl ?_
      refine ts_if_lt (tgt := 74) dMO_find_20 rfl (fun (hq : a < 0) => absurd hq (tm_nn hJ h16)) (fun _ => ?_)
      refine ts_aload_n dMO_find_23 rfl rfl ?_
      refine ts_iload_n dMO_find_24 rfl rfl ?_
      obtain ⟨v25, g25⟩ : ∃ v : Int32, v = if cnt = 0 then r else if M.1 3 ≤ a then r else r + 1 := ⟨_, rfl⟩
      refine ts_join (j := 49) (lo' := [.ref 17, .int key, .int cnt, .int a]) (st' := [.int v25, .ref 17]) (h' := tc_h G S ++ tm_h G (tc_f M 15 r)) (fun K => ?_) ?_
      · refine ts_if_eq (tgt := 45) dMO_find_25 rfl (fun (h25 : cnt = 0) => ?_) (fun (h25 : ¬ cnt = 0) => ?_)
        · refine ts_aload_n dMO_find_45 rfl rfl ?_
          refine ts_get pMO_F91 dMO_find_46 rfl rfl ?_
          exact ts_conv rfl (by rw [g25]; exact congrArg (fun z : Int32 => (Value.int z :: [.ref 17] : List Value)) (show r = if cnt = 0 then r else if M.1 3 ≤ a then r else r + 1 by simp only [ite_self, h16, h25, ↓reduceIte])) rfl K
        · refine ts_iload_n dMO_find_28 rfl rfl ?_
          refine ts_aload_n dMO_find_29 rfl rfl ?_
          refine ts_get pMO_F66 dMO_find_30 rfl rfl ?_
          refine ts_icmp_ge (tgt := 45) dMO_find_33 rfl (fun (h33 : (M.1 3) ≤ a) => ?_) (fun (h33 : ¬ (M.1 3) ≤ a) => ?_)
          · refine ts_aload_n dMO_find_45 rfl rfl ?_
            refine ts_get pMO_F91 dMO_find_46 rfl rfl ?_
            exact ts_conv rfl (by rw [g25]; exact congrArg (fun z : Int32 => (Value.int z :: [.ref 17] : List Value)) (show r = if cnt = 0 then r else if M.1 3 ≤ a then r else r + 1 by simp only [ite_self, h16, h25, h33, ↓reduceIte])) rfl K
          · refine ts_aload_n dMO_find_36 rfl rfl ?_
            refine ts_get pMO_F91 dMO_find_37 rfl rfl ?_
            refine ts_iconst (v := 1) dMO_find_40 (by decide) ?_
            refine ts_iadd dMO_find_41 ?_
            refine ts_goto (tgt := 49) dMO_find_42 rfl ?_
            exact ts_conv rfl (by rw [g25]; exact congrArg (fun z : Int32 => (Value.int z :: [.ref 17] : List Value)) (show r + 1 = if cnt = 0 then r else if M.1 3 ≤ a then r else r + 1 by simp only [ite_self, h16, h25, h33, ↓reduceIte])) rfl K
      refine ts_put pMO_P91 dMO_find_49 rfl (Nat.le_of_ble_eq_true rfl) rfl rfl (h' := tc_h G S ++ tm_h G (tc_f M 15 v25)) ((tn_f15 _ _ _ _).trans (congrArg (fun z => tc_h G S ++ tm_h G z) (tc_ff _ _ _ _))) ?_
      refine ts_aload_n dMO_find_52 rfl rfl ?_
      refine ts_get pMO_F7 dMO_find_53 rfl rfl ?_
      refine ts_iload_n dMO_find_56 rfl rfl ?_
      refine ts_iald dMO_find_57 rfl (tc_inB hJ ha h16) ?_
      refine ts_iload_n dMO_find_58 rfl rfl ?_
      refine ts_icmp_ne (tgt := 64) dMO_find_59 rfl (fun (h59 : ¬ (tc_r M 1 a) = key) => ?_) (fun (h59 : (tc_r M 1 a) = key) => ?_)
      · refine ts_aload_n dMO_find_64 rfl rfl ?_
        refine ts_get pMO_F16 dMO_find_65 rfl rfl ?_
        refine ts_iload_n dMO_find_68 rfl rfl ?_
        refine ts_iald dMO_find_69 rfl (tc_inB hJ ha h16) ?_
        refine ts_istore_n (lo' := [.ref 17, .int key, .int cnt, .int (tc_r M 3 a)]) dMO_find_70 rfl (Nat.le_of_ble_eq_true rfl) (Nat.le_of_ble_eq_true rfl) rfl ?_
        refine ts_goto (tgt := 11) dMO_find_71 rfl ?_
        subst g25
        have e : tc_findGo M key cnt (n + 1) a r = tc_findGo M key cnt n (tc_r M 3 a) (if cnt = 0 then r else if M.1 3 ≤ a then r else r + 1) := by simp only [tc_findGo, h16, h59, ↓reduceIte]
        rw [e]
        exact ih _ _ (tm_findN hJ ha h16 hn) (tc_prevT hJ ha h16)
      · refine ts_iload_n dMO_find_62 rfl rfl ?_
        subst g25
        have e : tc_findGo M key cnt (n + 1) a r = (a, (if cnt = 0 then r else if M.1 3 ≤ a then r else r + 1)) := by simp only [tc_findGo, h16, h59, ↓reduceIte]
        exact ts_iret dMO_find_63 rfl (tc_e1 e) (tm_e4 e)
set_option maxHeartbeats 4000000 in
set_option maxRecDepth 100000 in
theorem cMO_find (G : ts_GX) (S : tc_S) (M : tc_S) (key cnt : Int32) (hJ : tj M) (hk : tc_key key) : ts_M G yMO_find YMO_find [.ref 17, .int key, .int cnt] (tc_h G S ++ tm_h G M) (some (.int (tc_find M key cnt).1)) (tc_h G S ++ tm_h G ((tc_find M key cnt).2)) 0 0 := by
  refine ts_of rfl rfl rfl rfl rfl rfl (Nat.le_of_ble_eq_true rfl) (ts_cat1 rfl) (fun X => ?_)
  refine ts_aload_n dMO_find_0 rfl rfl ?_
  refine ts_get pMO_F26 dMO_find_1 rfl rfl ?_
  refine ts_aload_n dMO_find_4 rfl rfl ?_
  refine ts_iload_n dMO_find_5 rfl rfl ?_
  refine ts_callV (cMO_bucketOf G S M key hJ) pMO_C87.1 pMO_C87.2 rfl rfl rfl rfl ⟨Nat.le_of_ble_eq_true rfl, Nat.le_of_ble_eq_true rfl⟩ ⟨Nat.le_of_ble_eq_true rfl, Nat.le_of_ble_eq_true rfl⟩ rfl (Nat.le_of_ble_eq_true rfl) dMO_find_6 ?_
  refine ts_conv (lo' := [.ref 17, .int key, .int cnt]) (st' := [.int (tc_bucketOf M key), .ref 23]) (h' := tc_h G S ++ tm_h G M) rfl rfl rfl ?_
  refine ts_iald dMO_find_9 rfl (tc_inBucket (S := M) hJ hk) ?_
  refine ts_istore_n (lo' := [.ref 17, .int key, .int cnt, .int (tc_r M 0 (tc_bucketOf M key))]) dMO_find_10 rfl (Nat.le_of_ble_eq_true rfl) (Nat.le_of_ble_eq_true rfl) rfl ?_
  exact cMO_find_loop G S M key cnt hJ X 400 _ _ (tm_bk hJ hk) (tc_bk hJ hk)
