set_option maxHeartbeats 4000000 in
set_option maxRecDepth 100000 in
theorem cTS_find_loop (G : ts_GX) (T : List va_E) (S : tc_S) (key cnt : Int32) (hI : tj S) (X : ts_VX) : ∀ (n : Nat) (a r : Int32), n ≤ 400 → a.toInt < (S.1 6).toInt → ts_V G X YTS_find (ts_QX G X (some (.int (tc_findGo S key cnt n a r).1)) (tc_h G (tc_f S 15 (tc_findGo S key cnt n a r).2) ++ T) 0 0) 0 0 20 [.ref 1, .int key, .int cnt, .int a, .int (nI (400 - n))] [] (tc_h G (tc_f S 15 r) ++ T) := by
  intro n
  induction n with
  | zero =>
    intro a r hn ha
    refine ts_iload dTS_find_20 rfl ?_
    refine ts_sipush (v := 400) dTS_find_22 (by decide) ?_
    refine ts_icmp_ge (tgt := 92) dTS_find_25 rfl (fun _ => ?_) (fun hq => absurd (by decide) hq)
    refine ts_iconst (v := -1) dTS_find_92 (by decide) ?_
    exact ts_iret dTS_find_93 rfl rfl rfl
  | succ n ih =>
    intro a r hn ha
    refine ts_iload dTS_find_20 rfl ?_
    refine ts_sipush (v := 400) dTS_find_22 (by decide) ?_
    refine ts_icmp_ge (tgt := 92) dTS_find_25 rfl (fun hq => absurd hq (tc_nge (k := 400) (by omega) (by omega))) (fun _ => ?_)
    refine ts_iload_n dTS_find_28 rfl rfl ?_
    refine ts_aload_n dTS_find_29 rfl rfl ?_
    refine ts_get pTS_F95 dTS_find_30 rfl rfl ?_
    refine ts_icmp_lt (tgt := 92) dTS_find_33 rfl (fun (h33 : a < (S.1 2)) => ?_) (fun (h33 : ¬ a < (S.1 2)) => ?_)
    · refine ts_iconst (v := -1) dTS_find_92 (by decide) ?_
      have e : tc_findGo S key cnt (n + 1) a r = ((-1), r) := by simp only [tc_findGo, h33, ↓reduceIte]
      exact ts_iret dTS_find_93 rfl (tc_e1 e) (tc_e4 e)
    · refine ts_iload_n dTS_find_36 rfl rfl ?_
      refine ts_if_eq (tgt := 61) dTS_find_37 rfl (fun (h37 : cnt = 0) => ?_) (fun (h37 : ¬ cnt = 0) => ?_)
      · refine ts_aload_n dTS_find_61 rfl rfl ?_
        refine ts_get pTS_F26 dTS_find_62 rfl rfl ?_
        refine ts_get pTS_F147 dTS_find_65 rfl rfl ?_
        refine ts_iload_n dTS_find_68 rfl rfl ?_
        refine ts_iald dTS_find_69 rfl (tc_inB hI ha h33) ?_
        refine ts_iload_n dTS_find_70 rfl rfl ?_
        refine ts_icmp_ne (tgt := 76) dTS_find_71 rfl (fun (h71 : ¬ (tc_r S 1 a) = key) => ?_) (fun (h71 : (tc_r S 1 a) = key) => ?_)
        · refine ts_aload_n dTS_find_76 rfl rfl ?_
          refine ts_get pTS_F26 dTS_find_77 rfl rfl ?_
          refine ts_get pTS_F166 dTS_find_80 rfl rfl ?_
          refine ts_iload_n dTS_find_83 rfl rfl ?_
          refine ts_iald dTS_find_84 rfl (tc_inB hI ha h33) ?_
          refine ts_istore_n (lo' := [.ref 1, .int key, .int cnt, .int (tc_r S 3 a), .int (nI (400 - (n + 1)))]) dTS_find_85 rfl (Nat.le_of_ble_eq_true rfl) (Nat.le_of_ble_eq_true rfl) rfl ?_
          refine ts_iinc (v := nI (400 - n)) (lo' := [.ref 1, .int key, .int cnt, .int (tc_r S 3 a), .int (nI (400 - n))]) dTS_find_86 rfl (tc_up (by omega)) (Nat.le_of_ble_eq_true rfl) rfl ?_
          refine ts_goto (tgt := 20) dTS_find_89 rfl ?_
          have e : tc_findGo S key cnt (n + 1) a r = tc_findGo S key cnt n (tc_r S 3 a) r := by simp only [tc_findGo, h33, h37, h71, ↓reduceIte]
          rw [e]
          exact ih _ _ (by omega) (tc_prevT hI ha h33)
        · refine ts_iload_n dTS_find_74 rfl rfl ?_
          have e : tc_findGo S key cnt (n + 1) a r = (a, r) := by simp only [tc_findGo, h33, h37, h71, ↓reduceIte]
          exact ts_iret dTS_find_75 rfl (tc_e1 e) (tc_e4 e)
      · refine ts_iload_n dTS_find_40 rfl rfl ?_
        refine ts_aload_n dTS_find_41 rfl rfl ?_
        refine ts_get pTS_F91 dTS_find_42 rfl rfl ?_
        refine ts_icmp_ge (tgt := 61) dTS_find_45 rfl (fun (h45 : (S.1 3) ≤ a) => ?_) (fun (h45 : ¬ (S.1 3) ≤ a) => ?_)
        · refine ts_aload_n dTS_find_61 rfl rfl ?_
          refine ts_get pTS_F26 dTS_find_62 rfl rfl ?_
          refine ts_get pTS_F147 dTS_find_65 rfl rfl ?_
          refine ts_iload_n dTS_find_68 rfl rfl ?_
          refine ts_iald dTS_find_69 rfl (tc_inB hI ha h33) ?_
          refine ts_iload_n dTS_find_70 rfl rfl ?_
          refine ts_icmp_ne (tgt := 76) dTS_find_71 rfl (fun (h71 : ¬ (tc_r S 1 a) = key) => ?_) (fun (h71 : (tc_r S 1 a) = key) => ?_)
          · refine ts_aload_n dTS_find_76 rfl rfl ?_
            refine ts_get pTS_F26 dTS_find_77 rfl rfl ?_
            refine ts_get pTS_F166 dTS_find_80 rfl rfl ?_
            refine ts_iload_n dTS_find_83 rfl rfl ?_
            refine ts_iald dTS_find_84 rfl (tc_inB hI ha h33) ?_
            refine ts_istore_n (lo' := [.ref 1, .int key, .int cnt, .int (tc_r S 3 a), .int (nI (400 - (n + 1)))]) dTS_find_85 rfl (Nat.le_of_ble_eq_true rfl) (Nat.le_of_ble_eq_true rfl) rfl ?_
            refine ts_iinc (v := nI (400 - n)) (lo' := [.ref 1, .int key, .int cnt, .int (tc_r S 3 a), .int (nI (400 - n))]) dTS_find_86 rfl (tc_up (by omega)) (Nat.le_of_ble_eq_true rfl) rfl ?_
            refine ts_goto (tgt := 20) dTS_find_89 rfl ?_
            have e : tc_findGo S key cnt (n + 1) a r = tc_findGo S key cnt n (tc_r S 3 a) r := by simp only [tc_findGo, h33, h37, h45, h71, ↓reduceIte]
            rw [e]
            exact ih _ _ (by omega) (tc_prevT hI ha h33)
          · refine ts_iload_n dTS_find_74 rfl rfl ?_
            have e : tc_findGo S key cnt (n + 1) a r = (a, r) := by simp only [tc_findGo, h33, h37, h45, h71, ↓reduceIte]
            exact ts_iret dTS_find_75 rfl (tc_e1 e) (tc_e4 e)
        · refine ts_aload_n dTS_find_48 rfl rfl ?_
          refine ts_get pTS_F12 dTS_find_49 rfl rfl ?_
          refine ts_dup dTS_find_52 rfl ?_
          refine ts_get pTS_F141 dTS_find_53 rfl rfl ?_
          refine ts_iconst (v := 1) dTS_find_56 (by decide) ?_
          refine ts_iadd dTS_find_57 ?_
          refine ts_put pTS_P141 dTS_find_58 rfl (Nat.le_of_ble_eq_true rfl) rfl rfl (h' := tc_h G (tc_f S 15 (r + 1)) ++ T) ((th_f15 _ _ _ _).trans (congrArg (fun z => tc_h G z ++ T) (tc_ff _ _ _ _))) ?_
          refine ts_aload_n dTS_find_61 rfl rfl ?_
          refine ts_get pTS_F26 dTS_find_62 rfl rfl ?_
          refine ts_get pTS_F147 dTS_find_65 rfl rfl ?_
          refine ts_iload_n dTS_find_68 rfl rfl ?_
          refine ts_iald dTS_find_69 rfl (tc_inB hI ha h33) ?_
          refine ts_iload_n dTS_find_70 rfl rfl ?_
          refine ts_icmp_ne (tgt := 76) dTS_find_71 rfl (fun (h71 : ¬ (tc_r S 1 a) = key) => ?_) (fun (h71 : (tc_r S 1 a) = key) => ?_)
          · refine ts_aload_n dTS_find_76 rfl rfl ?_
            refine ts_get pTS_F26 dTS_find_77 rfl rfl ?_
            refine ts_get pTS_F166 dTS_find_80 rfl rfl ?_
            refine ts_iload_n dTS_find_83 rfl rfl ?_
            refine ts_iald dTS_find_84 rfl (tc_inB hI ha h33) ?_
            refine ts_istore_n (lo' := [.ref 1, .int key, .int cnt, .int (tc_r S 3 a), .int (nI (400 - (n + 1)))]) dTS_find_85 rfl (Nat.le_of_ble_eq_true rfl) (Nat.le_of_ble_eq_true rfl) rfl ?_
            refine ts_iinc (v := nI (400 - n)) (lo' := [.ref 1, .int key, .int cnt, .int (tc_r S 3 a), .int (nI (400 - n))]) dTS_find_86 rfl (tc_up (by omega)) (Nat.le_of_ble_eq_true rfl) rfl ?_
            refine ts_goto (tgt := 20) dTS_find_89 rfl ?_
            have e : tc_findGo S key cnt (n + 1) a r = tc_findGo S key cnt n (tc_r S 3 a) (r + 1) := by simp only [tc_findGo, h33, h37, h45, h71, ↓reduceIte]
            rw [e]
            exact ih _ _ (by omega) (tc_prevT hI ha h33)
          · refine ts_iload_n dTS_find_74 rfl rfl ?_
            have e : tc_findGo S key cnt (n + 1) a r = (a, r + 1) := by simp only [tc_findGo, h33, h37, h45, h71, ↓reduceIte]
            exact ts_iret dTS_find_75 rfl (tc_e1 e) (tc_e4 e)
set_option maxHeartbeats 4000000 in
set_option maxRecDepth 100000 in
theorem cTS_find (G : ts_GX) (T : List va_E) (S : tc_S) (key cnt : Int32) (hI : tj S) (hk : tc_key key) : ts_M G yTS_find YTS_find [.ref 1, .int key, .int cnt] (tc_h G S ++ T) (some (.int (tc_find S key cnt).1)) (tc_h G (tc_find S key cnt).2 ++ T) 0 0 := by
  refine ts_of rfl rfl rfl rfl rfl rfl (Nat.le_of_ble_eq_true rfl) (ts_cat1 rfl) (fun X => ?_)
  refine ts_aload_n dTS_find_0 rfl rfl ?_
  refine ts_get pTS_F19 dTS_find_1 rfl rfl ?_
  refine ts_get pTS_F176 dTS_find_4 rfl rfl ?_
  refine ts_aload_n dTS_find_7 rfl rfl ?_
  refine ts_get pTS_F19 dTS_find_8 rfl rfl ?_
  refine ts_iload_n dTS_find_11 rfl rfl ?_
  refine ts_callV (cIX_bucketOf G T S key (tc_nz hI) (tc_nz1 hI)) pTS_C185.1 pTS_C185.2 rfl rfl rfl rfl ⟨Nat.le_of_ble_eq_true rfl, Nat.le_of_ble_eq_true rfl⟩ ⟨Nat.le_of_ble_eq_true rfl, Nat.le_of_ble_eq_true rfl⟩ rfl (Nat.le_of_ble_eq_true rfl) dTS_find_12 ?_
  refine ts_conv (lo' := [.ref 1, .int key, .int cnt]) (st' := [.int (tc_bucketOf S key), .ref 4]) (h' := tc_h G S ++ T) rfl rfl rfl ?_
  refine ts_iald dTS_find_15 rfl (tc_inBucket hI hk) ?_
  refine ts_istore_n (lo' := [.ref 1, .int key, .int cnt, .int (tc_r S 0 (tc_bucketOf S key))]) dTS_find_16 rfl (Nat.le_of_ble_eq_true rfl) (Nat.le_of_ble_eq_true rfl) rfl ?_
  refine ts_iconst (v := 0) dTS_find_17 (by decide) ?_
  refine ts_istore (lo' := [.ref 1, .int key, .int cnt, .int (tc_r S 0 (tc_bucketOf S key)), .int 0]) dTS_find_18 (Nat.le_of_ble_eq_true rfl) (Nat.le_of_ble_eq_true rfl) rfl ?_
  exact cTS_find_loop G T S key cnt hI X 400 _ _ (Nat.le_refl _) (tc_bk hI hk)
set_option maxHeartbeats 4000000 in
set_option maxRecDepth 100000 in
theorem cTS_isLatest (G : ts_GX) (T : List va_E) (S : tc_S) (a : Int32) (hI : tj S) (ha : vp_in a 400) : ts_M G yTS_isLatest YTS_isLatest [.ref 1, .int a] (tc_h G S ++ T) (some (.int (tc_isLatest S a))) (tc_h G S ++ T) 0 0 := by
  refine ts_of rfl rfl rfl rfl rfl rfl (Nat.le_of_ble_eq_true rfl) (ts_cat1 rfl) (fun X => ?_)
  refine ts_aload_n dTS_isLatest_0 rfl rfl ?_
  refine ts_iload_n dTS_isLatest_1 rfl rfl ?_
  refine ts_callV (cTS_hasValue G T S a (fun _ => ha)) pTS_C78.1 pTS_C78.2 rfl rfl rfl rfl ⟨Nat.le_of_ble_eq_true rfl, Nat.le_of_ble_eq_true rfl⟩ ⟨Nat.le_of_ble_eq_true rfl, Nat.le_of_ble_eq_true rfl⟩ rfl (Nat.le_of_ble_eq_true rfl) dTS_isLatest_2 ?_
  refine ts_conv (lo' := [.ref 1, .int a]) (st' := [.int (tc_hasValue S a)]) (h' := tc_h G S ++ T) rfl rfl rfl ?_
  refine ts_if_eq (tgt := 30) dTS_isLatest_5 rfl (fun (h5 : (tc_hasValue S a) = 0) => ?_) (fun (h5 : ¬ (tc_hasValue S a) = 0) => ?_)
  · refine ts_iconst (v := 0) dTS_isLatest_30 (by decide) ?_
    have e : tc_isLatest S a = 0 := by simp only [tc_isLatest, h5, ↓reduceIte]
    exact ts_zret dTS_isLatest_31 rfl (by decide) (tc_e1v e) rfl
  · refine ts_aload_n dTS_isLatest_8 rfl rfl ?_
    refine ts_aload_n dTS_isLatest_9 rfl rfl ?_
    refine ts_get pTS_F26 dTS_isLatest_10 rfl rfl ?_
    refine ts_get pTS_F147 dTS_isLatest_13 rfl rfl ?_
    refine ts_iload_n dTS_isLatest_16 rfl rfl ?_
    refine ts_iald dTS_isLatest_17 rfl ha ?_
    refine ts_iconst (v := 0) dTS_isLatest_18 (by decide) ?_
    refine ts_callV (cTS_find G T S (tc_r S 1 a) 0 hI (hI.ky _)) pTS_C70.1 pTS_C70.2 rfl rfl rfl rfl ⟨Nat.le_of_ble_eq_true rfl, Nat.le_of_ble_eq_true rfl⟩ ⟨Nat.le_of_ble_eq_true rfl, Nat.le_of_ble_eq_true rfl⟩ rfl (Nat.le_of_ble_eq_true rfl) dTS_isLatest_19 ?_
    refine ts_conv (lo' := [.ref 1, .int a]) (st' := [.int ((tc_find0 S (tc_r S 1 a) 0).1)]) (h' := tc_h G S ++ T) rfl rfl (by rw [tc_find_same]) ?_
    refine ts_iload_n dTS_isLatest_22 rfl rfl ?_
    refine ts_icmp_ne (tgt := 30) dTS_isLatest_23 rfl (fun (h23 : ¬ ((tc_find0 S (tc_r S 1 a) 0).1) = a) => ?_) (fun (h23 : ((tc_find0 S (tc_r S 1 a) 0).1) = a) => ?_)
    · refine ts_iconst (v := 0) dTS_isLatest_30 (by decide) ?_
      have e : tc_isLatest S a = 0 := by simp only [tc_isLatest, h5, h23, ↓reduceIte]
      exact ts_zret dTS_isLatest_31 rfl (by decide) (tc_e1v e) rfl
    · refine ts_iconst (v := 1) dTS_isLatest_26 (by decide) ?_
      refine ts_goto (tgt := 31) dTS_isLatest_27 rfl ?_
      have e : tc_isLatest S a = 1 := by simp only [tc_isLatest, h5, h23, ↓reduceIte]
      exact ts_zret dTS_isLatest_31 rfl (by decide) (tc_e1v e) rfl
