set_option maxHeartbeats 4000000 in
set_option maxRecDepth 100000 in
theorem cTS_openPage (G : ts_GX) (T : List va_E) (S : tc_S) : ts_M G yTS_openPage YTS_openPage [.ref 1] (tc_h G S ++ T) (some (.int (tc_openPage S).1)) (tc_h G (tc_openPage S).2 ++ T) 0 0 := by
  refine ts_of rfl rfl rfl rfl rfl rfl (Nat.le_of_ble_eq_true rfl) (ts_cat1 rfl) (fun X => ?_)
  refine ts_aload_n dTS_openPage_0 rfl rfl ?_
  refine ts_aload_n dTS_openPage_1 rfl rfl ?_
  refine ts_get pTS_F88 dTS_openPage_2 rfl rfl ?_
  refine ts_aload_n dTS_openPage_5 rfl rfl ?_
  refine ts_get pTS_F99 dTS_openPage_6 rfl rfl ?_
  refine ts_aload_n dTS_openPage_9 rfl rfl ?_
  refine ts_get pTS_F59 dTS_openPage_10 rfl rfl ?_
  refine ts_iconst (v := 1) dTS_openPage_13 (by decide) ?_
  refine ts_isub dTS_openPage_14 ?_
  refine ts_iconst (v := 4) dTS_openPage_15 (by decide) ?_
  refine ts_imul dTS_openPage_16 ?_
  refine ts_isub dTS_openPage_17 ?_
  refine ts_max pTS_L53 tn_max_s tn_math tn_max_c (Nat.le_of_ble_eq_true rfl) (Nat.le_of_ble_eq_true rfl) ⟨Nat.le_of_ble_eq_true rfl, Nat.le_of_ble_eq_true rfl⟩ dTS_openPage_18 ?_
  obtain ⟨v18, g18⟩ : ∃ v : Int32, v = tc_max (S.1 5) ((S.1 6) - (((S.1 1) - 1) * 4)) := ⟨_, rfl⟩
  refine ts_conv (lo' := [.ref 1]) (st' := [.int v18, .ref 1]) (h' := tc_h G S ++ T) rfl (by subst g18; rfl) rfl ?_
  refine ts_put pTS_P88 dTS_openPage_21 rfl (Nat.le_of_ble_eq_true rfl) rfl rfl (h' := tc_h G (tc_f S 5 v18) ++ T) (th_f5 _ _ _ _) ?_
  refine ts_aload_n dTS_openPage_24 rfl rfl ?_
  refine ts_get pTS_F99 dTS_openPage_25 rfl rfl ?_
  refine ts_aload_n dTS_openPage_28 rfl rfl ?_
  refine ts_get pTS_F56 dTS_openPage_29 rfl rfl ?_
  refine ts_iconst (v := 1) dTS_openPage_32 (by decide) ?_
  refine ts_isub dTS_openPage_33 ?_
  refine ts_iconst (v := 4) dTS_openPage_34 (by decide) ?_
  refine ts_imul dTS_openPage_35 ?_
  refine ts_isub dTS_openPage_36 ?_
  refine ts_istore_n (lo' := [.ref 1, .int ((S.1 6) - (((S.1 0) - 1) * 4))]) dTS_openPage_37 rfl (Nat.le_of_ble_eq_true rfl) (Nat.le_of_ble_eq_true rfl) rfl ?_
  refine ts_aload_n dTS_openPage_38 rfl rfl ?_
  refine ts_get pTS_F91 dTS_openPage_39 rfl rfl ?_
  refine ts_iload_n dTS_openPage_42 rfl rfl ?_
  refine ts_icmp_ge (tgt := 73) dTS_openPage_43 rfl (fun (h43 : ((S.1 6) - (((S.1 0) - 1) * 4)) ≤ (S.1 3)) => ?_) (fun (h43 : ¬ ((S.1 6) - (((S.1 0) - 1) * 4)) ≤ (S.1 3)) => ?_)
  · refine ts_aload_n dTS_openPage_73 rfl rfl ?_
    refine ts_aload_n dTS_openPage_74 rfl rfl ?_
    refine ts_get pTS_F91 dTS_openPage_75 rfl rfl ?_
    refine ts_iload_n dTS_openPage_78 rfl rfl ?_
    refine ts_max pTS_L53 tn_max_s tn_math tn_max_c (Nat.le_of_ble_eq_true rfl) (Nat.le_of_ble_eq_true rfl) ⟨Nat.le_of_ble_eq_true rfl, Nat.le_of_ble_eq_true rfl⟩ dTS_openPage_79 ?_
    obtain ⟨v79, g79⟩ : ∃ v : Int32, v = tc_max (S.1 3) ((S.1 6) - (((S.1 0) - 1) * 4)) := ⟨_, rfl⟩
    refine ts_conv (lo' := [.ref 1, .int ((S.1 6) - (((S.1 0) - 1) * 4))]) (st' := [.int v79, .ref 1]) (h' := tc_h G (tc_f S 5 v18) ++ T) rfl (by subst g79; rfl) rfl ?_
    refine ts_put pTS_P91 dTS_openPage_82 rfl (Nat.le_of_ble_eq_true rfl) rfl rfl (h' := tc_h G (tc_f (tc_f S 5 v18) 3 v79) ++ T) (th_f3 _ _ _ _) ?_
    refine ts_iconst (v := 1) dTS_openPage_85 (by decide) ?_
    subst g79
    subst g18
    have e : tc_openPage S = (1, tc_f (tc_f S 5 (tc_max (S.1 5) ((S.1 6) - (((S.1 1) - 1) * 4)))) 3 (tc_max (S.1 3) ((S.1 6) - (((S.1 0) - 1) * 4)))) := (if_pos h43)
    exact ts_zret dTS_openPage_86 rfl (by decide) (tc_e1 e) (tc_e2 e)
  · refine ts_aload_n dTS_openPage_46 rfl rfl ?_
    refine ts_get pTS_F160 dTS_openPage_47 rfl rfl ?_
    refine ts_aload_n dTS_openPage_50 rfl rfl ?_
    refine ts_get pTS_F91 dTS_openPage_51 rfl rfl ?_
    refine ts_callS (cTS_pageEnd G T (tc_f S 5 v18) (S.1 3)) pTS_C137.1 pTS_C137.2 rfl rfl ⟨Nat.le_of_ble_eq_true rfl, Nat.le_of_ble_eq_true rfl⟩ ⟨Nat.le_of_ble_eq_true rfl, Nat.le_of_ble_eq_true rfl⟩ rfl (Nat.le_of_ble_eq_true rfl) dTS_openPage_54 ?_
    refine ts_conv (lo' := [.ref 1, .int ((S.1 6) - (((S.1 0) - 1) * 4))]) (st' := [.int (tc_pageEnd (S.1 3)), .int (S.1 4)]) (h' := tc_h G (tc_f S 5 v18) ++ T) rfl rfl rfl ?_
    refine ts_icmp_ge (tgt := 73) dTS_openPage_57 rfl (fun (h57 : (tc_pageEnd (S.1 3)) ≤ (S.1 4)) => ?_) (fun (h57 : ¬ (tc_pageEnd (S.1 3)) ≤ (S.1 4)) => ?_)
    · refine ts_aload_n dTS_openPage_73 rfl rfl ?_
      refine ts_aload_n dTS_openPage_74 rfl rfl ?_
      refine ts_get pTS_F91 dTS_openPage_75 rfl rfl ?_
      refine ts_iload_n dTS_openPage_78 rfl rfl ?_
      refine ts_max pTS_L53 tn_max_s tn_math tn_max_c (Nat.le_of_ble_eq_true rfl) (Nat.le_of_ble_eq_true rfl) ⟨Nat.le_of_ble_eq_true rfl, Nat.le_of_ble_eq_true rfl⟩ dTS_openPage_79 ?_
      obtain ⟨v79, g79⟩ : ∃ v : Int32, v = tc_max (S.1 3) ((S.1 6) - (((S.1 0) - 1) * 4)) := ⟨_, rfl⟩
      refine ts_conv (lo' := [.ref 1, .int ((S.1 6) - (((S.1 0) - 1) * 4))]) (st' := [.int v79, .ref 1]) (h' := tc_h G (tc_f S 5 v18) ++ T) rfl (by subst g79; rfl) rfl ?_
      refine ts_put pTS_P91 dTS_openPage_82 rfl (Nat.le_of_ble_eq_true rfl) rfl rfl (h' := tc_h G (tc_f (tc_f S 5 v18) 3 v79) ++ T) (th_f3 _ _ _ _) ?_
      refine ts_iconst (v := 1) dTS_openPage_85 (by decide) ?_
      subst g79
      subst g18
      have e : tc_openPage S = (1, tc_f (tc_f S 5 (tc_max (S.1 5) ((S.1 6) - (((S.1 1) - 1) * 4)))) 3 (tc_max (S.1 3) ((S.1 6) - (((S.1 0) - 1) * 4)))) := (if_neg h43).trans ((if_pos h57))
      exact ts_zret dTS_openPage_86 rfl (by decide) (tc_e1 e) (tc_e2 e)
    · refine ts_aload_n dTS_openPage_60 rfl rfl ?_
      refine ts_aload_n dTS_openPage_61 rfl rfl ?_
      refine ts_get pTS_F88 dTS_openPage_62 rfl rfl ?_
      refine ts_callV (cTS_flush G T (tc_f S 5 v18) v18) pTS_C191.1 pTS_C191.2 rfl rfl rfl rfl ⟨Nat.le_of_ble_eq_true rfl, Nat.le_of_ble_eq_true rfl⟩ ⟨Nat.le_of_ble_eq_true rfl, Nat.le_of_ble_eq_true rfl⟩ rfl (Nat.le_of_ble_eq_true rfl) dTS_openPage_65 ?_
      refine ts_conv (lo' := [.ref 1, .int ((S.1 6) - (((S.1 0) - 1) * 4))]) (st' := [.int ((tc_flush (tc_f S 5 v18) v18).1)]) (h' := tc_h G ((tc_flush (tc_f S 5 v18) v18).2) ++ T) rfl rfl rfl ?_
      refine ts_if_ne (tgt := 73) dTS_openPage_68 rfl (fun (h68 : ¬ ((tc_flush (tc_f S 5 v18) v18).1) = 0) => ?_) (fun (h68 : ((tc_flush (tc_f S 5 v18) v18).1) = 0) => ?_)
      · refine ts_aload_n dTS_openPage_73 rfl rfl ?_
        refine ts_aload_n dTS_openPage_74 rfl rfl ?_
        refine ts_get pTS_F91 dTS_openPage_75 rfl rfl ?_
        refine ts_iload_n dTS_openPage_78 rfl rfl ?_
        refine ts_max pTS_L53 tn_max_s tn_math tn_max_c (Nat.le_of_ble_eq_true rfl) (Nat.le_of_ble_eq_true rfl) ⟨Nat.le_of_ble_eq_true rfl, Nat.le_of_ble_eq_true rfl⟩ dTS_openPage_79 ?_
        obtain ⟨v79, g79⟩ : ∃ v : Int32, v = tc_max (((tc_flush (tc_f S 5 v18) v18).2).1 3) ((S.1 6) - (((S.1 0) - 1) * 4)) := ⟨_, rfl⟩
        refine ts_conv (lo' := [.ref 1, .int ((S.1 6) - (((S.1 0) - 1) * 4))]) (st' := [.int v79, .ref 1]) (h' := tc_h G ((tc_flush (tc_f S 5 v18) v18).2) ++ T) rfl (by subst g79; rfl) rfl ?_
        refine ts_put pTS_P91 dTS_openPage_82 rfl (Nat.le_of_ble_eq_true rfl) rfl rfl (h' := tc_h G (tc_f ((tc_flush (tc_f S 5 v18) v18).2) 3 v79) ++ T) (th_f3 _ _ _ _) ?_
        refine ts_iconst (v := 1) dTS_openPage_85 (by decide) ?_
        subst g79
        subst g18
        have e : tc_openPage S = (1, tc_f ((tc_flush (tc_f S 5 (tc_max (S.1 5) ((S.1 6) - (((S.1 1) - 1) * 4)))) (tc_max (S.1 5) ((S.1 6) - (((S.1 1) - 1) * 4)))).2) 3 (tc_max (((tc_flush (tc_f S 5 (tc_max (S.1 5) ((S.1 6) - (((S.1 1) - 1) * 4)))) (tc_max (S.1 5) ((S.1 6) - (((S.1 1) - 1) * 4)))).2).1 3) ((S.1 6) - (((S.1 0) - 1) * 4)))) := (if_neg h43).trans ((if_neg h57).trans ((if_neg h68)))
        exact ts_zret dTS_openPage_86 rfl (by decide) (tc_e1 e) (tc_e2 e)
      · refine ts_iconst (v := 0) dTS_openPage_71 (by decide) ?_
        subst g18
        have e : tc_openPage S = (0, (tc_flush (tc_f S 5 (tc_max (S.1 5) ((S.1 6) - (((S.1 1) - 1) * 4)))) (tc_max (S.1 5) ((S.1 6) - (((S.1 1) - 1) * 4)))).2) := (if_neg h43).trans ((if_neg h57).trans ((if_pos h68)))
        exact ts_zret dTS_openPage_72 rfl (by decide) (tc_e1 e) (tc_e2 e)
set_option maxHeartbeats 4000000 in
set_option maxRecDepth 100000 in
theorem cTS_append_rec (G : ts_GX) (T : List va_E) (S : tc_S) (key value stone : Int32) (hI : tj S) (hk : tc_key key) (hs : stone = 0 ∨ stone = 1) (ht : ¬ 400 ≤ S.1 6) (X : ts_VX) : ts_V G X YTS_append (ts_QX G X (some (.int 1)) (tc_h G (tc_record S key value stone) ++ T) 0 0) 0 0 18 [.ref 1, .int key, .int value, .int stone] [] (tc_h G S ++ T) := by
  refine ts_aload_n dTS_append_18 rfl rfl ?_
  refine ts_get pTS_F19 dTS_append_19 rfl rfl ?_
  refine ts_iload_n dTS_append_22 rfl rfl ?_
  refine ts_callV (cIX_bucketOf G T S key (tc_nz hI) (tc_nz1 hI)) pTS_C185.1 pTS_C185.2 rfl rfl rfl rfl ⟨Nat.le_of_ble_eq_true rfl, Nat.le_of_ble_eq_true rfl⟩ ⟨Nat.le_of_ble_eq_true rfl, Nat.le_of_ble_eq_true rfl⟩ rfl (Nat.le_of_ble_eq_true rfl) dTS_append_23 ?_
  obtain ⟨v23, g23⟩ : ∃ v : Int32, v = tc_bucketOf S key := ⟨_, rfl⟩
  refine ts_conv (lo' := [.ref 1, .int key, .int value, .int stone]) (st' := [.int v23]) (h' := tc_h G S ++ T) rfl (by subst g23; rfl) rfl ?_
  refine ts_istore (lo' := [.ref 1, .int key, .int value, .int stone, .int v23]) dTS_append_26 (Nat.le_of_ble_eq_true rfl) (Nat.le_of_ble_eq_true rfl) rfl ?_
  refine ts_aload_n dTS_append_28 rfl rfl ?_
  refine ts_get pTS_F26 dTS_append_29 rfl rfl ?_
  refine ts_get pTS_F147 dTS_append_32 rfl rfl ?_
  refine ts_aload_n dTS_append_35 rfl rfl ?_
  refine ts_get pTS_F99 dTS_append_36 rfl rfl ?_
  refine ts_iload_n dTS_append_39 rfl rfl ?_
  refine ts_iast dTS_append_40 rfl (tc_inTail (S := S) hI ht) (h' := tc_h G (tc_a S 1 (S.1 6) key) ++ T) (th_a1 _ _ _ _ _) ?_
  refine ts_aload_n dTS_append_41 rfl rfl ?_
  refine ts_get pTS_F26 dTS_append_42 rfl rfl ?_
  refine ts_get pTS_F81 dTS_append_45 rfl rfl ?_
  refine ts_aload_n dTS_append_48 rfl rfl ?_
  refine ts_get pTS_F99 dTS_append_49 rfl rfl ?_
  refine ts_iload_n dTS_append_52 rfl rfl ?_
  refine ts_iast dTS_append_53 rfl (tc_inTail (S := S) hI ht) (h' := tc_h G (tc_a (tc_a S 1 (S.1 6) key) 2 (S.1 6) value) ++ T) (th_a2 _ _ _ _ _) ?_
  refine ts_aload_n dTS_append_54 rfl rfl ?_
  refine ts_get pTS_F26 dTS_append_55 rfl rfl ?_
  refine ts_get pTS_F166 dTS_append_58 rfl rfl ?_
  refine ts_aload_n dTS_append_61 rfl rfl ?_
  refine ts_get pTS_F99 dTS_append_62 rfl rfl ?_
  refine ts_aload_n dTS_append_65 rfl rfl ?_
  refine ts_get pTS_F19 dTS_append_66 rfl rfl ?_
  refine ts_get pTS_F176 dTS_append_69 rfl rfl ?_
  refine ts_iload dTS_append_72 rfl ?_
  refine ts_iald dTS_append_74 rfl (by subst g23; exact tc_inBucket (S := S) hI hk) ?_
  refine ts_iast dTS_append_75 rfl (tc_inTail (S := S) hI ht) (h' := tc_h G (tc_a (tc_a (tc_a S 1 (S.1 6) key) 2 (S.1 6) value) 3 (S.1 6) (tc_r S 0 v23)) ++ T) (th_a3 _ _ _ _ _) ?_
  refine ts_aload_n dTS_append_76 rfl rfl ?_
  refine ts_get pTS_F26 dTS_append_77 rfl rfl ?_
  refine ts_get pTS_F169 dTS_append_80 rfl rfl ?_
  refine ts_aload_n dTS_append_83 rfl rfl ?_
  refine ts_get pTS_F99 dTS_append_84 rfl rfl ?_
  refine ts_aload_n dTS_append_87 rfl rfl ?_
  refine ts_get pTS_F30 dTS_append_88 rfl rfl ?_
  refine ts_iast dTS_append_91 rfl (tc_inTail (S := S) hI ht) (h' := tc_h G (tc_a (tc_a (tc_a (tc_a S 1 (S.1 6) key) 2 (S.1 6) value) 3 (S.1 6) (tc_r S 0 v23)) 4 (S.1 6) (S.1 7)) ++ T) (th_a4 _ _ _ _ _) ?_
  refine ts_aload_n dTS_append_92 rfl rfl ?_
  refine ts_get pTS_F26 dTS_append_93 rfl rfl ?_
  refine ts_get pTS_F172 dTS_append_96 rfl rfl ?_
  refine ts_aload_n dTS_append_99 rfl rfl ?_
  refine ts_get pTS_F99 dTS_append_100 rfl rfl ?_
  refine ts_iload_n dTS_append_103 rfl rfl ?_
  refine ts_zast dTS_append_104 rfl (tc_inTail (S := S) hI ht) (h' := tc_h G (tc_a (tc_a (tc_a (tc_a (tc_a S 1 (S.1 6) key) 2 (S.1 6) value) 3 (S.1 6) (tc_r S 0 v23)) 4 (S.1 6) (S.1 7)) 5 (S.1 6) stone) ++ T) (by rw [tc_nar hs]; exact th_a5 _ _ _ _ _) ?_
  refine ts_aload_n dTS_append_105 rfl rfl ?_
  refine ts_get pTS_F19 dTS_append_106 rfl rfl ?_
  refine ts_get pTS_F176 dTS_append_109 rfl rfl ?_
  refine ts_iload dTS_append_112 rfl ?_
  refine ts_aload_n dTS_append_114 rfl rfl ?_
  refine ts_get pTS_F99 dTS_append_115 rfl rfl ?_
  refine ts_iast dTS_append_118 rfl (by subst g23; exact tc_inBucket (S := S) hI hk) (h' := tc_h G (tc_a (tc_a (tc_a (tc_a (tc_a (tc_a S 1 (S.1 6) key) 2 (S.1 6) value) 3 (S.1 6) (tc_r S 0 v23)) 4 (S.1 6) (S.1 7)) 5 (S.1 6) stone) 0 v23 (S.1 6)) ++ T) (th_a0 _ _ _ _ _) ?_
  refine ts_aload_n dTS_append_119 rfl rfl ?_
  refine ts_dup dTS_append_120 rfl ?_
  refine ts_get pTS_F99 dTS_append_121 rfl rfl ?_
  refine ts_iconst (v := 1) dTS_append_124 (by decide) ?_
  refine ts_iadd dTS_append_125 ?_
  refine ts_put pTS_P99 dTS_append_126 rfl (Nat.le_of_ble_eq_true rfl) rfl rfl (h' := tc_h G (tc_f (tc_a (tc_a (tc_a (tc_a (tc_a (tc_a S 1 (S.1 6) key) 2 (S.1 6) value) 3 (S.1 6) (tc_r S 0 v23)) 4 (S.1 6) (S.1 7)) 5 (S.1 6) stone) 0 v23 (S.1 6)) 6 ((S.1 6) + 1)) ++ T) (th_f6 _ _ _ _) ?_
  refine ts_iconst (v := 1) dTS_append_129 (by decide) ?_
  subst g23
  exact ts_zret dTS_append_130 rfl (by decide) rfl rfl
