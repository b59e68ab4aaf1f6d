set_option maxHeartbeats 4000000 in
set_option maxRecDepth 100000 in
theorem tl_case (G : ts_GX) (X : ts_VX) (nm : String) (Q : State → Prop) (c : Nat) (hc : c + 3 ≤ ts_gL G) (hL : ts_gL G ≤ 1538) (S : tc_S) (M : tc_S) (N : Nat) (hN : N ≤ 1000) (hs : Sim N S M) (K : ∀ (S9 : tc_S) (M9 : tc_S), Sim (N + 1) S9 M9 → ts_V G X (YLW_law nm) Q 30 4185 443 [.ref 0, .ref 1, .ref 17, .int (nI c)] [] (tc_h G S9 ++ tm_h G M9)) : ∀ x : Int32, ts_V G X (YLW_law nm) Q 30 4185 52 [.ref 0, .ref 1, .ref 17, .int (nI c)] [.int x] (tc_h G S ++ tm_h G M) := by
  intro x
  by_cases h52_0 : x = 0
  · refine ts_tableIn (tgt := 128) dLW_law_52 (by rw [h52_0]; decide) (by rw [h52_0]; decide) (by rw [h52_0]; rfl) rfl ?_
    refine ts_aload_n dLW_law_128 rfl rfl ?_
    refine ts_aload_n dLW_law_129 rfl rfl ?_
    refine ts_iload_n dLW_law_130 rfl rfl ?_
    refine ts_iconst (v := 1) dLW_law_131 (by decide) ?_
    refine ts_iadd dLW_law_132 ?_
    refine ts_sld dLW_law_133 (tl_in1 hc hL) ?_
    refine ts_aload_n dLW_law_134 rfl rfl ?_
    refine ts_iload_n dLW_law_135 rfl rfl ?_
    refine ts_iconst (v := 2) dLW_law_136 (by decide) ?_
    refine ts_iadd dLW_law_137 ?_
    refine ts_sld dLW_law_138 (tl_in2 hc hL) ?_
    refine ts_callV (cTS_put G (tm_h G M) S (ts_gx G (nI c + 1).toNatClampNeg) (ts_gx G (nI c + 2).toNatClampNeg) hs.j) pLW_C21.1 pLW_C21.2 rfl rfl rfl rfl ⟨Nat.le_of_ble_eq_true rfl, Nat.le_of_ble_eq_true rfl⟩ ⟨Nat.le_of_ble_eq_true rfl, Nat.le_of_ble_eq_true rfl⟩ rfl (Nat.le_of_ble_eq_true rfl) dLW_law_139 ?_
    refine ts_conv (lo' := [.ref 0, .ref 1, .ref 17, .int (nI c)]) (st' := [.int ((tc_put S (ts_gx G (nI c + 1).toNatClampNeg) (ts_gx G (nI c + 2).toNatClampNeg)).1)]) (h' := tc_h G ((tc_put S (ts_gx G (nI c + 1).toNatClampNeg) (ts_gx G (nI c + 2).toNatClampNeg)).2) ++ tm_h G M) rfl rfl rfl ?_
    refine ts_aload_n dLW_law_142 rfl rfl ?_
    refine ts_aload_n dLW_law_143 rfl rfl ?_
    refine ts_iload_n dLW_law_144 rfl rfl ?_
    refine ts_iconst (v := 1) dLW_law_145 (by decide) ?_
    refine ts_iadd dLW_law_146 ?_
    refine ts_sld dLW_law_147 (tl_in1 hc hL) ?_
    refine ts_aload_n dLW_law_148 rfl rfl ?_
    refine ts_iload_n dLW_law_149 rfl rfl ?_
    refine ts_iconst (v := 2) dLW_law_150 (by decide) ?_
    refine ts_iadd dLW_law_151 ?_
    refine ts_sld dLW_law_152 (tl_in2 hc hL) ?_
    refine ts_callV (cMO_put G ((tc_put S (ts_gx G (nI c + 1).toNatClampNeg) (ts_gx G (nI c + 2).toNatClampNeg)).2) M (ts_gx G (nI c + 1).toNatClampNeg) (ts_gx G (nI c + 2).toNatClampNeg) hs.jm) pLW_C25.1 pLW_C25.2 rfl rfl rfl rfl ⟨Nat.le_of_ble_eq_true rfl, Nat.le_of_ble_eq_true rfl⟩ ⟨Nat.le_of_ble_eq_true rfl, Nat.le_of_ble_eq_true rfl⟩ rfl (Nat.le_of_ble_eq_true rfl) dLW_law_153 ?_
    refine ts_conv (lo' := [.ref 0, .ref 1, .ref 17, .int (nI c)]) (st' := [.int ((tc_put M (ts_gx G (nI c + 1).toNatClampNeg) (ts_gx G (nI c + 2).toNatClampNeg)).1), .int ((tc_put S (ts_gx G (nI c + 1).toNatClampNeg) (ts_gx G (nI c + 2).toNatClampNeg)).1)]) (h' := tc_h G ((tc_put S (ts_gx G (nI c + 1).toNatClampNeg) (ts_gx G (nI c + 2).toNatClampNeg)).2) ++ tm_h G ((tc_put M (ts_gx G (nI c + 1).toNatClampNeg) (ts_gx G (nI c + 2).toNatClampNeg)).2)) rfl rfl rfl ?_
    refine ts_icmp_eq (tgt := 443) dLW_law_156 rfl (fun _ => ?_) (fun hq => absurd (sim_put hs (ts_gx G (nI c + 1).toNatClampNeg) (ts_gx G (nI c + 2).toNatClampNeg)).1 hq)
    exact K ((tc_put S (ts_gx G (nI c + 1).toNatClampNeg) (ts_gx G (nI c + 2).toNatClampNeg)).2) ((tc_put M (ts_gx G (nI c + 1).toNatClampNeg) (ts_gx G (nI c + 2).toNatClampNeg)).2) ((sim_put hs (ts_gx G (nI c + 1).toNatClampNeg) (ts_gx G (nI c + 2).toNatClampNeg)).2.up (Nat.le_succ N))
  by_cases h52_1 : x = 1
  · refine ts_tableIn (tgt := 161) dLW_law_52 (by rw [h52_1]; decide) (by rw [h52_1]; decide) (by rw [h52_1]; rfl) rfl ?_
    refine ts_aload_n dLW_law_161 rfl rfl ?_
    refine ts_aload_n dLW_law_162 rfl rfl ?_
    refine ts_iload_n dLW_law_163 rfl rfl ?_
    refine ts_iconst (v := 1) dLW_law_164 (by decide) ?_
    refine ts_iadd dLW_law_165 ?_
    refine ts_sld dLW_law_166 (tl_in1 hc hL) ?_
    refine ts_aload_n dLW_law_167 rfl rfl ?_
    refine ts_iload_n dLW_law_168 rfl rfl ?_
    refine ts_iconst (v := 2) dLW_law_169 (by decide) ?_
    refine ts_iadd dLW_law_170 ?_
    refine ts_sld dLW_law_171 (tl_in2 hc hL) ?_
    refine ts_callV (cTS_add G (tm_h G M) S (ts_gx G (nI c + 1).toNatClampNeg) (ts_gx G (nI c + 2).toNatClampNeg) hs.j) pLW_C26.1 pLW_C26.2 rfl rfl rfl rfl ⟨Nat.le_of_ble_eq_true rfl, Nat.le_of_ble_eq_true rfl⟩ ⟨Nat.le_of_ble_eq_true rfl, Nat.le_of_ble_eq_true rfl⟩ rfl (Nat.le_of_ble_eq_true rfl) dLW_law_172 ?_
    refine ts_conv (lo' := [.ref 0, .ref 1, .ref 17, .int (nI c)]) (st' := [.int ((tc_add S (ts_gx G (nI c + 1).toNatClampNeg) (ts_gx G (nI c + 2).toNatClampNeg)).1)]) (h' := tc_h G ((tc_add S (ts_gx G (nI c + 1).toNatClampNeg) (ts_gx G (nI c + 2).toNatClampNeg)).2) ++ tm_h G M) rfl rfl rfl ?_
    refine ts_aload_n dLW_law_175 rfl rfl ?_
    refine ts_aload_n dLW_law_176 rfl rfl ?_
    refine ts_iload_n dLW_law_177 rfl rfl ?_
    refine ts_iconst (v := 1) dLW_law_178 (by decide) ?_
    refine ts_iadd dLW_law_179 ?_
    refine ts_sld dLW_law_180 (tl_in1 hc hL) ?_
    refine ts_aload_n dLW_law_181 rfl rfl ?_
    refine ts_iload_n dLW_law_182 rfl rfl ?_
    refine ts_iconst (v := 2) dLW_law_183 (by decide) ?_
    refine ts_iadd dLW_law_184 ?_
    refine ts_sld dLW_law_185 (tl_in2 hc hL) ?_
    refine ts_callV (cMO_add G ((tc_add S (ts_gx G (nI c + 1).toNatClampNeg) (ts_gx G (nI c + 2).toNatClampNeg)).2) M (ts_gx G (nI c + 1).toNatClampNeg) (ts_gx G (nI c + 2).toNatClampNeg) hs.jm) pLW_C29.1 pLW_C29.2 rfl rfl rfl rfl ⟨Nat.le_of_ble_eq_true rfl, Nat.le_of_ble_eq_true rfl⟩ ⟨Nat.le_of_ble_eq_true rfl, Nat.le_of_ble_eq_true rfl⟩ rfl (Nat.le_of_ble_eq_true rfl) dLW_law_186 ?_
    refine ts_conv (lo' := [.ref 0, .ref 1, .ref 17, .int (nI c)]) (st' := [.int ((tc_add M (ts_gx G (nI c + 1).toNatClampNeg) (ts_gx G (nI c + 2).toNatClampNeg)).1), .int ((tc_add S (ts_gx G (nI c + 1).toNatClampNeg) (ts_gx G (nI c + 2).toNatClampNeg)).1)]) (h' := tc_h G ((tc_add S (ts_gx G (nI c + 1).toNatClampNeg) (ts_gx G (nI c + 2).toNatClampNeg)).2) ++ tm_h G ((tc_add M (ts_gx G (nI c + 1).toNatClampNeg) (ts_gx G (nI c + 2).toNatClampNeg)).2)) rfl rfl rfl ?_
    refine ts_icmp_eq (tgt := 443) dLW_law_189 rfl (fun _ => ?_) (fun hq => absurd (sim_add hs (ts_gx G (nI c + 1).toNatClampNeg) (ts_gx G (nI c + 2).toNatClampNeg)).1 hq)
    exact K ((tc_add S (ts_gx G (nI c + 1).toNatClampNeg) (ts_gx G (nI c + 2).toNatClampNeg)).2) ((tc_add M (ts_gx G (nI c + 1).toNatClampNeg) (ts_gx G (nI c + 2).toNatClampNeg)).2) ((sim_add hs (ts_gx G (nI c + 1).toNatClampNeg) (ts_gx G (nI c + 2).toNatClampNeg)).2.up (Nat.le_succ N))
  by_cases h52_2 : x = 2
  · refine ts_tableIn (tgt := 194) dLW_law_52 (by rw [h52_2]; decide) (by rw [h52_2]; decide) (by rw [h52_2]; rfl) rfl ?_
    refine ts_aload_n dLW_law_194 rfl rfl ?_
    refine ts_aload_n dLW_law_195 rfl rfl ?_
    refine ts_iload_n dLW_law_196 rfl rfl ?_
    refine ts_iconst (v := 1) dLW_law_197 (by decide) ?_
    refine ts_iadd dLW_law_198 ?_
    refine ts_sld dLW_law_199 (tl_in1 hc hL) ?_
    refine ts_callV (cTS_delete G (tm_h G M) S (ts_gx G (nI c + 1).toNatClampNeg) hs.j) pLW_C30.1 pLW_C30.2 rfl rfl rfl rfl ⟨Nat.le_of_ble_eq_true rfl, Nat.le_of_ble_eq_true rfl⟩ ⟨Nat.le_of_ble_eq_true rfl, Nat.le_of_ble_eq_true rfl⟩ rfl (Nat.le_of_ble_eq_true rfl) dLW_law_200 ?_
    refine ts_conv (lo' := [.ref 0, .ref 1, .ref 17, .int (nI c)]) (st' := [.int ((tc_delete S (ts_gx G (nI c + 1).toNatClampNeg)).1)]) (h' := tc_h G ((tc_delete S (ts_gx G (nI c + 1).toNatClampNeg)).2) ++ tm_h G M) rfl rfl rfl ?_
    refine ts_aload_n dLW_law_203 rfl rfl ?_
    refine ts_aload_n dLW_law_204 rfl rfl ?_
    refine ts_iload_n dLW_law_205 rfl rfl ?_
    refine ts_iconst (v := 1) dLW_law_206 (by decide) ?_
    refine ts_iadd dLW_law_207 ?_
    refine ts_sld dLW_law_208 (tl_in1 hc hL) ?_
    refine ts_callV (cMO_delete G ((tc_delete S (ts_gx G (nI c + 1).toNatClampNeg)).2) M (ts_gx G (nI c + 1).toNatClampNeg) hs.jm) pLW_C34.1 pLW_C34.2 rfl rfl rfl rfl ⟨Nat.le_of_ble_eq_true rfl, Nat.le_of_ble_eq_true rfl⟩ ⟨Nat.le_of_ble_eq_true rfl, Nat.le_of_ble_eq_true rfl⟩ rfl (Nat.le_of_ble_eq_true rfl) dLW_law_209 ?_
    refine ts_conv (lo' := [.ref 0, .ref 1, .ref 17, .int (nI c)]) (st' := [.int ((tc_delete M (ts_gx G (nI c + 1).toNatClampNeg)).1), .int ((tc_delete S (ts_gx G (nI c + 1).toNatClampNeg)).1)]) (h' := tc_h G ((tc_delete S (ts_gx G (nI c + 1).toNatClampNeg)).2) ++ tm_h G ((tc_delete M (ts_gx G (nI c + 1).toNatClampNeg)).2)) rfl rfl rfl ?_
    refine ts_icmp_eq (tgt := 443) dLW_law_212 rfl (fun _ => ?_) (fun hq => absurd (sim_delete hs (ts_gx G (nI c + 1).toNatClampNeg)).1 hq)
    exact K ((tc_delete S (ts_gx G (nI c + 1).toNatClampNeg)).2) ((tc_delete M (ts_gx G (nI c + 1).toNatClampNeg)).2) ((sim_delete hs (ts_gx G (nI c + 1).toNatClampNeg)).2.up (Nat.le_succ N))
  by_cases h52_3 : x = 3
  · refine ts_tableIn (tgt := 217) dLW_law_52 (by rw [h52_3]; decide) (by rw [h52_3]; decide) (by rw [h52_3]; rfl) rfl ?_
    refine ts_aload_n dLW_law_217 rfl rfl ?_
    refine ts_aload_n dLW_law_218 rfl rfl ?_
    refine ts_iload_n dLW_law_219 rfl rfl ?_
    refine ts_iconst (v := 1) dLW_law_220 (by decide) ?_
    refine ts_iadd dLW_law_221 ?_
    refine ts_sld dLW_law_222 (tl_in1 hc hL) ?_
    refine ts_callV (cTS_read G (tm_h G M) S (ts_gx G (nI c + 1).toNatClampNeg) hs.j) pLW_C35.1 pLW_C35.2 rfl rfl rfl rfl ⟨Nat.le_of_ble_eq_true rfl, Nat.le_of_ble_eq_true rfl⟩ ⟨Nat.le_of_ble_eq_true rfl, Nat.le_of_ble_eq_true rfl⟩ rfl (Nat.le_of_ble_eq_true rfl) dLW_law_223 ?_
    refine ts_conv (lo' := [.ref 0, .ref 1, .ref 17, .int (nI c)]) (st' := [.int ((tc_read S (ts_gx G (nI c + 1).toNatClampNeg)).1)]) (h' := tc_h G ((tc_read S (ts_gx G (nI c + 1).toNatClampNeg)).2) ++ tm_h G M) rfl rfl rfl ?_
    refine ts_aload_n dLW_law_226 rfl rfl ?_
    refine ts_aload_n dLW_law_227 rfl rfl ?_
    refine ts_iload_n dLW_law_228 rfl rfl ?_
    refine ts_iconst (v := 1) dLW_law_229 (by decide) ?_
    refine ts_iadd dLW_law_230 ?_
    refine ts_sld dLW_law_231 (tl_in1 hc hL) ?_
    refine ts_callV (cMO_read G ((tc_read S (ts_gx G (nI c + 1).toNatClampNeg)).2) M (ts_gx G (nI c + 1).toNatClampNeg) hs.jm) pLW_C38.1 pLW_C38.2 rfl rfl rfl rfl ⟨Nat.le_of_ble_eq_true rfl, Nat.le_of_ble_eq_true rfl⟩ ⟨Nat.le_of_ble_eq_true rfl, Nat.le_of_ble_eq_true rfl⟩ rfl (Nat.le_of_ble_eq_true rfl) dLW_law_232 ?_
    refine ts_conv (lo' := [.ref 0, .ref 1, .ref 17, .int (nI c)]) (st' := [.int ((tc_read M (ts_gx G (nI c + 1).toNatClampNeg)).1), .int ((tc_read S (ts_gx G (nI c + 1).toNatClampNeg)).1)]) (h' := tc_h G ((tc_read S (ts_gx G (nI c + 1).toNatClampNeg)).2) ++ tm_h G ((tc_read M (ts_gx G (nI c + 1).toNatClampNeg)).2)) rfl rfl rfl ?_
    refine ts_icmp_eq (tgt := 443) dLW_law_235 rfl (fun _ => ?_) (fun hq => absurd (sim_read hs (ts_gx G (nI c + 1).toNatClampNeg)).1 hq)
    exact K ((tc_read S (ts_gx G (nI c + 1).toNatClampNeg)).2) ((tc_read M (ts_gx G (nI c + 1).toNatClampNeg)).2) ((sim_read hs (ts_gx G (nI c + 1).toNatClampNeg)).2.up (Nat.le_succ N))
  by_cases h52_4 : x = 4
  · refine ts_tableIn (tgt := 240) dLW_law_52 (by rw [h52_4]; decide) (by rw [h52_4]; decide) (by rw [h52_4]; rfl) rfl ?_
    refine ts_aload_n dLW_law_240 rfl rfl ?_
    refine ts_callV (cTS_value G (tm_h G M) S) pLW_C39.1 pLW_C39.2 rfl rfl rfl rfl ⟨Nat.le_of_ble_eq_true rfl, Nat.le_of_ble_eq_true rfl⟩ ⟨Nat.le_of_ble_eq_true rfl, Nat.le_of_ble_eq_true rfl⟩ rfl (Nat.le_of_ble_eq_true rfl) dLW_law_241 ?_
    refine ts_conv (lo' := [.ref 0, .ref 1, .ref 17, .int (nI c)]) (st' := [.int (S.1 8)]) (h' := tc_h G S ++ tm_h G M) rfl rfl rfl ?_
    refine ts_aload_n dLW_law_244 rfl rfl ?_
    refine ts_callV (cMO_value G S M) pLW_C43.1 pLW_C43.2 rfl rfl rfl rfl ⟨Nat.le_of_ble_eq_true rfl, Nat.le_of_ble_eq_true rfl⟩ ⟨Nat.le_of_ble_eq_true rfl, Nat.le_of_ble_eq_true rfl⟩ rfl (Nat.le_of_ble_eq_true rfl) dLW_law_245 ?_
    refine ts_conv (lo' := [.ref 0, .ref 1, .ref 17, .int (nI c)]) (st' := [.int (M.1 8), .int (S.1 8)]) (h' := tc_h G S ++ tm_h G M) rfl rfl rfl ?_
    refine ts_icmp_eq (tgt := 443) dLW_law_248 rfl (fun _ => ?_) (fun hq => absurd (sim_value hs) hq)
    exact K S M (hs.up (Nat.le_succ N))
  by_cases h52_5 : x = 5
  · refine ts_tableIn (tgt := 253) dLW_law_52 (by rw [h52_5]; decide) (by rw [h52_5]; decide) (by rw [h52_5]; rfl) rfl ?_
    refine ts_aload_n dLW_law_253 rfl rfl ?_
    refine ts_callV (cTS_checkpoint G (tm_h G M) S) pLW_C44.1 pLW_C44.2 rfl rfl rfl rfl ⟨Nat.le_of_ble_eq_true rfl, Nat.le_of_ble_eq_true rfl⟩ ⟨Nat.le_of_ble_eq_true rfl, Nat.le_of_ble_eq_true rfl⟩ rfl (Nat.le_of_ble_eq_true rfl) dLW_law_254 ?_
    refine ts_conv (lo' := [.ref 0, .ref 1, .ref 17, .int (nI c)]) (st' := [.int ((tc_checkpoint S).1)]) (h' := tc_h G ((tc_checkpoint S).2) ++ tm_h G M) rfl rfl rfl ?_
    refine ts_aload_n dLW_law_257 rfl rfl ?_
    refine ts_callV (cMO_checkpoint G ((tc_checkpoint S).2) M hs.p) pLW_C47.1 pLW_C47.2 rfl rfl rfl rfl ⟨Nat.le_of_ble_eq_true rfl, Nat.le_of_ble_eq_true rfl⟩ ⟨Nat.le_of_ble_eq_true rfl, Nat.le_of_ble_eq_true rfl⟩ rfl (Nat.le_of_ble_eq_true rfl) dLW_law_258 ?_
    refine ts_conv (lo' := [.ref 0, .ref 1, .ref 17, .int (nI c)]) (st' := [.int ((tm_checkpoint M).1), .int ((tc_checkpoint S).1)]) (h' := tc_h G ((tc_checkpoint S).2) ++ tm_h G ((tm_checkpoint M).2)) rfl rfl rfl ?_
    refine ts_icmp_eq (tgt := 443) dLW_law_261 rfl (fun _ => ?_) (fun hq => absurd (sim_checkpoint hs hN).1 hq)
    exact K ((tc_checkpoint S).2) ((tm_checkpoint M).2) (sim_checkpoint hs hN).2
  by_cases h52_6 : x = 6
  · refine ts_tableIn (tgt := 266) dLW_law_52 (by rw [h52_6]; decide) (by rw [h52_6]; decide) (by rw [h52_6]; rfl) rfl ?_
    refine ts_aload_n dLW_law_266 rfl rfl ?_
    refine ts_callV (cTS_step G (tm_h G M) S hs.j) pLW_C48.1 pLW_C48.2 rfl rfl rfl rfl ⟨Nat.le_of_ble_eq_true rfl, Nat.le_of_ble_eq_true rfl⟩ ⟨Nat.le_of_ble_eq_true rfl, Nat.le_of_ble_eq_true rfl⟩ rfl (Nat.le_of_ble_eq_true rfl) dLW_law_267 ?_
    refine ts_conv (lo' := [.ref 0, .ref 1, .ref 17, .int (nI c)]) (st' := [.int ((tc_step S).1)]) (h' := tc_h G ((tc_step S).2) ++ tm_h G M) rfl rfl rfl ?_
    refine ts_aload_n dLW_law_270 rfl rfl ?_
    refine ts_callV (cMO_step G ((tc_step S).2) M hs.jm hs.p) pLW_C51.1 pLW_C51.2 rfl rfl rfl rfl ⟨Nat.le_of_ble_eq_true rfl, Nat.le_of_ble_eq_true rfl⟩ ⟨Nat.le_of_ble_eq_true rfl, Nat.le_of_ble_eq_true rfl⟩ rfl (Nat.le_of_ble_eq_true rfl) dLW_law_271 ?_
    refine ts_conv (lo' := [.ref 0, .ref 1, .ref 17, .int (nI c)]) (st' := [.int ((tm_step M).1), .int ((tc_step S).1)]) (h' := tc_h G ((tc_step S).2) ++ tm_h G ((tm_step M).2)) rfl rfl rfl ?_
    refine ts_icmp_eq (tgt := 443) dLW_law_274 rfl (fun _ => ?_) (fun hq => absurd (sim_step hs).1 hq)
    exact K ((tc_step S).2) ((tm_step M).2) ((sim_step hs).2.up (Nat.le_succ N))
  by_cases h52_7 : x = 7
  · refine ts_tableIn (tgt := 279) dLW_law_52 (by rw [h52_7]; decide) (by rw [h52_7]; decide) (by rw [h52_7]; rfl) rfl ?_
    refine ts_aload_n dLW_law_279 rfl rfl ?_
    refine ts_callV (cTS_grow G (tm_h G M) S hs.j) pLW_C52.1 pLW_C52.2 rfl rfl rfl rfl ⟨Nat.le_of_ble_eq_true rfl, Nat.le_of_ble_eq_true rfl⟩ ⟨Nat.le_of_ble_eq_true rfl, Nat.le_of_ble_eq_true rfl⟩ rfl (Nat.le_of_ble_eq_true rfl) dLW_law_280 ?_
    refine ts_conv (lo' := [.ref 0, .ref 1, .ref 17, .int (nI c)]) (st' := [.int ((tc_grow S).1)]) (h' := tc_h G ((tc_grow S).2) ++ tm_h G M) rfl rfl rfl ?_
    refine ts_aload_n dLW_law_283 rfl rfl ?_
    refine ts_callV (cMO_grow G ((tc_grow S).2) M hs.jm) pLW_C55.1 pLW_C55.2 rfl rfl rfl rfl ⟨Nat.le_of_ble_eq_true rfl, Nat.le_of_ble_eq_true rfl⟩ ⟨Nat.le_of_ble_eq_true rfl, Nat.le_of_ble_eq_true rfl⟩ rfl (Nat.le_of_ble_eq_true rfl) dLW_law_284 ?_
    refine ts_conv (lo' := [.ref 0, .ref 1, .ref 17, .int (nI c)]) (st' := [.int ((tm_grow M).1), .int ((tc_grow S).1)]) (h' := tc_h G ((tc_grow S).2) ++ tm_h G ((tm_grow M).2)) rfl rfl rfl ?_
    refine ts_icmp_eq (tgt := 443) dLW_law_287 rfl (fun _ => ?_) (fun hq => absurd (sim_grow hs).1 hq)
    exact K ((tc_grow S).2) ((tm_grow M).2) ((sim_grow hs).2.up (Nat.le_succ N))
  by_cases h52_8 : x = 8
  · refine ts_tableIn (tgt := 292) dLW_law_52 (by rw [h52_8]; decide) (by rw [h52_8]; decide) (by rw [h52_8]; rfl) rfl ?_
    refine ts_aload_n dLW_law_292 rfl rfl ?_
    refine ts_callV (cTS_compact G (tm_h G M) S hs.j) pLW_C56.1 pLW_C56.2 rfl rfl rfl rfl ⟨Nat.le_of_ble_eq_true rfl, Nat.le_of_ble_eq_true rfl⟩ ⟨Nat.le_of_ble_eq_true rfl, Nat.le_of_ble_eq_true rfl⟩ rfl (Nat.le_of_ble_eq_true rfl) dLW_law_293 ?_
    refine ts_conv (lo' := [.ref 0, .ref 1, .ref 17, .int (nI c)]) (st' := [.int ((tc_compact S).1)]) (h' := tc_h G ((tc_compact S).2) ++ tm_h G M) rfl rfl rfl ?_
    refine ts_aload_n dLW_law_296 rfl rfl ?_
    refine ts_callV (cMO_compact G ((tc_compact S).2) M hs.jm) pLW_C59.1 pLW_C59.2 rfl rfl rfl rfl ⟨Nat.le_of_ble_eq_true rfl, Nat.le_of_ble_eq_true rfl⟩ ⟨Nat.le_of_ble_eq_true rfl, Nat.le_of_ble_eq_true rfl⟩ rfl (Nat.le_of_ble_eq_true rfl) dLW_law_297 ?_
    refine ts_conv (lo' := [.ref 0, .ref 1, .ref 17, .int (nI c)]) (st' := [.int ((tc_compact M).1), .int ((tc_compact S).1)]) (h' := tc_h G ((tc_compact S).2) ++ tm_h G ((tc_compact M).2)) rfl rfl rfl ?_
    refine ts_icmp_eq (tgt := 443) dLW_law_300 rfl (fun _ => ?_) (fun hq => absurd (sim_compact hs).1 hq)
    exact K ((tc_compact S).2) ((tc_compact M).2) ((sim_compact hs).2.up (Nat.le_succ N))
  by_cases h52_9 : x = 9
  · refine ts_tableIn (tgt := 305) dLW_law_52 (by rw [h52_9]; decide) (by rw [h52_9]; decide) (by rw [h52_9]; rfl) rfl ?_
    refine ts_aload_n dLW_law_305 rfl rfl ?_
    refine ts_aload_n dLW_law_306 rfl rfl ?_
    refine ts_iload_n dLW_law_307 rfl rfl ?_
    refine ts_iconst (v := 1) dLW_law_308 (by decide) ?_
    refine ts_iadd dLW_law_309 ?_
    refine ts_sld dLW_law_310 (tl_in1 hc hL) ?_
    refine ts_callV (cTS_fuse G (tm_h G M) S (ts_gx G (nI c + 1).toNatClampNeg)) pLW_C60.1 pLW_C60.2 rfl rfl rfl rfl ⟨Nat.le_of_ble_eq_true rfl, Nat.le_of_ble_eq_true rfl⟩ ⟨Nat.le_of_ble_eq_true rfl, Nat.le_of_ble_eq_true rfl⟩ rfl (Nat.le_of_ble_eq_true rfl) dLW_law_311 ?_
    refine ts_conv (lo' := [.ref 0, .ref 1, .ref 17, .int (nI c)]) (st' := [.int ((tc_fuse S (ts_gx G (nI c + 1).toNatClampNeg)).1)]) (h' := tc_h G ((tc_fuse S (ts_gx G (nI c + 1).toNatClampNeg)).2) ++ tm_h G M) rfl rfl rfl ?_
    refine ts_aload_n dLW_law_314 rfl rfl ?_
    refine ts_aload_n dLW_law_315 rfl rfl ?_
    refine ts_iload_n dLW_law_316 rfl rfl ?_
    refine ts_iconst (v := 1) dLW_law_317 (by decide) ?_
    refine ts_iadd dLW_law_318 ?_
    refine ts_sld dLW_law_319 (tl_in1 hc hL) ?_
    refine ts_callV (cMO_fuse G ((tc_fuse S (ts_gx G (nI c + 1).toNatClampNeg)).2) M (ts_gx G (nI c + 1).toNatClampNeg)) pLW_C64.1 pLW_C64.2 rfl rfl rfl rfl ⟨Nat.le_of_ble_eq_true rfl, Nat.le_of_ble_eq_true rfl⟩ ⟨Nat.le_of_ble_eq_true rfl, Nat.le_of_ble_eq_true rfl⟩ rfl (Nat.le_of_ble_eq_true rfl) dLW_law_320 ?_
    refine ts_conv (lo' := [.ref 0, .ref 1, .ref 17, .int (nI c)]) (st' := [.int ((tc_fuse M (ts_gx G (nI c + 1).toNatClampNeg)).1), .int ((tc_fuse S (ts_gx G (nI c + 1).toNatClampNeg)).1)]) (h' := tc_h G ((tc_fuse S (ts_gx G (nI c + 1).toNatClampNeg)).2) ++ tm_h G ((tc_fuse M (ts_gx G (nI c + 1).toNatClampNeg)).2)) rfl rfl rfl ?_
    refine ts_icmp_eq (tgt := 443) dLW_law_323 rfl (fun _ => ?_) (fun hq => absurd (sim_fuse hs (ts_gx G (nI c + 1).toNatClampNeg)).1 hq)
    exact K ((tc_fuse S (ts_gx G (nI c + 1).toNatClampNeg)).2) ((tc_fuse M (ts_gx G (nI c + 1).toNatClampNeg)).2) ((sim_fuse hs (ts_gx G (nI c + 1).toNatClampNeg)).2.up (Nat.le_succ N))
  by_cases h52_10 : x = 10
  · refine ts_tableIn (tgt := 328) dLW_law_52 (by rw [h52_10]; decide) (by rw [h52_10]; decide) (by rw [h52_10]; rfl) rfl ?_
    refine ts_aload_n dLW_law_328 rfl rfl ?_
    refine ts_callV (cTS_recover G (tm_h G M) S (sim_Rv hs)) pLW_C65.1 pLW_C65.2 rfl rfl rfl rfl ⟨Nat.le_of_ble_eq_true rfl, Nat.le_of_ble_eq_true rfl⟩ ⟨Nat.le_of_ble_eq_true rfl, Nat.le_of_ble_eq_true rfl⟩ rfl (Nat.le_of_ble_eq_true rfl) dLW_law_329 ?_
    refine ts_conv (lo' := [.ref 0, .ref 1, .ref 17, .int (nI c)]) (st' := [.int ((tc_recover S).1)]) (h' := tc_h G ((tc_recover S).2) ++ tm_h G M) rfl rfl rfl ?_
    refine ts_aload_n dLW_law_332 rfl rfl ?_
    refine ts_callV (cMO_recover G ((tc_recover S).2) M (sim_Rm hs)) pLW_C68.1 pLW_C68.2 rfl rfl rfl rfl ⟨Nat.le_of_ble_eq_true rfl, Nat.le_of_ble_eq_true rfl⟩ ⟨Nat.le_of_ble_eq_true rfl, Nat.le_of_ble_eq_true rfl⟩ rfl (Nat.le_of_ble_eq_true rfl) dLW_law_333 ?_
    refine ts_conv (lo' := [.ref 0, .ref 1, .ref 17, .int (nI c)]) (st' := [.int ((tm_recover M).1), .int ((tc_recover S).1)]) (h' := tc_h G ((tc_recover S).2) ++ tm_h G ((tm_recover M).2)) rfl rfl rfl ?_
    refine ts_icmp_eq (tgt := 443) dLW_law_336 rfl (fun _ => ?_) (fun hq => absurd (sim_recover hs hN).1 hq)
    exact K ((tc_recover S).2) ((tm_recover M).2) (sim_recover hs hN).2
  by_cases h52_11 : x = 11
  · refine ts_tableIn (tgt := 341) dLW_law_52 (by rw [h52_11]; decide) (by rw [h52_11]; decide) (by rw [h52_11]; rfl) rfl ?_
    refine ts_aload_n dLW_law_341 rfl rfl ?_
    refine ts_aload_n dLW_law_342 rfl rfl ?_
    refine ts_iload_n dLW_law_343 rfl rfl ?_
    refine ts_iconst (v := 1) dLW_law_344 (by decide) ?_
    refine ts_iadd dLW_law_345 ?_
    refine ts_sld dLW_law_346 (tl_in1 hc hL) ?_
    refine ts_callV (cTS_address G (tm_h G M) S (ts_gx G (nI c + 1).toNatClampNeg)) pLW_C69.1 pLW_C69.2 rfl rfl rfl rfl ⟨Nat.le_of_ble_eq_true rfl, Nat.le_of_ble_eq_true rfl⟩ ⟨Nat.le_of_ble_eq_true rfl, Nat.le_of_ble_eq_true rfl⟩ rfl (Nat.le_of_ble_eq_true rfl) dLW_law_347 ?_
    refine ts_conv (lo' := [.ref 0, .ref 1, .ref 17, .int (nI c)]) (st' := [.int (tc_address S (ts_gx G (nI c + 1).toNatClampNeg))]) (h' := tc_h G S ++ tm_h G M) rfl rfl rfl ?_
    refine ts_aload_n dLW_law_350 rfl rfl ?_
    refine ts_aload_n dLW_law_351 rfl rfl ?_
    refine ts_iload_n dLW_law_352 rfl rfl ?_
    refine ts_iconst (v := 1) dLW_law_353 (by decide) ?_
    refine ts_iadd dLW_law_354 ?_
    refine ts_sld dLW_law_355 (tl_in1 hc hL) ?_
    refine ts_callV (cMO_address G S M (ts_gx G (nI c + 1).toNatClampNeg)) pLW_C72.1 pLW_C72.2 rfl rfl rfl rfl ⟨Nat.le_of_ble_eq_true rfl, Nat.le_of_ble_eq_true rfl⟩ ⟨Nat.le_of_ble_eq_true rfl, Nat.le_of_ble_eq_true rfl⟩ rfl (Nat.le_of_ble_eq_true rfl) dLW_law_356 ?_
    refine ts_conv (lo' := [.ref 0, .ref 1, .ref 17, .int (nI c)]) (st' := [.int (tc_address M (ts_gx G (nI c + 1).toNatClampNeg)), .int (tc_address S (ts_gx G (nI c + 1).toNatClampNeg))]) (h' := tc_h G S ++ tm_h G M) rfl rfl rfl ?_
    refine ts_icmp_eq (tgt := 443) dLW_law_359 rfl (fun _ => ?_) (fun hq => absurd (sim_address hs (ts_gx G (nI c + 1).toNatClampNeg)) hq)
    exact K S M (hs.up (Nat.le_succ N))
  by_cases h52_12 : x = 12
  · refine ts_tableIn (tgt := 364) dLW_law_52 (by rw [h52_12]; decide) (by rw [h52_12]; decide) (by rw [h52_12]; rfl) rfl ?_
    refine ts_aload_n dLW_law_364 rfl rfl ?_
    refine ts_aload_n dLW_law_365 rfl rfl ?_
    refine ts_iload_n dLW_law_366 rfl rfl ?_
    refine ts_iconst (v := 1) dLW_law_367 (by decide) ?_
    refine ts_iadd dLW_law_368 ?_
    refine ts_sld dLW_law_369 (tl_in1 hc hL) ?_
    refine ts_aload_n dLW_law_370 rfl rfl ?_
    refine ts_iload_n dLW_law_371 rfl rfl ?_
    refine ts_iconst (v := 2) dLW_law_372 (by decide) ?_
    refine ts_iadd dLW_law_373 ?_
    refine ts_sld dLW_law_374 (tl_in2 hc hL) ?_
    refine ts_callV (cTS_entry G (tm_h G M) S (ts_gx G (nI c + 1).toNatClampNeg) (ts_gx G (nI c + 2).toNatClampNeg) hs.j) pLW_C73.1 pLW_C73.2 rfl rfl rfl rfl ⟨Nat.le_of_ble_eq_true rfl, Nat.le_of_ble_eq_true rfl⟩ ⟨Nat.le_of_ble_eq_true rfl, Nat.le_of_ble_eq_true rfl⟩ rfl (Nat.le_of_ble_eq_true rfl) dLW_law_375 ?_
    refine ts_conv (lo' := [.ref 0, .ref 1, .ref 17, .int (nI c)]) (st' := [.int (tc_entry S (ts_gx G (nI c + 1).toNatClampNeg) (ts_gx G (nI c + 2).toNatClampNeg))]) (h' := tc_h G S ++ tm_h G M) rfl rfl rfl ?_
    refine ts_aload_n dLW_law_378 rfl rfl ?_
    refine ts_aload_n dLW_law_379 rfl rfl ?_
    refine ts_iload_n dLW_law_380 rfl rfl ?_
    refine ts_iconst (v := 1) dLW_law_381 (by decide) ?_
    refine ts_iadd dLW_law_382 ?_
    refine ts_sld dLW_law_383 (tl_in1 hc hL) ?_
    refine ts_aload_n dLW_law_384 rfl rfl ?_
    refine ts_iload_n dLW_law_385 rfl rfl ?_
    refine ts_iconst (v := 2) dLW_law_386 (by decide) ?_
    refine ts_iadd dLW_law_387 ?_
    refine ts_sld dLW_law_388 (tl_in2 hc hL) ?_
    refine ts_callV (cMO_entry G S M (ts_gx G (nI c + 1).toNatClampNeg) (ts_gx G (nI c + 2).toNatClampNeg) hs.jm) pLW_C76.1 pLW_C76.2 rfl rfl rfl rfl ⟨Nat.le_of_ble_eq_true rfl, Nat.le_of_ble_eq_true rfl⟩ ⟨Nat.le_of_ble_eq_true rfl, Nat.le_of_ble_eq_true rfl⟩ rfl (Nat.le_of_ble_eq_true rfl) dLW_law_389 ?_
    refine ts_conv (lo' := [.ref 0, .ref 1, .ref 17, .int (nI c)]) (st' := [.int (tm_entry M (ts_gx G (nI c + 1).toNatClampNeg) (ts_gx G (nI c + 2).toNatClampNeg)), .int (tc_entry S (ts_gx G (nI c + 1).toNatClampNeg) (ts_gx G (nI c + 2).toNatClampNeg))]) (h' := tc_h G S ++ tm_h G M) rfl rfl rfl ?_
    refine ts_icmp_eq (tgt := 443) dLW_law_392 rfl (fun _ => ?_) (fun hq => absurd (sim_entry hs (ts_gx G (nI c + 1).toNatClampNeg) (ts_gx G (nI c + 2).toNatClampNeg)) hq)
    exact K S M (hs.up (Nat.le_succ N))
  by_cases h52_13 : x = 13
  · refine ts_tableIn (tgt := 397) dLW_law_52 (by rw [h52_13]; decide) (by rw [h52_13]; decide) (by rw [h52_13]; rfl) rfl ?_
    refine ts_aload_n dLW_law_397 rfl rfl ?_
    refine ts_aload_n dLW_law_398 rfl rfl ?_
    refine ts_iload_n dLW_law_399 rfl rfl ?_
    refine ts_iconst (v := 1) dLW_law_400 (by decide) ?_
    refine ts_iadd dLW_law_401 ?_
    refine ts_sld dLW_law_402 (tl_in1 hc hL) ?_
    refine ts_callV (cTS_bucket G (tm_h G M) S (ts_gx G (nI c + 1).toNatClampNeg) hs.j) pLW_C77.1 pLW_C77.2 rfl rfl rfl rfl ⟨Nat.le_of_ble_eq_true rfl, Nat.le_of_ble_eq_true rfl⟩ ⟨Nat.le_of_ble_eq_true rfl, Nat.le_of_ble_eq_true rfl⟩ rfl (Nat.le_of_ble_eq_true rfl) dLW_law_403 ?_
    refine ts_conv (lo' := [.ref 0, .ref 1, .ref 17, .int (nI c)]) (st' := [.int (tc_bucket S (ts_gx G (nI c + 1).toNatClampNeg))]) (h' := tc_h G S ++ tm_h G M) rfl rfl rfl ?_
    refine ts_aload_n dLW_law_406 rfl rfl ?_
    refine ts_aload_n dLW_law_407 rfl rfl ?_
    refine ts_iload_n dLW_law_408 rfl rfl ?_
    refine ts_iconst (v := 1) dLW_law_409 (by decide) ?_
    refine ts_iadd dLW_law_410 ?_
    refine ts_sld dLW_law_411 (tl_in1 hc hL) ?_
    refine ts_callV (cMO_bucket G S M (ts_gx G (nI c + 1).toNatClampNeg) hs.jm) pLW_C80.1 pLW_C80.2 rfl rfl rfl rfl ⟨Nat.le_of_ble_eq_true rfl, Nat.le_of_ble_eq_true rfl⟩ ⟨Nat.le_of_ble_eq_true rfl, Nat.le_of_ble_eq_true rfl⟩ rfl (Nat.le_of_ble_eq_true rfl) dLW_law_412 ?_
    refine ts_conv (lo' := [.ref 0, .ref 1, .ref 17, .int (nI c)]) (st' := [.int (tc_bucket M (ts_gx G (nI c + 1).toNatClampNeg)), .int (tc_bucket S (ts_gx G (nI c + 1).toNatClampNeg))]) (h' := tc_h G S ++ tm_h G M) rfl rfl rfl ?_
    refine ts_icmp_eq (tgt := 443) dLW_law_415 rfl (fun _ => ?_) (fun hq => absurd (sim_bucket hs (ts_gx G (nI c + 1).toNatClampNeg)) hq)
    exact K S M (hs.up (Nat.le_succ N))
  by_cases h52_14 : x = 14
  · refine ts_tableIn (tgt := 420) dLW_law_52 (by rw [h52_14]; decide) (by rw [h52_14]; decide) (by rw [h52_14]; rfl) rfl ?_
    refine ts_aload_n dLW_law_420 rfl rfl ?_
    refine ts_aload_n dLW_law_421 rfl rfl ?_
    refine ts_iload_n dLW_law_422 rfl rfl ?_
    refine ts_iconst (v := 1) dLW_law_423 (by decide) ?_
    refine ts_iadd dLW_law_424 ?_
    refine ts_sld dLW_law_425 (tl_in1 hc hL) ?_
    refine ts_callV (cTS_size G (tm_h G M) S (ts_gx G (nI c + 1).toNatClampNeg) hs.j) pLW_C81.1 pLW_C81.2 rfl rfl rfl rfl ⟨Nat.le_of_ble_eq_true rfl, Nat.le_of_ble_eq_true rfl⟩ ⟨Nat.le_of_ble_eq_true rfl, Nat.le_of_ble_eq_true rfl⟩ rfl (Nat.le_of_ble_eq_true rfl) dLW_law_426 ?_
    refine ts_conv (lo' := [.ref 0, .ref 1, .ref 17, .int (nI c)]) (st' := [.int (tc_size S (ts_gx G (nI c + 1).toNatClampNeg))]) (h' := tc_h G S ++ tm_h G M) rfl rfl rfl ?_
    refine ts_aload_n dLW_law_429 rfl rfl ?_
    refine ts_aload_n dLW_law_430 rfl rfl ?_
    refine ts_iload_n dLW_law_431 rfl rfl ?_
    refine ts_iconst (v := 1) dLW_law_432 (by decide) ?_
    refine ts_iadd dLW_law_433 ?_
    refine ts_sld dLW_law_434 (tl_in1 hc hL) ?_
    refine ts_callV (cMO_size G S M (ts_gx G (nI c + 1).toNatClampNeg) hs.jm) pLW_C84.1 pLW_C84.2 rfl rfl rfl rfl ⟨Nat.le_of_ble_eq_true rfl, Nat.le_of_ble_eq_true rfl⟩ ⟨Nat.le_of_ble_eq_true rfl, Nat.le_of_ble_eq_true rfl⟩ rfl (Nat.le_of_ble_eq_true rfl) dLW_law_435 ?_
    refine ts_conv (lo' := [.ref 0, .ref 1, .ref 17, .int (nI c)]) (st' := [.int (tc_size M (ts_gx G (nI c + 1).toNatClampNeg)), .int (tc_size S (ts_gx G (nI c + 1).toNatClampNeg))]) (h' := tc_h G S ++ tm_h G M) rfl rfl rfl ?_
    refine ts_icmp_eq (tgt := 443) dLW_law_438 rfl (fun _ => ?_) (fun hq => absurd (sim_size hs (ts_gx G (nI c + 1).toNatClampNeg)) hq)
    exact K S M (hs.up (Nat.le_succ N))
  refine ts_tableOut (tgt := 443) dLW_law_52 (by have q0 := lv_neT h52_0 (by decide : (0 : Int32).toInt = 0); have q1 := lv_neT h52_1 (by decide : (1 : Int32).toInt = 1); have q2 := lv_neT h52_2 (by decide : (2 : Int32).toInt = 2); have q3 := lv_neT h52_3 (by decide : (3 : Int32).toInt = 3); have q4 := lv_neT h52_4 (by decide : (4 : Int32).toInt = 4); have q5 := lv_neT h52_5 (by decide : (5 : Int32).toInt = 5); have q6 := lv_neT h52_6 (by decide : (6 : Int32).toInt = 6); have q7 := lv_neT h52_7 (by decide : (7 : Int32).toInt = 7); have q8 := lv_neT h52_8 (by decide : (8 : Int32).toInt = 8); have q9 := lv_neT h52_9 (by decide : (9 : Int32).toInt = 9); have q10 := lv_neT h52_10 (by decide : (10 : Int32).toInt = 10); have q11 := lv_neT h52_11 (by decide : (11 : Int32).toInt = 11); have q12 := lv_neT h52_12 (by decide : (12 : Int32).toInt = 12); have q13 := lv_neT h52_13 (by decide : (13 : Int32).toInt = 13); have q14 := lv_neT h52_14 (by decide : (14 : Int32).toInt = 14); omega) rfl ?_
  exact K S M (hs.up (Nat.le_succ N))
