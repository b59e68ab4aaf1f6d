/-! The abstract machine, second part: what is made, calls, ends, contracts. -/
section TSN
variable {G : ts_GX} {X : ts_VX} {Y : ts_YX} {Q : State → Prop} {cells slots pc : Nat} {lo st : List Value} {h : List va_E}
/-- a new cell lies behind all others -/
theorem ts_newAt {H1 : Heap} {q : Nat} {e : va_E} (hz : (ts_xs X).heap.size + cells = ts_gz G + h.length) (hsz : H1.size ≤ (ts_xs X).heap.size + (cells + 1)) (hP : va_P (ts_gD G) vwCl (ts_ww G h ++ [(q, e)]) H1) (hD : va_D (fun x => ts_gz G ≤ x) (ts_ww G h ++ [(q, e)])) : q = ts_gz G + h.length := by
  have hlen : (ts_ww G h).length = h.length := by rw [ts_ww, List.length_mapIdx]
  have hq : (ts_ww G h ++ [(q, e)])[h.length]? = some (q, e) := by
    rw [List.getElem?_append_right (by omega), hlen, Nat.sub_self]; rfl
  have h1 : q < H1.size := (hP _ _ hq).lt
  have h2 : ts_gz G ≤ q := hD.2 _ _ hq
  by_cases hlt : q < ts_gz G + h.length
  · exfalso
    have hi : q - ts_gz G < h.length := by omega
    have h3 : (ts_ww G h ++ [(q, e)])[q - ts_gz G]? = some (ts_gz G + (q - ts_gz G), ts_ce G h[q - ts_gz G]) := by
      rw [List.getElem?_append_left (by omega)]
      exact ts_ww_at (List.getElem?_eq_getElem hi)
    have h4 := hD.1 _ _ _ _ h3 hq (by show ts_gz G + (q - ts_gz G) = q; omega)
    omega
  · omega
/-- a class that a class's code names by a place of its pool, to make an object of it -/
def ts_gN (own : String) (ix ci N : Nat) (fs : List Value) : Prop := ∃ (C : String) (T : u_T) (ty : Nat → FieldType), vwCl[ci]? = some (C, T, N) ∧ (∀ w ∈ u_ws C T N, w ∈ ts_all) ∧ (∀ k, k < N → parseFieldDescriptor (T k).2.2.1 = some (ty k)) ∧ Cond.classLink own ix C ∈ ts_all ∧ Cond.instantiable C N ∈ ts_all ∧ Cond.initialized C ∈ ts_all ∧ (∀ j, j < N → defaultValue (ty j) = vp_V fs j) ∧ ∀ G : ts_GX, fs.map (ts_cv G) = fs
theorem ts_new {N ci ix : Nat} {fs : List Value} {h' : List va_E} {q : Nat} (F : ts_gN (ts_yo Y) ix ci N fs) (hcells : cells + 1 ≤ (ts_yR Y).cells) (hslots : slots + N ≤ (ts_yR Y).slots) (d : decode (ts_yc Y) pc = .ok (.new ix, 3)) (eq : h.length + 1 = q) (eh : h ++ [.inr (ci, fs)] = h')
    (kk : ts_V G X Y Q (cells + 1) (slots + N) (pc + 3) lo (.ref q :: st) h') : ts_V G X Y Q cells slots pc lo st h := by
  subst eq
  subst eh
  intro C z H locs ls a b c
  obtain ⟨Cn, T, ty, hc, hin, hty, hcl, hinst, hini, hfs, hG⟩ := F
  refine va_new (fs := fs.map (ts_cv G)) C.1 C.2.1 C.hts hin ty hty C.2.2.2.1 (C.hts _ hcl) (C.hts _ hinst) (C.hts _ hini) C.hK b (ts_ww_D G h) c (fun q hq => Nat.le_trans C.hz hq) hc (by rw [hG]; exact hfs) hcells hslots d (fun q H1 hP hD hS => ?_)
  refine ts_size fun hsz => ?_
  have hq := ts_newAt (X := X) (e := .inr (ci, fs.map (ts_cv G))) z hsz hP hD
  subst hq
  have hP1 : va_P (ts_gD G) vwCl (ts_ww G (h ++ [.inr (ci, fs)])) H1 := by
    rw [← ts_ww_push]
    exact hP
  exact kk C (by rw [List.length_append]; show _ + (cells + 1) = _ + (_ + 1); omega) H1 locs ls a hP1 hS
theorem ts_newa {atype : ArrayType} {cA : ClassId} {ty : FieldType} {N : Nat} {n : Int32} {h' : List va_E} {q : Nat} (t0 : Nat) (hty : newarray.typeOf atype = ty) (harr : Cond.arrayClass ty ∈ ts_all) (ht : (ts_ty G)[t0]? = some (cA, ty)) (hnm : ty = .int ∨ ty = .boolean) (hn : ¬ n < 0) (hN : n.toNatClampNeg = N) (hb : N * componentBytes ty ≤ 536870912) (hcells : cells + 1 ≤ (ts_yR Y).cells) (hslots : slots + N ≤ (ts_yR Y).slots) (d : decode (ts_yc Y) pc = .ok (.newarray atype, 2)) (eq : h.length + 1 = q) (eh : h ++ [.inl (cA, N, .inl (fun _ => 0))] = h')
    (kk : ts_V G X Y Q (cells + 1) (slots + N) (pc + 2) lo (.ref q :: st) h') : ts_V G X Y Q cells slots pc lo (.int n :: st) h := by
  subst eq
  subst eh
  intro C z H locs ls a b c
  refine va_newa (a0 := (N, .inl (fun _ => 0))) C.1 C.2.1 (C.hts _ (by rw [hty]; exact harr)) hty C.hK b (ts_ww_D G h) c (fun q hq => Nat.le_trans C.hz hq) (fun cA => by rcases hnm with rfl | rfl <;> rfl) hn hN hb hcells hslots d (fun q cB H1 hK hP hD hS => ?_)
  have hcA : cB = cA := by
    have h1 := (C.hK.2 t0 _ ht).2
    have h2 := (hK.2 (ts_ty G).length (cB, ty) (by rw [List.getElem?_append_right (Nat.le_refl _), Nat.sub_self]; rfl)).2
    rcases hnm with rfl | rfl
    · have e1 : (ts_xs X).vm.findClass ("[" ++ FieldType.toString .int) = some cA := h1
      have e2 : (ts_xs X).vm.findClass ("[" ++ FieldType.toString .int) = some cB := h2
      exact Option.some.inj (e2.symm.trans e1)
    · have e1 : (ts_xs X).vm.findClass ("[" ++ FieldType.toString .boolean) = some cA := h1
      have e2 : (ts_xs X).vm.findClass ("[" ++ FieldType.toString .boolean) = some cB := h2
      exact Option.some.inj (e2.symm.trans e1)
  subst hcA
  refine ts_size fun hsz => ?_
  have hq := ts_newAt (X := X) (e := .inl (cB, N, .inl (fun _ => 0))) z hsz hP hD
  subst hq
  have hP1 : va_P (ts_gD G) vwCl (ts_ww G (h ++ [.inl (cB, N, .inl (fun _ => 0))])) H1 := by
    rw [← ts_ww_push]
    exact hP
  exact kk C (by rw [List.length_append]; show _ + (cells + 1) = _ + (_ + 1); omega) H1 locs ls a hP1 hS
theorem ts_objInit {ix i : Nat} (hl : Cond.methodLink (ts_yo Y) ix Lib.objectInit ∈ ts_all) (hi : Cond.instanceMethod Lib.objectInit ∈ ts_all) (hc : Cond.code Lib.objectInit ⟨#[0xb1]⟩ 1 none ∈ ts_all) (hf : 1 ≤ (ts_yR Y).frames) (hw : (st.map fun v => v.category).sum + 12 ≤ (ts_yR Y).locals) (d : decode (ts_yc Y) pc = .ok (.invokespecial ix, 3)) (k : ts_V G X Y Q cells slots (pc + 3) lo st h) : ts_V G X Y Q cells slots pc lo (.ref (i + 1) :: st) h := by
  intro C z H locs ls a b c
  exact W.objInit C.1 C.2.1 C.2.2.2.1 (C.hts _ hl) (C.hts _ hi) (C.hts _ hc) rfl (a.1.trans C.2.2.1.symm) rfl d hf (by show 2 * 0 + ((st.map (ts_cv G)).map fun v => v.category).sum + 12 ≤ _; rw [ts_cv_sum]; omega) (k C z H locs ls a b c)
theorem ts_widen {cells' slots' : Nat} (h1 : cells = cells') (h2 : slots ≤ slots') (k : ts_V G X Y Q cells' slots' pc lo st h) : ts_V G X Y Q cells slots pc lo st h := by
  subst h1
  exact fun C z H locs ls a b c => W.widen (Nat.le_refl _) h2 (k C z H locs ls a b c)
/-- fewer locals -/
theorem ts_less {lo' : List Value} (n : Nat) (e : lo.take n = lo') (k : ts_V G X Y Q cells slots pc lo' st h) : ts_V G X Y Q cells slots pc lo st h := by
  subst e
  intro C z H locs ls a b c
  refine k C z H locs ls ⟨a.1, a.2.1, fun i v hv => a.2.2.1 i v ?_, fun v hv => a.2.2.2 v ?_⟩ b c
  · rw [List.map_take] at hv
    by_cases hi : i < n
    · rw [List.getElem?_take_of_lt hi] at hv; exact hv
    · rw [List.getElem?_eq_none (by rw [List.length_take]; omega)] at hv; cases hv
  · rw [List.map_take] at hv
    exact List.mem_of_mem_take hv
theorem ts_conv {lo' st' : List Value} {h' : List va_E} (e1 : lo = lo') (e2 : st = st') (e3 : h = h') (k : ts_V G X Y Q cells slots pc lo' st' h') : ts_V G X Y Q cells slots pc lo st h := by
  subst e1
  subst e2
  subst e3
  exact k
/-- where two branches meet -/
theorem ts_join {j : Nat} {lo' st' : List Value} {h' : List va_E} (k : ts_V G X Y Q cells slots j lo' st' h' → ts_V G X Y Q cells slots pc lo st h) (K : ts_V G X Y Q cells slots j lo' st' h') : ts_V G X Y Q cells slots pc lo st h := k K
theorem ts_cat1 {as : List Value} (h : as.all (fun v => v.category == 1) = true) : ∀ v ∈ as, v.category = 1 := by
  intro v hv
  have h1 := List.all_eq_true.mp h v hv
  exact eq_of_beq h1
/-- a contract: from these arguments and this world the method comes back with ro and the world h1 -/
def ts_Q (G : ts_GX) (ro : Option Value) (h1 : List va_E) : Array Value → State → Outcome → State → Prop := fun _ st o t => o = .returned (ro.map (ts_cv G)) ∧ va_P (ts_gD G) vwCl (ts_ww G h1) t.heap ∧ va_F (fun q => ts_gz G ≤ q) st t
def ts_Pc (G : ts_GX) (nw : List ts_NX) (as : List Value) (h : List va_E) : Array Value → State → Prop := fun v U => v = (as.map (ts_cv G)).toArray ∧ U.heap.size = ts_gz G + h.length ∧ va_P (ts_gD G) vwCl (ts_ww G h) U.heap ∧ va_K (ts_gD G) vwCl (ts_ty G) U ∧ va_X (ts_gb G) (ts_gL G) (ts_gx G) U U.heap ∧ ts_gb G < ts_gz G ∧ ∀ q ∈ nw, va_Nw (ts_nw q) U
def ts_M (G : ts_GX) (y : MethodName) (Y : ts_YX) (as : List Value) (h : List va_E) (ro : Option Value) (h1 : List va_E) (mc ms : Nat) : Prop :=
  (h1.length = h.length + mc ∧ (ts_yR Y).cells = mc ∧ (ts_yR Y).slots = ms) ∧ Met (ts_gl G) y (ts_ws y Y) (ts_yR Y) (ts_Pc G (ts_yN Y) as h) (ts_Q G ro h1) mc ms (fun q => ts_gz G ≤ q)
def ts_QX (G : ts_GX) (X : ts_VX) (ro : Option Value) (h1 : List va_E) (mc ms : Nat) : State → Prop := MQ (ts_xw X) (ts_Q G ro h1) (ts_xa X) (ts_xs X) mc ms (fun q => ts_gz G ≤ q)
theorem ts_blind (G : ts_GX) (nw : List ts_NX) (as : List Value) (h : List va_E) : FrameBlind (ts_Pc G nw as h) := by
  intro a U g mk q
  obtain ⟨q0, q1, q2, q3, q5, q6, q4⟩ := q
  exact ⟨q0, q1, q2, va_K.moved (u := U) (U := U.calling g mk a) (Vm.Alike.refl U.vm) q3, va_X.moved (u := U) (U := U.calling g mk a) (Vm.Alike.refl U.vm) q5, q6, fun x hx => (q4 x hx).same rfl rfl⟩
theorem ts_iret {v : Int32} {ro : Option Value} {h1 : List va_E} (d : decode (ts_yc Y) pc = .ok (.ireturn, 1)) (hr : ts_yr Y = some .int) (e1 : ro = some (.int v)) (e2 : h1 = h) : ts_V G X Y (ts_QX G X ro h1 cells slots) cells slots pc lo [.int v] h := by
  subst e1
  subst e2
  intro C z H locs ls a b c
  exact W.iret C.1 C.2.1 (C.2.2.2.2.1.trans hr) (fun t ht hW => ⟨rfl, by rw [ht]; exact b, c.F ht⟩) c.2.2 d C.2.2.2.2.2.1
theorem ts_zret {v : Int32} {ro : Option Value} {h1 : List va_E} (d : decode (ts_yc Y) pc = .ok (.ireturn, 1)) (hr : ts_yr Y = some .boolean) (hv : v &&& 1 = v) (e1 : ro = some (.int v)) (e2 : h1 = h) : ts_V G X Y (ts_QX G X ro h1 cells slots) cells slots pc lo [.int v] h := by
  subst e1
  subst e2
  intro C z H locs ls a b c
  exact W.zret C.1 C.2.1 (C.2.2.2.2.1.trans hr) (by show Value.int (v &&& 1) = .int v; rw [hv]) (fun t ht hW => ⟨rfl, by rw [ht]; exact b, c.F ht⟩) c.2.2 d C.2.2.2.2.2.1
theorem ts_vret {ro : Option Value} {h1 : List va_E} (d : decode (ts_yc Y) pc = .ok (.return_, 1)) (hr : ts_yr Y = none) (e1 : ro = none) (e2 : h1 = h) : ts_V G X Y (ts_QX G X ro h1 cells slots) cells slots pc lo [] h := by
  subst e1
  subst e2
  intro C z H locs ls a b c
  exact W.vret C.1 C.2.1 (C.2.2.2.2.1.trans hr) (fun t ht hW => ⟨rfl, by rw [ht]; exact b, c.F ht⟩) c.2.2 d C.2.2.2.2.2.1
/-- a contract out of a walk -/
theorem ts_of {y : MethodName} {as : List Value} {ro : Option Value} {h1 : List va_E} {mc ms : Nat} (hy : plainName y.cls = true) (ho : y.cls = ts_yo Y) (hm : y.name = ts_ym Y) (hl : h1.length = h.length + mc) (hmc : (ts_yR Y).cells = mc) (hms : (ts_yR Y).slots = ms) (ha : as.length ≤ ts_yn Y) (hc : ∀ v ∈ as, v.category = 1)
    (body : ∀ X : ts_VX, ts_V G X Y (ts_QX G X ro h1 mc ms) 0 0 0 as [] h) : ts_M G y Y as h ro h1 mc ms := by
  refine ⟨⟨hl, hmc, hms⟩, Met.ofW (cc := ts_yc Y) (maxL := ts_yn Y) (ret := ts_yr Y) hy rfl ?_⟩
  intro p e s m args below meth c s₁ B hml hv
  obtain ⟨rfl, hsz, hP, hK, hXs, hbz, hN⟩ := hv
  have hts := atoms_spec (ws := ts_ws y Y) B.pre
  have hown : s.vm.findClass (ts_yo Y) = some m.cls := by rw [← ho]; exact findClass_of_methodNamed B.named
  have hname : meth.name = ts_ym Y := by rw [← hm]; exact (name_of_methodNamed B.named B.method).1
  have hc' : ∀ w ∈ as.map (ts_cv G), w.category = 1 := by
    intro w hw
    obtain ⟨v, hv, rfl⟩ := List.mem_map.mp hw
    rw [ts_cv_cat]
    exact hc v hv
  rw [lg_entry_eq]
  exact body (p, e, s, m, (as.map (ts_cv G)).toArray, below, meth, c) ⟨B.exec, B.bytes, hml, hown, B.returns, B.notSynchronized, hname, fun w hw => hts w (List.mem_cons_of_mem _ hw), hK, hN, by show ts_gz G ≤ s.heap.size; omega, hXs, hbz⟩ (by show s.heap.size + 0 = _; omega) s.heap [] _ (ts_lz_entry hc' (by rw [List.length_map]; exact ha)) hP va_S.rf
/-- behind a call -/
theorem ts_back {as rest : List Value} {ro : Option Value} {h1 : List va_E} {mc ms : Nat} {H : Heap} {locs : List Loc} {ls : Array Slot} {a0 : Array Value} (C : ts_C G X Y) (z : (ts_xs X).heap.size + cells = ts_gz G + h.length) (a : ts_lz ls (ts_yn Y) (lo.map (ts_cv G))) (c : va_S (fun q => ts_gz G ≤ q) (ts_xs X).heap H locs) (hl : h1.length = h.length + mc)
    (run : va_Run (ts_xp X) (ts_gl G) (ts_xe X) (ts_yR Y) (ts_xs X) (ts_xm X) (ts_xa X) (ts_xw X) (ts_xt X) (ts_xc X) H locs cells slots mc ms (F0 (ts_xm X) pc ls ((as.reverse ++ rest).map (ts_cv G))) (rest.map (ts_cv G)) (ts_Q G ro h1 a0) (fun q => ts_gz G ≤ q))
    (k : ts_V G X Y Q (cells + mc) (slots + ms) (pc + 3) lo (ro.toList ++ rest) h1) : ts_W G X Y Q cells slots pc H locs ls ((as.reverse ++ rest).map (ts_cv G)) := by
  intro T hT XS
  obtain ⟨v, st₀, t, T', L, e0, X', hL, e1, e2, ⟨ho, hPt, hz, hk⟩, hgo⟩ := run T hT XS
  obtain rfl : v = ro.map (ts_cv G) := by
    cases ho
    rfl
  rw [e0] at hz hk
  have hS' : va_S (fun q => ts_gz G ≤ q) (ts_xs X).heap T'.heap (locs ++ L) := by
    refine ⟨Nat.le_trans c.1 (by rw [e1]; exact hz), fun q h1 h2 => ?_, fun q hq => ?_⟩
    · rw [e1, hk q (Nat.lt_of_lt_of_le h1 c.1) h2]
      exact c.2.1 q h1 h2
    · rcases List.mem_append.mp hq with h | h
      · exact c.2.2 q h
      · exact hL q h
  obtain ⟨t2, a1, b1⟩ := k C (by omega) T'.heap (locs ++ L) ls a (by rw [e1]; exact hPt) hS' T' rfl X'
  refine ⟨t2, hgo t2 ?_, b1⟩
  have es : (ro.toList ++ rest).map (ts_cv G) = (ro.map (ts_cv G)).toList ++ rest.map (ts_cv G) := by
    cases ro <;> simp
  rw [es] at a1
  exact a1
/-- what a method's pool says of a callee -/
def ts_lk (own : String) (ix : Nat) (y : MethodName) (Y' : ts_YX) (n : Nat) : Prop := Cond.methodLink own ix y ∈ ts_all ∧ Cond.initialized y.cls ∈ ts_all ∧ Cond.code y (ts_yc Y') (ts_yn Y') (ts_yr Y') ∈ ts_all ∧ (y.cls ≠ "java/lang/invoke/MethodHandle" ∧ y.cls ≠ "java/lang/invoke/VarHandle" ∧ (parseMethodDescriptor y.desc).map (fun d => d.parameters.length) = some n)
def ts_fit (Y Y' : ts_YX) : Prop := (ts_yR Y').frames + 1 ≤ (ts_yR Y).frames ∧ 8 + (ts_yn Y' + 11) + (ts_yR Y').locals ≤ (ts_yR Y).locals
theorem ts_hsize {H : Heap} {locs : List Loc} (C : ts_C G X Y) (z : (ts_xs X).heap.size + cells = ts_gz G + h.length) (b : va_P (ts_gD G) vwCl (ts_ww G h) H) (c : va_S (fun q => ts_gz G ≤ q) (ts_xs X).heap H locs) (hsz : H.size ≤ (ts_xs X).heap.size + cells) : H.size = ts_gz G + h.length := by
  have h1 := c.1
  have h2 := C.hz
  rcases ts_low b with rfl | h3
  · simp only [List.length_nil] at z ⊢
    omega
  · omega
theorem ts_pre {H : Heap} {locs : List Loc} {nw : List ts_NX} {as : List Value} (C : ts_C G X Y) (hHs : H.size = ts_gz G + h.length) (b : va_P (ts_gD G) vwCl (ts_ww G h) H) (c : va_S (fun q => ts_gz G ≤ q) (ts_xs X).heap H locs) (hN : ∀ (U : State), (ts_xs X).WarmedH U.vm → ∀ q ∈ nw, va_Nw (ts_nw q) U) : ∀ U : State, U.heap = H → (ts_xs X).WarmedH U.vm → ts_Pc G nw as h (as.map (ts_cv G)).toArray U := by
  intro U hU hW
  refine ⟨rfl, by rw [hU]; exact hHs, by rw [hU]; exact b, va_K.moved hW.alike C.hK, ?_, C.hb, hN U hW⟩
  rw [hU]
  exact (C.hX.kept (c.2.1 _ (Nat.lt_of_lt_of_le C.hb C.hz) (Nat.not_le.mpr C.hb))).moved hW.alike
theorem ts_callS {y : MethodName} {Y' : ts_YX} {as rest st0 : List Value} {ix n mc ms : Nat} {ro : Option Value} {h1 : List va_E} (M : ts_M G y Y' as h ro h1 mc ms) (L : ts_lk (ts_yo Y) ix y Y' n) (hs : Cond.static y ∈ ts_all) (hn : as.length = n) (hN : ts_yN Y' = []) (hR : ts_fit Y Y') (hr : cells + mc ≤ (ts_yR Y).cells ∧ slots + ms ≤ (ts_yR Y).slots) (hst : st0 = as.reverse ++ rest) (hw : (rest.map fun v => v.category).sum ≤ 8) (d : decode (ts_yc Y) pc = .ok (.invokestatic ix, 3))
    (k : ts_V G X Y Q (cells + mc) (slots + ms) (pc + 3) lo (ro.toList ++ rest) h1) : ts_V G X Y Q cells slots pc lo st0 h := by
  subst hst
  intro C z H locs ls a b c
  refine ts_size fun hsz => ?_
  have hHs := ts_hsize C z b c hsz
  refine ts_back (a0 := (as.map (ts_cv G)).toArray) C z a c M.1.1 ?_ k
  refine va_runS (nL := ts_yn Y) (Ts := ts_all) ⟨C.1, C.2.1, C.2.2.1, C.2.2.2.1, C.hts⟩ M.2 ⟨callB_of n C.hts (ts_good L.2.2.1) rfl M.1.2.1 M.1.2.2 (C.hts _ L.2.1) (C.hts _ L.1) L.2.2.2 hR, C.hts _ hs⟩ ⟨ts_blind _ _ _ _, ts_pre C hHs b c (fun U _ q hq => by rw [hN] at hq; cases hq)⟩ rfl (by rw [List.length_map]; exact hn) a.1 ?_ ?_ d hr
  · show (as.reverse ++ rest).map (ts_cv G) = _
    rw [List.map_append, List.map_reverse]
  · exact lv_room (by rw [ts_cv_sum]; exact hw)
theorem ts_callV {y : MethodName} {Y' : ts_YX} {as rest st0 fs : List Value} {i ci ix n mc ms : Nat} {ro : Option Value} {h1 : List va_E} (M : ts_M G y Y' (.ref (i + 1) :: as) h ro h1 mc ms) (L : ts_lk (ts_yo Y) ix y Y' n) (hs : Cond.instanceMethod y ∈ ts_all ∧ Cond.selects y.cls y y ∈ ts_all) (hi : h[i]? = some (.inr (ci, fs))) (hc : (vwCl[ci]?).map (fun q => q.1) = some y.cls) (hn : as.length = n) (hN : ts_yN Y' = []) (hR : ts_fit Y Y') (hr : cells + mc ≤ (ts_yR Y).cells ∧ slots + ms ≤ (ts_yR Y).slots) (hst : st0 = (.ref (i + 1) :: as).reverse ++ rest) (hw : (rest.map fun v => v.category).sum ≤ 8) (d : decode (ts_yc Y) pc = .ok (.invokevirtual ix, 3))
    (k : ts_V G X Y Q (cells + mc) (slots + ms) (pc + 3) lo (ro.toList ++ rest) h1) : ts_V G X Y Q cells slots pc lo st0 h := by
  subst hst
  intro C z H locs ls a b c
  refine ts_size fun hsz => ?_
  have hHs := ts_hsize C z b c hsz
  refine ts_back (as := .ref (i + 1) :: as) (a0 := ((.ref (i + 1) :: as).map (ts_cv G)).toArray) C z a c M.1.1 ?_ k
  obtain ⟨qc, hqc, hqn⟩ : ∃ q : vw_C, vwCl[ci]? = some q ∧ q.1 = y.cls := by
    cases hv : vwCl[ci]? with
    | none => rw [hv] at hc; cases hc
    | some q => rw [hv] at hc; exact ⟨q, rfl, Option.some.inj hc⟩
  refine va_runV (nL := ts_yn Y) (Ts := ts_all) (C := y.cls) (b := ts_gz G + i) (As := as.map (ts_cv G)) ⟨C.1, C.2.1, C.2.2.1, C.2.2.2.1, C.hts⟩ M.2 ⟨callB_of n C.hts (ts_good L.2.2.1) rfl M.1.2.1 M.1.2.2 (C.hts _ L.2.1) (C.hts _ L.1) L.2.2.2 hR, C.hts _ hs.1, C.hts _ hs.2⟩ ⟨ts_blind _ _ _ _, ?_, ts_pre C hHs b c (fun U _ q hq => by rw [hN] at hq; cases hq)⟩ rfl (by rw [List.length_map]; exact hn) a.1 ?_ ?_ d hr
  · rw [← hqn]
    exact va_recv C.hK b hqc (ts_ww_at hi)
  · show ((.ref (i + 1) :: as).reverse ++ rest).map (ts_cv G) = _
    rw [List.map_append, List.map_reverse, List.map_cons, List.reverse_cons, List.append_assoc]
    rfl
  · exact lv_room (by rw [ts_cv_sum]; exact hw)
theorem ts_callI {y : MethodName} {Y' : ts_YX} {as rest st0 : List Value} {i ix n mc ms : Nat} {h1 : List va_E} (M : ts_M G y Y' (.ref (i + 1) :: as) h none h1 mc ms) (L : ts_lk (ts_yo Y) ix y Y' n) (hv : ts_yr Y' = none) (hs : y.name = "<init>" ∧ Cond.instanceMethod y ∈ ts_all) (hn : as.length = n) (hN : ∀ q ∈ ts_yN Y', q ∈ ts_yN Y) (hR : ts_fit Y Y') (hr : cells + mc ≤ (ts_yR Y).cells ∧ slots + ms ≤ (ts_yR Y).slots) (hst : st0 = (.ref (i + 1) :: as).reverse ++ rest) (hw : (rest.map fun v => v.category).sum ≤ 8) (d : decode (ts_yc Y) pc = .ok (.invokespecial ix, 3))
    (k : ts_V G X Y Q (cells + mc) (slots + ms) (pc + 3) lo rest h1) : ts_V G X Y Q cells slots pc lo st0 h := by
  subst hst
  intro C z H locs ls a b c
  refine ts_size fun hsz => ?_
  have hHs := ts_hsize C z b c hsz
  refine ts_back (as := .ref (i + 1) :: as) (ro := none) (a0 := ((.ref (i + 1) :: as).map (ts_cv G)).toArray) C z a c M.1.1 ?_ k
  have L3 : Cond.code y (ts_yc Y') (ts_yn Y') none ∈ ts_all := by rw [← hv]; exact L.2.2.1
  refine va_runI (nL := ts_yn Y) (Ts := ts_all) (b := ts_gz G + i) (As := as.map (ts_cv G)) (bytes := ts_yc Y') (maxL := ts_yn Y') ⟨C.1, C.2.1, C.2.2.1, C.2.2.2.1, C.hts⟩ M.2 ⟨callB_of (ws' := ts_all) n C.hts (ts_good L.2.2.1) (by unfold ts_ws; rw [hv]) M.1.2.1 M.1.2.2 (C.hts _ L.2.1) (C.hts _ L.1) L.2.2.2 hR, hs.1, C.hts _ hs.2⟩ ⟨ts_blind _ _ _ _, ts_pre C hHs b c (fun U hW q hq => va_Nw.warmM hW (C.hN q (hN q hq)))⟩ rfl (by rw [List.length_map]; exact hn) a.1 ?_ ?_ d hr
  · show ((.ref (i + 1) :: as).reverse ++ rest).map (ts_cv G) = _
    rw [List.map_append, List.map_reverse, List.map_cons, List.reverse_cons, List.append_assoc]
    rfl
  · exact lv_room (by rw [ts_cv_sum]; exact hw)
/-- a nest mate's private constructor -/
theorem ts_callIN {y : MethodName} {Y' : ts_YX} {as rest st0 : List Value} {host : String} {i ix n mc ms : Nat} {h1 : List va_E} (M : ts_M G y Y' (.ref (i + 1) :: as) h none h1 mc ms) (hl : (ts_yo Y, ix, y, host) ∈ ts_yN Y) (L : Cond.initialized y.cls ∈ ts_all ∧ Cond.code y (ts_yc Y') (ts_yn Y') (ts_yr Y') ∈ ts_all ∧ (y.cls ≠ "java/lang/invoke/MethodHandle" ∧ y.cls ≠ "java/lang/invoke/VarHandle" ∧ (parseMethodDescriptor y.desc).map (fun d => d.parameters.length) = some n)) (hv : ts_yr Y' = none) (hs : y.name = "<init>" ∧ Cond.instanceMethod y ∈ ts_all) (hn : as.length = n) (hN : ∀ q ∈ ts_yN Y', q ∈ ts_yN Y) (hR : ts_fit Y Y') (hr : cells + mc ≤ (ts_yR Y).cells ∧ slots + ms ≤ (ts_yR Y).slots) (hst : st0 = (.ref (i + 1) :: as).reverse ++ rest) (hw : (rest.map fun v => v.category).sum ≤ 8) (d : decode (ts_yc Y) pc = .ok (.invokespecial ix, 3))
    (k : ts_V G X Y Q (cells + mc) (slots + ms) (pc + 3) lo rest h1) : ts_V G X Y Q cells slots pc lo st0 h := by
  subst hst
  intro C z H locs ls a b c
  refine ts_size fun hsz => ?_
  have hHs := ts_hsize C z b c hsz
  refine ts_back (as := .ref (i + 1) :: as) (ro := none) (a0 := ((.ref (i + 1) :: as).map (ts_cv G)).toArray) C z a c M.1.1 ?_ k
  refine va_runIN (nL := ts_yn Y) (Ts := ts_all) (b := ts_gz G + i) (As := as.map (ts_cv G)) (bytes := ts_yc Y') (maxL := ts_yn Y') (host := host) ⟨C.1, C.2.1, C.2.2.1, C.2.2.2.1, C.hts⟩ M.2 ⟨va_cnB (ws' := ts_all) n C.hts (ts_good L.2.1) (by unfold ts_ws; rw [hv]) M.1.2.1 M.1.2.2 (C.hN _ hl) (C.hts _ L.1) L.2.2 hR, hs.1, C.hts _ hs.2⟩ ⟨ts_blind _ _ _ _, ts_pre C hHs b c (fun U hW q hq => va_Nw.warmM hW (C.hN q (hN q hq)))⟩ rfl (by rw [List.length_map]; exact hn) a.1 ?_ ?_ d hr
  · show ((.ref (i + 1) :: as).reverse ++ rest).map (ts_cv G) = _
    rw [List.map_append, List.map_reverse, List.map_cons, List.reverse_cons, List.append_assoc]
    rfl
  · exact lv_room (by rw [ts_cv_sum]; exact hw)
end TSN
