/-! An abstract machine over the kit's rows. The world is a list of cells; an abstract reference n + 1 is the cell number n of that list (it lies at z + n in the heap), the abstract reference 0 is the script. All methods may change what lies from z on, and their contracts say what the whole list is behind them: no cell has to be cut out, none to be joined. -/
abbrev ts_GX : Type := Launch × va_G × ClassId × ClassId × Nat × Nat × Nat × (Nat → Int32)
abbrev ts_VX : Type := Program × Env × State × MethodId × Array Value × List Frame × Method × Code
abbrev ts_NX : Type := String × Nat × MethodName × String
abbrev ts_YX : Type := ByteArray × Nat × String × Option FieldType × String × Room × List ts_NX
abbrev ts_gl (G : ts_GX) : Launch := G.1
abbrev ts_gD (G : ts_GX) : va_G := G.2.1
abbrev ts_gI (G : ts_GX) : ClassId := G.2.2.1
abbrev ts_gB (G : ts_GX) : ClassId := G.2.2.2.1
abbrev ts_gz (G : ts_GX) : Nat := G.2.2.2.2.1
abbrev ts_gb (G : ts_GX) : Nat := G.2.2.2.2.2.1
abbrev ts_gL (G : ts_GX) : Nat := G.2.2.2.2.2.2.1
abbrev ts_gx (G : ts_GX) : Nat → Int32 := G.2.2.2.2.2.2.2
abbrev ts_xp (X : ts_VX) : Program := X.1
abbrev ts_xe (X : ts_VX) : Env := X.2.1
abbrev ts_xs (X : ts_VX) : State := X.2.2.1
abbrev ts_xm (X : ts_VX) : MethodId := X.2.2.2.1
abbrev ts_xa (X : ts_VX) : Array Value := X.2.2.2.2.1
abbrev ts_xw (X : ts_VX) : List Frame := X.2.2.2.2.2.1
abbrev ts_xt (X : ts_VX) : Method := X.2.2.2.2.2.2.1
abbrev ts_xc (X : ts_VX) : Code := X.2.2.2.2.2.2.2
abbrev ts_yc (Y : ts_YX) : ByteArray := Y.1
abbrev ts_yn (Y : ts_YX) : Nat := Y.2.1
abbrev ts_yo (Y : ts_YX) : String := Y.2.2.1
abbrev ts_yr (Y : ts_YX) : Option FieldType := Y.2.2.2.1
abbrev ts_ym (Y : ts_YX) : String := Y.2.2.2.2.1
abbrev ts_yR (Y : ts_YX) : Room := Y.2.2.2.2.2.1
abbrev ts_yN (Y : ts_YX) : List ts_NX := Y.2.2.2.2.2.2
/-- the words that every method is given -/
def ts_all : List Cond := lw_tbl.filter goodWord
theorem ts_in {w : Cond} (h : w ∈ lw_tbl) (hg : goodWord w = true) : w ∈ ts_all := List.mem_filter.mpr ⟨h, hg⟩
def ts_ws (y : MethodName) (Y : ts_YX) : List Cond := Cond.code y (ts_yc Y) (ts_yn Y) (ts_yr Y) :: ts_all
theorem ts_good {y : MethodName} {Y : ts_YX} (h : Cond.code y (ts_yc Y) (ts_yn Y) (ts_yr Y) ∈ ts_all) : GoodIn ts_all (ts_ws y Y) := by
  intro w hw
  have h1 : w ∈ ts_all := by
    rcases List.mem_cons.mp hw with h2 | h2
    · rw [h2]; exact h
    · exact h2
  exact ⟨h1, good_of_word (List.mem_filter.mp h1).2⟩
/-- a reference, an entry, a world: from the list's numbers to the heap's -/
def ts_cv (G : ts_GX) (v : Value) : Value := match v with
  | .ref 0 => .ref (ts_gb G)
  | .ref (a + 1) => .ref (ts_gz G + a)
  | v => v
theorem ts_cv_cat (G : ts_GX) (v : Value) : (ts_cv G v).category = v.category := by
  cases v with
  | ref a => cases a <;> rfl
  | _ => rfl
theorem ts_cv_sum (G : ts_GX) (l : List Value) : ((l.map (ts_cv G)).map fun v => v.category) = l.map fun v => v.category := by
  rw [List.map_map]
  exact List.map_congr_left fun v _ => ts_cv_cat G v
def ts_ce (G : ts_GX) (e : va_E) : va_E := match e with
  | .inl a => .inl a
  | .inr o => .inr (o.1, o.2.map (ts_cv G))
def ts_ww (G : ts_GX) (h : List va_E) : va_W := h.mapIdx (fun i e => (ts_gz G + i, ts_ce G e))
theorem ts_ww_at {G : ts_GX} {h : List va_E} {i : Nat} {e : va_E} (hi : h[i]? = some e) : (ts_ww G h)[i]? = some (ts_gz G + i, ts_ce G e) := by
  simp [ts_ww, List.getElem?_mapIdx, hi]
theorem ts_ww_inv {G : ts_GX} {h : List va_E} {k : Nat} {q : Nat × va_E} (hk : (ts_ww G h)[k]? = some q) : ∃ e, h[k]? = some e ∧ q = (ts_gz G + k, ts_ce G e) := by
  rw [ts_ww, List.getElem?_mapIdx] at hk
  cases he : h[k]? with
  | none => rw [he] at hk; cases hk
  | some e => rw [he] at hk; exact ⟨e, rfl, (Option.some.inj hk).symm⟩
theorem ts_ww_D (G : ts_GX) (h : List va_E) : va_D (fun q => ts_gz G ≤ q) (ts_ww G h) := by
  refine ⟨fun i j p q hi hj hpq => ?_, fun k q hk => ?_⟩
  · obtain ⟨e, -, rfl⟩ := ts_ww_inv hi
    obtain ⟨e', -, rfl⟩ := ts_ww_inv hj
    have : ts_gz G + i = ts_gz G + j := hpq
    omega
  · obtain ⟨e, -, rfl⟩ := ts_ww_inv hk
    exact Nat.le_add_right _ _
theorem ts_ww_set {G : ts_GX} {h : List va_E} {i : Nat} {e : va_E} : (ts_ww G h).set i (ts_gz G + i, ts_ce G e) = ts_ww G (h.set i e) := by
  simp [ts_ww, List.mapIdx_set]
theorem ts_ww_push {G : ts_GX} {h : List va_E} {e : va_E} : ts_ww G h ++ [(ts_gz G + h.length, ts_ce G e)] = ts_ww G (h ++ [e]) := by
  simp [ts_ww, List.mapIdx_concat]
/-- how many cells there are at the least -/
theorem ts_low {G : ts_GX} {h : List va_E} {H : Heap} (hP : va_P (ts_gD G) vwCl (ts_ww G h) H) : h = [] ∨ ts_gz G + h.length ≤ H.size := by
  cases hn : h.length with
  | zero => exact Or.inl (List.length_eq_zero_iff.mp hn)
  | succ n =>
    refine Or.inr ?_
    have hl : n < h.length := by omega
    have h1 := (hP n _ (ts_ww_at (List.getElem?_eq_getElem hl))).lt
    have h2 : ts_gz G + n < H.size := h1
    omega
/-- the locals: all that are set, from 0 on -/
def ts_lz (ls : Array Slot) (n : Nat) (lo : List Value) : Prop := ls.size = n ∧ lv_wf ls ∧ (∀ (i : Nat) (v : Value), lo[i]? = some v → ls[i]? = some (.val v)) ∧ ∀ v ∈ lo, v.category = 1
def ts_st (lo : List Value) (i : Nat) (v : Value) : List Value := lo.take i ++ v :: lo.drop (i + 1)
theorem ts_st_map (f : Value → Value) (lo : List Value) (i : Nat) (v : Value) : (ts_st lo i v).map f = ts_st (lo.map f) i (f v) := by
  simp [ts_st, List.map_take, List.map_drop]
theorem ts_lz.has {ls : Array Slot} {n : Nat} {lo : List Value} (h : ts_lz ls n lo) : lv_has ls n (lo.mapIdx fun i v => (i, v)) := by
  refine ⟨h.1, h.2.1, fun q hq => ?_⟩
  obtain ⟨k, hk⟩ := List.getElem?_of_mem hq
  rw [List.getElem?_mapIdx] at hk
  cases he : lo[k]? with
  | none => rw [he] at hk; cases hk
  | some v =>
    rw [he] at hk
    obtain rfl := Option.some.inj hk
    exact h.2.2.1 k v he
theorem ts_st_at {lo : List Value} {i j : Nat} {v w : Value} (hi : i ≤ lo.length) (h : (ts_st lo i v)[j]? = some w) : (j = i ∧ w = v) ∨ (j ≠ i ∧ lo[j]? = some w) := by
  have hlen : (lo.take i).length = i := by rw [List.length_take]; omega
  unfold ts_st at h
  by_cases hj : j < i
  · rw [List.getElem?_append_left (by omega), List.getElem?_take_of_lt hj] at h
    exact Or.inr ⟨by omega, h⟩
  · rw [List.getElem?_append_right (by omega), hlen] at h
    by_cases hji : j = i
    · subst hji
      rw [Nat.sub_self, List.getElem?_cons_zero] at h
      exact Or.inl ⟨rfl, (Option.some.inj h).symm⟩
    · obtain ⟨d, hd⟩ : ∃ d, j - i = d + 1 := ⟨j - i - 1, by omega⟩
      rw [hd, List.getElem?_cons_succ, List.getElem?_drop] at h
      rw [show i + 1 + d = j by omega] at h
      exact Or.inr ⟨hji, h⟩
theorem ts_lz.st {ls ls' : Array Slot} {n i : Nat} {lo : List Value} {v : Value} (h : ts_lz ls n lo) (hi : i ≤ lo.length) (hc : v.category = 1)
    (h' : lv_has ls' n ((i, v) :: (lo.mapIdx fun i v => (i, v)).filter (fun q => !(q.1 == i) && !(q.1 + 1 == i && q.2.category == 2)))) : ts_lz ls' n (ts_st lo i v) := by
  refine ⟨h'.1, h'.2.1, fun j w hw => ?_, fun w hw => ?_⟩
  · rcases ts_st_at hi hw with ⟨rfl, rfl⟩ | ⟨hne, hjw⟩
    · exact h'.2.2 (j, w) List.mem_cons_self
    · refine h'.2.2 (j, w) (List.mem_cons_of_mem _ (List.mem_filter.mpr ⟨?_, ?_⟩))
      · exact List.mem_of_getElem? (i := j) (by rw [List.getElem?_mapIdx, hjw]; rfl)
      · have hc1 : w.category = 1 := h.2.2.2 w (List.mem_of_getElem? hjw)
        simp [hne, hc1]
  · obtain ⟨j, hj⟩ := List.getElem?_of_mem hw
    rcases ts_st_at hi hj with ⟨-, rfl⟩ | ⟨-, hjw⟩
    · exact hc
    · exact h.2.2.2 w (List.mem_of_getElem? hjw)
theorem ts_args_mem : ∀ (vs : List Value) (k i : Nat) (v : Value), (∀ w ∈ vs, w.category = 1) → vs[i]? = some v → (k + i, v) ∈ lv_args k vs
  | [], _, _, _, _, h => by simp at h
  | w :: vs, k, i, v, hc, h => by
    have hw : ¬ w.category = 2 := by rw [hc w List.mem_cons_self]; decide
    simp only [lv_args, hw, if_false]
    cases i with
    | zero =>
      rw [List.getElem?_cons_zero] at h
      obtain rfl := Option.some.inj h
      exact List.mem_cons_self
    | succ i =>
      rw [List.getElem?_cons_succ] at h
      have h1 := ts_args_mem vs (k + 1) i v (fun x hx => hc x (List.mem_cons_of_mem _ hx)) h
      rw [show k + (i + 1) = k + 1 + i by omega]
      exact List.mem_cons_of_mem _ h1
theorem ts_sl_len : ∀ (vs : List Value), (∀ w ∈ vs, w.category = 1) → (lg_sl vs).length = vs.length
  | [], _ => rfl
  | w :: vs, hc => by
    have hw : ¬ w.category = 2 := by rw [hc w List.mem_cons_self]; decide
    have ih := ts_sl_len vs (fun x hx => hc x (List.mem_cons_of_mem _ hx))
    unfold lg_sl at ih ⊢
    rw [List.flatMap_cons, List.length_append, ih]
    simp [hw]
    omega
theorem ts_lz_entry {vs : List Value} {n : Nat} (hc : ∀ w ∈ vs, w.category = 1) (hn : vs.length ≤ n) : ts_lz ((lg_sl vs ++ List.replicate (n - (lg_sl vs).length) Slot.unset).toArray) n vs := by
  have h := lv_entry vs (n := n) (by rw [ts_sl_len vs hc]; exact hn)
  refine ⟨h.1, h.2.1, fun i v hv => ?_, hc⟩
  have h1 := h.2.2 _ (ts_args_mem vs 0 i v hc hv)
  rw [Nat.zero_add] at h1
  exact h1
/-- what stays through a method's walk -/
def ts_ty (G : ts_GX) : List (ClassId × FieldType) := [(ts_gI G, .int), (ts_gB G, .boolean)]
def ts_nw (q : ts_NX) : Cond := .methodLinkNest q.1 q.2.1 q.2.2.1 q.2.2.2
def ts_C (G : ts_GX) (X : ts_VX) (Y : ts_YX) : Prop :=
  (ts_xp X).tables.exec = Jvm.exec ∧ (ts_xc X).code = ts_yc Y ∧ (ts_xc X).maxLocals = ts_yn Y ∧ (ts_xs X).vm.findClass (ts_yo Y) = some (ts_xm X).cls ∧ (ts_xt X).sig.returnType = ts_yr Y ∧ (ts_xt X).locks = false ∧ (ts_xt X).name = ts_ym Y ∧
  (∀ w ∈ ts_all, w.before (ts_xa X) (ts_xs X) = true) ∧ va_K (ts_gD G) vwCl (ts_ty G) (ts_xs X) ∧ (∀ q ∈ ts_yN Y, va_Nw (ts_nw q) (ts_xs X)) ∧ ts_gz G ≤ (ts_xs X).heap.size ∧ va_X (ts_gb G) (ts_gL G) (ts_gx G) (ts_xs X) (ts_xs X).heap ∧ ts_gb G < ts_gz G
theorem ts_C.hts {G : ts_GX} {X : ts_VX} {Y : ts_YX} (C : ts_C G X Y) : ∀ w ∈ ts_all, w.before (ts_xa X) (ts_xs X) = true := C.2.2.2.2.2.2.2.1
theorem ts_C.hK {G : ts_GX} {X : ts_VX} {Y : ts_YX} (C : ts_C G X Y) : va_K (ts_gD G) vwCl (ts_ty G) (ts_xs X) := C.2.2.2.2.2.2.2.2.1
theorem ts_C.hN {G : ts_GX} {X : ts_VX} {Y : ts_YX} (C : ts_C G X Y) : ∀ q ∈ ts_yN Y, va_Nw (ts_nw q) (ts_xs X) := C.2.2.2.2.2.2.2.2.2.1
theorem ts_C.hz {G : ts_GX} {X : ts_VX} {Y : ts_YX} (C : ts_C G X Y) : ts_gz G ≤ (ts_xs X).heap.size := C.2.2.2.2.2.2.2.2.2.2.1
theorem ts_C.hX {G : ts_GX} {X : ts_VX} {Y : ts_YX} (C : ts_C G X Y) : va_X (ts_gb G) (ts_gL G) (ts_gx G) (ts_xs X) (ts_xs X).heap := C.2.2.2.2.2.2.2.2.2.2.2.1
theorem ts_C.hb {G : ts_GX} {X : ts_VX} {Y : ts_YX} (C : ts_C G X Y) : ts_gb G < ts_gz G := C.2.2.2.2.2.2.2.2.2.2.2.2
abbrev ts_W (G : ts_GX) (X : ts_VX) (Y : ts_YX) (Q : State → Prop) (cells slots pc : Nat) (H : Heap) (locs : List Loc) (ls : Array Slot) (st : List Value) : Prop :=
  W (ts_xp X) (ts_gl G) (ts_xe X) (ts_yR Y) (ts_xs X) (ts_xm X) (ts_xa X) (ts_xw X) (ts_xt X) (ts_xc X) H locs cells slots Q (F0 (ts_xm X) pc ls st)
/-- from pc, with these locals, this stack and this world, the machine comes to a state with Q -/
def ts_V (G : ts_GX) (X : ts_VX) (Y : ts_YX) (Q : State → Prop) (cells slots pc : Nat) (lo st : List Value) (h : List va_E) : Prop :=
  ts_C G X Y → (ts_xs X).heap.size + cells = ts_gz G + h.length → ∀ (H : Heap) (locs : List Loc) (ls : Array Slot), ts_lz ls (ts_yn Y) (lo.map (ts_cv G)) → va_P (ts_gD G) vwCl (ts_ww G h) H → va_S (fun q => ts_gz G ≤ q) (ts_xs X).heap H locs →
    ts_W G X Y Q cells slots pc H locs ls (st.map (ts_cv G))
theorem ts_size {p : Program} {l : Launch} {e : Env} {R : Room} {s : State} {m : MethodId} {args : Array Value} {below : List Frame} {meth : Method} {c : Code} {H : Heap} {locs : List Loc} {cells slots : Nat} {Q : State → Prop} {g : JFrame}
    (k : H.size ≤ s.heap.size + cells → W p l e R s m args below meth c H locs cells slots Q g) : W p l e R s m args below meth c H locs cells slots Q g := by
  intro T hT X
  have h1 : T.heap.size ≤ s.heap.size + cells := X.same.2.2.1
  exact k (by rw [← hT]; exact h1) T hT X
section TSR
variable {G : ts_GX} {X : ts_VX} {Y : ts_YX} {Q : State → Prop} {cells slots pc : Nat} {lo st : List Value} {h : List va_E}
theorem ts_iconst {n : Int} {v : Int32} (d : decode (ts_yc Y) pc = .ok (.iconst n, 1)) (hv : Int32.ofInt n = v) (k : ts_V G X Y Q cells slots (pc + 1) lo (.int v :: st) h) : ts_V G X Y Q cells slots pc lo st h :=
  fun C z H locs ls a b c => lv_iconst C.1 C.2.1 d hv (k C z H locs ls a b c)
theorem ts_bipush {n : Int} {v : Int32} (d : decode (ts_yc Y) pc = .ok (.bipush n, 2)) (hv : (Int8.ofInt n).toInt32 = v) (k : ts_V G X Y Q cells slots (pc + 2) lo (.int v :: st) h) : ts_V G X Y Q cells slots pc lo st h :=
  fun C z H locs ls a b c => lv_bipush C.1 C.2.1 d hv (k C z H locs ls a b c)
theorem ts_sipush {n : Int} {v : Int32} (d : decode (ts_yc Y) pc = .ok (.sipush n, 3)) (hv : (Int16.ofInt n).toInt32 = v) (k : ts_V G X Y Q cells slots (pc + 3) lo (.int v :: st) h) : ts_V G X Y Q cells slots pc lo st h :=
  fun C z H locs ls a b c => lv_sipush C.1 C.2.1 d hv (k C z H locs ls a b c)
theorem ts_lz.at {ls : Array Slot} {n i : Nat} {v : Value} (a : ts_lz ls n (lo.map (ts_cv G))) (hl : lo[i]? = some v) : ls[i]? = some (.val (ts_cv G v)) :=
  a.2.2.1 i _ (by rw [List.getElem?_map, hl]; rfl)
theorem ts_iload_n {k : Fin 4} {i : Nat} {x : Int32} (d : decode (ts_yc Y) pc = .ok (.iload_n k, 1)) (hi : (k : Nat) = i) (hl : lo[i]? = some (.int x)) (kk : ts_V G X Y Q cells slots (pc + 1) lo (.int x :: st) h) : ts_V G X Y Q cells slots pc lo st h :=
  fun C z H locs ls a b c => lv_iload_n C.1 C.2.1 d hi (ts_lz.at a hl) (kk C z H locs ls a b c)
theorem ts_iload {i : Nat} {x : Int32} (d : decode (ts_yc Y) pc = .ok (.iload i, 2)) (hl : lo[i]? = some (.int x)) (kk : ts_V G X Y Q cells slots (pc + 2) lo (.int x :: st) h) : ts_V G X Y Q cells slots pc lo st h :=
  fun C z H locs ls a b c => lv_iload C.1 C.2.1 d (ts_lz.at a hl) (kk C z H locs ls a b c)
theorem ts_aload_n {k : Fin 4} {i x : Nat} (d : decode (ts_yc Y) pc = .ok (.aload_n k, 1)) (hi : (k : Nat) = i) (hl : lo[i]? = some (.ref x)) (kk : ts_V G X Y Q cells slots (pc + 1) lo (.ref x :: st) h) : ts_V G X Y Q cells slots pc lo st h := by
  intro C z H locs ls a b c
  have h1 := ts_lz.at a hl
  have h2 := kk C z H locs ls a b c
  cases x with
  | zero => exact lv_aload_n C.1 C.2.1 d hi h1 h2
  | succ x => exact lv_aload_n C.1 C.2.1 d hi h1 h2
theorem ts_store {i : Nat} {v : Value} {ls ls' : Array Slot} {n : Nat} (a : ts_lz ls n (lo.map (ts_cv G))) (hi : i ≤ lo.length) (hc : v.category = 1)
    (h' : lv_has ls' n ((i, ts_cv G v) :: ((lo.map (ts_cv G)).mapIdx fun i v => (i, v)).filter (fun q => !(q.1 == i) && !(q.1 + 1 == i && q.2.category == 2)))) : ts_lz ls' n ((ts_st lo i v).map (ts_cv G)) := by
  rw [ts_st_map]
  exact a.st (by rw [List.length_map]; exact hi) (by rw [ts_cv_cat]; exact hc) h'
theorem ts_istore_n {k : Fin 4} {i : Nat} {x : Int32} {lo' : List Value} (d : decode (ts_yc Y) pc = .ok (.istore_n k, 1)) (hi : (k : Nat) = i) (hn : i < ts_yn Y) (hl : i ≤ lo.length) (e : ts_st lo i (.int x) = lo') (kk : ts_V G X Y Q cells slots (pc + 1) lo' st h) : ts_V G X Y Q cells slots pc lo (.int x :: st) h := by
  subst e
  exact fun C z H locs ls a b c => lv_istore_n C.1 C.2.1 d hi a.has hn rfl (fun ls' h' => kk C z H locs ls' (ts_store (v := .int x) a hl rfl h') b c)
theorem ts_istore {i : Nat} {x : Int32} {lo' : List Value} (d : decode (ts_yc Y) pc = .ok (.istore i, 2)) (hn : i < ts_yn Y) (hl : i ≤ lo.length) (e : ts_st lo i (.int x) = lo') (kk : ts_V G X Y Q cells slots (pc + 2) lo' st h) : ts_V G X Y Q cells slots pc lo (.int x :: st) h := by
  subst e
  exact fun C z H locs ls a b c => lv_istore C.1 C.2.1 d a.has hn rfl (fun ls' h' => kk C z H locs ls' (ts_store (v := .int x) a hl rfl h') b c)
theorem ts_astore_n {k : Fin 4} {i x : Nat} {lo' : List Value} (d : decode (ts_yc Y) pc = .ok (.astore_n k, 1)) (hi : (k : Nat) = i) (hn : i < ts_yn Y) (hl : i ≤ lo.length) (e : ts_st lo i (.ref x) = lo') (kk : ts_V G X Y Q cells slots (pc + 1) lo' st h) : ts_V G X Y Q cells slots pc lo (.ref x :: st) h := by
  subst e
  intro C z H locs ls a b c
  cases x with
  | zero => exact lv_astore_n C.1 C.2.1 d hi a.has hn rfl (fun ls' h' => kk C z H locs ls' (ts_store (v := .ref 0) a hl rfl h') b c)
  | succ x => exact lv_astore_n C.1 C.2.1 d hi a.has hn rfl (fun ls' h' => kk C z H locs ls' (ts_store (v := .ref (x + 1)) a hl rfl h') b c)
theorem ts_iinc {i : Nat} {n : Int} {x v : Int32} {lo' : List Value} (d : decode (ts_yc Y) pc = .ok (.iinc i n, 3)) (hk : lo[i]? = some (.int x)) (hv : x + Int32.ofInt n = v) (hn : i < ts_yn Y) (e : ts_st lo i (.int v) = lo') (kk : ts_V G X Y Q cells slots (pc + 3) lo' st h) : ts_V G X Y Q cells slots pc lo st h := by
  subst e
  have hl : i ≤ lo.length := Nat.le_of_lt (List.getElem?_eq_some_iff.mp hk).1
  exact fun C z H locs ls a b c => lv_iinc (k := i) C.1 C.2.1 d a.has (by rw [List.getElem?_mapIdx, List.getElem?_map, hk]; rfl) hv hn rfl (fun ls' h' => kk C z H locs ls' (ts_store (v := .int v) a hl rfl h') b c)
theorem ts_iadd {x y : Int32} (d : decode (ts_yc Y) pc = .ok (.iadd, 1)) (k : ts_V G X Y Q cells slots (pc + 1) lo (.int (x + y) :: st) h) : ts_V G X Y Q cells slots pc lo (.int y :: .int x :: st) h :=
  fun C z H locs ls a b c => lv_iadd C.1 C.2.1 d (k C z H locs ls a b c)
theorem ts_isub {x y : Int32} (d : decode (ts_yc Y) pc = .ok (.isub, 1)) (k : ts_V G X Y Q cells slots (pc + 1) lo (.int (x - y) :: st) h) : ts_V G X Y Q cells slots pc lo (.int y :: .int x :: st) h :=
  fun C z H locs ls a b c => lv_isub C.1 C.2.1 d (k C z H locs ls a b c)
theorem ts_imul {x y : Int32} (d : decode (ts_yc Y) pc = .ok (.imul, 1)) (k : ts_V G X Y Q cells slots (pc + 1) lo (.int (x * y) :: st) h) : ts_V G X Y Q cells slots pc lo (.int y :: .int x :: st) h :=
  fun C z H locs ls a b c => lv_imul C.1 C.2.1 d (k C z H locs ls a b c)
theorem ts_iand {x y : Int32} (d : decode (ts_yc Y) pc = .ok (.iand, 1)) (k : ts_V G X Y Q cells slots (pc + 1) lo (.int (x &&& y) :: st) h) : ts_V G X Y Q cells slots pc lo (.int y :: .int x :: st) h :=
  fun C z H locs ls a b c => lv_iand C.1 C.2.1 d (k C z H locs ls a b c)
theorem ts_ishl {x y : Int32} (d : decode (ts_yc Y) pc = .ok (.ishl, 1)) (k : ts_V G X Y Q cells slots (pc + 1) lo (.int (x <<< (y &&& 31)) :: st) h) : ts_V G X Y Q cells slots pc lo (.int y :: .int x :: st) h :=
  fun C z H locs ls a b c => lv_ishl C.1 C.2.1 d (k C z H locs ls a b c)
theorem ts_irem {x y : Int32} (d : decode (ts_yc Y) pc = .ok (.irem, 1)) (hne : ¬ y = 0) (k : ts_V G X Y Q cells slots (pc + 1) lo (.int (x - x / y * y) :: st) h) : ts_V G X Y Q cells slots pc lo (.int y :: .int x :: st) h :=
  fun C z H locs ls a b c => lv_irem C.1 C.2.1 d hne (k C z H locs ls a b c)
theorem ts_dup {v : Value} (d : decode (ts_yc Y) pc = .ok (.dup, 1)) (hv : v.category = 1) (k : ts_V G X Y Q cells slots (pc + 1) lo (v :: v :: st) h) : ts_V G X Y Q cells slots pc lo (v :: st) h :=
  fun C z H locs ls a b c => lv_dup C.1 C.2.1 d (by rw [ts_cv_cat]; exact hv) (k C z H locs ls a b c)
theorem ts_goto {off : Int} {tgt : Nat} (d : decode (ts_yc Y) pc = .ok (.goto off, 3)) (ht : (pc : Int) + off = (tgt : Int)) (k : ts_V G X Y Q cells slots tgt lo st h) : ts_V G X Y Q cells slots pc lo st h :=
  fun C z H locs ls a b c => lv_goto C.1 C.2.1 d ht (k C z H locs ls a b c)
theorem ts_tableOut {dflt lo' hi : Int} {offs : Array Int} {len : Nat} {x : Int32} {tgt : Nat} (d : decode (ts_yc Y) pc = .ok (.tableswitch dflt lo' hi offs, len)) (hx : x.toInt < lo' ∨ hi < x.toInt) (ht : (pc : Int) + dflt = (tgt : Int)) (k : ts_V G X Y Q cells slots tgt lo st h) : ts_V G X Y Q cells slots pc lo (.int x :: st) h :=
  fun C z H locs ls a b c => lv_tableOut C.1 C.2.1 d hx ht (k C z H locs ls a b c)
theorem ts_tableIn {dflt lo' hi : Int} {offs : Array Int} {len : Nat} {x : Int32} {off : Int} {tgt : Nat} (d : decode (ts_yc Y) pc = .ok (.tableswitch dflt lo' hi offs, len)) (h1 : ¬ x.toInt < lo') (h2 : ¬ hi < x.toInt) (ho : offs[(x.toInt - lo').toNat]? = some off) (ht : (pc : Int) + off = (tgt : Int)) (k : ts_V G X Y Q cells slots tgt lo st h) : ts_V G X Y Q cells slots pc lo (.int x :: st) h :=
  fun C z H locs ls a b c => lv_tableIn C.1 C.2.1 d h1 h2 ho ht (k C z H locs ls a b c)
theorem ts_if_eq {x : Int32} {off : Int} {tgt : Nat} (d : decode (ts_yc Y) pc = .ok (.ifCond .eq off, 3)) (ht : (pc : Int) + off = (tgt : Int)) (kt : x = 0 → ts_V G X Y Q cells slots tgt lo st h) (kf : ¬ x = 0 → ts_V G X Y Q cells slots (pc + 3) lo st h) : ts_V G X Y Q cells slots pc lo (.int x :: st) h :=
  fun C z H locs ls a b c => lv_if_eq C.1 C.2.1 d ht (fun q => kt q C z H locs ls a b c) (fun q => kf q C z H locs ls a b c)
theorem ts_if_ne {x : Int32} {off : Int} {tgt : Nat} (d : decode (ts_yc Y) pc = .ok (.ifCond .ne off, 3)) (ht : (pc : Int) + off = (tgt : Int)) (kt : ¬ x = 0 → ts_V G X Y Q cells slots tgt lo st h) (kf : x = 0 → ts_V G X Y Q cells slots (pc + 3) lo st h) : ts_V G X Y Q cells slots pc lo (.int x :: st) h :=
  fun C z H locs ls a b c => lv_if_ne C.1 C.2.1 d ht (fun q => kt q C z H locs ls a b c) (fun q => kf q C z H locs ls a b c)
theorem ts_if_lt {x : Int32} {off : Int} {tgt : Nat} (d : decode (ts_yc Y) pc = .ok (.ifCond .lt off, 3)) (ht : (pc : Int) + off = (tgt : Int)) (kt : x < 0 → ts_V G X Y Q cells slots tgt lo st h) (kf : ¬ x < 0 → ts_V G X Y Q cells slots (pc + 3) lo st h) : ts_V G X Y Q cells slots pc lo (.int x :: st) h :=
  fun C z H locs ls a b c => lv_if_lt C.1 C.2.1 d ht (fun q => kt q C z H locs ls a b c) (fun q => kf q C z H locs ls a b c)
theorem ts_if_ge {x : Int32} {off : Int} {tgt : Nat} (d : decode (ts_yc Y) pc = .ok (.ifCond .ge off, 3)) (ht : (pc : Int) + off = (tgt : Int)) (kt : 0 ≤ x → ts_V G X Y Q cells slots tgt lo st h) (kf : ¬ 0 ≤ x → ts_V G X Y Q cells slots (pc + 3) lo st h) : ts_V G X Y Q cells slots pc lo (.int x :: st) h :=
  fun C z H locs ls a b c => lv_if_ge C.1 C.2.1 d ht (fun q => kt q C z H locs ls a b c) (fun q => kf q C z H locs ls a b c)
theorem ts_if_gt {x : Int32} {off : Int} {tgt : Nat} (d : decode (ts_yc Y) pc = .ok (.ifCond .gt off, 3)) (ht : (pc : Int) + off = (tgt : Int)) (kt : 0 < x → ts_V G X Y Q cells slots tgt lo st h) (kf : ¬ 0 < x → ts_V G X Y Q cells slots (pc + 3) lo st h) : ts_V G X Y Q cells slots pc lo (.int x :: st) h :=
  fun C z H locs ls a b c => lv_if_gt C.1 C.2.1 d ht (fun q => kt q C z H locs ls a b c) (fun q => kf q C z H locs ls a b c)
theorem ts_if_le {x : Int32} {off : Int} {tgt : Nat} (d : decode (ts_yc Y) pc = .ok (.ifCond .le off, 3)) (ht : (pc : Int) + off = (tgt : Int)) (kt : x ≤ 0 → ts_V G X Y Q cells slots tgt lo st h) (kf : ¬ x ≤ 0 → ts_V G X Y Q cells slots (pc + 3) lo st h) : ts_V G X Y Q cells slots pc lo (.int x :: st) h :=
  fun C z H locs ls a b c => lv_if_le C.1 C.2.1 d ht (fun q => kt q C z H locs ls a b c) (fun q => kf q C z H locs ls a b c)
theorem ts_icmp_eq {x y : Int32} {off : Int} {tgt : Nat} (d : decode (ts_yc Y) pc = .ok (.if_icmp .eq off, 3)) (ht : (pc : Int) + off = (tgt : Int)) (kt : x = y → ts_V G X Y Q cells slots tgt lo st h) (kf : ¬ x = y → ts_V G X Y Q cells slots (pc + 3) lo st h) : ts_V G X Y Q cells slots pc lo (.int y :: .int x :: st) h :=
  fun C z H locs ls a b c => lv_icmp_eq C.1 C.2.1 d ht (fun q => kt q C z H locs ls a b c) (fun q => kf q C z H locs ls a b c)
theorem ts_icmp_ne {x y : Int32} {off : Int} {tgt : Nat} (d : decode (ts_yc Y) pc = .ok (.if_icmp .ne off, 3)) (ht : (pc : Int) + off = (tgt : Int)) (kt : ¬ x = y → ts_V G X Y Q cells slots tgt lo st h) (kf : x = y → ts_V G X Y Q cells slots (pc + 3) lo st h) : ts_V G X Y Q cells slots pc lo (.int y :: .int x :: st) h :=
  fun C z H locs ls a b c => lv_icmp_ne C.1 C.2.1 d ht (fun q => kt q C z H locs ls a b c) (fun q => kf q C z H locs ls a b c)
theorem ts_icmp_lt {x y : Int32} {off : Int} {tgt : Nat} (d : decode (ts_yc Y) pc = .ok (.if_icmp .lt off, 3)) (ht : (pc : Int) + off = (tgt : Int)) (kt : x < y → ts_V G X Y Q cells slots tgt lo st h) (kf : ¬ x < y → ts_V G X Y Q cells slots (pc + 3) lo st h) : ts_V G X Y Q cells slots pc lo (.int y :: .int x :: st) h :=
  fun C z H locs ls a b c => lv_icmp_lt C.1 C.2.1 d ht (fun q => kt q C z H locs ls a b c) (fun q => kf q C z H locs ls a b c)
theorem ts_icmp_ge {x y : Int32} {off : Int} {tgt : Nat} (d : decode (ts_yc Y) pc = .ok (.if_icmp .ge off, 3)) (ht : (pc : Int) + off = (tgt : Int)) (kt : y ≤ x → ts_V G X Y Q cells slots tgt lo st h) (kf : ¬ y ≤ x → ts_V G X Y Q cells slots (pc + 3) lo st h) : ts_V G X Y Q cells slots pc lo (.int y :: .int x :: st) h :=
  fun C z H locs ls a b c => lv_icmp_ge C.1 C.2.1 d ht (fun q => kt q C z H locs ls a b c) (fun q => kf q C z H locs ls a b c)
theorem ts_icmp_gt {x y : Int32} {off : Int} {tgt : Nat} (d : decode (ts_yc Y) pc = .ok (.if_icmp .gt off, 3)) (ht : (pc : Int) + off = (tgt : Int)) (kt : y < x → ts_V G X Y Q cells slots tgt lo st h) (kf : ¬ y < x → ts_V G X Y Q cells slots (pc + 3) lo st h) : ts_V G X Y Q cells slots pc lo (.int y :: .int x :: st) h :=
  fun C z H locs ls a b c => lv_icmp_gt C.1 C.2.1 d ht (fun q => kt q C z H locs ls a b c) (fun q => kf q C z H locs ls a b c)
theorem ts_icmp_le {x y : Int32} {off : Int} {tgt : Nat} (d : decode (ts_yc Y) pc = .ok (.if_icmp .le off, 3)) (ht : (pc : Int) + off = (tgt : Int)) (kt : x ≤ y → ts_V G X Y Q cells slots tgt lo st h) (kf : ¬ x ≤ y → ts_V G X Y Q cells slots (pc + 3) lo st h) : ts_V G X Y Q cells slots pc lo (.int y :: .int x :: st) h :=
  fun C z H locs ls a b c => lv_icmp_le C.1 C.2.1 d ht (fun q => kt q C z H locs ls a b c) (fun q => kf q C z H locs ls a b c)
/-- a field that a class's code names by a place of its pool: of class ci of the worlds, its place k -/
def ts_gF (own : String) (ix ci k : Nat) : Prop := ∃ (C : String) (T : u_T) (N : Nat), vwCl[ci]? = some (C, T, N) ∧ k < N ∧ (∀ w ∈ u_ws C T N, w ∈ ts_all) ∧ Cond.fieldLink own ix (T k).1 (T k).2.1 (T k).2.2.1 ∈ ts_all
def ts_gP (own : String) (ix ci k : Nat) (ty : FieldType) (fin : Bool) : Prop := ∃ (C : String) (T : u_T) (N : Nat) (ty0 : Nat → FieldType), vwCl[ci]? = some (C, T, N) ∧ k < N ∧ (∀ w ∈ u_ws C T N, w ∈ ts_all) ∧ Cond.fieldLink own ix (T k).1 (T k).2.1 (T k).2.2.1 ∈ ts_all ∧
  (∀ k, k < N → parseFieldDescriptor (T k).2.2.1 = some (ty0 k)) ∧ (∀ a, a < N → ∀ b, b < N → a ≠ b → (T a).2.1 ≠ (T b).2.1) ∧ (T k).2.2.2 = fin ∧ parseFieldDescriptor (T k).2.2.1 = some ty ∧ (T k).1 = C
theorem ts_get {ix ci k i : Nat} {fs : List Value} {v : Value} (F : ts_gF (ts_yo Y) ix ci k) (d : decode (ts_yc Y) pc = .ok (.getfield ix, 3)) (hi : h[i]? = some (.inr (ci, fs))) (hv : fs[k]? = some v) (kk : ts_V G X Y Q cells slots (pc + 3) lo (v :: st) h) : ts_V G X Y Q cells slots pc lo (.ref (i + 1) :: st) h := by
  intro C z H locs ls a b c
  obtain ⟨Cn, T, N, h1, h2, h3, h4⟩ := F
  exact va_get (ref := (T k).1) (v := ts_cv G v) C.1 C.2.1 C.hts h3 C.2.2.2.1 C.hK b i (ts_ww_at hi) h1 k h2 (C.hts _ h4) (fun _ q => q) (by show (fs.map (ts_cv G))[k]? = _; rw [List.getElem?_map, hv]; rfl) d (kk C z H locs ls a b c)
theorem ts_set_map (G : ts_GX) (fs : List Value) (k : Nat) (v : Value) : (fs.map (ts_cv G)).set k (ts_cv G v) = (fs.set k v).map (ts_cv G) := by
  rw [List.map_set]
theorem ts_put {ix ci k i : Nat} {fs : List Value} {v : Value} {ty : FieldType} (F : ts_gP (ts_yo Y) ix ci k ty false) (d : decode (ts_yc Y) pc = .ok (.putfield ix, 3)) (hi : h[i]? = some (.inr (ci, fs))) (hk : k < fs.length) (hn : narrow ty (ts_cv G v) = ts_cv G v) (hf : fits ty (ts_cv G v) = true) {h' : List va_E} (e : h.set i (.inr (ci, fs.set k v)) = h') (kk : ts_V G X Y Q cells slots (pc + 3) lo st h') : ts_V G X Y Q cells slots pc lo (v :: .ref (i + 1) :: st) h := by
  subst e
  intro C z H locs ls a b c
  obtain ⟨Cn, T, N, ty0, h1, h2, h3, h4, h5, h6, h7, h8, h9⟩ := F
  refine va_put (ref := (T k).1) (v := ts_cv G v) C.1 C.2.1 C.hts h3 ty0 h5 h6 C.2.2.2.1 C.hK b (ts_ww_D G h) c i (ts_ww_at hi) h1 k h2 (C.hts _ h4) (fun _ q => q) h7 h8 hn hf (by show k < (fs.map (ts_cv G)).length; rw [List.length_map]; exact hk) d (fun H1 locs1 hP _ hS => ?_)
  have hP1 : va_P (ts_gD G) vwCl (ts_ww G (h.set i (.inr (ci, fs.set k v)))) H1 := by
    rw [← ts_ww_set]
    rw [ts_set_map] at hP
    exact hP
  exact kk C (by rw [List.length_set]; exact z) H1 locs1 ls a hP1 hS
theorem ts_putF {ix ci k i : Nat} {fs : List Value} {v : Value} {ty : FieldType} (F : ts_gP (ts_yo Y) ix ci k ty true) (hin : ts_ym Y = "<init>") (hc : (vwCl[ci]?).map (fun q => q.1) = some (ts_yo Y)) (d : decode (ts_yc Y) pc = .ok (.putfield ix, 3)) (hi : h[i]? = some (.inr (ci, fs))) (hk : k < fs.length) (hn : narrow ty (ts_cv G v) = ts_cv G v) (hf : fits ty (ts_cv G v) = true) {h' : List va_E} (e : h.set i (.inr (ci, fs.set k v)) = h') (kk : ts_V G X Y Q cells slots (pc + 3) lo st h') : ts_V G X Y Q cells slots pc lo (v :: .ref (i + 1) :: st) h := by
  subst e
  intro C z H locs ls a b c
  obtain ⟨Cn, T, N, ty0, h1, h2, h3, h4, h5, h6, h7, h8, h9⟩ := F
  have hown : (T k).1 = ts_yo Y := by
    rw [h1] at hc
    rw [h9]
    exact Option.some.inj hc
  refine va_putF (ref := (T k).1) (v := ts_cv G v) C.1 C.2.1 C.hts h3 ty0 h5 h6 C.2.2.2.1 C.hK b (ts_ww_D G h) c i (ts_ww_at hi) h1 k h2 (C.hts _ h4) (fun _ q => q) h7 (C.2.2.2.2.2.2.1.trans hin) hown h8 hn hf (by show k < (fs.map (ts_cv G)).length; rw [List.length_map]; exact hk) d (fun H1 locs1 hP _ hS => ?_)
  have hP1 : va_P (ts_gD G) vwCl (ts_ww G (h.set i (.inr (ci, fs.set k v)))) H1 := by
    rw [← ts_ww_set]
    rw [ts_set_map] at hP
    exact hP
  exact kk C (by rw [List.length_set]; exact z) H1 locs1 ls a hP1 hS
theorem ts_iald {i n : Nat} {f : Nat → Int32} {x : Int32} (d : decode (ts_yc Y) pc = .ok (.iaload, 1)) (hi : h[i]? = some (.inl (ts_gI G, n, .inl f))) (hx : vp_in x n) (kk : ts_V G X Y Q cells slots (pc + 1) lo (.int (f x.toNatClampNeg) :: st) h) : ts_V G X Y Q cells slots pc lo (.int x :: .ref (i + 1) :: st) h :=
  fun C z H locs ls a b c => va_iald C.1 C.2.1 C.hK b i 0 (ts_ww_at hi) rfl hx d (kk C z H locs ls a b c)
theorem ts_zald {i n : Nat} {f : Nat → Int32} {x : Int32} (d : decode (ts_yc Y) pc = .ok (.baload, 1)) (hi : h[i]? = some (.inl (ts_gB G, n, .inl f))) (hx : vp_in x n) (kk : ts_V G X Y Q cells slots (pc + 1) lo (.int (f x.toNatClampNeg) :: st) h) : ts_V G X Y Q cells slots pc lo (.int x :: .ref (i + 1) :: st) h :=
  fun C z H locs ls a b c => va_zald C.1 C.2.1 C.hK b i 1 (ts_ww_at hi) rfl hx d (kk C z H locs ls a b c)
theorem ts_iast {i n : Nat} {f : Nat → Int32} {x v : Int32} (d : decode (ts_yc Y) pc = .ok (.iastore, 1)) (hi : h[i]? = some (.inl (ts_gI G, n, .inl f))) (hx : vp_in x n) {h' : List va_E} (e : h.set i (.inl (ts_gI G, n, .inl (upd f x.toNatClampNeg v))) = h') (kk : ts_V G X Y Q cells slots (pc + 1) lo st h') : ts_V G X Y Q cells slots pc lo (.int v :: .int x :: .ref (i + 1) :: st) h := by
  subst e
  intro C z H locs ls a b c
  refine va_iast C.1 C.2.1 C.hK b (ts_ww_D G h) c i 0 (ts_ww_at hi) rfl hx d (fun H1 locs1 hP _ hS => ?_)
  exact kk C (by rw [List.length_set]; exact z) H1 locs1 ls a (by rw [← ts_ww_set]; exact hP) hS
theorem ts_zast {i n : Nat} {f : Nat → Int32} {x v : Int32} (d : decode (ts_yc Y) pc = .ok (.bastore, 1)) (hi : h[i]? = some (.inl (ts_gB G, n, .inl f))) (hx : vp_in x n) {h' : List va_E} (e : h.set i (.inl (ts_gB G, n, .inl (upd f x.toNatClampNeg (vp_nar .boolean v)))) = h') (kk : ts_V G X Y Q cells slots (pc + 1) lo st h') : ts_V G X Y Q cells slots pc lo (.int v :: .int x :: .ref (i + 1) :: st) h := by
  subst e
  intro C z H locs ls a b c
  refine va_zast C.1 C.2.1 C.hK b (ts_ww_D G h) c i 1 (ts_ww_at hi) rfl hx d (fun H1 locs1 hP _ hS => ?_)
  exact kk C (by rw [List.length_set]; exact z) H1 locs1 ls a (by rw [← ts_ww_set]; exact hP) hS
theorem ts_alen {i n : Nat} {f : Nat → Int32} {v : Int32} (d : decode (ts_yc Y) pc = .ok (.arraylength, 1)) (hi : h[i]? = some (.inl (ts_gI G, n, .inl f))) (hv : Int32.ofNat n = v) (kk : ts_V G X Y Q cells slots (pc + 1) lo (.int v :: st) h) : ts_V G X Y Q cells slots pc lo (.ref (i + 1) :: st) h :=
  fun C z H locs ls a b c => va_alen (ty := .int) C.1 C.2.1 C.hK b i 0 (ts_ww_at hi) rfl hv d (kk C z H locs ls a b c)
/-- the script -/
theorem ts_sld {x : Int32} (d : decode (ts_yc Y) pc = .ok (.iaload, 1)) (hx : vp_in x (ts_gL G)) (kk : ts_V G X Y Q cells slots (pc + 1) lo (.int (ts_gx G x.toNatClampNeg) :: st) h) : ts_V G X Y Q cells slots pc lo (.int x :: .ref 0 :: st) h :=
  fun C z H locs ls a b c => va_sld C.1 C.2.1 C.hX (Nat.lt_of_lt_of_le C.hb C.hz) (Nat.not_le.mpr C.hb) c hx d (kk C z H locs ls a b c)
theorem ts_slen (d : decode (ts_yc Y) pc = .ok (.arraylength, 1)) (kk : ts_V G X Y Q cells slots (pc + 1) lo (.int (Int32.ofNat (ts_gL G)) :: st) h) : ts_V G X Y Q cells slots pc lo (.ref 0 :: st) h :=
  fun C z H locs ls a b c => va_slen C.1 C.2.1 C.hX (Nat.lt_of_lt_of_le C.hb C.hz) (Nat.not_le.mpr C.hb) c d (kk C z H locs ls a b c)
/-- Math.max, Math.min -/
theorem ts_max {ix : Nat} {x y : Int32} (hl : Cond.methodLink (ts_yo Y) ix Lib.Math.max.name ∈ ts_all) (hs : Cond.static Lib.Math.max.name ∈ ts_all) (hi : Cond.initialized "java/lang/Math" ∈ ts_all) (hc : Cond.code Lib.Math.max.name Lib.Math.max.code 2 (some .int) ∈ ts_all)
    (hf : 1 ≤ (ts_yR Y).frames) (hw : (st.map fun v => v.category).sum + 13 ≤ (ts_yR Y).locals) (hr : cells ≤ (ts_yR Y).cells ∧ slots ≤ (ts_yR Y).slots) (d : decode (ts_yc Y) pc = .ok (.invokestatic ix, 3)) (k : ts_V G X Y Q cells slots (pc + 3) lo (.int (if x < y then y else x) :: st) h) : ts_V G X Y Q cells slots pc lo (.int y :: .int x :: st) h :=
  fun C z H locs ls a b c => va_mmax C.1 C.2.1 (C.2.2.1.trans a.1.symm) C.2.2.2.1 (C.hts _ hl) (C.hts _ hs) (C.hts _ hi) (C.hts _ hc) hf (by rw [ts_cv_sum]; exact hw) hr.1 hr.2 d (k C z H locs ls a b c)
theorem ts_min {ix : Nat} {x y : Int32} (hl : Cond.methodLink (ts_yo Y) ix Lib.Math.min.name ∈ ts_all) (hs : Cond.static Lib.Math.min.name ∈ ts_all) (hi : Cond.initialized "java/lang/Math" ∈ ts_all) (hc : Cond.code Lib.Math.min.name Lib.Math.min.code 2 (some .int) ∈ ts_all)
    (hf : 1 ≤ (ts_yR Y).frames) (hw : (st.map fun v => v.category).sum + 13 ≤ (ts_yR Y).locals) (hr : cells ≤ (ts_yR Y).cells ∧ slots ≤ (ts_yR Y).slots) (d : decode (ts_yc Y) pc = .ok (.invokestatic ix, 3)) (k : ts_V G X Y Q cells slots (pc + 3) lo (.int (if y < x then y else x) :: st) h) : ts_V G X Y Q cells slots pc lo (.int y :: .int x :: st) h :=
  fun C z H locs ls a b c => va_mmin C.1 C.2.1 (C.2.2.1.trans a.1.symm) C.2.2.2.1 (C.hts _ hl) (C.hts _ hs) (C.hts _ hi) (C.hts _ hc) hf (by rw [ts_cv_sum]; exact hw) hr.1 hr.2 d (k C z H locs ls a b c)
end TSR
