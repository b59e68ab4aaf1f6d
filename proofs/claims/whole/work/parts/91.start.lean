theorem tl_arr {ty : FieldType} {s : State} {args : Array Value} (h : (Cond.arrayClass ty).before args s = true) (hnm : ty = .int ∨ ty = .boolean) : ∃ cA : ClassId, ArrOfT s cA ty ∧ va_RA s cA ty := by
  obtain ⟨cA, kA, comp, h1, h2, h3⟩ := Cond.arrayClass_spec h
  refine ⟨cA, fun n z => ⟨fun k h => (by cases h), kA, h2, comp, h3⟩, ?_⟩
  rcases hnm with rfl | rfl
  · exact h1
  · exact h1
theorem tl_D {s : State} {args : Array Value} (hall : ∀ w ∈ ts_all, w.before args s = true) : ∃ D : va_G, ∀ (c : Nat) (q : vw_C), vwCl[c]? = some q → u_Kn s q.1 q.2.1 q.2.2 (D.1 c) (D.2 c) := by
  obtain ⟨c0, i0, k0⟩ := u_known hall inIX (hall _ tiIX)
  obtain ⟨c1, i1, k1⟩ := u_known hall inMA (hall _ tiMA)
  obtain ⟨c2, i2, k2⟩ := u_known hall inRE (hall _ tiRE)
  obtain ⟨c3, i3, k3⟩ := u_known hall inSA (hall _ tiSA)
  obtain ⟨c4, i4, k4⟩ := u_known hall inTS (hall _ tiTS)
  obtain ⟨c5, i5, k5⟩ := u_known hall inMO (hall _ tiMO)
  refine ⟨(fun c => [c0, c1, c2, c3, c4, c5].getD c c0, fun c => [i0, i1, i2, i3, i4, i5].getD c i0), fun c q hq => ?_⟩
  rcases c with _ | _ | _ | _ | _ | _ | c
  · cases hq; exact k0
  · cases hq; exact k1
  · cases hq; exact k2
  · cases hq; exact k3
  · cases hq; exact k4
  · cases hq; exact k5
  · exact absurd hq (by simp [vwCl])
theorem tl_end {p : Program} {l : Launch} {e : Env} {s : State} {m : MethodId} {below : List Frame} {meth : Method} {c : Code} {D : va_G} {cI cB : ClassId} {b L : Nat} {xs : Nat → Int32} (nm : String) (lo : List Value) (h : List va_E) :
    ts_V (l, D, cI, cB, s.heap.size, b, L, xs) (p, e, s, m, #[Value.ref b], below, meth, c) (YLW_law nm) (lw_Z below #[Value.ref b] s) 30 4185 449 lo [] h := by
  refine ts_iconst (v := 1) dLW_law_449 (by decide) ?_
  intro C z H locs ls x y w
  exact va_forget (fun q hq => w.2.2 q hq) (lw_ret C.1 C.2.1 C.2.2.2.2.1 C.2.2.2.2.2.1 dLW_law_450)
