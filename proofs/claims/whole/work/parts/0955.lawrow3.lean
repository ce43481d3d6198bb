theorem ix_perm3 {X X' wi wo : va_W} (n : Nat) (hX : X.length = n) (hX' : X'.length = n) (is rs is' rs' : List Nat) (hp : (rs ++ is).Perm (List.range n)) (hp' : (rs' ++ is').Perm (List.range n)) (hC : is.map (fun i => X[i]?) = wi.map some) (hC' : is'.map (fun i => X'[i]?) = wo.map some) (hR : rs'.map (fun i => X'[i]?) = (rs.filterMap (fun i => X[i]?)).map some) : ∃ U : va_W, X.Perm (U ++ wi) ∧ X'.Perm (U ++ wo) := by
  refine ⟨rs.filterMap (fun i => X[i]?), ?_, ?_⟩
  · have h := ix_key n is rs hp X hX
    rw [fm_id _ is, hC, some_id] at h
    exact h
  · have h := ix_key n is' rs' hp' X' hX'
    rw [fm_id _ is', hC', some_id, fm_id _ rs', hR, some_id] at h
    exact h
section VL11
variable {p : Program} {l : Launch} {e : Env} {R : Room} {s : State} {m : MethodId} {args : Array Value} {below : List Frame} {meth : Method} {c : Code} {Q : State → Prop} {cc : ByteArray} {own : String} {nL : Nat} {D : va_G} {cy : Nat → ClassId} {A : Nat → Prop}
variable {k n : Nat} {ws : va_W} {pc : Nat} {lv : List (Nat × Value)} {st : List Value} {adK adV : Nat → Nat}
/-- a wrapper's call: its cells are among the system's -/
theorem v_callW3 (C : VC p s m args c cc own nL D cy A) (hO : OW adK adV A s s.heap) (hN : NX s) {index na maxL : Nat} {y : MethodName} {cd : ByteArray} {ret : Option FieldType} {hh : List (Nat × Nat × Nat × Nat)} {rm : Room} {As : List Value} {X X' wi wo wm : va_W} {rv : Option Value} {stk stk' : List Value} (hM : Cw l y cd maxL ret hh rm D cy adK adV As wi rv wo) (hl : LkW own index y cd maxL ret hh na) (hna : As.length = na) (hR1 : rm.frames + 1 ≤ R.frames ∧ 8 + (maxL + 11) + rm.locals ≤ R.locals) (hR2 : k + rm.cells ≤ R.cells ∧ n + rm.slots ≤ R.slots) (hstk : As.reverse ++ st = stk) (hd : decode cc pc = .ok (.invokestatic index, 3)) (hcat : (st.map fun v => v.category).sum ≤ 8) (hst' : rv.toList ++ st = stk') (nX : Nat) (hX : X.length = nX) (hX' : X'.length = nX) (is rs is' rs' : List Nat) (hp : (rs ++ is).Perm (List.range nX)) (hp' : (rs' ++ is').Perm (List.range nX)) (hC : is.map (fun i => X[i]?) = wi.map some) (hC' : is'.map (fun i => X'[i]?) = wo.map some) (hR : rs'.map (fun i => X'[i]?) = (rs.filterMap (fun i => X[i]?)).map some) (kk : V p l e R s m args below meth c Q nL D A (k + rm.cells) (n + rm.slots) (X' ++ wm) (pc + 3) lv (stk')) : V p l e R s m args below meth c Q nL D A k n (X ++ wm) pc lv stk := by
  obtain ⟨U, p1, p2⟩ := ix_perm3 nX hX hX' is rs is' rs' hp hp' hC hC' hR
  exact v_perm (pe_1 wm p1) (v_callWs C hO hN hM hl hna hR1 hR2 hstk hd hcat hst' (v_perm (pe_1 wm p2).symm kk))
/-- a method of the system itself -/
theorem v_callX3 (C : VC p s m args c cc own nL D cy A) {index na maxL : Nat} {y : MethodName} {cd : ByteArray} {ret : Option FieldType} {rm : Room} {As : List Value} {X X' wi wo wm : va_W} {rv : Option Value} {stk stk' : List Value} {b ci : Nat} {fs : List Value} {r : vw_C} (hM : Ct l y cd maxL ret rm D cy (.ref b :: As) wi rv wo) (hl : LkV own index y cd maxL ret na) (hna : As.length = na) (hR1 : rm.frames + 1 ≤ R.frames ∧ 8 + (maxL + 11) + rm.locals ≤ R.locals) (hR2 : k + rm.cells ≤ R.cells ∧ n + rm.slots ≤ R.slots) (hstk : As.reverse ++ .ref b :: st = stk) (q0 : Nat) (he : wi[q0]? = some (b, .inr (ci, fs))) (hc : vwCl[ci]? = some r) (hrc : r.1 = y.cls) (hd : decode cc pc = .ok (.invokevirtual index, 3)) (hcat : (st.map fun v => v.category).sum ≤ 8) (hst' : rv.toList ++ st = stk') (nX : Nat) (hX : X.length = nX) (hX' : X'.length = nX) (is rs is' rs' : List Nat) (hp : (rs ++ is).Perm (List.range nX)) (hp' : (rs' ++ is').Perm (List.range nX)) (hC : is.map (fun i => X[i]?) = wi.map some) (hC' : is'.map (fun i => X'[i]?) = wo.map some) (hR : rs'.map (fun i => X'[i]?) = (rs.filterMap (fun i => X[i]?)).map some) (kk : V p l e R s m args below meth c Q nL D A (k + rm.cells) (n + rm.slots) (X' ++ wm) (pc + 3) lv (stk')) : V p l e R s m args below meth c Q nL D A k n (X ++ wm) pc lv stk := by
  obtain ⟨U, p1, p2⟩ := ix_perm3 nX hX hX' is rs is' rs' hp hp' hC hC' hR
  exact v_perm (pe_1 wm p1) (v_callM C hM hl hna hR1 hR2 hstk q0 he hc hrc hd hcat hst' (v_perm (pe_1 wm p2).symm kk))
end VL11
theorem qs_up (sa : Nat → Nat → Nat) (i : Nat) (d : Nat → Nat) : (fun j => va_up sa i d j 0) = va_up (fun j => sa j 0) i (d 0) := by
  funext j
  unfold va_up
  split <;> rfl
