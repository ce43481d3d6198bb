/-! words of the wrappers -/
theorem v_wid {p : Program} {l : Launch} {e : Env} {R : Room} {s : State} {m : MethodId} {args : Array Value} {below : List Frame} {meth : Method} {c : Code} {Q : State → Prop} {nL : Nat} {D : va_G} {A : Nat → Prop} {k0 n0 k n : Nat} {ws : va_W} {pc : Nat} {lv : List (Nat × Value)} {st : List Value} (h1 : k0 ≤ k) (h2 : n0 ≤ n) (kk : V p l e R s m args below meth c Q nL D A k n ws pc lv st) : V p l e R s m args below meth c Q nL D A k0 n0 ws pc lv st := fun H locs ls hP hD hS h => W.widen h1 h2 (kk H locs ls hP hD hS h)
theorem wk_13 : Cond.classLink RL 13 (EN 0) ∈ GT := (gt_mem (tb2 (List.mem_of_getElem? (i := 176) rfl)) rfl)
theorem wk_32 : Cond.classLink RL 32 (EN 1) ∈ GT := (gt_mem (tb4 (List.mem_of_getElem? (i := 0) rfl)) rfl)
theorem wk_47 : Cond.classLink RL 47 (EN 2) ∈ GT := (gt_mem (tb4 (List.mem_of_getElem? (i := 102) rfl)) rfl)
theorem wc_0 : Cond.castable (EN 0) (EN 0) ∈ tables_1 := (tb2 (List.mem_of_getElem? (i := 187) rfl))
theorem wc_1 : Cond.castable (EN 1) (EN 1) ∈ tables_1 := (tb4 (List.mem_of_getElem? (i := 11) rfl))
theorem wc_2 : Cond.castable (EN 2) (EN 2) ∈ tables_1 := (tb4 (List.mem_of_getElem? (i := 113) rfl))
