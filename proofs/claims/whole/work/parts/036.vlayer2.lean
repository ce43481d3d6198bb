/-! the layer's second part -/
section VL2
variable {p : Program} {l : Launch} {e : Env} {R : Room} {s : State} {m : MethodId} {args : Array Value} {below : List Frame} {meth : Method} {c : Code} {Q : State → Prop} {cc : ByteArray} {own : String} {nL : Nat} {D : va_G} {cy : Nat → ClassId} {A : Nat → Prop}
variable {k n : Nat} {ws : va_W} {pc : Nat} {lv : List (Nat × Value)} {st : List Value}
/-- back from a call that touched nothing -/
theorem v_back0 {rm : Room} {rv : Option Value} {stk st : List Value} {H : Heap} {locs : List Loc} {ls : Array Slot} (hA : ∀ q : Nat, s.heap.size ≤ q → A q) (hP : va_P D vwCl ws H) (hD : va_D A ws) (hS : va_S A s.heap H locs) (h : lv_has ls nL lv) {a : Array Value}
    (hr : va_Run p l e R s m args below meth c H locs k n rm.cells rm.slots (F0 m pc ls stk) st (CQ D [] H.size rv [] a) (va_A [] H.size))
    (kk : V p l e R s m args below meth c Q nL D A (k + rm.cells) (n + rm.slots) ws (pc + 3) lv (rv.toList ++ st)) : W p l e R s m args below meth c H locs k n Q (F0 m pc ls stk) := by
  intro T hT X
  obtain ⟨v, st₀, t, T', L, h0, X', hL, e1, e2, ⟨hv, -, -, hz, hk⟩, sg⟩ := hr T hT X
  cases hv
  rw [h0] at hz hk
  rw [← e1] at hz hk
  have hno : ∀ q : Nat, q < H.size → ¬ va_A [] H.size q := fun q hq h => by
    rcases h with ⟨i, e, h⟩ | h
    · simp at h
    · omega
  have hF : ∀ q : Nat, va_A [] H.size q → A q := fun q h => by
    rcases h with ⟨i, e, h⟩ | h
    · simp at h
    · exact hA q (Nat.le_trans hS.1 h)
  obtain ⟨t2, a1, b1⟩ := kk T'.heap (locs ++ L) ls (hP.kept (fun i q hq => hk _ (hP i q hq).lt (hno _ (hP i q hq).lt))) hD
    ⟨Nat.le_trans hS.1 hz, fun q h1 h2 => by rw [hk q (Nat.lt_of_lt_of_le h1 hS.1) (hno q (Nat.lt_of_lt_of_le h1 hS.1))]; exact hS.2.1 q h1 h2, fun q hq => by
      rcases List.mem_append.mp hq with h | h
      · exact hS.2.2 q h
      · exact hF _ (hL q h)⟩ h T' rfl X'
  exact ⟨t2, sg t2 a1, b1⟩
/-- back from a call over the whole world -/
theorem v_backW {rm : Room} {wo : va_W} {rv : Option Value} {stk st : List Value} {H : Heap} {locs : List Loc} {ls : Array Slot} (hA : ∀ q : Nat, s.heap.size ≤ q → A q) (hP : va_P D vwCl ws H) (hD : va_D A ws) (hS : va_S A s.heap H locs) (h : lv_has ls nL lv) {a : Array Value}
    (hr : va_Run p l e R s m args below meth c H locs k n rm.cells rm.slots (F0 m pc ls stk) st (CQ D ws H.size rv wo a) (va_A ws H.size))
    (kk : V p l e R s m args below meth c Q nL D A (k + rm.cells) (n + rm.slots) wo (pc + 3) lv (rv.toList ++ st)) : W p l e R s m args below meth c H locs k n Q (F0 m pc ls stk) := by
  intro T hT X
  obtain ⟨v, st₀, t, T', L, h0, X', hL, e1, e2, ⟨hv, hP1, hD1, hz, hk⟩, sg⟩ := hr T hT X
  cases hv
  rw [h0] at hz hk
  rw [← e1] at hP1 hz hk
  have hF : ∀ q : Nat, va_A ws H.size q → A q := fun q h => by
    rcases h with ⟨i, e, h⟩ | h
    · exact hD.2 i _ h
    · exact hA q (Nat.le_trans hS.1 h)
  obtain ⟨t2, a1, b1⟩ := kk T'.heap (locs ++ L) ls hP1 (hD1.weaken (fun _ q _ h => hF q.1 h))
    ⟨Nat.le_trans hS.1 hz, fun q h1 h2 => by rw [hk q (Nat.lt_of_lt_of_le h1 hS.1) (fun z => h2 (hF q z))]; exact hS.2.1 q h1 h2, fun q hq => by
      rcases List.mem_append.mp hq with h | h
      · exact hS.2.2 q h
      · exact hF _ (hL q h)⟩ h T' rfl X'
  exact ⟨t2, sg t2 a1, b1⟩
theorem v_preW {As : List Value} {H : Heap} (hK : Kt D cy s) (hP : va_P D vwCl ws H) (hD : va_D A ws) : ∀ U : State, U.heap = H → s.WarmedH U.vm → CP D cy As ws H.size As.toArray U := fun U hU hW => ⟨rfl, by rw [hU], by rw [hU]; exact hP, hK.warm hW, hD.weaken (fun _ _ _ _ => trivial)⟩
theorem v_pre0 {As : List Value} {H : Heap} (hK : Kt D cy s) : ∀ U : State, U.heap = H → s.WarmedH U.vm → CP D cy As [] H.size As.toArray U := fun U hU hW => ⟨rfl, by rw [hU], fun i q h => by simp at h, hK.warm hW, ⟨fun i j x y h => by simp at h, fun i q h => by simp at h⟩⟩
theorem v_callS0 (C : VC p s m args c cc own nL D cy A) {index na maxL : Nat} {y : MethodName} {cd : ByteArray} {ret : Option FieldType} {rm : Room} {As : List Value} {rv : Option Value} {stk stk' : List Value} (hM : Ct l y cd maxL ret rm D cy As [] rv []) (hl : LkS own index y cd maxL ret na) (hna : As.length = na) (hRR : RR R rm maxL k n = true) (hstk : As.reverse ++ st = stk) (hd : decode cc pc = .ok (.invokestatic index, 3)) (hcat : (st.map fun v => v.category).sum ≤ 8) (hst' : rv.toList ++ st = stk') (kk : V p l e R s m args below meth c Q nL D A (k + rm.cells) (n + rm.slots) ws (pc + 3) lv (stk')) : V p l e R s m args below meth c Q nL D A k n ws pc lv stk := fun H locs ls hP hD hS h => by
  subst hstk
  subst hst'
  obtain ⟨l1, l2, l4, l5, l6⟩ := hl
  have ok : ∀ w ∈ GT, w.before args s = true := C.2.2.2.2.1
  exact v_back0 C.2.2.2.2.2.2 hP hD hS h (va_runS (As := As) (rest := st) ⟨C.1, C.2.1, C.2.2.1, C.2.2.2.1, ok⟩ (hM H.size) ⟨callB_of na ok (gt_goodIn l5) rfl rfl rfl (ok _ l4) (ok _ l1) l6 (RR.use hRR).1, ok _ l2⟩ ⟨CP.blind, v_pre0 C.2.2.2.2.2.1⟩ rfl hna h.1 rfl (lv_room hcat) hd (RR.use hRR).2) kk
theorem v_callN0 (C : VC p s m args c cc own nL D cy A) {index na maxL : Nat} {y : MethodName} {cd : ByteArray} {ret : Option FieldType} {rm : Room} {As : List Value} {rv : Option Value} {stk stk' : List Value} (hM : Ct l y cd maxL ret rm D cy As [] rv []) (hl : LkN own index y cd maxL ret na) (hna : As.length = na) (hRR : RR R rm maxL k n = true) (hstk : As.reverse ++ st = stk) (hd : decode cc pc = .ok (.invokestatic index, 3)) (hcat : (st.map fun v => v.category).sum ≤ 8) (hst' : rv.toList ++ st = stk') (kk : V p l e R s m args below meth c Q nL D A (k + rm.cells) (n + rm.slots) ws (pc + 3) lv (stk')) : V p l e R s m args below meth c Q nL D A k n ws pc lv stk := fun H locs ls hP hD hS h => by
  subst hstk
  subst hst'
  obtain ⟨⟨host, l1⟩, l2, l4, l5, l6⟩ := hl
  have ok : ∀ w ∈ GT, w.before args s = true := C.2.2.2.2.1
  exact v_back0 C.2.2.2.2.2.2 hP hD hS h (va_runSN (As := As) (rest := st) ⟨C.1, C.2.1, C.2.2.1, C.2.2.2.1, ok⟩ (hM H.size) ⟨va_cnB na ok (gt_goodIn l5) rfl rfl rfl (C.2.2.2.2.2.1.2 _ _ _ _ l1) (ok _ l4) l6 (RR.use hRR).1, ok _ l2, trivial⟩ ⟨CP.blind, v_pre0 C.2.2.2.2.2.1⟩ rfl hna h.1 rfl (lv_room hcat) hd (RR.use hRR).2) kk
theorem v_callVW (C : VC p s m args c cc own nL D cy A) {index na maxL : Nat} {y : MethodName} {cd : ByteArray} {ret : Option FieldType} {rm : Room} {As : List Value} {rv : Option Value} {stk stk' : List Value} {wo : va_W} {b ci : Nat} {fs : List Value} {r : vw_C} (hM : Ct l y cd maxL ret rm D cy (.ref b :: As) ws rv wo) (hl : LkV own index y cd maxL ret na) (hna : As.length = na) (hRR : RR R rm maxL k n = true) (hstk : As.reverse ++ .ref b :: st = stk) (q0 : Nat) (he : ws[q0]? = some (b, .inr (ci, fs))) (hc : vwCl[ci]? = some r) (hrc : r.1 = y.cls) (hd : decode cc pc = .ok (.invokevirtual index, 3)) (hcat : (st.map fun v => v.category).sum ≤ 8) (hst' : rv.toList ++ st = stk') (kk : V p l e R s m args below meth c Q nL D A (k + rm.cells) (n + rm.slots) wo (pc + 3) lv (stk')) : V p l e R s m args below meth c Q nL D A k n ws pc lv stk := fun H locs ls hP hD hS h => by
  subst hstk
  subst hst'
  obtain ⟨l1, l2, l3, l4, l5, l6⟩ := hl
  have ok : ∀ w ∈ GT, w.before args s = true := C.2.2.2.2.1
  have hrv := va_recv C.2.2.2.2.2.1.1 hP hc he
  rw [hrc] at hrv
  exact v_backW C.2.2.2.2.2.2 hP hD hS h (va_runV (C := y.cls) (As := As) (rest := st) ⟨C.1, C.2.1, C.2.2.1, C.2.2.2.1, ok⟩ (hM H.size) ⟨callB_of na ok (gt_goodIn l5) rfl rfl rfl (ok _ l4) (ok _ l1) l6 (RR.use hRR).1, ok _ l2, ok _ l3⟩ ⟨CP.blind, hrv, v_preW C.2.2.2.2.2.1 hP hD⟩ rfl hna h.1 rfl (lv_room hcat) hd (RR.use hRR).2) kk
theorem v_tsw (C : VC p s m args c cc own nL D cy A) {dflt lo hi off : Int} {offs : Array Int} {len tgt : Nat} {x : Int32} (z : Int32) (hx : x = z) (hd : decode cc pc = .ok (.tableswitch dflt lo hi offs, len)) (h1 : ¬ z.toInt < lo) (h2 : ¬ hi < z.toInt) (ho : offs[(z.toInt - lo).toNat]? = some off) (ht : (pc : Int) + off = (tgt : Int)) (kk : V p l e R s m args below meth c Q nL D A k n ws tgt lv st) : V p l e R s m args below meth c Q nL D A k n ws pc lv (.int x :: st) := fun H locs ls hP hD hS h => by
  subst hx
  exact lv_tableIn C.1 C.2.1 hd h1 h2 ho ht (kk H locs ls hP hD hS h)
theorem v_tswO (C : VC p s m args c cc own nL D cy A) {dflt lo hi : Int} {offs : Array Int} {len tgt : Nat} {x : Int32} (hd : decode cc pc = .ok (.tableswitch dflt lo hi offs, len)) (ho : x.toInt < lo ∨ hi < x.toInt) (ht : (pc : Int) + dflt = (tgt : Int)) (kk : V p l e R s m args below meth c Q nL D A k n ws tgt lv st) : V p l e R s m args below meth c Q nL D A k n ws pc lv (.int x :: st) := fun H locs ls hP hD hS h => lv_tableOut C.1 C.2.1 hd ho ht (kk H locs ls hP hD hS h)
theorem v_copyi (C : VC p s m args c cc own nL D cy A) {index a0 a n0 n1 : Nat} {f g : Nat → Int32} {sp dp z : Int32} {ws' : va_W} (hl : Cond.methodLink own index arraycopyName ∈ GT) (hg : Cond.static arraycopyName ∈ GT ∧ Cond.native arraycopyName ∈ GT ∧ Cond.initialized "java/lang/System" ∈ GT) (q0 q1 : Nat) (ha0 : ws[q0]? = some (a0, .inl (cy 1, n0, .inl f))) (ha1 : ws[q1]? = some (a, .inl (cy 1, n1, .inl g))) (hb : (¬ sp < 0 ∧ ¬ dp < 0 ∧ ¬ z < 0) ∧ sp.toNatClampNeg + z.toNatClampNeg ≤ n0 ∧ dp.toNatClampNeg + z.toNatClampNeg ≤ n1) (hr : 1 ≤ R.frames ∧ (st.map fun v => v.category).sum + (nativeFrameWords "java/lang/System" "arraycopy" 5 + 11) ≤ R.locals) (hs : ws.set q1 (a, .inl (cy 1, n1, .inl (va_cpy f g sp.toNatClampNeg dp.toNatClampNeg z.toNatClampNeg))) = ws') (hd : decode cc pc = .ok (.invokestatic index, 3)) (kk : V p l e R s m args below meth c Q nL D A k n (ws') (pc + 3) lv st) : V p l e R s m args below meth c Q nL D A k n ws pc lv (.int z :: .int dp :: .ref a :: .int sp :: .ref a0 :: st) := fun H locs ls hP hD hS h => by
  subst hs
  exact va_copyi C.1 C.2.1 (C.2.2.1.trans h.1.symm) C.2.2.2.1 (C.2.2.2.2.1 _ hl) (C.2.2.2.2.1 _ hg.2.1) (C.2.2.2.2.1 _ hg.1) (C.2.2.2.2.1 _ hg.2.2) C.2.2.2.2.2.1.1 hP hD hS q0 q1 1 1 ha0 ha1 rfl rfl rfl hb.1.1 hb.1.2.1 hb.1.2.2 hb.2.1 hb.2.2 (fun i _ => rfl) hr.1 hr.2 hd (fun H1 locs1 hP hD hS => kk H1 locs1 ls hP hD hS h)
end VL2
/-! grids: the rows of an array of arrays, side by side -/
def gw (cy : Nat → ClassId) (r : Nat → Nat) (n k : Nat) (M : Nat → Nat → Int32) : va_W := (List.range n).map (fun i => aI cy (r i) k (M i))
theorem gw_len {cy : Nat → ClassId} {r : Nat → Nat} {n k : Nat} {M : Nat → Nat → Int32} : (gw cy r n k M).length = n := by simp [gw]
theorem gw_at {cy : Nat → ClassId} {r : Nat → Nat} {n k : Nat} {M : Nat → Nat → Int32} {i : Nat} (h : i < n) : (gw cy r n k M)[i]? = some (aI cy (r i) k (M i)) := by simp [gw, h]
theorem gw_set {cy : Nat → ClassId} {r : Nat → Nat} {n k : Nat} {M : Nat → Nat → Int32} {i : Nat} {f : Nat → Int32} : (gw cy r n k M).set i (aI cy (r i) k f) = gw cy r n k (va_up M i f) := by
  apply List.ext_getElem?
  intro j
  rw [List.getElem?_set]
  by_cases hj : i = j
  · subst hj
    by_cases hn : i < n
    · simp [gw, hn, va_up]
    · simp [gw, hn]
  · by_cases hn : j < n
    · simp [gw, hn, va_up, hj, Ne.symm hj]
    · simp [gw, hn, hj]
theorem at_r {X Y : va_W} {i : Nat} {q : Nat × va_E} (h : Y[i]? = some q) : (X ++ Y)[X.length + i]? = some q := by rw [List.getElem?_append_right (Nat.le_add_right _ _)]; simpa using h
theorem at_l {X Y : va_W} {i : Nat} {q : Nat × va_E} (h : X[i]? = some q) : (X ++ Y)[i]? = some q := by
  rw [List.getElem?_append_left]
  · exact h
  · exact (List.getElem?_eq_some_iff.mp h).1
theorem set_r {X Y Y' : va_W} {i : Nat} {q : Nat × va_E} (h : Y.set i q = Y') : (X ++ Y).set (X.length + i) q = X ++ Y' := by
  rw [List.set_append_right _ _ (Nat.le_add_right _ _), Nat.add_sub_cancel_left, h]
theorem set_l {X X' Y : va_W} {i : Nat} {q : Nat × va_E} (hi : i < X.length) (h : X.set i q = X') : (X ++ Y).set i q = X' ++ Y := by
  rw [List.set_append_left _ _ hi, h]
theorem inb_lt {i : Int32} {n : Nat} (h : inb i n) : i.toNatClampNeg < n := Nat.not_le.mp fun q => h (Or.inr q)
