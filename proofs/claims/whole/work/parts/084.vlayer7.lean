/-! the law's own wrappers: what they call is caught there -/
def NX (U : State) : Prop := ∀ i j : Nat, i < 3 → j < 3 → i ≠ j → va_Nc (EN i) (EN j) U
theorem NX.moved {s U : State} (h : s.vm.Alike U.vm) (hN : NX s) : NX U := fun i j hi hj hij => (hN i j hi hj hij).moved h
def CPw (D : va_G) (cy : Nat → ClassId) (adK adV : Nat → Nat) (As : List Value) (wi : va_W) (sz : Nat) : Array Value → State → Prop := va_Pc As (fun U => U.heap.size = sz ∧ va_P D vwCl wi U.heap ∧ Kt D cy U ∧ va_D (fun _ => True) wi ∧ OW adK adV (va_A wi sz) U U.heap ∧ NX U)
theorem CPw.blind {D : va_G} {cy : Nat → ClassId} {adK adV : Nat → Nat} {As : List Value} {wi : va_W} {sz : Nat} : FrameBlind (CPw D cy adK adV As wi sz) := fun a U g mk q => by
  obtain ⟨q0, q1, qP, qK, qD, qO, qN⟩ := q
  exact ⟨q0, q1, qP, ⟨va_K.moved (u := U) (U := U.calling g mk a) (Vm.Alike.refl U.vm) qK.1, NW.same (s := U) (U := U.calling g mk a) rfl qK.2⟩, qD, OW.same (s := U) (U := U.calling g mk a) rfl qO, qN⟩
def Cw (l : Launch) (y : MethodName) (cd : ByteArray) (maxL : Nat) (ret : Option FieldType) (hh : List (Nat × Nat × Nat × Nat)) (rm : Room) (D : va_G) (cy : Nat → ClassId) (adK adV : Nat → Nat) (As : List Value) (wi : va_W) (rv : Option Value) (wo : va_W) : Prop :=
  ∀ sz : Nat, Met l y (.codeWith y cd maxL ret hh :: GT) rm (CPw D cy adK adV As wi sz) (CQ D wi sz rv wo) rm.cells rm.slots (va_A wi sz)
theorem cw_of {l : Launch} {y : MethodName} {cd : ByteArray} {maxL : Nat} {ret : Option FieldType} {hh : List (Nat × Nat × Nat × Nat)} {rm : Room} {D : va_G} {cy : Nat → ClassId} {adK adV : Nat → Nat} {As : List Value} {wi wo : va_W} {rv : Option Value} (hy : plainName y.cls = true) (hlen : (lg_sl As).length ≤ maxL)
    (body : ∀ (p : Program) (e : Env) (s : State) (m : MethodId) (args : Array Value) (below : List Frame) (meth : Method) (c : Code), VC p s m args c cd y.cls maxL D cy (va_A wi s.heap.size) → OW adK adV (va_A wi s.heap.size) s s.heap → NX s → c.exceptionTable.toList = tableOf hh → meth.sig.returnType = ret → meth.locks = false →
      V p l e rm s m args below meth c (EQ below args s rm D wi rv wo) maxL D (va_A wi s.heap.size) 0 0 wi 0 (lv_args 0 As) []) : Cw l y cd maxL ret hh rm D cy adK adV As wi rv wo := by
  intro sz
  refine va_MetW (cc := cd) (maxL := maxL) (ret := ret) (hh := hh) hy rfl ?_
  intro p e s m args below meth c s₁ B hml hv
  obtain ⟨rfl, hsz, hP, hK, hD0, hO, hN⟩ := hv
  subst hsz
  have hts := atoms_spec (ws := .codeWith y cd maxL ret hh :: GT) B.pre
  rw [lg_entry_eq]
  exact body p e s m _ below meth c ⟨B.exec, B.bytes, hml, findClass_of_methodNamed B.named, fun w hw => hts w (List.mem_cons_of_mem _ hw), hK, fun q h => Or.inr h⟩ hO hN (vx_table (x := y) B (hts _ List.mem_cons_self)) B.returns B.notSynchronized s.heap [] _ hP hD0.self va_S.rf (lv_entry As hlen)
def xm {α β : Type} (x : Option (Nat ⊕ α)) (f : Nat → Option β) (g : α → Option β) : Option β := match x with
  | none => none
  | some (.inl c) => f c
  | some (.inr a) => g a
theorem xm_ {α β : Type} {x : Option (Nat ⊕ α)} {f : Nat → Option β} {g : α → Option β} {o : β} (h : xm x f g = some o) : (∃ c, x = some (.inl c) ∧ f c = some o) ∨ ∃ a, x = some (.inr a) ∧ g a = some o := by
  match x, h with
  | some (.inl c), h => exact Or.inl ⟨c, rfl, h⟩
  | some (.inr a), h => exact Or.inr ⟨a, rfl, h⟩
section VL7
variable {p : Program} {l : Launch} {e : Env} {R : Room} {s : State} {m : MethodId} {args : Array Value} {below : List Frame} {meth : Method} {c : Code} {Q : State → Prop} {cc : ByteArray} {own : String} {nL : Nat} {D : va_G} {cy : Nat → ClassId} {A : Nat → Prop}
variable {k n : Nat} {ws : va_W} {pc : Nat} {lv : List (Nat × Value)} {st : List Value} {adK adV : Nat → Nat}
/-- a call has thrown, and a row of this method's table takes it: nothing was written -/
theorem v_callVC (C : VC p s m args c cc own nL D cy A) (hO : OW adK adV A s s.heap) {index na maxL : Nat} {y : MethodName} {cd : ByteArray} {ret : Option FieldType} {rm : Room} {As : List Value} {wi wr : va_W} {stk : List Value} {E : String} {b ci : Nat} {fs : List Value} {r : vw_C} (hM : CX l y cd maxL ret rm D cy adK adV (.ref b :: As) wi (.inl E)) (hl : LkV own index y cd maxL ret na) (hna : As.length = na) (hRR : RR R rm maxL k n = true) (hstk : As.reverse ++ .ref b :: st = stk) (q0 : Nat) (he : ws[q0]? = some (b, .inr (ci, fs))) (hc : vwCl[ci]? = some r) (hrc : r.1 = y.cls) (hd : decode cc pc = .ok (.invokevirtual index, 3)) (isC isR isB : List Nat) (hnc : va_nd isC = true) (hC : isC.map (fun i => ws[i]?) = wi.map some) (hR : isR.map (fun i => ws[i]?) = wr.map some) (hnd : va_nd isR = true) (hdis : ∀ i ∈ isR, i ∉ isC) (hB : isB.map (fun i => (wr ++ wi)[i]?) = ws.map some) (hnb : va_nd isB = true) (hcat : (st.map fun v => v.category).sum ≤ 8)
    (pre : List ExceptionTableEntry) (x : ExceptionTableEntry) (suf : List ExceptionTableEntry) (hsp : c.exceptionTable.toList = pre ++ x :: suf) (hpass : ∀ z ∈ pre, z.catchType ≠ 0 ∧ ∃ nm : String, Cond.classLink own z.catchType nm ∈ GT ∧ va_Nc E nm s) (hx : covers x pc = true) (h0 : x.catchType ≠ 0) (hk : Cond.classLink own x.catchType E ∈ GT) (hcast : Cond.castable E E ∈ tables_1)
    (kk : ∀ q : Nat, V p l e R s m args below meth c Q nL D A (k + rm.cells) (n + rm.slots) ws x.handlerPc lv [.ref q]) : V p l e R s m args below meth c Q nL D A k n ws pc lv stk := fun H locs ls hP hD hS h => by
  subst hstk
  obtain ⟨l1, l2, l3, l4, l5, l6⟩ := hl
  have ok : ∀ w ∈ GT, w.before args s = true := C.2.2.2.2.1
  have hrv := va_recv C.2.2.2.2.2.1.1 hP hc he
  rw [hrc] at hrv
  have hr := vx_runV (C := y.cls) (As := As) (rest := st) (p := p) (l := l) (e := e) (R := R) (s := s) (m := m) (args := args) (below := below) (meth := meth) (c := c) (H := H) (locs := locs) (cells := k) (slots := n) (g := F0 m pc ls (As.reverse ++ .ref b :: st)) ⟨C.1, C.2.1, C.2.2.1, C.2.2.2.1, ok⟩ (hM H.size) ⟨callB_of na ok (gt_goodIn l5) rfl rfl rfl (ok _ l4) (ok _ l1) l6 (RR.use hRR).1, ok _ l2, ok _ l3⟩ ⟨CPo.blind, hrv, v_preO isC hnc hC C.2.2.2.2.2.1 hO C.2.2.2.2.2.2 hP hD hS⟩ rfl hna h.1 rfl (lv_room hcat) hd (RR.use hRR).2
  intro T hT X
  rcases hr T hT X with ⟨v, st₀, t, T', L, h0, X', hL, e1, e2, ⟨rv', wo', hres, hq⟩, sg⟩ | ⟨q, st₀, t, T', L, E', ce, h0', X', hL, e1, e2, ⟨hres, hP1, hD1, hz, hk9⟩, hce, hcv, hcl, sg⟩
  · cases hres
  · cases hres
    rw [h0'] at hz hk9
    have hF := va_free (wc := wi) hD hS C.2.2.2.2.2.2 isC hC
    rw [← e1] at hP1 hz hk9 hce
    obtain ⟨hP2, hD2⟩ := va_join hP hD isC isR hC hR hnd hdis hk9 hF hP1 hD1
    have hP3 : va_P D vwCl ws T'.heap := hP2.sub isB (fm_of_map hB)
    have hS' : va_S A s.heap T'.heap (locs ++ L) := ⟨Nat.le_trans hS.1 hz, fun q h1 h2 => by rw [hk9 q (Nat.lt_of_lt_of_le h1 hS.1) (fun z => h2 (hF q z))]; exact hS.2.1 q h1 h2, fun q hq => by
      rcases List.mem_append.mp hq with h | h
      · exact hS.2.2 q h
      · exact hF _ (hL q h)⟩
    obtain ⟨t2, a1, b1⟩ := vx_catch (p := p) (l := l) (e := e) (R := R) (s := s) (m := m) (args := args) (below := below) (meth := meth) (c := c) (H := T'.heap) (locs := locs ++ L) (cells := k + rm.cells) (slots := n + rm.slots) (Q := Q) (ls := ls) (rest := st) (pc := pc) C.2.2.2.1 pre x suf hsp (fun z hz => Or.inr ⟨(hpass z hz).1, by obtain ⟨nm, g1, g2⟩ := (hpass z hz).2; exact ⟨nm, ok _ g1, g2⟩⟩) hx h0 (ok _ hk) (va_Nw.use rfl (hO.2.2.2.2.2.2 _ _ hcast)) hce hcv hcl (kk q T'.heap (locs ++ L) ls hP3 hD hS' h) T' rfl X'
    exact ⟨t2, sg.trans a1, b1⟩
end VL7
