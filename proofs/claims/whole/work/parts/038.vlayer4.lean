/-! the layer's fourth part: methods that throw -/
/-- the words of a throw, by kind -/
def isDC : Cond → Bool
  | .declares _ => true
  | .castable _ _ => true
  | _ => false
abbrev ENM : List String := ["java/lang/RuntimeException", "java/lang/Exception"]
/-- an exception of this class can be made by a constructor at this index -/
def XA (own E : String) (ic : Nat) : Prop := Bundle.fit E = true ∧ (∀ x ∈ ENM, Bundle.fit x = true) ∧ Cond.initialized E ∈ GT ∧ (∀ w ∈ vx_atS own ic E ENM, w ∈ GT ∨ (isDC w = true ∧ w ∈ tables_1)) ∧ ∀ w ∈ vx_atS own ic E ENM, vx_ot w = true
theorem xa_words {own E : String} {ic : Nat} (h : (vx_atS own ic E ENM).all (fun w => (goodWord w && decide (w ∈ tables_1 ∨ w ∈ k2_sels lw_privs)) || (isDC w && decide (w ∈ tables_1))) = true) : ∀ w ∈ vx_atS own ic E ENM, w ∈ GT ∨ (isDC w = true ∧ w ∈ tables_1) := by
  intro w hw
  have h1 := List.all_eq_true.mp h w hw
  simp only [Bool.or_eq_true, Bool.and_eq_true, decide_eq_true_eq] at h1
  rcases h1 with ⟨h1, h2 | h2⟩ | h1
  · exact Or.inl (gt_mem h2 h1)
  · exact Or.inl (gt_priv h2 h1)
  · exact Or.inr h1
theorem xa_before {own E : String} {ic : Nat} {args : Array Value} {s : State} (h : XA own E ic) (ok : ∀ w ∈ GT, w.before args s = true) (hX : XW s) : ∀ w ∈ vx_atS own ic E ENM, w.before args s = true := by
  intro w hw
  rcases h.2.2.2.1 w hw with h1 | ⟨h1, h2⟩
  · exact ok w h1
  · cases w with
    | declares x => exact va_Nw.use rfl (hX.1 x h2)
    | castable a b => exact va_Nw.use rfl (hX.2 a b h2)
    | _ => cases h1
/-- what a method that may throw gives: an exception of class E, nothing written; or an answer and a world -/
def XR (D : va_G) (wi : va_W) (sz : Nat) (res : String ⊕ (Option Value × va_W)) : Array Value → State → Outcome → State → Prop := fun a st oc t => ∃ (rv : Option Value) (wo : va_W), res = .inr (rv, wo) ∧ CQ D wi sz rv wo a st oc t
def XT (D : va_G) (wi : va_W) (sz : Nat) (res : String ⊕ (Option Value × va_W)) : String → State → State → Prop := fun E st t => res = .inl E ∧ va_P D vwCl wi t.heap ∧ va_D (va_A wi sz) wi ∧ va_F (va_A wi sz) st t
def CX (l : Launch) (y : MethodName) (cd : ByteArray) (maxL : Nat) (ret : Option FieldType) (rm : Room) (D : va_G) (cy : Nat → ClassId) (adK adV : Nat → Nat) (As : List Value) (wi : va_W) (res : String ⊕ (Option Value × va_W)) : Prop :=
  ∀ sz : Nat, vx_Met l y (.code y cd maxL ret :: GT) rm (CPo D cy adK adV As wi sz) (XR D wi sz res) (XT D wi sz res) rm.cells rm.slots (va_A wi sz)
abbrev EX (below : List Frame) (args : Array Value) (s : State) (rm : Room) (D : va_G) (wi : va_W) (res : String ⊕ (Option Value × va_W)) : State → Prop := vx_MQ below (XR D wi s.heap.size res) (XT D wi s.heap.size res) args s rm.cells rm.slots (va_A wi s.heap.size)
theorem cx_of {l : Launch} {y : MethodName} {cd : ByteArray} {maxL : Nat} {ret : Option FieldType} {rm : Room} {D : va_G} {cy : Nat → ClassId} {adK adV : Nat → Nat} {As : List Value} {wi : va_W} {res : String ⊕ (Option Value × va_W)} (hy : plainName y.cls = true) (hlen : (lg_sl As).length ≤ maxL)
    (body : ∀ (p : Program) (e : Env) (s : State) (m : MethodId) (args : Array Value) (below : List Frame) (meth : Method) (c : Code), VC p s m args c cd y.cls maxL D cy (va_A wi s.heap.size) → OW adK adV (va_A wi s.heap.size) s s.heap → (∀ x ∈ c.exceptionTable.toList, False) → meth.sig.returnType = ret → meth.locks = false →
      V p l e rm s m args below meth c (EX below args s rm D wi res) maxL D (va_A wi s.heap.size) 0 0 wi 0 (lv_args 0 As) []) : CX l y cd maxL ret rm D cy adK adV As wi res := by
  intro sz
  refine vx_ofW (cc := cd) (maxL := maxL) (ret := ret) hy rfl ?_
  intro p e s m args below meth c s₁ B hml hex hv
  obtain ⟨rfl, hsz, hP, hK, hD0, hO⟩ := hv
  subst hsz
  have hts := atoms_spec (ws := .code y cd maxL ret :: GT) B.pre
  rw [lg_entry_eq]
  exact body p e s m _ below meth c ⟨B.exec, B.bytes, hml, findClass_of_methodNamed B.named, fun w hw => hts w (List.mem_cons_of_mem _ hw), hK, fun q h => Or.inr h⟩ hO hex B.returns B.notSynchronized s.heap [] _ hP hD0.self va_S.rf (lv_entry As hlen)
/-- an answer or an exception, one behind the other -/
def xb {α β : Type} (x : Option (Nat ⊕ α)) (f : α → Option (Nat ⊕ β)) : Option (Nat ⊕ β) := match x with
  | none => none
  | some (.inl c) => some (.inl c)
  | some (.inr a) => f a
theorem xb_ {α β : Type} {x : Option (Nat ⊕ α)} {f : α → Option (Nat ⊕ β)} {o : Nat ⊕ β} (h : xb x f = some o) : (∃ c, x = some (.inl c) ∧ o = .inl c) ∨ ∃ a, x = some (.inr a) ∧ f a = some o := by
  match x, h with
  | some (.inl c), h => exact Or.inl ⟨c, rfl, (Option.some.inj h).symm⟩
  | some (.inr a), h => exact Or.inr ⟨a, rfl, h⟩
/-- the exceptions by number -/
def EN (c : Nat) : String := match c with
  | 0 => "java/lang/IllegalArgumentException"
  | 1 => "java/util/NoSuchElementException"
  | _ => "java/lang/IndexOutOfBoundsException"
section VL4
variable {p : Program} {l : Launch} {e : Env} {rm : Room} {s : State} {m : MethodId} {args : Array Value} {below : List Frame} {meth : Method} {c : Code} {cc : ByteArray} {own : String} {nL : Nat} {D : va_G} {cy : Nat → ClassId} {wi : va_W} {res : String ⊕ (Option Value × va_W)}
variable {k n : Nat} {ws : va_W} {pc : Nat} {lv : List (Nat × Value)} {st : List Value} {adK adV : Nat → Nat}
theorem v_iretX (C : VC p s m args c cc own nL D cy (va_A wi s.heap.size)) {x : Int32} (hr : meth.sig.returnType = some .int) (hlocks : meth.locks = false) (hd : decode cc pc = .ok (.ireturn, 1)) (hk : k ≤ rm.cells) (hn : n ≤ rm.slots) (hres : res = .inr (some (.int x), ws)) : V p l e rm s m args below meth c (EX below args s rm D wi res) nL D (va_A wi s.heap.size) k n ws pc lv [.int x] := fun H locs ls hP hD hS h =>
  vx_ret (W.widen hk hn (W.iret C.1 C.2.1 hr (fun t ht hW => ⟨_, _, hres, rfl, by rw [ht]; exact hP, hD, hS.F ht⟩) hS.2.2 hd hlocks))
theorem v_vretX (C : VC p s m args c cc own nL D cy (va_A wi s.heap.size)) (hr : meth.sig.returnType = none) (hlocks : meth.locks = false) (hd : decode cc pc = .ok (.return_, 1)) (hk : k ≤ rm.cells) (hn : n ≤ rm.slots) (hres : res = .inr (none, ws)) : V p l e rm s m args below meth c (EX below args s rm D wi res) nL D (va_A wi s.heap.size) k n ws pc lv [] := fun H locs ls hP hD hS h =>
  vx_ret (W.widen hk hn (W.vret C.1 C.2.1 hr (fun t ht hW => ⟨_, _, hres, rfl, by rw [ht]; exact hP, hD, hS.F ht⟩) hS.2.2 hd hlocks))
theorem v_aretX (C : VC p s m args c cc own nL D cy (va_A wi s.heap.size)) {a : Nat} {rt : FieldType} (hr : meth.sig.returnType = some rt) (hrt : (∃ n, rt = .object n) ∨ ∃ t, rt = .array t) (hlocks : meth.locks = false) (hd : decode cc pc = .ok (.areturn, 1)) (hk : k ≤ rm.cells) (hn : n ≤ rm.slots) (hres : res = .inr (some (.ref a), ws)) : V p l e rm s m args below meth c (EX below args s rm D wi res) nL D (va_A wi s.heap.size) k n ws pc lv [.ref a] := fun H locs ls hP hD hS h =>
  vx_ret (W.widen hk hn (W.aret C.1 C.2.1 hr hrt (Or.inr ⟨a, rfl⟩) (fun t ht hW => ⟨_, _, hres, rfl, by rw [ht]; exact hP, hD, hS.F ht⟩) hS.2.2 hd hlocks))
/-- throw new E("..") -/
theorem v_throw (C : VC p s m args c cc own nL D cy (va_A wi s.heap.size)) (hO : OW adK adV (va_A wi s.heap.size) s s.heap) (hl : l.stackTraces = false) (hex : ∀ x ∈ c.exceptionTable.toList, False) (hlocks : meth.locks = false) {E t : String} {ik ic is i : Nat} (hE : XA own E ic) (hk : Cond.classLink own ik E ∈ GT) (hi : SREF[i]? = some (own, is, t)) (hot : vx_ot (Cond.classLink own ik E) = true ∧ vx_ot (Cond.initialized E) = true)
    (d0 : decode cc pc = .ok (.new ik, 3)) (d3 : decode cc (pc + 3) = .ok (.dup, 1)) (d4 : decode cc (pc + 4) = .ok (.ldc is, 2)) (d6 : decode cc (pc + 6) = .ok (.invokespecial ic, 3)) (d9 : decode cc (pc + 9) = .ok (.athrow, 1))
    (hR : 5 < rm.frames ∧ (st.map fun v => v.category).sum + 82 ≤ rm.locals) (hkc : k + 1 ≤ rm.cells) (hns : n + 6 ≤ rm.slots) (hw : ws = wi) (hres : res = .inl E) : V p l e rm s m args below meth c (EX below args s rm D wi res) nL D (va_A wi s.heap.size) k n ws pc lv st := by
  subst hw
  intro H locs ls hP hD hS h
  have ok : ∀ w ∈ GT, w.before args s = true := C.2.2.2.2.1
  exact vx_throwS C.1 C.2.1 hl C.2.2.2.1 hE.1 hE.2.1 (ok _ hk) (ok _ hE.2.2.1) (hO.2.2.2.2.1 i own is t hi) (xa_before hE ok hO.2.2.2.2.2) (List.forall_mem_cons.mpr ⟨hot.1, List.forall_mem_cons.mpr ⟨hot.2, hE.2.2.2.2⟩⟩) hO.2.2.2.1.1 hO.2.2.2.1.2 hS (h.1.trans C.2.2.1.symm) d0 d3 d4 d6 d9 (fun x hx => (hex x hx).elim) hR.1 hR.2 hkc hns hlocks
    (fun t ha hsz hkeep => ⟨hres, hP.kept (fun i q hq => hkeep _ (hP i q hq).lt), hD, Nat.le_trans hS.1 hsz, fun q h1 h2 => by rw [hkeep q (Nat.lt_of_lt_of_le h1 hS.1)]; exact hS.2.1 q h1 h2⟩) hS.2.2 hkc hns
theorem v_throwW (C : VC p s m args c cc own nL D cy (va_A wi s.heap.size)) (hO : OW adK adV (va_A wi s.heap.size) s s.heap) (hl : l.stackTraces = false) (hex : ∀ x ∈ c.exceptionTable.toList, False) (hlocks : meth.locks = false) {E t : String} {ik ic is i : Nat} (hE : XA own E ic) (hk : Cond.classLink own ik E ∈ GT) (hi : SREF[i]? = some (own, is, t)) (hot : vx_ot (Cond.classLink own ik E) = true ∧ vx_ot (Cond.initialized E) = true)
    (d0 : decode cc pc = .ok (.new ik, 3)) (d3 : decode cc (pc + 3) = .ok (.dup, 1)) (d4 : decode cc (pc + 4) = .ok (.ldc_w is, 3)) (d7 : decode cc (pc + 7) = .ok (.invokespecial ic, 3)) (d10 : decode cc (pc + 10) = .ok (.athrow, 1))
    (hR : 5 < rm.frames ∧ (st.map fun v => v.category).sum + 82 ≤ rm.locals) (hkc : k + 1 ≤ rm.cells) (hns : n + 6 ≤ rm.slots) (hw : ws = wi) (hres : res = .inl E) : V p l e rm s m args below meth c (EX below args s rm D wi res) nL D (va_A wi s.heap.size) k n ws pc lv st := by
  subst hw
  intro H locs ls hP hD hS h
  have ok : ∀ w ∈ GT, w.before args s = true := C.2.2.2.2.1
  exact vx_throwSW C.1 C.2.1 hl C.2.2.2.1 hE.1 hE.2.1 (ok _ hk) (ok _ hE.2.2.1) (hO.2.2.2.2.1 i own is t hi) (xa_before hE ok hO.2.2.2.2.2) (List.forall_mem_cons.mpr ⟨hot.1, List.forall_mem_cons.mpr ⟨hot.2, hE.2.2.2.2⟩⟩) hO.2.2.2.1.1 hO.2.2.2.1.2 hS (h.1.trans C.2.2.1.symm) d0 d3 d4 d7 d10 (fun x hx => (hex x hx).elim) hR.1 hR.2 hkc hns hlocks
    (fun t ha hsz hkeep => ⟨hres, hP.kept (fun i q hq => hkeep _ (hP i q hq).lt), hD, Nat.le_trans hS.1 hsz, fun q h1 h2 => by rw [hkeep q (Nat.lt_of_lt_of_le h1 hS.1)]; exact hS.2.1 q h1 h2⟩) hS.2.2 hkc hns
end VL4
section VL4b
variable {p : Program} {l : Launch} {e : Env} {R : Room} {s : State} {m : MethodId} {args : Array Value} {below : List Frame} {meth : Method} {c : Code} {Q : State → Prop} {cc : ByteArray} {own : String} {nL : Nat} {D : va_G} {cy : Nat → ClassId} {A : Nat → Prop}
variable {k n : Nat} {ws : va_W} {pc : Nat} {lv : List (Nat × Value)} {st : List Value} {adK adV : Nat → Nat}
/-- back from a call that may throw, and has returned -/
theorem v_backX {rm : Room} {wi wo wr : va_W} {rv : Option Value} {stk st : List Value} (isC isR : List Nat) (hC : isC.map (fun i => ws[i]?) = wi.map some) (hR : isR.map (fun i => ws[i]?) = wr.map some) (hnd : va_nd isR = true) (hdis : ∀ i ∈ isR, i ∉ isC) {H : Heap} {locs : List Loc} {ls : Array Slot} (hA : ∀ q : Nat, s.heap.size ≤ q → A q) (hP : va_P D vwCl ws H) (hD : va_D A ws) (hS : va_S A s.heap H locs) (h : lv_has ls nL lv) {a : Array Value}
    (hr : vx_Run p l e R s m args below meth c H locs k n rm.cells rm.slots (F0 m pc ls stk) st (XR D wi H.size (.inr (rv, wo)) a) (XT D wi H.size (.inr (rv, wo))) (va_A wi H.size))
    (kk : V p l e R s m args below meth c Q nL D A (k + rm.cells) (n + rm.slots) (wr ++ wo) (pc + 3) lv (rv.toList ++ st)) : W p l e R s m args below meth c H locs k n Q (F0 m pc ls stk) := by
  refine v_back (y := ⟨"", "", ""⟩) (As := []) (rm := rm) isC isR hC hR hnd hdis hA hP hD hS h (a := a) ?_ kk
  intro T hT X
  rcases hr T hT X with ⟨v, st₀, t, T', L, h0, X', hL, e1, e2, ⟨rv', wo', hres, hq⟩, sg⟩ | ⟨q, st₀, t, T', L, E, ce, h0, X', hL, e1, e2, ⟨hres, -⟩, -⟩
  · cases hres
    exact ⟨v, st₀, t, T', L, h0, X', hL, e1, e2, hq, sg⟩
  · cases hres
/-- .. and has thrown, and nothing catches it here: nothing was written -/
theorem v_backT {rmo rm : Room} {w0 wi wr : va_W} {E : String} {stk st : List Value} (isC isR isB : List Nat) (hC : isC.map (fun i => w0[i]?) = wi.map some) (hR : isR.map (fun i => w0[i]?) = wr.map some) (hnd : va_nd isR = true) (hdis : ∀ i ∈ isR, i ∉ isC) (hB : isB.map (fun i => (wr ++ wi)[i]?) = w0.map some) (hnb : va_nd isB = true) (hex : ∀ x ∈ c.exceptionTable.toList, False) (hlocks : meth.locks = false) (hkc : k + rm.cells ≤ rmo.cells) (hns : n + rm.slots ≤ rmo.slots) {H : Heap} {locs : List Loc} {ls : Array Slot} (hP : va_P D vwCl w0 H) (hD : va_D (va_A w0 s.heap.size) w0) (hS : va_S (va_A w0 s.heap.size) s.heap H locs) {a : Array Value}
    (hr : vx_Run p l e R s m args below meth c H locs k n rm.cells rm.slots (F0 m pc ls stk) st (XR D wi H.size (.inl E) a) (XT D wi H.size (.inl E)) (va_A wi H.size)) : W p l e R s m args below meth c H locs k n (EX below args s rmo D w0 (.inl E)) (F0 m pc ls stk) := by
  intro T hT X
  rcases hr T hT X with ⟨v, st₀, t, T', L, h0, X', hL, e1, e2, ⟨rv', wo', hres, hq⟩, sg⟩ | ⟨q, st₀, t, T', L, E', ce, h0, X', hL, e1, e2, ⟨hres, hP1, hD1, hz, hk⟩, hce, hcv, hcl, sg⟩
  · cases hres
  · cases hres
    rw [h0] at hz hk
    have hA : ∀ q : Nat, s.heap.size ≤ q → va_A w0 s.heap.size q := fun q h => Or.inr h
    have hF := va_free (wc := wi) hD hS hA isC hC
    rw [← e1] at hP1 hz hk hce
    obtain ⟨hP2, hD2⟩ := va_join hP hD isC isR hC hR hnd hdis hk hF hP1 hD1
    have hP3 : va_P D vwCl w0 T'.heap := hP2.sub isB (fm_of_map hB)
    have hS' : va_S (va_A w0 s.heap.size) s.heap T'.heap (locs ++ L) := ⟨Nat.le_trans hS.1 hz, fun q h1 h2 => by rw [hk q (Nat.lt_of_lt_of_le h1 hS.1) (fun z => h2 (hF q z))]; exact hS.2.1 q h1 h2, fun q hq => by
      rcases List.mem_append.mp hq with h | h
      · exact hS.2.2 q h
      · exact hF _ (hL q h)⟩
    obtain ⟨t2, a1, b1⟩ := vx_out (p := p) (l := l) (e := e) (R := R) (s := s) (m := m) (args := args) (below := below) (meth := meth) (c := c) (H := T'.heap) (locs := locs ++ L) (cells := k + rm.cells) (slots := n + rm.slots) (Qc := XR D w0 s.heap.size (.inl E)) (XC := XT D w0 s.heap.size (.inl E)) (free := va_A w0 s.heap.size) (ls := ls) (rest := st) (pc := pc) (fun x hx => (hex x hx).elim) hlocks hce hcv hcl
      (fun t ht ha => ⟨rfl, by rw [ht]; exact hP3, hD, hS'.F ht⟩) hS'.2.2 hkc hns T' rfl X'
    exact ⟨t2, sg.trans a1, b1⟩
theorem v_callSX (C : VC p s m args c cc own nL D cy A) (hO : OW adK adV A s s.heap) {index na maxL : Nat} {y : MethodName} {cd : ByteArray} {ret : Option FieldType} {rm : Room} {As : List Value} {wi wo wr ws' : va_W} {rv : Option Value} {stk stk' : List Value} (hM : CX l y cd maxL ret rm D cy adK adV As wi (.inr (rv, wo))) (hl : LkS own index y cd maxL ret na) (hna : As.length = na) (hRR : RR R rm maxL k n = true) (hstk : As.reverse ++ st = stk) (hd : decode cc pc = .ok (.invokestatic index, 3)) (isC isR : List Nat) (hnc : va_nd isC = true) (hC : isC.map (fun i => ws[i]?) = wi.map some) (hR : isR.map (fun i => ws[i]?) = wr.map some) (hnd : va_nd isR = true) (hdis : ∀ i ∈ isR, i ∉ isC) (hcat : (st.map fun v => v.category).sum ≤ 8) (hw : wr ++ wo = ws') (hst' : rv.toList ++ st = stk') (kk : V p l e R s m args below meth c Q nL D A (k + rm.cells) (n + rm.slots) ws' (pc + 3) lv stk') : V p l e R s m args below meth c Q nL D A k n ws pc lv stk := fun H locs ls hP hD hS h => by
  subst hstk
  subst hw
  subst hst'
  obtain ⟨l1, l2, l4, l5, l6⟩ := hl
  have ok : ∀ w ∈ GT, w.before args s = true := C.2.2.2.2.1
  exact v_backX isC isR hC hR hnd hdis C.2.2.2.2.2.2 hP hD hS h
    (vx_runS (As := As) (rest := st) ⟨C.1, C.2.1, C.2.2.1, C.2.2.2.1, ok⟩ (hM H.size) ⟨callB_of na ok (gt_goodIn l5) rfl rfl rfl (ok _ l4) (ok _ l1) l6 (RR.use hRR).1, ok _ l2⟩ ⟨CPo.blind, v_preO isC hnc hC C.2.2.2.2.2.1 hO C.2.2.2.2.2.2 hP hD hS⟩ rfl hna h.1 rfl (lv_room hcat) hd (RR.use hRR).2) kk
theorem v_callVX (C : VC p s m args c cc own nL D cy A) (hO : OW adK adV A s s.heap) {index na maxL : Nat} {y : MethodName} {cd : ByteArray} {ret : Option FieldType} {rm : Room} {As : List Value} {wi wo wr ws' : va_W} {rv : Option Value} {stk stk' : List Value} {b ci : Nat} {fs : List Value} {r : vw_C} (hM : CX l y cd maxL ret rm D cy adK adV (.ref b :: As) wi (.inr (rv, wo))) (hl : LkV own index y cd maxL ret na) (hna : As.length = na) (hRR : RR R rm maxL k n = true) (hstk : As.reverse ++ .ref b :: st = stk) (q0 : Nat) (he : ws[q0]? = some (b, .inr (ci, fs))) (hc : vwCl[ci]? = some r) (hrc : r.1 = y.cls) (hd : decode cc pc = .ok (.invokevirtual index, 3)) (isC isR : List Nat) (hnc : va_nd isC = true) (hC : isC.map (fun i => ws[i]?) = wi.map some) (hR : isR.map (fun i => ws[i]?) = wr.map some) (hnd : va_nd isR = true) (hdis : ∀ i ∈ isR, i ∉ isC) (hcat : (st.map fun v => v.category).sum ≤ 8) (hw : wr ++ wo = ws') (hst' : rv.toList ++ st = stk') (kk : V p l e R s m args below meth c Q nL D A (k + rm.cells) (n + rm.slots) ws' (pc + 3) lv stk') : V p l e R s m args below meth c Q nL D A k n ws pc lv stk := fun H locs ls hP hD hS h => by
  subst hstk
  subst hw
  subst hst'
  obtain ⟨l1, l2, l3, l4, l5, l6⟩ := hl
  have ok : ∀ w ∈ GT, w.before args s = true := C.2.2.2.2.1
  have hrv := va_recv C.2.2.2.2.2.1.1 hP hc he
  rw [hrc] at hrv
  exact v_backX isC isR hC hR hnd hdis C.2.2.2.2.2.2 hP hD hS h
    (vx_runV (C := y.cls) (As := As) (rest := st) ⟨C.1, C.2.1, C.2.2.1, C.2.2.2.1, ok⟩ (hM H.size) ⟨callB_of na ok (gt_goodIn l5) rfl rfl rfl (ok _ l4) (ok _ l1) l6 (RR.use hRR).1, ok _ l2, ok _ l3⟩ ⟨CPo.blind, hrv, v_preO isC hnc hC C.2.2.2.2.2.1 hO C.2.2.2.2.2.2 hP hD hS⟩ rfl hna h.1 rfl (lv_room hcat) hd (RR.use hRR).2) kk
theorem v_callST {rmo : Room} {w0 : va_W} (C : VC p s m args c cc own nL D cy (va_A w0 s.heap.size)) (hO : OW adK adV (va_A w0 s.heap.size) s s.heap) {index na maxL : Nat} {y : MethodName} {cd : ByteArray} {ret : Option FieldType} {rm : Room} {As : List Value} {wi wr : va_W} {stk : List Value} {E : String} {res : String ⊕ (Option Value × va_W)} (hM : CX l y cd maxL ret rm D cy adK adV As wi (.inl E)) (hl : LkS own index y cd maxL ret na) (hna : As.length = na) (hRR : RR R rm maxL k n = true) (hstk : As.reverse ++ st = stk) (hd : decode cc pc = .ok (.invokestatic index, 3)) (isC isR isB : List Nat) (hnc : va_nd isC = true) (hC : isC.map (fun i => w0[i]?) = wi.map some) (hR : isR.map (fun i => w0[i]?) = wr.map some) (hnd : va_nd isR = true) (hdis : ∀ i ∈ isR, i ∉ isC) (hB : isB.map (fun i => (wr ++ wi)[i]?) = w0.map some) (hnb : va_nd isB = true) (hcat : (st.map fun v => v.category).sum ≤ 8) (hex : ∀ x ∈ c.exceptionTable.toList, False) (hlocks : meth.locks = false) (hkc : k + rm.cells ≤ rmo.cells) (hns : n + rm.slots ≤ rmo.slots) (hres : res = .inl E) (hw : ws = w0) : V p l e R s m args below meth c (EX below args s rmo D w0 res) nL D (va_A w0 s.heap.size) k n ws pc lv stk := fun H locs ls hP hD hS h => by
  subst hstk
  subst hw
  subst hres
  obtain ⟨l1, l2, l4, l5, l6⟩ := hl
  have ok : ∀ w ∈ GT, w.before args s = true := C.2.2.2.2.1
  exact v_backT isC isR isB hC hR hnd hdis hB hnb hex hlocks hkc hns hP hD hS
    (vx_runS (As := As) (rest := st) ⟨C.1, C.2.1, C.2.2.1, C.2.2.2.1, ok⟩ (hM H.size) ⟨callB_of na ok (gt_goodIn l5) rfl rfl rfl (ok _ l4) (ok _ l1) l6 (RR.use hRR).1, ok _ l2⟩ ⟨CPo.blind, v_preO isC hnc hC C.2.2.2.2.2.1 hO C.2.2.2.2.2.2 hP hD hS⟩ rfl hna h.1 rfl (lv_room hcat) hd (RR.use hRR).2)
theorem v_callVT {rmo : Room} {w0 : va_W} (C : VC p s m args c cc own nL D cy (va_A w0 s.heap.size)) (hO : OW adK adV (va_A w0 s.heap.size) s s.heap) {index na maxL : Nat} {y : MethodName} {cd : ByteArray} {ret : Option FieldType} {rm : Room} {As : List Value} {wi wr : va_W} {stk : List Value} {E : String} {res : String ⊕ (Option Value × va_W)} {b ci : Nat} {fs : List Value} {r : vw_C} (hM : CX l y cd maxL ret rm D cy adK adV (.ref b :: As) wi (.inl E)) (hl : LkV own index y cd maxL ret na) (hna : As.length = na) (hRR : RR R rm maxL k n = true) (hstk : As.reverse ++ .ref b :: st = stk) (q0 : Nat) (he : w0[q0]? = some (b, .inr (ci, fs))) (hc : vwCl[ci]? = some r) (hrc : r.1 = y.cls) (hd : decode cc pc = .ok (.invokevirtual index, 3)) (isC isR isB : List Nat) (hnc : va_nd isC = true) (hC : isC.map (fun i => w0[i]?) = wi.map some) (hR : isR.map (fun i => w0[i]?) = wr.map some) (hnd : va_nd isR = true) (hdis : ∀ i ∈ isR, i ∉ isC) (hB : isB.map (fun i => (wr ++ wi)[i]?) = w0.map some) (hnb : va_nd isB = true) (hcat : (st.map fun v => v.category).sum ≤ 8) (hex : ∀ x ∈ c.exceptionTable.toList, False) (hlocks : meth.locks = false) (hkc : k + rm.cells ≤ rmo.cells) (hns : n + rm.slots ≤ rmo.slots) (hres : res = .inl E) (hw : ws = w0) : V p l e R s m args below meth c (EX below args s rmo D w0 res) nL D (va_A w0 s.heap.size) k n ws pc lv stk := fun H locs ls hP hD hS h => by
  subst hstk
  subst hw
  subst hres
  obtain ⟨l1, l2, l3, l4, l5, l6⟩ := hl
  have ok : ∀ w ∈ GT, w.before args s = true := C.2.2.2.2.1
  have hrv := va_recv C.2.2.2.2.2.1.1 hP hc he
  rw [hrc] at hrv
  exact v_backT isC isR isB hC hR hnd hdis hB hnb hex hlocks hkc hns hP hD hS
    (vx_runV (C := y.cls) (As := As) (rest := st) ⟨C.1, C.2.1, C.2.2.1, C.2.2.2.1, ok⟩ (hM H.size) ⟨callB_of na ok (gt_goodIn l5) rfl rfl rfl (ok _ l4) (ok _ l1) l6 (RR.use hRR).1, ok _ l2, ok _ l3⟩ ⟨CPo.blind, hrv, v_preO isC hnc hC C.2.2.2.2.2.1 hO C.2.2.2.2.2.2 hP hD hS⟩ rfl hna h.1 rfl (lv_room hcat) hd (RR.use hRR).2)
end VL4b
