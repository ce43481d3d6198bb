/-! the layer's fifth part: constructors -/
def KA (U : State) : Prop := (Cond.arrayOver (.object RX9)).before #[] U = true ∧ (Cond.arrayOver (.object RX2)).before #[] U = true ∧ (Cond.arrayOver (.array .int)).before #[] U = true
theorem aoa_moved {t : FieldType} {u U : State} (hvm : u.vm.Alike U.vm) (h : (Cond.arrayOver (.array t)).before #[] u = true) : (Cond.arrayOver (.array t)).before #[] U = true := by
  unfold Cond.before Cond.holds at h ⊢
  simp only [Cond.value, beq_iff_eq] at h ⊢
  have e1 : ∀ n, U.vm.findClass n = u.vm.findClass n := fun n => hvm.findClass ..
  rw [e1]
  cases hc : u.vm.findClass (FieldType.array t).toString with
  | none => rw [hc] at h; cases h
  | some comp =>
    rw [hc] at h
    simp only [Option.bind_some, Option.bind_eq_some_iff, Option.map_eq_some_iff] at h ⊢
    obtain ⟨c, hi, k, hk, hb⟩ := h
    obtain ⟨k', hk', he⟩ := hvm.2.2 _ _ hk
    have hkind : k'.kind = k.kind := by rw [he]
    refine ⟨c, ?_, k', hk', ?_⟩
    · have h1 := va_idx_bare U.vm comp
      have h2 := va_idx_bare u.vm comp
      rw [hvm.bare_eq] at h1
      exact (h1.symm.trans h2).trans hi
    · rw [hkind, e1]
      exact hb
theorem KA.warm {s U : State} (hW : s.WarmedH U.vm) (h : KA s) : KA U := ⟨va_AO.moved hW.alike h.1, va_AO.moved hW.alike h.2.1, aoa_moved hW.alike h.2.2⟩
/-- a constructor's contract: where its new cells lie, it doesn't tell -/
def CPc (D : va_G) (cy : Nat → ClassId) (As : List Value) (wi : va_W) (sz : Nat) : Array Value → State → Prop := va_Pc As (fun U => U.heap.size = sz ∧ va_P D vwCl wi U.heap ∧ Kt D cy U ∧ va_D (fun _ => True) wi ∧ KA U)
def CQc (D : va_G) (wi : va_W) (sz : Nat) (P : va_W → Prop) : Array Value → State → Outcome → State → Prop := fun _ st oc t => oc = .returned none ∧ ∃ wo : va_W, P wo ∧ va_P D vwCl wo t.heap ∧ va_D (va_A wi sz) wo ∧ va_F (va_A wi sz) st t
def Cc (l : Launch) (y : MethodName) (cd : ByteArray) (maxL : Nat) (rm : Room) (D : va_G) (cy : Nat → ClassId) (As : List Value) (wi : va_W) (P : va_W → Prop) : Prop :=
  ∀ sz : Nat, Met l y (.code y cd maxL none :: GT) rm (CPc D cy As wi sz) (CQc D wi sz P) rm.cells rm.slots (va_A wi sz)
theorem CPc.blind {D : va_G} {cy : Nat → ClassId} {As : List Value} {wi : va_W} {sz : Nat} : FrameBlind (CPc D cy As wi sz) := fun a U g mk q => by
  obtain ⟨q0, q1, qP, qK, qD, qA⟩ := q
  exact ⟨q0, q1, qP, ⟨va_K.moved (u := U) (U := U.calling g mk a) (Vm.Alike.refl U.vm) qK.1, NW.same (s := U) (U := U.calling g mk a) rfl qK.2⟩, qD, qA⟩
abbrev EC (below : List Frame) (args : Array Value) (s : State) (rm : Room) (D : va_G) (wi : va_W) (P : va_W → Prop) : State → Prop := MQ below (CQc D wi s.heap.size P) args s rm.cells rm.slots (va_A wi s.heap.size)
theorem cc_of {l : Launch} {y : MethodName} {cd : ByteArray} {maxL : Nat} {rm : Room} {D : va_G} {cy : Nat → ClassId} {As : List Value} {wi : va_W} {P : va_W → Prop} (hy : plainName y.cls = true) (hlen : (lg_sl As).length ≤ maxL)
    (body : ∀ (p : Program) (e : Env) (s : State) (m : MethodId) (args : Array Value) (below : List Frame) (meth : Method) (c : Code), VC p s m args c cd y.cls maxL D cy (va_A wi s.heap.size) → KA s → meth.sig.returnType = none → meth.locks = false → meth.name = y.name →
      V p l e rm s m args below meth c (EC below args s rm D wi P) maxL D (va_A wi s.heap.size) 0 0 wi 0 (lv_args 0 As) []) : Cc l y cd maxL rm D cy As wi P := by
  intro sz
  refine Met.ofW (cc := cd) (maxL := maxL) (ret := none) hy rfl ?_
  intro p e s m args below meth c s₁ B hml hv
  obtain ⟨rfl, hsz, hP, hK, hD0, hA⟩ := hv
  subst hsz
  have hts := atoms_spec (ws := .code y cd maxL none :: GT) B.pre
  rw [lg_entry_eq]
  exact body p e s m _ below meth c ⟨B.exec, B.bytes, hml, findClass_of_methodNamed B.named, fun w hw => hts w (List.mem_cons_of_mem _ hw), hK, fun q h => Or.inr h⟩ hA B.returns B.notSynchronized (name_of_methodNamed B.named B.method).1 s.heap [] _ hP hD0.self va_S.rf (lv_entry As hlen)
/-- the class at an index of own's pool can be made: class ci, its fields' defaults fs -/
def NC (own : String) (index ci : Nat) (fs : List Value) : Prop := ∃ (Cn : String) (T : u_T) (N : Nat) (ty : Nat → FieldType), vwCl[ci]? = some (Cn, T, N) ∧ (∀ w ∈ u_ws Cn T N, w ∈ GT) ∧ (∀ k, k < N → parseFieldDescriptor (T k).2.2.1 = some (ty k)) ∧ Cond.classLink own index Cn ∈ GT ∧ Cond.instantiable Cn N ∈ GT ∧ Cond.initialized Cn ∈ GT ∧ (∀ j, j < N → defaultValue (ty j) = vp_V fs j) ∧ fs.length = N
def LkI (own : String) (index : Nat) (y : MethodName) (cd : ByteArray) (maxL na : Nat) : Prop := Cond.methodLink own index y ∈ GT ∧ Cond.instanceMethod y ∈ GT ∧ Cond.initialized y.cls ∈ GT ∧ Cond.code y cd maxL none ∈ GT ∧ y.name = "<init>" ∧ (y.cls ≠ "java/lang/invoke/MethodHandle" ∧ y.cls ≠ "java/lang/invoke/VarHandle" ∧ (parseMethodDescriptor y.desc).map (fun d => d.parameters.length) = some na)
def LkJ (own : String) (index : Nat) (y : MethodName) (cd : ByteArray) (maxL na : Nat) : Prop := (∃ host, Cond.methodLinkNest own index y host ∈ tables_1) ∧ Cond.instanceMethod y ∈ GT ∧ Cond.initialized y.cls ∈ GT ∧ Cond.code y cd maxL none ∈ GT ∧ y.name = "<init>" ∧ (y.cls ≠ "java/lang/invoke/MethodHandle" ∧ y.cls ≠ "java/lang/invoke/VarHandle" ∧ (parseMethodDescriptor y.desc).map (fun d => d.parameters.length) = some na)
section VL5
variable {p : Program} {l : Launch} {e : Env} {R : Room} {s : State} {m : MethodId} {args : Array Value} {below : List Frame} {meth : Method} {c : Code} {Q : State → Prop} {cc : ByteArray} {own : String} {nL : Nat} {D : va_G} {cy : Nat → ClassId} {A : Nat → Prop}
variable {k n : Nat} {ws : va_W} {pc : Nat} {lv : List (Nat × Value)} {st : List Value}
theorem v_new (C : VC p s m args c cc own nL D cy A) {index ci : Nat} {fs : List Value} (hn : NC own index ci fs) (hk : k + 1 ≤ R.cells) (hs : n + fs.length ≤ R.slots) (hd : decode cc pc = .ok (.new index, 3)) (kk : ∀ q : Nat, V p l e R s m args below meth c Q nL D A (k + 1) (n + fs.length) (ws ++ [(q, .inr (ci, fs))]) (pc + 3) lv (.ref q :: st)) : V p l e R s m args below meth c Q nL D A k n ws pc lv st := fun H locs ls hP hD hS h => by
  obtain ⟨Cn, T, N, ty, h1, h2, h3, h4, h5, h6, h7, h8⟩ := hn
  subst h8
  exact va_new C.1 C.2.1 C.2.2.2.2.1 h2 ty h3 C.2.2.2.1 (C.2.2.2.2.1 _ h4) (C.2.2.2.2.1 _ h5) (C.2.2.2.2.1 _ h6) C.2.2.2.2.2.1.1 hP hD hS C.2.2.2.2.2.2 h1 h7 hk hs hd (fun q H1 hP hD hS => kk q H1 locs ls hP hD hS h)
theorem ty_last {D : va_G} {cl : List vw_C} {cy : Nat → ClassId} {cA : ClassId} {ty : FieldType} {s : State} (h : va_K D cl (TY cy ++ [(cA, ty)]) s) : va_RA s cA ty := (h.2 6 _ rfl).2
theorem v_newI (C : VC p s m args c cc own nL D cy A) (hac : Cond.arrayClass .int ∈ GT) {z : Int32} {N : Nat} (hz : ¬ z < 0) (hN : z.toNatClampNeg = N) (hb : N * 4 ≤ 536870912) (hk : k + 1 ≤ R.cells) (hs : n + N ≤ R.slots) (hd : decode cc pc = .ok (.newarray .int, 2)) (kk : ∀ q : Nat, V p l e R s m args below meth c Q nL D A (k + 1) (n + N) (ws ++ [aI cy q N (fun _ => 0)]) (pc + 2) lv (.ref q :: st)) : V p l e R s m args below meth c Q nL D A k n ws pc lv (.int z :: st) := fun H locs ls hP hD hS h => by
  refine va_newa (atype := .int) (ty := .int) (a0 := (N, .inl (fun _ => 0))) C.1 C.2.1 (C.2.2.2.2.1 _ hac) rfl C.2.2.2.2.2.1.1 hP hD hS C.2.2.2.2.2.2 (fun cA => rfl) hz hN hb hk hs hd (fun q cA H1 hK hP hD hS => ?_)
  have e1 : va_RA s cA .int := ty_last hK
  have e2 : va_RA s (cy 1) .int := (C.2.2.2.2.2.1.1.2 1 _ rfl).2
  cases Option.some.inj (Eq.trans (Eq.symm e1) e2)
  exact kk q H1 locs ls hP hD hS h
theorem v_newB (C : VC p s m args c cc own nL D cy A) (hac : Cond.arrayClass .byte ∈ GT) {z : Int32} {N : Nat} (hz : ¬ z < 0) (hN : z.toNatClampNeg = N) (hb : N * 1 ≤ 536870912) (hk : k + 1 ≤ R.cells) (hs : n + N ≤ R.slots) (hd : decode cc pc = .ok (.newarray .byte, 2)) (kk : ∀ q : Nat, V p l e R s m args below meth c Q nL D A (k + 1) (n + N) (ws ++ [aB cy q N (fun _ => 0)]) (pc + 2) lv (.ref q :: st)) : V p l e R s m args below meth c Q nL D A k n ws pc lv (.int z :: st) := fun H locs ls hP hD hS h => by
  refine va_newa (atype := .byte) (ty := .byte) (a0 := (N, .inl (fun _ => 0))) C.1 C.2.1 (C.2.2.2.2.1 _ hac) rfl C.2.2.2.2.2.1.1 hP hD hS C.2.2.2.2.2.2 (fun cA => rfl) hz hN hb hk hs hd (fun q cA H1 hK hP hD hS => ?_)
  have e1 : va_RA s cA .byte := ty_last hK
  have e2 : va_RA s (cy 0) .byte := (C.2.2.2.2.2.1.1.2 0 _ rfl).2
  cases Option.some.inj (Eq.trans (Eq.symm e1) e2)
  exact kk q H1 locs ls hP hD hS h
theorem v_newL (C : VC p s m args c cc own nL D cy A) (hac : Cond.arrayClass .long ∈ GT) {z : Int32} {N : Nat} (hz : ¬ z < 0) (hN : z.toNatClampNeg = N) (hb : N * 8 ≤ 536870912) (hk : k + 1 ≤ R.cells) (hs : n + N ≤ R.slots) (hd : decode cc pc = .ok (.newarray .long, 2)) (kk : ∀ q : Nat, V p l e R s m args below meth c Q nL D A (k + 1) (n + N) (ws ++ [aL cy q N (fun _ => 0)]) (pc + 2) lv (.ref q :: st)) : V p l e R s m args below meth c Q nL D A k n ws pc lv (.int z :: st) := fun H locs ls hP hD hS h => by
  refine va_newa (atype := .long) (ty := .long) (a0 := (N, .inr (.inl (fun _ => 0)))) C.1 C.2.1 (C.2.2.2.2.1 _ hac) rfl C.2.2.2.2.2.1.1 hP hD hS C.2.2.2.2.2.2 (fun cA => rfl) hz hN hb hk hs hd (fun q cA H1 hK hP hD hS => ?_)
  have e1 : va_RA s cA .long := ty_last hK
  have e2 : va_RA s (cy 5) .long := (C.2.2.2.2.2.1.1.2 5 _ rfl).2
  cases Option.some.inj (Eq.trans (Eq.symm e1) e2)
  exact kk q H1 locs ls hP hD hS h
theorem v_newA (C : VC p s m args c cc own nL D cy A) {index j N : Nat} {Cn : String} (hA : (Cond.arrayOver (.object Cn)).before #[] s = true) (hc : Cond.classLink own index Cn ∈ GT) (ht : (TY cy)[j]? = some (cy j, .object Cn)) {z : Int32} (hz : ¬ z < 0) (hN : z.toNatClampNeg = N) (hb : N * 4 ≤ 536870912) (hk : k + 1 ≤ R.cells) (hs : n + N ≤ R.slots) (hd : decode cc pc = .ok (.anewarray index, 3)) (kk : ∀ q : Nat, V p l e R s m args below meth c Q nL D A (k + 1) (n + N) (ws ++ [aR cy j q N (fun _ => none)]) (pc + 3) lv (.ref q :: st)) : V p l e R s m args below meth c Q nL D A k n ws pc lv (.int z :: st) := fun H locs ls hP hD hS h => by
  refine va_newq C.1 C.2.1 C.2.2.2.1 (C.2.2.2.2.1 _ hc) (va_AO.of hA) C.2.2.2.2.2.1.1 hP hD hS C.2.2.2.2.2.2 hz hN hb hk hs hd (fun q cA H1 hK hP hD hS => ?_)
  obtain ⟨-, -, -, -, -, e1⟩ : va_RA s cA (.object Cn) := ty_last hK
  obtain ⟨-, -, -, -, -, e2⟩ : va_RA s (cy j) (.object Cn) := (C.2.2.2.2.2.1.1.2 j _ ht).2
  cases Option.some.inj (e1.symm.trans e2)
  exact kk q H1 locs ls hP hD hS h
theorem v_objInit (C : VC p s m args c cc own nL D cy A) {index a : Nat} (h1 : Cond.methodLink own index Lib.objectInit ∈ GT) (h2 : Cond.instanceMethod Lib.objectInit ∈ GT ∧ Cond.code Lib.objectInit ⟨#[0xb1]⟩ 1 none ∈ GT) (hr : 1 ≤ R.frames ∧ (st.map fun v => v.category).sum + 12 ≤ R.locals) (hd : decode cc pc = .ok (.invokespecial index, 3)) (kk : V p l e R s m args below meth c Q nL D A k n ws (pc + 3) lv st) : V p l e R s m args below meth c Q nL D A k n ws pc lv (.ref a :: st) := fun H locs ls hP hD hS h =>
  W.objInit C.1 C.2.1 C.2.2.2.1 (C.2.2.2.2.1 _ h1) (C.2.2.2.2.1 _ h2.1) (C.2.2.2.2.1 _ h2.2) rfl (h.1.trans C.2.2.1.symm) rfl hd hr.1 (by have h9 : 2 * (F0 m pc ls (.ref a :: st)).monitorRoom = 0 := (by first | rfl | simp [JFrame.monitorRoom]); have h8 := hr.2; omega) (W.eq rfl (kk H locs ls hP hD hS h))
/-- back from a constructor -/
theorem v_backC {rm : Room} {P : va_W → Prop} {wi wr : va_W} {stk st : List Value} (isC isR : List Nat) (hC : isC.map (fun i => ws[i]?) = wi.map some) (hR : isR.map (fun i => ws[i]?) = wr.map some) (hnd : va_nd isR = true) (hdis : ∀ i ∈ isR, i ∉ isC) {H : Heap} {locs : List Loc} {ls : Array Slot} (hA : ∀ q : Nat, s.heap.size ≤ q → A q) (hP : va_P D vwCl ws H) (hD : va_D A ws) (hS : va_S A s.heap H locs) (h : lv_has ls nL lv) {a : Array Value}
    (hr : va_Run p l e R s m args below meth c H locs k n rm.cells rm.slots (F0 m pc ls stk) st (CQc D wi H.size P a) (va_A wi H.size))
    (kk : ∀ wo : va_W, P wo → V p l e R s m args below meth c Q nL D A (k + rm.cells) (n + rm.slots) (wr ++ wo) (pc + 3) lv st) : W p l e R s m args below meth c H locs k n Q (F0 m pc ls stk) := by
  intro T hT X
  obtain ⟨v, st₀, t, T', L, h0, X', hL, e1, e2, ⟨hv, wo, hp, hP1, hD1, hz, hk⟩, sg⟩ := hr T hT X
  cases hv
  rw [h0] at hz hk
  have hF := va_free (wc := wi) hD hS hA isC hC
  rw [← e1] at hP1 hz hk
  obtain ⟨hP2, hD2⟩ := va_join hP hD isC isR hC hR hnd hdis hk hF hP1 hD1
  obtain ⟨t2, a1, b1⟩ := kk wo hp T'.heap (locs ++ L) ls hP2 hD2
    ⟨Nat.le_trans hS.1 hz, fun q h1 h2 => by rw [hk q (Nat.lt_of_lt_of_le h1 hS.1) (fun z => h2 (hF q z))]; exact hS.2.1 q h1 h2, fun q hq => by
      rcases List.mem_append.mp hq with h | h
      · exact hS.2.2 q h
      · exact hF _ (hL q h)⟩ h T' rfl X'
  exact ⟨t2, sg t2 a1, b1⟩
theorem v_preC {As : List Value} {wi : va_W} (isC : List Nat) (hn : va_nd isC = true) (hC : isC.map (fun i => ws[i]?) = wi.map some) {H : Heap} (hK : Kt D cy s) (hA : KA s) (hP : va_P D vwCl ws H) (hD : va_D A ws) : ∀ U : State, U.heap = H → s.WarmedH U.vm → CPc D cy As wi H.size As.toArray U := fun U hU hW => ⟨rfl, by rw [hU], by rw [hU]; exact hP.sub isC (fm_of_map hC), hK.warm hW, (hD.sub isC hn hC).weaken (fun _ _ _ _ => trivial), hA.warm hW⟩
theorem v_callI (C : VC p s m args c cc own nL D cy A) (hA : KA s) {index na maxL b : Nat} {y : MethodName} {cd : ByteArray} {rm : Room} {As : List Value} {wi wr : va_W} {P : va_W → Prop} {stk : List Value} (hM : Cc l y cd maxL rm D cy (.ref b :: As) wi P) (hl : LkI own index y cd maxL na) (hna : As.length = na) (hRR : RR R rm maxL k n = true) (hstk : As.reverse ++ .ref b :: st = stk) (hd : decode cc pc = .ok (.invokespecial index, 3)) (isC isR : List Nat) (hnc : va_nd isC = true) (hC : isC.map (fun i => ws[i]?) = wi.map some) (hR : isR.map (fun i => ws[i]?) = wr.map some) (hnd : va_nd isR = true) (hdis : ∀ i ∈ isR, i ∉ isC) (hcat : (st.map fun v => v.category).sum ≤ 8) (kk : ∀ wo : va_W, P wo → V p l e R s m args below meth c Q nL D A (k + rm.cells) (n + rm.slots) (wr ++ wo) (pc + 3) lv st) : V p l e R s m args below meth c Q nL D A k n ws pc lv stk := fun H locs ls hP hD hS h => by
  subst hstk
  obtain ⟨l1, l2, l4, l5, l7, l6⟩ := hl
  have ok : ∀ w ∈ GT, w.before args s = true := C.2.2.2.2.1
  exact v_backC isC isR hC hR hnd hdis C.2.2.2.2.2.2 hP hD hS h
    (va_runI (As := As) (rest := st) ⟨C.1, C.2.1, C.2.2.1, C.2.2.2.1, ok⟩ (hM H.size) ⟨callB_of na ok (gt_goodIn l5) rfl rfl rfl (ok _ l4) (ok _ l1) l6 (RR.use hRR).1, l7, ok _ l2⟩ ⟨CPc.blind, v_preC isC hnc hC C.2.2.2.2.2.1 hA hP hD⟩ rfl hna h.1 rfl (lv_room hcat) hd (RR.use hRR).2) kk
theorem v_callJ (C : VC p s m args c cc own nL D cy A) (hA : KA s) {index na maxL b : Nat} {y : MethodName} {cd : ByteArray} {rm : Room} {As : List Value} {wi wr : va_W} {P : va_W → Prop} {stk : List Value} (hM : Cc l y cd maxL rm D cy (.ref b :: As) wi P) (hl : LkJ own index y cd maxL na) (hna : As.length = na) (hRR : RR R rm maxL k n = true) (hstk : As.reverse ++ .ref b :: st = stk) (hd : decode cc pc = .ok (.invokespecial index, 3)) (isC isR : List Nat) (hnc : va_nd isC = true) (hC : isC.map (fun i => ws[i]?) = wi.map some) (hR : isR.map (fun i => ws[i]?) = wr.map some) (hnd : va_nd isR = true) (hdis : ∀ i ∈ isR, i ∉ isC) (hcat : (st.map fun v => v.category).sum ≤ 8) (kk : ∀ wo : va_W, P wo → V p l e R s m args below meth c Q nL D A (k + rm.cells) (n + rm.slots) (wr ++ wo) (pc + 3) lv st) : V p l e R s m args below meth c Q nL D A k n ws pc lv stk := fun H locs ls hP hD hS h => by
  subst hstk
  obtain ⟨⟨host, l1⟩, l2, l4, l5, l7, l6⟩ := hl
  have ok : ∀ w ∈ GT, w.before args s = true := C.2.2.2.2.1
  exact v_backC isC isR hC hR hnd hdis C.2.2.2.2.2.2 hP hD hS h
    (va_runIN (As := As) (rest := st) ⟨C.1, C.2.1, C.2.2.1, C.2.2.2.1, ok⟩ (hM H.size) ⟨va_cnB na ok (gt_goodIn l5) rfl rfl rfl (C.2.2.2.2.2.1.2 _ _ _ _ l1) (ok _ l4) l6 (RR.use hRR).1, l7, ok _ l2⟩ ⟨CPc.blind, v_preC isC hnc hC C.2.2.2.2.2.1 hA hP hD⟩ rfl hna h.1 rfl (lv_room hcat) hd (RR.use hRR).2) kk
end VL5
theorem v_vretC {p : Program} {l : Launch} {e : Env} {R rm : Room} {s : State} {m : MethodId} {args : Array Value} {below : List Frame} {meth : Method} {c : Code} {cc : ByteArray} {own : String} {nL : Nat} {D : va_G} {cy : Nat → ClassId} {wi : va_W} {P : va_W → Prop} {k n : Nat} {ws : va_W} {pc : Nat} {lv : List (Nat × Value)} (C : VC p s m args c cc own nL D cy (va_A wi s.heap.size)) (hr : meth.sig.returnType = none) (hlocks : meth.locks = false) (hd : decode cc pc = .ok (.return_, 1)) (hk : rm.cells = k) (hn : rm.slots = n) (hw : P ws) : V p l e R s m args below meth c (EC below args s rm D wi P) nL D (va_A wi s.heap.size) k n ws pc lv [] := by
  subst hk; subst hn
  intro H locs ls hP hD hS h
  exact W.vret C.1 C.2.1 hr (fun t ht hW => ⟨rfl, ws, hw, by rw [ht]; exact hP, hD, hS.F ht⟩) hS.2.2 hd hlocks
