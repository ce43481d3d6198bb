/-! the layer's third part: old things (string constants, statics), methods that lean on them, methods that throw -/
def SREF : List (String × Nat × String) := [("WoolThreads$Law", 88, "shed"), ("WoolThreads$Law", 93, "hold"), ("WoolThreads$Law", 94, "wash"), ("WoolThreads$Law", 95, "pass"), ("WoolThreads$Law", 96, "take"), ("WoolThreads$Law", 97, "alike"), ("WoolThreads$Law", 99, "common"), ("WoolThreads$Story", 95, "wear"), ("WoolThreads$Story", 101, "bare"), ("WoolThreads$Story", 103, "touch"), ("WoolThreads$Story", 105, "wash"), ("WoolThreads$Story", 107, "shake"), ("WoolThreads$Story", 77, "at"), ("WoolThreads", 113, "no such length of a text"), ("WoolThreads", 352, "no such number"), ("WoolThreads", 144, "no such what"), ("WoolThreads", 361, "no such story"), ("WoolThreads", 356, "no such index"), ("WoolThreads", 172, "not three places"), ("WoolThreads", 277, "not two places"), ("WoolThreads", 302, "nothing is held"), ("WoolThreads", 325, "no such sale")]
def SLEN : List Nat := [4, 4, 4, 4, 4, 5, 6, 4, 4, 5, 4, 5, 2]
def SBYT : List (List Int32) := [[115, 104, 101, 100], [104, 111, 108, 100], [119, 97, 115, 104], [112, 97, 115, 115], [116, 97, 107, 101], [97, 108, 105, 107, 101], [99, 111, 109, 109, 111, 110], [119, 101, 97, 114], [98, 97, 114, 101], [116, 111, 117, 99, 104], [119, 97, 115, 104], [115, 104, 97, 107, 101], [97, 116]]
/-- words of the tables that a throw needs and that are not among the good ones -/
def XW (U : State) : Prop := (∀ x : MethodName, Cond.declares x ∈ tables_1 → va_Nw (.declares x) U) ∧ ∀ C T : String, Cond.castable C T ∈ tables_1 → va_Nw (.castable C T) U
theorem XW.warm {s U : State} (hW : s.WarmedH U.vm) (h : XW s) : XW U := ⟨fun x hx => va_Nw.warmD hW (h.1 x hx), fun C T hx => va_Nw.warmC hW (h.2 C T hx)⟩
theorem XW.same {s U : State} (hv : s.vm = U.vm) (h : XW s) : XW U := ⟨fun x hx => va_Nw.same rfl hv (h.1 x hx), fun C T hx => va_Nw.same rfl hv (h.2 C T hx)⟩
/-- what stands ahead of the law's first step and stays: the word constants, the statics that the JDK's own code reads -/
def OW (adK adV : Nat → Nat) (A : Nat → Prop) (U : State) (H : Heap) : Prop :=
  (∀ i : Nat, i < 13 → vk_S 1 [SLEN.getD i 0] [SBYT.getD i []] (fun _ => adK i) (fun _ => adV i) A U H) ∧ va_Z "java/lang/String" "COMPACT_STRINGS" "Z" (.int 1) A U H ∧
  va_Zq "jdk/internal/util/Preconditions" "SIOOBE_FORMATTER" "Ljava/util/function/BiFunction;" A U H ∧ (vx_Zq Bundle.tN "UNASSIGNED_STACK" Bundle.steD A U H ∧ vx_Zq Bundle.tN "SUPPRESSED_SENTINEL" Bundle.listD A U H) ∧
  (∀ (i : Nat) (o : String) (k : Nat) (t : String), SREF[i]? = some (o, k, t) → vk_R o k t (adK i) U) ∧ XW U
theorem OW.move {adK adV : Nat → Nat} {A : Nat → Prop} {s U : State} {H : Heap} (hW : s.WarmedH U.vm) (h : OW adK adV A s H) : OW adK adV A U H := ⟨fun i hi => (h.1 i hi).moved hW.alike, h.2.1.moved hW.alike, h.2.2.1.moved hW.alike, ⟨h.2.2.2.1.1.moved hW.alike, h.2.2.2.1.2.moved hW.alike⟩, fun i o k t e => (h.2.2.2.2.1 i o k t e).warm hW, h.2.2.2.2.2.warm hW⟩
theorem OW.same {adK adV : Nat → Nat} {A : Nat → Prop} {s U : State} {H : Heap} (hv : s.vm = U.vm) (h : OW adK adV A s H) : OW adK adV A U H := by
  have ha : s.vm.Alike U.vm := by rw [hv]; exact Vm.Alike.refl _
  exact ⟨fun i hi => (h.1 i hi).moved ha, h.2.1.moved ha, h.2.2.1.moved ha, ⟨h.2.2.2.1.1.moved ha, h.2.2.2.1.2.moved ha⟩, fun i o k t e => (h.2.2.2.2.1 i o k t e).same hv.symm, h.2.2.2.2.2.same hv⟩
theorem OW.kept {adK adV : Nat → Nat} {A : Nat → Prop} {U : State} {H H1 : Heap} (h : OW adK adV A U H) (hq : ∀ a : Nat, a < H.size → ¬ A a → H1[a]? = H[a]?) : OW adK adV A U H1 := ⟨fun i hi => (h.1 i hi).kept hq, h.2.1.kept hq, h.2.2.1.kept hq, ⟨h.2.2.2.1.1.kept hq, h.2.2.2.1.2.kept hq⟩, h.2.2.2.2⟩
theorem OW.narrow {adK adV : Nat → Nat} {A B : Nat → Prop} {U : State} {H : Heap} (h : OW adK adV A U H) (hAB : ∀ q, B q → A q) : OW adK adV B U H := ⟨fun i hi => (h.1 i hi).narrow hAB, h.2.1.narrow hAB, h.2.2.1.narrow hAB, ⟨h.2.2.2.1.1.narrow hAB, h.2.2.2.1.2.narrow hAB⟩, h.2.2.2.2⟩
def CPo (D : va_G) (cy : Nat → ClassId) (adK adV : Nat → Nat) (As : List Value) (wi : va_W) (sz : Nat) : Array Value → State → Prop := va_Pc As (fun U => U.heap.size = sz ∧ va_P D vwCl wi U.heap ∧ Kt D cy U ∧ va_D (fun _ => True) wi ∧ OW adK adV (va_A wi sz) U U.heap)
theorem CPo.blind {D : va_G} {cy : Nat → ClassId} {adK adV : Nat → Nat} {As : List Value} {wi : va_W} {sz : Nat} : FrameBlind (CPo D cy adK adV As wi sz) := fun a U g mk q => by
  obtain ⟨q0, q1, qP, qK, qD, qO⟩ := q
  exact ⟨q0, q1, qP, ⟨va_K.moved (u := U) (U := U.calling g mk a) (Vm.Alike.refl U.vm) qK.1, NW.same (s := U) (U := U.calling g mk a) rfl qK.2⟩, qD, OW.same (s := U) (U := U.calling g mk a) rfl qO⟩
/-- a contract that leans on the old things -/
def Co (l : Launch) (y : MethodName) (cd : ByteArray) (maxL : Nat) (ret : Option FieldType) (rm : Room) (D : va_G) (cy : Nat → ClassId) (adK adV : Nat → Nat) (As : List Value) (wi : va_W) (rv : Option Value) (wo : va_W) : Prop :=
  ∀ sz : Nat, Met l y (.code y cd maxL ret :: GT) rm (CPo D cy adK adV As wi sz) (CQ D wi sz rv wo) rm.cells rm.slots (va_A wi sz)
theorem co_of {l : Launch} {y : MethodName} {cd : ByteArray} {maxL : Nat} {ret : Option FieldType} {rm : Room} {D : va_G} {cy : Nat → ClassId} {adK adV : Nat → Nat} {As : List Value} {wi wo : va_W} {rv : Option Value} (hy : plainName y.cls = true) (hlen : (lg_sl As).length ≤ maxL)
    (body : ∀ (p : Program) (e : Env) (s : State) (m : MethodId) (args : Array Value) (below : List Frame) (meth : Method) (c : Code), VC p s m args c cd y.cls maxL D cy (va_A wi s.heap.size) → OW adK adV (va_A wi s.heap.size) s s.heap → meth.sig.returnType = ret → meth.locks = false → meth.name = y.name →
      V p l e rm s m args below meth c (EQ below args s rm D wi rv wo) maxL D (va_A wi s.heap.size) 0 0 wi 0 (lv_args 0 As) []) : Co l y cd maxL ret rm D cy adK adV As wi rv wo := by
  intro sz
  refine Met.ofW (cc := cd) (maxL := maxL) (ret := ret) hy rfl ?_
  intro p e s m args below meth c s₁ B hml hv
  obtain ⟨rfl, hsz, hP, hK, hD0, hO⟩ := hv
  subst hsz
  have hts := atoms_spec (ws := .code y cd maxL ret :: GT) B.pre
  rw [lg_entry_eq]
  exact body p e s m _ below meth c ⟨B.exec, B.bytes, hml, findClass_of_methodNamed B.named, fun w hw => hts w (List.mem_cons_of_mem _ hw), hK, fun q h => Or.inr h⟩ hO B.returns B.notSynchronized (name_of_methodNamed B.named B.method).1 s.heap [] _ hP hD0.self va_S.rf (lv_entry As hlen)
theorem nc_ {x : Int32} (h : (x.toUInt32 % 65536).toInt32 = x) : narrow .char (.int x) = .int x := by
  have h2 := pk_nc x
  rw [h] at h2
  exact h2
section VL3
variable {p : Program} {l : Launch} {e : Env} {R : Room} {s : State} {m : MethodId} {args : Array Value} {below : List Frame} {meth : Method} {c : Code} {Q : State → Prop} {cc : ByteArray} {own : String} {nL : Nat} {D : va_G} {cy : Nat → ClassId} {A : Nat → Prop}
variable {k n : Nat} {ws : va_W} {pc : Nat} {lv : List (Nat × Value)} {st : List Value} {adK adV : Nat → Nat}
theorem v_ldcS (C : VC p s m args c cc own nL D cy A) (hO : OW adK adV A s s.heap) {index i : Nat} {t : String} (hi : SREF[i]? = some (own, index, t)) (hd : decode cc pc = .ok (.ldc index, 2)) (kk : V p l e R s m args below meth c Q nL D A k n ws (pc + 2) lv (.ref (adK i) :: st)) : V p l e R s m args below meth c Q nL D A k n ws pc lv st := fun H locs ls hP hD hS h => va_ldcS C.1 C.2.1 C.2.2.2.1 (hO.2.2.2.2.1 i own index t hi) hd (kk H locs ls hP hD hS h)
theorem v_sval (C : VC p s m args c cc own nL D cy A) (hO : OW adK adV A s s.heap) {index i : Nat} (hi : i < 13) (hl : Cond.fieldLink own index "java/lang/String" "value" "[B" ∈ GT) (hd : decode cc pc = .ok (.getfield index, 3)) (kk : V p l e R s m args below meth c Q nL D A k n ws (pc + 3) lv (.ref (adV i) :: st)) : V p l e R s m args below meth c Q nL D A k n ws pc lv (.ref (adK i) :: st) := fun H locs ls hP hD hS h => vk_getf C.1 C.2.1 ((hO.1 i hi).1 0 (Nat.zero_lt_one)).2.2.1 hS C.2.2.2.1 (C.2.2.2.2.1 _ hl) (fun _ h9 => h9) hd (kk H locs ls hP hD hS h)
theorem v_scod (C : VC p s m args c cc own nL D cy A) (hO : OW adK adV A s s.heap) {index i : Nat} (hi : i < 13) (hl : Cond.fieldLink own index "java/lang/String" "coder" "B" ∈ GT) (hd : decode cc pc = .ok (.getfield index, 3)) (kk : V p l e R s m args below meth c Q nL D A k n ws (pc + 3) lv (.int 0 :: st)) : V p l e R s m args below meth c Q nL D A k n ws pc lv (.ref (adK i) :: st) := fun H locs ls hP hD hS h => vk_getf C.1 C.2.1 ((hO.1 i hi).1 0 (Nat.zero_lt_one)).2.1 hS C.2.2.2.1 (C.2.2.2.2.1 _ hl) (fun _ h9 => h9) hd (kk H locs ls hP hD hS h)
theorem v_slen (C : VC p s m args c cc own nL D cy A) (hO : OW adK adV A s s.heap) {i : Nat} (hi : i < 13) (hd : decode cc pc = .ok (.arraylength, 1)) (kk : V p l e R s m args below meth c Q nL D A k n ws (pc + 1) lv (.int (Int32.ofNat (SLEN.getD i 0)) :: st)) : V p l e R s m args below meth c Q nL D A k n ws pc lv (.ref (adV i) :: st) := fun H locs ls hP hD hS h => va_tlen C.1 C.2.1 ((hO.1 i hi).1 0 (Nat.zero_lt_one)).2.2.2 hS rfl hd (kk H locs ls hP hD hS h)
theorem v_sbal (C : VC p s m args c cc own nL D cy A) (hO : OW adK adV A s s.heap) {i : Nat} {x : Int32} (hi : i < 13) (hin : inb x (SLEN.getD i 0)) (hd : decode cc pc = .ok (.baload, 1)) (kk : V p l e R s m args below meth c Q nL D A k n ws (pc + 1) lv (.int ((SBYT.getD i []).getD x.toNatClampNeg 0) :: st)) : V p l e R s m args below meth c Q nL D A k n ws pc lv (.int x :: .ref (adV i) :: st) := fun H locs ls hP hD hS h => va_tb C.1 C.2.1 ((hO.1 i hi).1 0 (Nat.zero_lt_one)).2.2.2 hS hin rfl hd (kk H locs ls hP hD hS h)
theorem v_gcs (C : VC p s m args c cc own nL D cy A) (hO : OW adK adV A s s.heap) {index : Nat} (hl : Cond.fieldLink own index "java/lang/String" "COMPACT_STRINGS" "Z" ∈ GT) (hd : decode cc pc = .ok (.getstatic index, 3)) (kk : V p l e R s m args below meth c Q nL D A k n ws (pc + 3) lv (.int 1 :: st)) : V p l e R s m args below meth c Q nL D A k n ws pc lv st := fun H locs ls hP hD hS h => va_gets C.1 C.2.1 hO.2.1 hS C.2.2.2.1 (C.2.2.2.2.1 _ hl) (fun _ h9 => h9) hd (kk H locs ls hP hD hS h)
theorem v_gfm (C : VC p s m args c cc own nL D cy A) (hO : OW adK adV A s s.heap) {index : Nat} (hl : Cond.fieldLink own index "jdk/internal/util/Preconditions" "SIOOBE_FORMATTER" "Ljava/util/function/BiFunction;" ∈ GT) (hd : decode cc pc = .ok (.getstatic index, 3)) (k1 : V p l e R s m args below meth c Q nL D A k n ws (pc + 3) lv (.null :: st)) (k2 : ∀ t9 : Nat, V p l e R s m args below meth c Q nL D A k n ws (pc + 3) lv (.ref t9 :: st)) : V p l e R s m args below meth c Q nL D A k n ws pc lv st := fun H locs ls hP hD hS h => by
  rcases hO.2.2.1 with hz | ⟨t9, hz⟩
  · exact va_gets C.1 C.2.1 hz hS C.2.2.2.1 (C.2.2.2.2.1 _ hl) (fun _ h9 => h9) hd (k1 H locs ls hP hD hS h)
  · exact va_gets C.1 C.2.1 hz hS C.2.2.2.1 (C.2.2.2.2.1 _ hl) (fun _ h9 => h9) hd (k2 t9 H locs ls hP hD hS h)
theorem v_i2c (C : VC p s m args c cc own nL D cy A) (hO : OW adK adV A s s.heap) {x : Int32} (hd : decode cc pc = .ok (.i2c, 1)) (kk : V p l e R s m args below meth c Q nL D A k n ws (pc + 1) lv (.int (x.toUInt32 % 65536).toInt32 :: st)) : V p l e R s m args below meth c Q nL D A k n ws pc lv (.int x :: st) := fun H locs ls hP hD hS h => lv_i2c C.1 C.2.1 hd rfl (kk H locs ls hP hD hS h)
theorem v_preO {As : List Value} {wi : va_W} (isC : List Nat) (hn : va_nd isC = true) (hC : isC.map (fun i => ws[i]?) = wi.map some) {H : Heap} {locs : List Loc} (hK : Kt D cy s) (hO : OW adK adV A s s.heap) (hA : ∀ q : Nat, s.heap.size ≤ q → A q) (hP : va_P D vwCl ws H) (hD : va_D A ws) (hS : va_S A s.heap H locs) : ∀ U : State, U.heap = H → s.WarmedH U.vm → CPo D cy adK adV As wi H.size As.toArray U := fun U hU hW => ⟨rfl, by rw [hU], by rw [hU]; exact hP.sub isC (fm_of_map hC), hK.warm hW, (hD.sub isC hn hC).weaken (fun _ _ _ _ => trivial), by rw [hU]; exact ((hO.kept hS.2.1).narrow (va_free hD hS hA isC hC)).move hW⟩
theorem OW.recv (hO : OW adK adV A s s.heap) {i : Nat} (hi : i < 13) {H : Heap} {locs : List Loc} (hS : va_S A s.heap H locs) : ∃ cell : Cell, H[adK i]? = some cell ∧ cell.vm.isStatics = false ∧ s.vm.findClass "java/lang/String" = some cell.cls := vk_recv (i := 0) (hO.1 i hi) Nat.zero_lt_one hS
theorem v_callVO (C : VC p s m args c cc own nL D cy A) (hO : OW adK adV A s s.heap) {index na maxL : Nat} {y : MethodName} {cd : ByteArray} {ret : Option FieldType} {rm : Room} {As : List Value} {wi wo wr ws' : va_W} {rv : Option Value} {stk stk' : List Value} {b ci : Nat} {fs : List Value} {r : vw_C} (hM : Co l y cd maxL ret rm D cy adK adV (.ref b :: As) wi rv wo) (hl : LkV own index y cd maxL ret na) (hna : As.length = na) (hRR : RR R rm maxL k n = true) (hstk : As.reverse ++ .ref b :: st = stk) (q0 : Nat) (he : ws[q0]? = some (b, .inr (ci, fs))) (hc : vwCl[ci]? = some r) (hrc : r.1 = y.cls) (hd : decode cc pc = .ok (.invokevirtual index, 3)) (isC isR : List Nat) (hnc : va_nd isC = true) (hC : isC.map (fun i => ws[i]?) = wi.map some) (hR : isR.map (fun i => ws[i]?) = wr.map some) (hnd : va_nd isR = true) (hdis : ∀ i ∈ isR, i ∉ isC) (hcat : (st.map fun v => v.category).sum ≤ 8) (hw : wr ++ wo = ws') (hst' : rv.toList ++ st = stk') (kk : V p l e R s m args below meth c Q nL D A (k + rm.cells) (n + rm.slots) (ws') (pc + 3) lv (stk')) : V p l e R s m args below meth c Q nL D A k n ws pc lv stk := fun H locs ls hP hD hS h => by
  subst hstk
  subst hw
  subst hst'
  obtain ⟨l1, l2, l3, l4, l5, l6⟩ := hl
  have ok : ∀ w ∈ GT, w.before args s = true := C.2.2.2.2.1
  have hrv := va_recv C.2.2.2.2.2.1.1 hP hc he
  rw [hrc] at hrv
  exact v_back (y := y) (As := As) isC isR hC hR hnd hdis C.2.2.2.2.2.2 hP hD hS h
    (va_runV (C := y.cls) (As := As) (rest := st) ⟨C.1, C.2.1, C.2.2.1, C.2.2.2.1, ok⟩ (hM H.size) ⟨callB_of na ok (gt_goodIn l5) rfl rfl rfl (ok _ l4) (ok _ l1) l6 (RR.use hRR).1, ok _ l2, ok _ l3⟩ ⟨CPo.blind, hrv, v_preO isC hnc hC C.2.2.2.2.2.1 hO C.2.2.2.2.2.2 hP hD hS⟩ rfl hna h.1 rfl (lv_room hcat) hd (RR.use hRR).2) kk
theorem v_callVs (C : VC p s m args c cc own nL D cy A) (hO : OW adK adV A s s.heap) {index na maxL : Nat} {y : MethodName} {cd : ByteArray} {ret : Option FieldType} {rm : Room} {As : List Value} {wi wo wr ws' : va_W} {rv : Option Value} {stk stk' : List Value} {i : Nat} (hM : Co l y cd maxL ret rm D cy adK adV (.ref (adK i) :: As) wi rv wo) (hi : i < 13) (hys : y.cls = "java/lang/String") (hl : LkV own index y cd maxL ret na) (hna : As.length = na) (hRR : RR R rm maxL k n = true) (hstk : As.reverse ++ .ref (adK i) :: st = stk) (hd : decode cc pc = .ok (.invokevirtual index, 3)) (isC isR : List Nat) (hnc : va_nd isC = true) (hC : isC.map (fun i => ws[i]?) = wi.map some) (hR : isR.map (fun i => ws[i]?) = wr.map some) (hnd : va_nd isR = true) (hdis : ∀ i ∈ isR, i ∉ isC) (hcat : (st.map fun v => v.category).sum ≤ 8) (hw : wr ++ wo = ws') (hst' : rv.toList ++ st = stk') (kk : V p l e R s m args below meth c Q nL D A (k + rm.cells) (n + rm.slots) (ws') (pc + 3) lv (stk')) : V p l e R s m args below meth c Q nL D A k n ws pc lv stk := fun H locs ls hP hD hS h => by
  subst hstk
  subst hw
  subst hst'
  obtain ⟨l1, l2, l3, l4, l5, l6⟩ := hl
  have ok : ∀ w ∈ GT, w.before args s = true := C.2.2.2.2.1
  have hrv := hO.recv hi hS
  rw [← hys] at hrv
  exact v_back (y := y) (As := As) isC isR hC hR hnd hdis C.2.2.2.2.2.2 hP hD hS h
    (va_runV (C := y.cls) (As := As) (rest := st) ⟨C.1, C.2.1, C.2.2.1, C.2.2.2.1, ok⟩ (hM H.size) ⟨callB_of na ok (gt_goodIn l5) rfl rfl rfl (ok _ l4) (ok _ l1) l6 (RR.use hRR).1, ok _ l2, ok _ l3⟩ ⟨CPo.blind, hrv, v_preO isC hnc hC C.2.2.2.2.2.1 hO C.2.2.2.2.2.2 hP hD hS⟩ rfl hna h.1 rfl (lv_room hcat) hd (RR.use hRR).2) kk
theorem v_callSO (C : VC p s m args c cc own nL D cy A) (hO : OW adK adV A s s.heap) {index na maxL : Nat} {y : MethodName} {cd : ByteArray} {ret : Option FieldType} {rm : Room} {As : List Value} {wi wo wr ws' : va_W} {rv : Option Value} {stk stk' : List Value} (hM : Co l y cd maxL ret rm D cy adK adV As wi rv wo) (hl : LkS own index y cd maxL ret na) (hna : As.length = na) (hRR : RR R rm maxL k n = true) (hstk : As.reverse ++ st = stk) (hd : decode cc pc = .ok (.invokestatic index, 3)) (isC isR : List Nat) (hnc : va_nd isC = true) (hC : isC.map (fun i => ws[i]?) = wi.map some) (hR : isR.map (fun i => ws[i]?) = wr.map some) (hnd : va_nd isR = true) (hdis : ∀ i ∈ isR, i ∉ isC) (hcat : (st.map fun v => v.category).sum ≤ 8) (hw : wr ++ wo = ws') (hst' : rv.toList ++ st = stk') (kk : V p l e R s m args below meth c Q nL D A (k + rm.cells) (n + rm.slots) (ws') (pc + 3) lv (stk')) : V p l e R s m args below meth c Q nL D A k n ws pc lv stk := fun H locs ls hP hD hS h => by
  subst hstk
  subst hw
  subst hst'
  obtain ⟨l1, l2, l4, l5, l6⟩ := hl
  have ok : ∀ w ∈ GT, w.before args s = true := C.2.2.2.2.1
  exact v_back (y := y) (As := As) isC isR hC hR hnd hdis C.2.2.2.2.2.2 hP hD hS h
    (va_runS (As := As) (rest := st) ⟨C.1, C.2.1, C.2.2.1, C.2.2.2.1, ok⟩ (hM H.size) ⟨callB_of na ok (gt_goodIn l5) rfl rfl rfl (ok _ l4) (ok _ l1) l6 (RR.use hRR).1, ok _ l2⟩ ⟨CPo.blind, v_preO isC hnc hC C.2.2.2.2.2.1 hO C.2.2.2.2.2.2 hP hD hS⟩ rfl hna h.1 rfl (lv_room hcat) hd (RR.use hRR).2) kk
end VL3
