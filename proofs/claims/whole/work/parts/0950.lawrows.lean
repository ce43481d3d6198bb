/-! the law's own rows: a world in two pieces, the system's cells and the reference's -/
theorem nd_iff : ∀ l : List Nat, va_nd l = true ↔ l.Nodup
  | [] => by simp [va_nd]
  | a :: l => by rw [va_nd, Bool.and_eq_true, nd_iff l, decide_eq_true_eq, List.nodup_cons]
theorem sh_nd (x n : Nat) : ((List.range n).map (fun i => x + i)).Nodup := by
  unfold List.Nodup
  rw [List.pairwise_map]
  exact (List.nodup_range (n := n)).imp (fun {a b} h e => h (by omega))
theorem sh_mem {x n i : Nat} (h : i ∈ (List.range n).map (fun i => x + i)) : x ≤ i := by
  obtain ⟨j, -, rfl⟩ := List.mem_map.mp h
  omega
theorem rg_map (wm : va_W) : (List.range wm.length).map (fun i => wm[i]?) = wm.map some := by
  apply List.ext_getElem?
  intro i
  rw [List.getElem?_map, List.getElem?_map]
  by_cases h : i < wm.length
  · rw [List.getElem?_range h]; simp [h]
  · rw [List.getElem?_eq_none (by simp; omega), List.getElem?_eq_none (by omega)]; rfl
theorem sh_map (X wm : va_W) : ((List.range wm.length).map (fun i => X.length + i)).map (fun i => (X ++ wm)[i]?) = wm.map some := by
  rw [List.map_map, ← rg_map wm]
  apply List.map_congr_left
  intro i hi
  show (X ++ wm)[X.length + i]? = wm[i]?
  rw [List.getElem?_append_right (by omega)]
  congr 1
  omega
theorem pr_map (X wm : va_W) : (List.range X.length).map (fun i => (X ++ wm)[i]?) = X.map some := by
  rw [← rg_map X]
  apply List.map_congr_left
  intro i hi
  exact List.getElem?_append_left (List.mem_range.mp hi)
theorem d_iff {A : Nat → Prop} {ws : va_W} : va_D A ws ↔ (ws.map Prod.fst).Nodup ∧ ∀ q ∈ ws, A q.1 := by
  constructor
  · intro h
    refine ⟨?_, fun q hq => ?_⟩
    · unfold List.Nodup
      rw [List.pairwise_iff_getElem]
      intro i j hi hj hlt e
      rw [List.length_map] at hi hj
      rw [List.getElem_map, List.getElem_map] at e
      have := h.1 i j ws[i] ws[j] (List.getElem?_eq_getElem hi) (List.getElem?_eq_getElem hj) e
      omega
    · obtain ⟨k, hk⟩ := List.getElem?_of_mem hq
      exact h.2 k q hk
  · intro h
    refine ⟨fun i j p q hp hq e => ?_, fun k q hk => h.2 q (List.mem_of_getElem? hk)⟩
    obtain ⟨hi, rfl⟩ := List.getElem?_eq_some_iff.mp hp
    obtain ⟨hj, rfl⟩ := List.getElem?_eq_some_iff.mp hq
    have hn := h.1
    unfold List.Nodup at hn
    rw [List.pairwise_iff_getElem] at hn
    rcases Nat.lt_trichotomy i j with g | g | g
    · exact absurd (by rw [List.getElem_map, List.getElem_map]; exact e) (hn i j (by rw [List.length_map]; exact hi) (by rw [List.length_map]; exact hj) g)
    · exact g
    · exact absurd (by rw [List.getElem_map, List.getElem_map]; exact e.symm) (hn j i (by rw [List.length_map]; exact hj) (by rw [List.length_map]; exact hi) g)
theorem fm_id {α β : Type} (f : α → Option β) (l : List α) : l.filterMap f = (l.map f).filterMap id := by
  rw [List.filterMap_map]; rfl
theorem some_id {β : Type} : ∀ w : List β, (w.map some).filterMap id = w
  | [] => rfl
  | a :: w => by rw [List.map_cons, List.filterMap_cons]; exact congrArg (a :: ·) (some_id w)
theorem ix_key (n : Nat) (is rs : List Nat) (hp : (rs ++ is).Perm (List.range n)) (Y : va_W) (hY : Y.length = n) : Y.Perm (rs.filterMap (fun i => Y[i]?) ++ is.filterMap (fun i => Y[i]?)) := by
  have e : (List.range n).filterMap (fun i => Y[i]?) = Y := by rw [fm_id, ← hY, rg_map, some_id]
  have h := (hp.filterMap (fun i => Y[i]?)).symm
  rw [List.filterMap_append, e] at h
  exact h
/-- some cells of a world, and the rest: what is put for them -/
theorem ix_perm {X X' wi wo : va_W} (n : Nat) (hX : X.length = n) (hX' : X'.length = n) (is rs : List Nat) (hp : (rs ++ is).Perm (List.range n)) (hC : is.map (fun i => X[i]?) = wi.map some) (hC' : is.map (fun i => X'[i]?) = wo.map some) (hR : rs.map (fun i => X[i]?) = rs.map (fun i => X'[i]?)) : ∃ U : va_W, X.Perm (U ++ wi) ∧ X'.Perm (U ++ wo) := by
  refine ⟨rs.filterMap (fun i => X[i]?), ?_, ?_⟩
  · have h := ix_key n is rs hp X hX
    rw [fm_id _ is, hC, some_id] at h
    exact h
  · have h := ix_key n is rs hp X' hX'
    rw [fm_id _ is, hC', some_id, fm_id _ rs, ← hR, ← fm_id] at h
    exact h
theorem pe_1 {X U wi : va_W} (wm : va_W) (h : X.Perm (U ++ wi)) : (X ++ wm).Perm ((wm ++ U) ++ wi) := (h.append_right wm).trans (by rw [List.append_assoc wm U wi]; exact List.perm_append_comm)
/-- a wrapper, as a site of the law names it -/
def LkW (own : String) (index : Nat) (y : MethodName) (cd : ByteArray) (maxL : Nat) (ret : Option FieldType) (hh : List (Nat × Nat × Nat × Nat)) (na : Nat) : Prop := Cond.methodLink own index y ∈ GT ∧ Cond.static y ∈ GT ∧ Cond.initialized y.cls ∈ GT ∧ Cond.codeWith y cd maxL ret hh ∈ GT ∧ ((y.cls ≠ "java/lang/invoke/MethodHandle" ∧ y.cls ≠ "java/lang/invoke/VarHandle") ∧ (parseMethodDescriptor y.desc).map (fun d => d.parameters.length) = some na)
section VL9
variable {p : Program} {l : Launch} {e : Env} {R : Room} {s : State} {m : MethodId} {args : Array Value} {below : List Frame} {meth : Method} {c : Code} {Q : State → Prop} {cc : ByteArray} {own : String} {nL : Nat} {D : va_G} {cy : Nat → ClassId} {A : Nat → Prop}
variable {k n : Nat} {ws : va_W} {pc : Nat} {lv : List (Nat × Value)} {st : List Value} {adK adV : Nat → Nat}
theorem w_callS {T : State} {locs : List Loc} {cells slots : Nat} (X : Stand p l e R s m args below meth c T locs cells slots) (hexec : p.tables.exec = Jvm.exec) {own : String} {index : Nat} {y : MethodName} {bytes : ByteArray} {maxL : Nat} {ret : Option FieldType} {hh : List (Nat × Nat × Nat × Nat)}
    (hown : s.vm.findClass own = some m.cls) (hlink : (Cond.methodLink own index y).before args s = true) (hstat : (Cond.static y).before args s = true) (hinit : (Cond.initialized y.cls).before args s = true)
    (hcode : (Cond.codeWith y bytes maxL ret hh).before args s = true) (hy : y.cls ≠ "java/lang/invoke/MethodHandle" ∧ y.cls ≠ "java/lang/invoke/VarHandle")
    {W : Nat} {Pre : Pt → Array Value → Prop} {Post : Pt → Array Value → Option Value → Pt → Prop} (hK : Back l R p e below s args y 3 W Pre Post)
    {g : JFrame} (hg : g.method = m) (hsize : g.locals.size = c.maxLocals) {argsL rest : List Value} (hlen : ∀ sig, parseMethodDescriptor y.desc = some sig → argsL.length = sig.parameters.length)
    (hstack : g.stack = argsL.reverse ++ rest) (hW : 2 * g.monitorRoom + (rest.map fun v => v.category).sum ≤ W) (hdg : decode c.code g.pc = .ok (.invokestatic index, 3))
    (hpre : ∀ vm₁, s.WarmedH vm₁ → Pre ⟨T.setVm vm₁, locs, cells, slots⟩ argsL.toArray) :
    ∃ (v : Option Value) (vm₁ : Vm) (B : Pt), s.WarmedH vm₁ ∧ Stand p l e R s m args below meth c B.U B.locs B.cells B.slots ∧ Post ⟨T.setVm vm₁, locs, cells, slots⟩ argsL.toArray v B ∧
      ∀ target, Steps p.tables e below (B.U.setTop { g with pc := g.pc + 3, stack := v.toList ++ rest }) target → Steps p.tables e below (T.setTop g) target := by
  obtain ⟨mk, methM, cM, hnamed, hmethM, -, -, -, -, -, -, hsigM⟩ := Cond.codeWith_spec hcode
  have hstatic : methM.isStatic = true := Cond.static_spec hnamed hmethM hstat
  obtain ⟨kP, hkP, -⟩ := className_of_methodNamed hnamed
  have hinitP : kP.init = .initialized := Cond.initialized_spec (findClass_of_methodNamed hnamed) hkP hinit
  obtain ⟨vm₁, X₁, hstep₁⟩ := X.invokestatic hexec hown hlink hnamed hmethM hstatic hkP hinitP hy (g := g) hg (argsL := argsL) (rest := rest) (hlen _ hsigM) hstack hdg
  obtain ⟨v, B, X', hpost, hsteps⟩ := hK m meth c ⟨T.setVm vm₁, locs, cells, slots⟩ { g with stack := rest } (.invokestatic index) mk argsL.toArray X₁ hg hsize hdg hW (X₁.named hnamed) (hpre vm₁ X₁.warmed)
  exact ⟨v, vm₁, B, X₁.warmed, X', hpost, fun target h => hstep₁ _ fun acts => by rw [doInvoke_state]; exact hsteps.trans h⟩
theorem v_preWr {As : List Value} {wi : va_W} (isC : List Nat) (hn : va_nd isC = true) (hC : isC.map (fun i => ws[i]?) = wi.map some) {H : Heap} {locs : List Loc} (hK : Kt D cy s) (hO : OW adK adV A s s.heap) (hN : NX s) (hA : ∀ q : Nat, s.heap.size ≤ q → A q) (hP : va_P D vwCl ws H) (hD : va_D A ws) (hS : va_S A s.heap H locs) : ∀ U : State, U.heap = H → s.WarmedH U.vm → CPw D cy adK adV As wi H.size As.toArray U := fun U hU hW => ⟨rfl, by rw [hU], by rw [hU]; exact hP.sub isC (fm_of_map hC), hK.warm hW, (hD.sub isC hn hC).weaken (fun _ _ _ _ => trivial), by rw [hU]; exact ((hO.kept hS.2.1).narrow (va_free hD hS hA isC hC)).move hW, hN.moved hW.alike⟩
theorem v_perm {ws' : va_W} (hp : ws.Perm ws') (kk : V p l e R s m args below meth c Q nL D A k n ws' pc lv st) : V p l e R s m args below meth c Q nL D A k n ws pc lv st := fun H locs ls hP hD hS h => kk H locs ls
  (fun i q hq => by
    obtain ⟨j, hj⟩ := List.getElem?_of_mem (hp.mem_iff.mpr (List.mem_of_getElem? hq))
    exact hP j q hj)
  (d_iff.mpr ⟨(hp.map Prod.fst).nodup_iff.mp (d_iff.mp hD).1, fun q hq => (d_iff.mp hD).2 q (hp.mem_iff.mpr hq)⟩) hS h
/-- a wrapper's call, its cells behind the others -/
theorem v_callWs (C : VC p s m args c cc own nL D cy A) (hO : OW adK adV A s s.heap) (hN : NX s) {index na maxL : Nat} {y : MethodName} {cd : ByteArray} {ret : Option FieldType} {hh : List (Nat × Nat × Nat × Nat)} {rm : Room} {As : List Value} {F wi wo : va_W} {rv : Option Value} {stk stk' : List Value} (hM : Cw l y cd maxL ret hh rm D cy adK adV As wi rv wo) (hl : LkW own index y cd maxL ret hh na) (hna : As.length = na) (hR1 : rm.frames + 1 ≤ R.frames ∧ 8 + (maxL + 11) + rm.locals ≤ R.locals) (hR2 : k + rm.cells ≤ R.cells ∧ n + rm.slots ≤ R.slots) (hstk : As.reverse ++ st = stk) (hd : decode cc pc = .ok (.invokestatic index, 3)) (hcat : (st.map fun v => v.category).sum ≤ 8) (hst' : rv.toList ++ st = stk') (kk : V p l e R s m args below meth c Q nL D A (k + rm.cells) (n + rm.slots) (F ++ wo) (pc + 3) lv (stk')) : V p l e R s m args below meth c Q nL D A k n (F ++ wi) pc lv stk := fun H locs ls hP hD hS h => by
  subst hstk
  subst hst'
  obtain ⟨l1, l2, l4, l5, l6, l7⟩ := hl
  have ok : ∀ w ∈ GT, w.before args s = true := C.2.2.2.2.1
  have hgood : ∀ w ∈ (Cond.codeWith y cd maxL ret hh :: GT), ∀ (a' : Array Value) (U : State), s.WarmedH U.vm → w.before a' U = true := pay_in ok (fun w hw => (List.mem_cons.mp hw).elim (fun e => ⟨by rw [e]; exact l5, gt_good (by rw [e]; exact l5)⟩) (fun h => ⟨h, gt_good h⟩))
  have hK : Back l R p e below s args y 3 8 (PreOf R rm.cells rm.slots (CPw D cy adK adV As wi H.size)) (PostOf (CQ D wi H.size rv wo) rm.cells rm.slots (va_A wi H.size)) := va_backW (hh := hh) (hM H.size) CPw.blind rfl rfl hR1.1 hR1.2 hgood List.mem_cons_self (fun a' U hW => hgood _ (List.mem_cons_of_mem _ l4) a' U hW)
  have hn1 : va_nd ((List.range wi.length).map (fun i => F.length + i)) = true := (nd_iff _).mpr (sh_nd _ _)
  have hn2 : va_nd (List.range F.length) = true := (nd_iff _).mpr List.nodup_range
  have hrun : va_Run p l e R s m args below meth c H locs k n rm.cells rm.slots (F0 m pc ls (As.reverse ++ st)) st (CQ D wi H.size rv wo As.toArray) (va_A wi H.size) := by
    intro T hT X1
    obtain ⟨v, vm₁, ⟨U', l2', c2, s2⟩, hW₁, X', ⟨g', mk, t, L, e1, e2, hq, h1, hL, h2, h3⟩, sg⟩ := w_callS X1 C.1 (bytes := cd) (maxL := maxL) (ret := ret) (hh := hh) C.2.2.2.1 (ok _ l1) (ok _ l2) (ok _ l4) (ok _ l5) l6 hK (g := F0 m pc ls (As.reverse ++ st)) rfl (h.1.trans C.2.2.1.symm) (argsL := As) (rest := st) (fun sig hsg => by rw [hsg] at l7; exact hna.trans (Option.some.inj l7).symm) rfl (lv_room hcat) (by rw [C.2.1]; exact hd)
      (fun vm₁ hW₁ => ⟨hR2.1, hR2.2, v_preWr _ hn1 (sh_map F wi) C.2.2.2.2.2.1 hO hN C.2.2.2.2.2.2 hP hD hS (T.setVm vm₁) hT hW₁⟩)
    dsimp only [Pt.U, Pt.locs, Pt.cells, Pt.slots] at X' e1 e2 h1 h2 h3 sg
    subst h1; subst h2; subst h3
    exact ⟨v, (T.setVm vm₁).calling g' mk As.toArray, t, U', L, hT, X', hL, e1, e2, hq, sg⟩
  refine v_back (y := y) (As := As) (wr := F) ((List.range wi.length).map (fun i => F.length + i)) (List.range F.length) (sh_map F wi) (pr_map F wi) hn2 (fun i hi hj => ?_) C.2.2.2.2.2.2 hP hD hS h hrun kk
  have := sh_mem hj
  have := List.mem_range.mp hi
  omega
/-- a method's call, its cells behind the others -/
theorem v_callM (C : VC p s m args c cc own nL D cy A) {index na maxL : Nat} {y : MethodName} {cd : ByteArray} {ret : Option FieldType} {rm : Room} {As : List Value} {F wi wo : va_W} {rv : Option Value} {stk stk' : List Value} {b ci : Nat} {fs : List Value} {r : vw_C} (hM : Ct l y cd maxL ret rm D cy (.ref b :: As) wi rv wo) (hl : LkV own index y cd maxL ret na) (hna : As.length = na) (hR1 : rm.frames + 1 ≤ R.frames ∧ 8 + (maxL + 11) + rm.locals ≤ R.locals) (hR2 : k + rm.cells ≤ R.cells ∧ n + rm.slots ≤ R.slots) (hstk : As.reverse ++ .ref b :: st = stk) (q0 : Nat) (he : wi[q0]? = some (b, .inr (ci, fs))) (hc : vwCl[ci]? = some r) (hrc : r.1 = y.cls) (hd : decode cc pc = .ok (.invokevirtual index, 3)) (hcat : (st.map fun v => v.category).sum ≤ 8) (hst' : rv.toList ++ st = stk') (kk : V p l e R s m args below meth c Q nL D A (k + rm.cells) (n + rm.slots) (F ++ wo) (pc + 3) lv (stk')) : V p l e R s m args below meth c Q nL D A k n (F ++ wi) pc lv stk := fun H locs ls hP hD hS h => by
  subst hstk
  subst hst'
  obtain ⟨l1, l2, l3, l4, l5, l6⟩ := hl
  have ok : ∀ w ∈ GT, w.before args s = true := C.2.2.2.2.1
  have he2 : (F ++ wi)[F.length + q0]? = some (b, .inr (ci, fs)) := by
    rw [List.getElem?_append_right (by omega), show F.length + q0 - F.length = q0 by omega]; exact he
  have hrv := va_recv C.2.2.2.2.2.1.1 hP hc he2
  rw [hrc] at hrv
  have hn1 : va_nd ((List.range wi.length).map (fun i => F.length + i)) = true := (nd_iff _).mpr (sh_nd _ _)
  have hn2 : va_nd (List.range F.length) = true := (nd_iff _).mpr List.nodup_range
  refine v_back (y := y) (As := .ref b :: As) (wr := F) ((List.range wi.length).map (fun i => F.length + i)) (List.range F.length) (sh_map F wi) (pr_map F wi) hn2 (fun i hi hj => ?_) C.2.2.2.2.2.2 hP hD hS h
    (va_runV (C := y.cls) (As := As) (rest := st) ⟨C.1, C.2.1, C.2.2.1, C.2.2.2.1, ok⟩ (hM H.size) ⟨callB_of na ok (gt_goodIn l5) rfl rfl rfl (ok _ l4) (ok _ l1) l6 hR1, ok _ l2, ok _ l3⟩ ⟨CP.blind, hrv, v_pre _ hn1 (sh_map F wi) C.2.2.2.2.2.1 hP hD⟩ rfl hna h.1 rfl (lv_room hcat) hd hR2) kk
  have := sh_mem hj
  have := List.mem_range.mp hi
  omega
/-- a wrapper's call: its cells are among the system's -/
theorem v_callW (C : VC p s m args c cc own nL D cy A) (hO : OW adK adV A s s.heap) (hN : NX s) {index na maxL : Nat} {y : MethodName} {cd : ByteArray} {ret : Option FieldType} {hh : List (Nat × Nat × Nat × Nat)} {rm : Room} {As : List Value} {X X' wi wo wm : va_W} {rv : Option Value} {stk stk' : List Value} (hM : Cw l y cd maxL ret hh rm D cy adK adV As wi rv wo) (hl : LkW own index y cd maxL ret hh na) (hna : As.length = na) (hR1 : rm.frames + 1 ≤ R.frames ∧ 8 + (maxL + 11) + rm.locals ≤ R.locals) (hR2 : k + rm.cells ≤ R.cells ∧ n + rm.slots ≤ R.slots) (hstk : As.reverse ++ st = stk) (hd : decode cc pc = .ok (.invokestatic index, 3)) (hcat : (st.map fun v => v.category).sum ≤ 8) (hst' : rv.toList ++ st = stk') (nX : Nat) (hX : X.length = nX) (hX' : X'.length = nX) (is rs : List Nat) (hp : (rs ++ is).Perm (List.range nX)) (hC : is.map (fun i => X[i]?) = wi.map some) (hC' : is.map (fun i => X'[i]?) = wo.map some) (hR : rs.map (fun i => X[i]?) = rs.map (fun i => X'[i]?)) (kk : V p l e R s m args below meth c Q nL D A (k + rm.cells) (n + rm.slots) (X' ++ wm) (pc + 3) lv (stk')) : V p l e R s m args below meth c Q nL D A k n (X ++ wm) pc lv stk := by
  obtain ⟨U, p1, p2⟩ := ix_perm nX hX hX' is rs hp hC hC' hR
  exact v_perm (pe_1 wm p1) (v_callWs C hO hN hM hl hna hR1 hR2 hstk hd hcat hst' (v_perm (pe_1 wm p2).symm kk))
/-- a method of the system itself -/
theorem v_callX (C : VC p s m args c cc own nL D cy A) {index na maxL : Nat} {y : MethodName} {cd : ByteArray} {ret : Option FieldType} {rm : Room} {As : List Value} {X X' wi wo wm : va_W} {rv : Option Value} {stk stk' : List Value} {b ci : Nat} {fs : List Value} {r : vw_C} (hM : Ct l y cd maxL ret rm D cy (.ref b :: As) wi rv wo) (hl : LkV own index y cd maxL ret na) (hna : As.length = na) (hR1 : rm.frames + 1 ≤ R.frames ∧ 8 + (maxL + 11) + rm.locals ≤ R.locals) (hR2 : k + rm.cells ≤ R.cells ∧ n + rm.slots ≤ R.slots) (hstk : As.reverse ++ .ref b :: st = stk) (q0 : Nat) (he : wi[q0]? = some (b, .inr (ci, fs))) (hc : vwCl[ci]? = some r) (hrc : r.1 = y.cls) (hd : decode cc pc = .ok (.invokevirtual index, 3)) (hcat : (st.map fun v => v.category).sum ≤ 8) (hst' : rv.toList ++ st = stk') (nX : Nat) (hX : X.length = nX) (hX' : X'.length = nX) (is rs : List Nat) (hp : (rs ++ is).Perm (List.range nX)) (hC : is.map (fun i => X[i]?) = wi.map some) (hC' : is.map (fun i => X'[i]?) = wo.map some) (hR : rs.map (fun i => X[i]?) = rs.map (fun i => X'[i]?)) (kk : V p l e R s m args below meth c Q nL D A (k + rm.cells) (n + rm.slots) (X' ++ wm) (pc + 3) lv (stk')) : V p l e R s m args below meth c Q nL D A k n (X ++ wm) pc lv stk := by
  obtain ⟨U, p1, p2⟩ := ix_perm nX hX hX' is rs hp hC hC' hR
  exact v_perm (pe_1 wm p1) (v_callM C hM hl hna hR1 hR2 hstk q0 he hc hrc hd hcat hst' (v_perm (pe_1 wm p2).symm kk))
/-- the script -/
theorem v_sld (C : VC p s m args c cc own nL D cy A) {b L : Nat} {xs : Nat → Int32} (hX : va_X b L xs s s.heap) (hbl : b < s.heap.size) (hbA : ¬ A b) {i : Int32} (hin : vp_in i L) (hd : decode cc pc = .ok (.iaload, 1)) (kk : V p l e R s m args below meth c Q nL D A k n ws (pc + 1) lv (.int (xs i.toNatClampNeg) :: st)) : V p l e R s m args below meth c Q nL D A k n ws pc lv (.int i :: .ref b :: st) := fun H locs ls hP hD hS h => va_sld C.1 C.2.1 hX hbl hbA hS hin hd (kk H locs ls hP hD hS h)
theorem v_sln (C : VC p s m args c cc own nL D cy A) {b L : Nat} {xs : Nat → Int32} (hX : va_X b L xs s s.heap) (hbl : b < s.heap.size) (hbA : ¬ A b) (hd : decode cc pc = .ok (.arraylength, 1)) (kk : V p l e R s m args below meth c Q nL D A k n ws (pc + 1) lv (.int (Int32.ofNat L) :: st)) : V p l e R s m args below meth c Q nL D A k n ws pc lv (.ref b :: st) := fun H locs ls hP hD hS h => va_slen C.1 C.2.1 hX hbl hbA hS hd (kk H locs ls hP hD hS h)
end VL9
