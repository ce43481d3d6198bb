/-! the reference's constructor: rows behind the explicit cells -/
theorem pl_gw {cy : Nat → ClassId} {r : Nat → Nat} {N K : Nat} {f : Nat → va_E} : va_pl ([] ++ (List.range N).map r) (vr_up f ((List.range N).map r) (.inl (cy 1, (K, .inl (fun _ => 0))))) = gw cy r N K (fun _ _ => 0) := by
  unfold va_pl gw
  rw [List.nil_append, List.map_map]
  apply List.map_congr_left
  intro i hi
  show (r i, vr_up f ((List.range N).map r) _ (r i)) = _
  rw [vr_up_in (List.mem_map_of_mem hi)]
section VL6
variable {p : Program} {l : Launch} {e : Env} {R : Room} {s : State} {m : MethodId} {args : Array Value} {below : List Frame} {meth : Method} {c : Code} {Q : State → Prop} {cc : ByteArray} {own : String} {nL : Nat} {D : va_G} {cy : Nat → ClassId} {A : Nat → Prop}
variable {k n : Nat} {pc : Nat} {lv : List (Nat × Value)} {st : List Value}
theorem v_sw {E G X : va_W} (kk : V p l e R s m args below meth c Q nL D A k n ((E ++ X) ++ G) pc lv st) : V p l e R s m args below meth c Q nL D A k n ((E ++ G) ++ X) pc lv st := fun H locs ls hP hD hS h => kk H locs ls hP.swap hD.swap hS h
theorem v_mnaG (C : VC p s m args c cc own nL D cy A) (hA : KA s) (hac : Cond.arrayClass .int ∈ GT) {E G : va_W} {index N K : Nat} {z1 z2 : Int32} (hc : Cond.classLink own index "[[I" ∈ GT) (hz1 : ¬ z1 < 0) (hz2 : ¬ z2 < 0) (hN : z1.toNatClampNeg = N) (hK0 : z2.toNatClampNeg = K) (hb1 : N * 4 ≤ 536870912) (hb2 : K * 4 ≤ 536870912) (hk : k + (1 + N) ≤ R.cells) (hs : n + (N + N * K) ≤ R.slots) (hd : decode cc pc = .ok (.multianewarray index 2, 4))
    (kk : ∀ (q : Nat) (r : Nat → Nat), V p l e R s m args below meth c Q nL D A (k + 1 + N) (n + N + N * K) ((E ++ [aR cy 4 q N (fun i => if i < N then some (r i) else none)]) ++ (G ++ gw cy r N K (fun _ _ => 0))) (pc + 4) lv (.ref q :: st)) : V p l e R s m args below meth c Q nL D A k n (E ++ G) pc lv (.int z2 :: .int z1 :: st) := fun H locs ls hP hD hS h => by
  have e2 : va_RA s (cy 1) .int := (C.2.2.2.2.2.1.1.2 1 _ rfl).2
  have e4 : va_RA s (cy 4) (.array .int) := (C.2.2.2.2.2.1.1.2 4 _ rfl).2
  have hP' : va_P D vwCl ((E ++ G) ++ va_pl [] (fun _ => .inr (0, []))) H := by rw [show va_pl [] (fun _ => (.inr (0, []) : va_E)) = [] from rfl, List.append_nil]; exact hP
  have hD' : va_D A ((E ++ G) ++ va_pl [] (fun _ => .inr (0, []))) := by rw [show va_pl [] (fun _ => (.inr (0, []) : va_E)) = [] from rfl, List.append_nil]; exact hD
  refine va_mna (ty := .int) (cy := cy 1) (z := (K, .inl (fun _ => 0))) C.1 C.2.1 C.2.2.2.1 (C.2.2.2.2.1 _ hc) hA.2.2 (C.2.2.2.2.1 _ hac) e2 C.2.2.2.2.2.1.1 hP' hD' hS C.2.2.2.2.2.2 hz1 hz2 hN hK0 hb1 hb2 (by omega) rfl rfl hk hs (fun c => by show _ = arrV c K (fun _ => .int 0); rw [← arrV_new]; rfl) hd (fun q r cA H1 _ _ hKn hP hD hS => ?_)
  have e1 : va_RA s cA (.array .int) := ty_last hKn
  cases Option.some.inj (Eq.trans (Eq.symm e1) e4)
  rw [pl_gw] at hP hD
  exact kk q r H1 locs ls (vr_lay hP) (vr_layD hD) hS h
end VL6
