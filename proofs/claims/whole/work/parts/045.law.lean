abbrev rm_Arrays_fill : Room := { frames := 0, cells := 0, slots := 0, locals := 0 }
def f_Arrays_fill (K : Nat) (n_p0 : Nat) : Nat → Nat → Int32 × Int32 × Int32 × (Nat → Int32) → Option ((Nat → Int32))
  | 0, _, _ => none
  | n + 1, 0, (x1, x2, x3, v_p0) =>
    if x3 ≤ x2 then
      some v_p0
    else
      if inb x2 n_p0 then
        f_Arrays_fill K n_p0 n 0 (x1, x2 + 1, x3, upd v_p0 x2.toNatClampNeg x1)
      else none
  | _ + 1, _ + 1, _ => none
def sp_Arrays_fill (K : Nat) (p1 : Int32) (n_p0 : Nat) (v_p0 : Nat → Int32) : Option ((Nat → Int32)) :=
  f_Arrays_fill K n_p0 K 0 (p1, 0, Int32.ofNat n_p0, v_p0)
def Z0_Arrays_fill (Vf : va_W → Nat → List (Nat × Value) → List Value → Prop) (cy : Nat → ClassId) (K n : Nat) (q_p0 : Nat) (n_p0 : Nat) (out : (Nat → Int32)) : Prop := ∀ (x1 : Int32) (x2 : Int32) (x3 : Int32) (v_p0 : Nat → Int32), f_Arrays_fill K n_p0 n 0 (x1, x2, x3, v_p0) = some out → Vf [aI cy q_p0 n_p0 v_p0] 5 [(0, .ref q_p0), (1, .int x1), (2, .int x2), (3, .int x3)] []
def Z_Arrays_fill (Vf : va_W → Nat → List (Nat × Value) → List Value → Prop) (cy : Nat → ClassId) (K n : Nat) (q_p0 : Nat) (n_p0 : Nat) (out : (Nat → Int32)) : Prop := Z0_Arrays_fill Vf cy K n q_p0  n_p0 out
set_option maxHeartbeats 4000000 in
set_option maxRecDepth 20000 in
theorem z0_Arrays_fill {p : Program} {l : Launch} {e : Env} {s : State} {m : MethodId} {args : Array Value} {below : List Frame} {meth : Method} {c : Code} {D : va_G} {cy : Nat → ClassId} {K : Nat} {q_p0 : Nat} {n_p0 : Nat} {v_p0' : Nat → Int32} {out : (Nat → Int32)} (C : VC p s m args c cJ7_fill_53178 RJ7 4 D cy (va_A [aI cy q_p0 n_p0 v_p0'] s.heap.size)) (hr : meth.sig.returnType = none) (hlk : meth.locks = false) (n : Nat) (ih : Z_Arrays_fill (V p l e rm_Arrays_fill s m args below meth c (EQ below args s rm_Arrays_fill D [aI cy q_p0 n_p0 v_p0'] none [aI cy q_p0 n_p0 out]) 4 D (va_A [aI cy q_p0 n_p0 v_p0'] s.heap.size) 0 0) cy K n q_p0  n_p0 out) : Z0_Arrays_fill (V p l e rm_Arrays_fill s m args below meth c (EQ below args s rm_Arrays_fill D [aI cy q_p0 n_p0 v_p0'] none [aI cy q_p0 n_p0 out]) 4 D (va_A [aI cy q_p0 n_p0 v_p0'] s.heap.size) 0 0) cy K (n + 1) q_p0  n_p0 out := by
  intro x1 x2 x3 v_p0 hf
  replace hf := hf
  refine v_iload_n C dJ7_fill_53178_5 2 rfl rfl ?_
  refine v_iload_n C dJ7_fill_53178_6 3 rfl rfl ?_
  refine v_icmp_ge (tgt := 20) C dJ7_fill_53178_7 (by decide) (fun c1 => ?_) (fun c1 => ?_)
  · replace hf := (if_pos c1).symm.trans hf
    obtain rfl := Option.some.inj hf
    exact v_vret C hr hlk dJ7_fill_53178_20 rfl rfl rfl rfl
  · replace hf := (if_neg c1).symm.trans hf
    refine v_aload_n C dJ7_fill_53178_10 0 rfl rfl ?_
    refine v_iload_n C dJ7_fill_53178_11 2 rfl rfl ?_
    refine v_iload_n C dJ7_fill_53178_12 1 rfl rfl ?_
    obtain ⟨g2, hf⟩ := gd_ hf
    refine v_iast (ws' := [aI cy q_p0 n_p0 (upd v_p0 x2.toNatClampNeg x1)]) C 0 rfl g2 rfl dJ7_fill_53178_13 ?_
    refine v_iinc (v := x2 + 1) (lv' := [(2, .int (x2 + 1)), (0, .ref q_p0), (1, .int x1), (3, .int x3)]) C dJ7_fill_53178_14 2 rfl rfl (by decide) rfl ?_
    refine v_goto (tgt := 5) C dJ7_fill_53178_17 (by decide) ?_
    refine v_lv (lv' := [(0, .ref q_p0), (1, .int x1), (2, .int (x2 + 1)), (3, .int x3)]) [1, 2, 0, 3] rfl ?_
    exact ih _ _ _ _ hf
theorem z_Arrays_fill {p : Program} {l : Launch} {e : Env} {s : State} {m : MethodId} {args : Array Value} {below : List Frame} {meth : Method} {c : Code} {D : va_G} {cy : Nat → ClassId} {K : Nat} {q_p0 : Nat} {n_p0 : Nat} {v_p0' : Nat → Int32} {out : (Nat → Int32)} (C : VC p s m args c cJ7_fill_53178 RJ7 4 D cy (va_A [aI cy q_p0 n_p0 v_p0'] s.heap.size)) (hr : meth.sig.returnType = none) (hlk : meth.locks = false) (n : Nat) : Z_Arrays_fill (V p l e rm_Arrays_fill s m args below meth c (EQ below args s rm_Arrays_fill D [aI cy q_p0 n_p0 v_p0'] none [aI cy q_p0 n_p0 out]) 4 D (va_A [aI cy q_p0 n_p0 v_p0'] s.heap.size) 0 0) cy K n q_p0  n_p0 out := by
  induction n with
  | zero => exact fun _ _ _ _ h => nomatch h
  | succ n ih => exact z0_Arrays_fill C hr hlk n ih
set_option maxHeartbeats 4000000 in
set_option maxRecDepth 20000 in
theorem c_Arrays_fill (l : Launch) (D : va_G) (cy : Nat → ClassId) (K : Nat) (q_p0 : Nat) (p1 : Int32) (n_p0 : Nat) (v_p0 : Nat → Int32) (out : (Nat → Int32)) (hf : sp_Arrays_fill K p1 n_p0 v_p0 = some out) : Ct l yJ7_fill_53178 cJ7_fill_53178 4 none rm_Arrays_fill D cy [.ref q_p0, .int p1] [aI cy q_p0 n_p0 v_p0] none [aI cy q_p0 n_p0 out] := by
  refine ct_of (by decide +kernel) (Nat.le_of_ble_eq_true rfl) (fun p e s m args below meth c C hr hlk hnm => ?_)
  unfold sp_Arrays_fill at hf
  refine v_iconst (v := 0) C dJ7_fill_53178_0 (by decide) ?_
  refine v_istore_n (lv' := [(2, .int 0), (0, .ref q_p0), (1, .int p1)]) C dJ7_fill_53178_1 rfl (by decide) rfl ?_
  refine v_aload_n C dJ7_fill_53178_2 1 rfl rfl ?_
  refine v_alen (v := Int32.ofNat n_p0) (N := 0) C 0 rfl rfl rfl dJ7_fill_53178_3 ?_
  refine v_istore_n (lv' := [(3, .int (Int32.ofNat n_p0)), (2, .int 0), (0, .ref q_p0), (1, .int p1)]) C dJ7_fill_53178_4 rfl (by decide) rfl ?_
  refine v_lv (lv' := [(0, .ref q_p0), (1, .int p1), (2, .int 0), (3, .int (Int32.ofNat n_p0))]) [2, 3, 1, 0] rfl ?_
  exact (z_Arrays_fill C hr hlk K) _ _ _ _ hf

abbrev rm_Law_clear : Room := { frames := 1, cells := 0, slots := 0, locals := 23 }
def f_Law_clear (K : Nat) : Nat → Nat → Int32 × (Nat → Int32) × (Nat → Int32) × (Nat → Int32) × (Nat → Int32) × Int32 × Int32 × Int32 × Int32 → Option ((Nat → Int32) × (Nat → Int32) × (Nat → Int32) × (Nat → Int32) × Int32 × Int32 × Int32 × Int32)
  | 0, _, _ => none
  | n + 1, 0, (x1, v_t_shed, v_t_hold, v_t_common, v_t_alikes, v_t_wash, v_t_pass, v_t_take, v_t_clauses) =>
    if 10 ≤ x1 then
      some (v_t_shed, v_t_hold, v_t_common, v_t_alikes, 0, 0, 8, 0)
    else
      if inb x1 10 then
        f_Law_clear K  n 0 (x1 + 1, v_t_shed, v_t_hold, v_t_common, upd v_t_alikes x1.toNatClampNeg (1 <<< (x1 &&& 31)), v_t_wash, v_t_pass, v_t_take, v_t_clauses)
      else none
  | _ + 1, _ + 1, _ => none
def sp_Law_clear (K : Nat) (v_t_shed : Nat → Int32) (v_t_hold : Nat → Int32) (v_t_common : Nat → Int32) (v_t_alikes : Nat → Int32) (v_t_wash : Int32) (v_t_pass : Int32) (v_t_take : Int32) (v_t_clauses : Int32) : Option ((Nat → Int32) × (Nat → Int32) × (Nat → Int32) × (Nat → Int32) × Int32 × Int32 × Int32 × Int32) :=
  (sp_Arrays_fill K 0 80 v_t_shed).bind fun o5 =>
    (sp_Arrays_fill K 16 10 v_t_hold).bind fun o14 =>
      (sp_Arrays_fill K 0 10 v_t_common).bind fun o22 =>
        f_Law_clear K  K 0 (0, o5, o14, o22, v_t_alikes, v_t_wash, v_t_pass, v_t_take, v_t_clauses)
def Z0_Law_clear (Vf : va_W → Nat → List (Nat × Value) → List Value → Prop) (cy : Nat → ClassId) (K n : Nat) (q_t q_t_shed q_t_hold q_t_common q_t_alikes : Nat) (out : (Nat → Int32) × (Nat → Int32) × (Nat → Int32) × (Nat → Int32) × Int32 × Int32 × Int32 × Int32) : Prop := ∀ (x1 : Int32) (v_t_shed : Nat → Int32) (v_t_hold : Nat → Int32) (v_t_common : Nat → Int32) (v_t_alikes : Nat → Int32) (v_t_wash : Int32) (v_t_pass : Int32) (v_t_take : Int32) (v_t_clauses : Int32), f_Law_clear K  n 0 (x1, v_t_shed, v_t_hold, v_t_common, v_t_alikes, v_t_wash, v_t_pass, v_t_take, v_t_clauses) = some out → Vf [ob q_t 5 [.ref q_t_shed, .ref q_t_hold, .ref q_t_common, .ref q_t_alikes, .int v_t_wash, .int v_t_pass, .int v_t_take, .int v_t_clauses], aI cy q_t_shed 80 v_t_shed, aI cy q_t_hold 10 v_t_hold, aI cy q_t_common 10 v_t_common, aI cy q_t_alikes 10 v_t_alikes] 27 [(0, .ref q_t), (1, .int x1)] []
def Z_Law_clear (Vf : va_W → Nat → List (Nat × Value) → List Value → Prop) (cy : Nat → ClassId) (K n : Nat) (q_t q_t_shed q_t_hold q_t_common q_t_alikes : Nat) (out : (Nat → Int32) × (Nat → Int32) × (Nat → Int32) × (Nat → Int32) × Int32 × Int32 × Int32 × Int32) : Prop := Z0_Law_clear Vf cy K n q_t q_t_shed q_t_hold q_t_common q_t_alikes   out
set_option maxHeartbeats 4000000 in
set_option maxRecDepth 20000 in
theorem z0_Law_clear {p : Program} {l : Launch} {e : Env} {s : State} {m : MethodId} {args : Array Value} {below : List Frame} {meth : Method} {c : Code} {D : va_G} {cy : Nat → ClassId} {K : Nat} {q_t q_t_shed q_t_hold q_t_common q_t_alikes : Nat} {v_t_shed' : Nat → Int32} {v_t_hold' : Nat → Int32} {v_t_common' : Nat → Int32} {v_t_alikes' : Nat → Int32} {v_t_wash' : Int32} {v_t_pass' : Int32} {v_t_take' : Int32} {v_t_clauses' : Int32} {out : (Nat → Int32) × (Nat → Int32) × (Nat → Int32) × (Nat → Int32) × Int32 × Int32 × Int32 × Int32} (C : VC p s m args c cX5_clear RX5 2 D cy (va_A [ob q_t 5 [.ref q_t_shed, .ref q_t_hold, .ref q_t_common, .ref q_t_alikes, .int v_t_wash', .int v_t_pass', .int v_t_take', .int v_t_clauses'], aI cy q_t_shed 80 v_t_shed', aI cy q_t_hold 10 v_t_hold', aI cy q_t_common 10 v_t_common', aI cy q_t_alikes 10 v_t_alikes'] s.heap.size)) (hr : meth.sig.returnType = none) (hlk : meth.locks = false) (n : Nat) (ih : Z_Law_clear (V p l e rm_Law_clear s m args below meth c (EQ below args s rm_Law_clear D [ob q_t 5 [.ref q_t_shed, .ref q_t_hold, .ref q_t_common, .ref q_t_alikes, .int v_t_wash', .int v_t_pass', .int v_t_take', .int v_t_clauses'], aI cy q_t_shed 80 v_t_shed', aI cy q_t_hold 10 v_t_hold', aI cy q_t_common 10 v_t_common', aI cy q_t_alikes 10 v_t_alikes'] none [ob q_t 5 [.ref q_t_shed, .ref q_t_hold, .ref q_t_common, .ref q_t_alikes, .int out.2.2.2.2.1, .int out.2.2.2.2.2.1, .int out.2.2.2.2.2.2.1, .int out.2.2.2.2.2.2.2], aI cy q_t_shed 80 out.1, aI cy q_t_hold 10 out.2.1, aI cy q_t_common 10 out.2.2.1, aI cy q_t_alikes 10 out.2.2.2.1]) 2 D (va_A [ob q_t 5 [.ref q_t_shed, .ref q_t_hold, .ref q_t_common, .ref q_t_alikes, .int v_t_wash', .int v_t_pass', .int v_t_take', .int v_t_clauses'], aI cy q_t_shed 80 v_t_shed', aI cy q_t_hold 10 v_t_hold', aI cy q_t_common 10 v_t_common', aI cy q_t_alikes 10 v_t_alikes'] s.heap.size) 0 0) cy K n q_t q_t_shed q_t_hold q_t_common q_t_alikes   out) : Z0_Law_clear (V p l e rm_Law_clear s m args below meth c (EQ below args s rm_Law_clear D [ob q_t 5 [.ref q_t_shed, .ref q_t_hold, .ref q_t_common, .ref q_t_alikes, .int v_t_wash', .int v_t_pass', .int v_t_take', .int v_t_clauses'], aI cy q_t_shed 80 v_t_shed', aI cy q_t_hold 10 v_t_hold', aI cy q_t_common 10 v_t_common', aI cy q_t_alikes 10 v_t_alikes'] none [ob q_t 5 [.ref q_t_shed, .ref q_t_hold, .ref q_t_common, .ref q_t_alikes, .int out.2.2.2.2.1, .int out.2.2.2.2.2.1, .int out.2.2.2.2.2.2.1, .int out.2.2.2.2.2.2.2], aI cy q_t_shed 80 out.1, aI cy q_t_hold 10 out.2.1, aI cy q_t_common 10 out.2.2.1, aI cy q_t_alikes 10 out.2.2.2.1]) 2 D (va_A [ob q_t 5 [.ref q_t_shed, .ref q_t_hold, .ref q_t_common, .ref q_t_alikes, .int v_t_wash', .int v_t_pass', .int v_t_take', .int v_t_clauses'], aI cy q_t_shed 80 v_t_shed', aI cy q_t_hold 10 v_t_hold', aI cy q_t_common 10 v_t_common', aI cy q_t_alikes 10 v_t_alikes'] s.heap.size) 0 0) cy K (n + 1) q_t q_t_shed q_t_hold q_t_common q_t_alikes   out := by
  intro x1 v_t_shed v_t_hold v_t_common v_t_alikes v_t_wash v_t_pass v_t_take v_t_clauses hf
  replace hf := hf
  refine v_iload_n C dX5_clear_27 1 rfl rfl ?_
  refine v_bipush (v := 10) C dX5_clear_28 (by decide) ?_
  refine v_icmp_ge (tgt := 48) C dX5_clear_30 (by decide) (fun c1 => ?_) (fun c1 => ?_)
  · replace hf := (if_pos c1).symm.trans hf
    refine v_aload_n C dX5_clear_48 0 rfl rfl ?_
    refine v_iconst (v := 0) C dX5_clear_49 (by decide) ?_
    refine v_put (ws' := [ob q_t 5 [.ref q_t_shed, .ref q_t_hold, .ref q_t_common, .ref q_t_alikes, .int 0, .int v_t_pass, .int v_t_take, .int v_t_clauses], aI cy q_t_shed 80 v_t_shed, aI cy q_t_hold 10 v_t_hold, aI cy q_t_common 10 v_t_common, aI cy q_t_alikes 10 v_t_alikes]) C fp_X5_33 0 rfl rfl rfl (Nat.le_of_ble_eq_true rfl) rfl dX5_clear_50 ?_
    refine v_aload_n C dX5_clear_53 0 rfl rfl ?_
    refine v_iconst (v := 0) C dX5_clear_54 (by decide) ?_
    refine v_put (ws' := [ob q_t 5 [.ref q_t_shed, .ref q_t_hold, .ref q_t_common, .ref q_t_alikes, .int 0, .int 0, .int v_t_take, .int v_t_clauses], aI cy q_t_shed 80 v_t_shed, aI cy q_t_hold 10 v_t_hold, aI cy q_t_common 10 v_t_common, aI cy q_t_alikes 10 v_t_alikes]) C fp_X5_37 0 rfl rfl rfl (Nat.le_of_ble_eq_true rfl) rfl dX5_clear_55 ?_
    refine v_aload_n C dX5_clear_58 0 rfl rfl ?_
    refine v_bipush (v := 8) C dX5_clear_59 (by decide) ?_
    refine v_put (ws' := [ob q_t 5 [.ref q_t_shed, .ref q_t_hold, .ref q_t_common, .ref q_t_alikes, .int 0, .int 0, .int 8, .int v_t_clauses], aI cy q_t_shed 80 v_t_shed, aI cy q_t_hold 10 v_t_hold, aI cy q_t_common 10 v_t_common, aI cy q_t_alikes 10 v_t_alikes]) C fp_X5_40 0 rfl rfl rfl (Nat.le_of_ble_eq_true rfl) rfl dX5_clear_61 ?_
    refine v_aload_n C dX5_clear_64 0 rfl rfl ?_
    refine v_iconst (v := 0) C dX5_clear_65 (by decide) ?_
    refine v_put (ws' := [ob q_t 5 [.ref q_t_shed, .ref q_t_hold, .ref q_t_common, .ref q_t_alikes, .int 0, .int 0, .int 8, .int 0], aI cy q_t_shed 80 v_t_shed, aI cy q_t_hold 10 v_t_hold, aI cy q_t_common 10 v_t_common, aI cy q_t_alikes 10 v_t_alikes]) C fp_X5_43 0 rfl rfl rfl (Nat.le_of_ble_eq_true rfl) rfl dX5_clear_66 ?_
    obtain rfl := Option.some.inj hf
    exact v_vret C hr hlk dX5_clear_69 rfl rfl rfl rfl
  · replace hf := (if_neg c1).symm.trans hf
    refine v_aload_n C dX5_clear_33 0 rfl rfl ?_
    refine v_get C fl_X5_21 0 rfl rfl dX5_clear_34 ?_
    refine v_iload_n C dX5_clear_37 1 rfl rfl ?_
    refine v_iconst (v := 1) C dX5_clear_38 (by decide) ?_
    refine v_iload_n C dX5_clear_39 1 rfl rfl ?_
    refine v_ishl C dX5_clear_40 ?_
    obtain ⟨g2, hf⟩ := gd_ hf
    refine v_iast (ws' := [ob q_t 5 [.ref q_t_shed, .ref q_t_hold, .ref q_t_common, .ref q_t_alikes, .int v_t_wash, .int v_t_pass, .int v_t_take, .int v_t_clauses], aI cy q_t_shed 80 v_t_shed, aI cy q_t_hold 10 v_t_hold, aI cy q_t_common 10 v_t_common, aI cy q_t_alikes 10 (upd v_t_alikes x1.toNatClampNeg (1 <<< (x1 &&& 31)))]) C 4 rfl g2 rfl dX5_clear_41 ?_
    refine v_iinc (v := x1 + 1) (lv' := [(1, .int (x1 + 1)), (0, .ref q_t)]) C dX5_clear_42 1 rfl rfl (by decide) rfl ?_
    refine v_goto (tgt := 27) C dX5_clear_45 (by decide) ?_
    refine v_lv (lv' := [(0, .ref q_t), (1, .int (x1 + 1))]) [1, 0] rfl ?_
    exact ih _ _ _ _ _ _ _ _ _ hf
theorem z_Law_clear {p : Program} {l : Launch} {e : Env} {s : State} {m : MethodId} {args : Array Value} {below : List Frame} {meth : Method} {c : Code} {D : va_G} {cy : Nat → ClassId} {K : Nat} {q_t q_t_shed q_t_hold q_t_common q_t_alikes : Nat} {v_t_shed' : Nat → Int32} {v_t_hold' : Nat → Int32} {v_t_common' : Nat → Int32} {v_t_alikes' : Nat → Int32} {v_t_wash' : Int32} {v_t_pass' : Int32} {v_t_take' : Int32} {v_t_clauses' : Int32} {out : (Nat → Int32) × (Nat → Int32) × (Nat → Int32) × (Nat → Int32) × Int32 × Int32 × Int32 × Int32} (C : VC p s m args c cX5_clear RX5 2 D cy (va_A [ob q_t 5 [.ref q_t_shed, .ref q_t_hold, .ref q_t_common, .ref q_t_alikes, .int v_t_wash', .int v_t_pass', .int v_t_take', .int v_t_clauses'], aI cy q_t_shed 80 v_t_shed', aI cy q_t_hold 10 v_t_hold', aI cy q_t_common 10 v_t_common', aI cy q_t_alikes 10 v_t_alikes'] s.heap.size)) (hr : meth.sig.returnType = none) (hlk : meth.locks = false) (n : Nat) : Z_Law_clear (V p l e rm_Law_clear s m args below meth c (EQ below args s rm_Law_clear D [ob q_t 5 [.ref q_t_shed, .ref q_t_hold, .ref q_t_common, .ref q_t_alikes, .int v_t_wash', .int v_t_pass', .int v_t_take', .int v_t_clauses'], aI cy q_t_shed 80 v_t_shed', aI cy q_t_hold 10 v_t_hold', aI cy q_t_common 10 v_t_common', aI cy q_t_alikes 10 v_t_alikes'] none [ob q_t 5 [.ref q_t_shed, .ref q_t_hold, .ref q_t_common, .ref q_t_alikes, .int out.2.2.2.2.1, .int out.2.2.2.2.2.1, .int out.2.2.2.2.2.2.1, .int out.2.2.2.2.2.2.2], aI cy q_t_shed 80 out.1, aI cy q_t_hold 10 out.2.1, aI cy q_t_common 10 out.2.2.1, aI cy q_t_alikes 10 out.2.2.2.1]) 2 D (va_A [ob q_t 5 [.ref q_t_shed, .ref q_t_hold, .ref q_t_common, .ref q_t_alikes, .int v_t_wash', .int v_t_pass', .int v_t_take', .int v_t_clauses'], aI cy q_t_shed 80 v_t_shed', aI cy q_t_hold 10 v_t_hold', aI cy q_t_common 10 v_t_common', aI cy q_t_alikes 10 v_t_alikes'] s.heap.size) 0 0) cy K n q_t q_t_shed q_t_hold q_t_common q_t_alikes   out := by
  induction n with
  | zero => exact fun _ _ _ _ _ _ _ _ _ h => nomatch h
  | succ n ih => exact z0_Law_clear C hr hlk n ih
set_option maxHeartbeats 4000000 in
set_option maxRecDepth 20000 in
theorem c_Law_clear (l : Launch) (D : va_G) (cy : Nat → ClassId) (K : Nat) (q_t q_t_shed q_t_hold q_t_common q_t_alikes : Nat) (v_t_shed : Nat → Int32) (v_t_hold : Nat → Int32) (v_t_common : Nat → Int32) (v_t_alikes : Nat → Int32) (v_t_wash : Int32) (v_t_pass : Int32) (v_t_take : Int32) (v_t_clauses : Int32) (out : (Nat → Int32) × (Nat → Int32) × (Nat → Int32) × (Nat → Int32) × Int32 × Int32 × Int32 × Int32) (hf : sp_Law_clear K v_t_shed v_t_hold v_t_common v_t_alikes v_t_wash v_t_pass v_t_take v_t_clauses = some out) : Ct l yX5_clear cX5_clear 2 none rm_Law_clear D cy [.ref q_t] [ob q_t 5 [.ref q_t_shed, .ref q_t_hold, .ref q_t_common, .ref q_t_alikes, .int v_t_wash, .int v_t_pass, .int v_t_take, .int v_t_clauses], aI cy q_t_shed 80 v_t_shed, aI cy q_t_hold 10 v_t_hold, aI cy q_t_common 10 v_t_common, aI cy q_t_alikes 10 v_t_alikes] none [ob q_t 5 [.ref q_t_shed, .ref q_t_hold, .ref q_t_common, .ref q_t_alikes, .int out.2.2.2.2.1, .int out.2.2.2.2.2.1, .int out.2.2.2.2.2.2.1, .int out.2.2.2.2.2.2.2], aI cy q_t_shed 80 out.1, aI cy q_t_hold 10 out.2.1, aI cy q_t_common 10 out.2.2.1, aI cy q_t_alikes 10 out.2.2.2.1] := by
  refine ct_of (by decide +kernel) (Nat.le_of_ble_eq_true rfl) (fun p e s m args below meth c C hr hlk hnm => ?_)
  unfold sp_Law_clear at hf
  refine v_aload_n C dX5_clear_0 0 rfl rfl ?_
  refine v_get C fl_X5_9 0 rfl rfl dX5_clear_1 ?_
  refine v_iconst (v := 0) C dX5_clear_4 (by decide) ?_
  obtain ⟨o5, g1, hf⟩ := bd_ hf
  refine v_callS (As := [.ref q_t_shed, .int 0]) (wr := [ob q_t 5 [.ref q_t_shed, .ref q_t_hold, .ref q_t_common, .ref q_t_alikes, .int v_t_wash, .int v_t_pass, .int v_t_take, .int v_t_clauses], aI cy q_t_hold 10 v_t_hold, aI cy q_t_common 10 v_t_common, aI cy q_t_alikes 10 v_t_alikes]) (ws' := [ob q_t 5 [.ref q_t_shed, .ref q_t_hold, .ref q_t_common, .ref q_t_alikes, .int v_t_wash, .int v_t_pass, .int v_t_take, .int v_t_clauses], aI cy q_t_hold 10 v_t_hold, aI cy q_t_common 10 v_t_common, aI cy q_t_alikes 10 v_t_alikes, aI cy q_t_shed 80 o5]) (st := []) (stk' := []) C (c_Arrays_fill l D cy K q_t_shed  0 80 v_t_shed o5 g1) ls_X5_27 rfl (by decide) rfl dX5_clear_5 [1] [0, 2, 3, 4] (by decide) rfl rfl (by decide) (by decide) (Nat.le_of_ble_eq_true rfl) rfl rfl ?_
  refine v_aload_n C dX5_clear_8 0 rfl rfl ?_
  refine v_get C fl_X5_15 0 rfl rfl dX5_clear_9 ?_
  refine v_bipush (v := 16) C dX5_clear_12 (by decide) ?_
  obtain ⟨o14, g2, hf⟩ := bd_ hf
  refine v_callS (As := [.ref q_t_hold, .int 16]) (wr := [ob q_t 5 [.ref q_t_shed, .ref q_t_hold, .ref q_t_common, .ref q_t_alikes, .int v_t_wash, .int v_t_pass, .int v_t_take, .int v_t_clauses], aI cy q_t_common 10 v_t_common, aI cy q_t_alikes 10 v_t_alikes, aI cy q_t_shed 80 o5]) (ws' := [ob q_t 5 [.ref q_t_shed, .ref q_t_hold, .ref q_t_common, .ref q_t_alikes, .int v_t_wash, .int v_t_pass, .int v_t_take, .int v_t_clauses], aI cy q_t_common 10 v_t_common, aI cy q_t_alikes 10 v_t_alikes, aI cy q_t_shed 80 o5, aI cy q_t_hold 10 o14]) (st := []) (stk' := []) C (c_Arrays_fill l D cy K q_t_hold  16 10 v_t_hold o14 g2) ls_X5_27 rfl (by decide) rfl dX5_clear_14 [1] [0, 2, 3, 4] (by decide) rfl rfl (by decide) (by decide) (Nat.le_of_ble_eq_true rfl) rfl rfl ?_
  refine v_aload_n C dX5_clear_17 0 rfl rfl ?_
  refine v_get C fl_X5_18 0 rfl rfl dX5_clear_18 ?_
  refine v_iconst (v := 0) C dX5_clear_21 (by decide) ?_
  obtain ⟨o22, g3, hf⟩ := bd_ hf
  refine v_callS (As := [.ref q_t_common, .int 0]) (wr := [ob q_t 5 [.ref q_t_shed, .ref q_t_hold, .ref q_t_common, .ref q_t_alikes, .int v_t_wash, .int v_t_pass, .int v_t_take, .int v_t_clauses], aI cy q_t_alikes 10 v_t_alikes, aI cy q_t_shed 80 o5, aI cy q_t_hold 10 o14]) (ws' := [ob q_t 5 [.ref q_t_shed, .ref q_t_hold, .ref q_t_common, .ref q_t_alikes, .int v_t_wash, .int v_t_pass, .int v_t_take, .int v_t_clauses], aI cy q_t_alikes 10 v_t_alikes, aI cy q_t_shed 80 o5, aI cy q_t_hold 10 o14, aI cy q_t_common 10 o22]) (st := []) (stk' := []) C (c_Arrays_fill l D cy K q_t_common  0 10 v_t_common o22 g3) ls_X5_27 rfl (by decide) rfl dX5_clear_22 [1] [0, 2, 3, 4] (by decide) rfl rfl (by decide) (by decide) (Nat.le_of_ble_eq_true rfl) rfl rfl ?_
  refine v_iconst (v := 0) C dX5_clear_25 (by decide) ?_
  refine v_istore_n (lv' := [(1, .int 0), (0, .ref q_t)]) C dX5_clear_26 rfl (by decide) rfl ?_
  refine v_lv (lv' := [(0, .ref q_t), (1, .int 0)]) [1, 0] rfl ?_
  refine v_ws (ws' := [ob q_t 5 [.ref q_t_shed, .ref q_t_hold, .ref q_t_common, .ref q_t_alikes, .int v_t_wash, .int v_t_pass, .int v_t_take, .int v_t_clauses], aI cy q_t_shed 80 o5, aI cy q_t_hold 10 o14, aI cy q_t_common 10 o22, aI cy q_t_alikes 10 v_t_alikes]) [0, 2, 3, 4, 1] (by decide) rfl ?_
  exact (z_Law_clear C hr hlk K) _ _ _ _ _ _ _ _ _ hf

abbrev rm_Law_shedBy : Room := { frames := 0, cells := 0, slots := 0, locals := 0 }
def f_Law_shedBy (K : Nat) (v_t_shed : Nat → Int32) : Nat → Nat → Int32 × Int32 × Int32 → Option (Int32)
  | 0, _, _ => none
  | n + 1, 0, (x1, x2, y0) =>
    f_Law_shedBy K v_t_shed n 1 (x1, x2, 0)
  | n + 1, 1, (x1, x2, y0) =>
    if y0 = 0 then
      some 0
    else
      if inb ((x1 * 10) + x2) 80 then
        some (v_t_shed ((x1 * 10) + x2 : Int32).toNatClampNeg)
      else none
  | _ + 1, _ + 2, _ => none
def sp_Law_shedBy (K : Nat) (p1 : Int32) (p2 : Int32) (v_t_shed : Nat → Int32) : Option (Int32) :=
  if p1 < 0 then
    f_Law_shedBy K v_t_shed K 0 (p1, p2, 0)
  else
    if 8 ≤ p1 then
      f_Law_shedBy K v_t_shed K 0 (p1, p2, 0)
    else
      if p2 < 0 then
        f_Law_shedBy K v_t_shed K 0 (p1, p2, 0)
      else
        if 10 ≤ p2 then
          f_Law_shedBy K v_t_shed K 0 (p1, p2, 0)
        else
          f_Law_shedBy K v_t_shed K 1 (p1, p2, 1)
def Z0_Law_shedBy (Vf : va_W → Nat → List (Nat × Value) → List Value → Prop) (cy : Nat → ClassId) (K n : Nat) (q_t q_t_shed q_t_hold q_t_common q_t_alikes : Nat) (v_t_shed : Nat → Int32) (v_t_hold : Nat → Int32) (v_t_common : Nat → Int32) (v_t_alikes : Nat → Int32) (v_t_wash : Int32) (v_t_pass : Int32) (v_t_take : Int32) (v_t_clauses : Int32) (out : Int32) : Prop := ∀ (x1 : Int32) (x2 : Int32) (y0 : Int32), f_Law_shedBy K v_t_shed n 0 (x1, x2, y0) = some out → Vf [ob q_t 5 [.ref q_t_shed, .ref q_t_hold, .ref q_t_common, .ref q_t_alikes, .int v_t_wash, .int v_t_pass, .int v_t_take, .int v_t_clauses], aI cy q_t_shed 80 v_t_shed, aI cy q_t_hold 10 v_t_hold, aI cy q_t_common 10 v_t_common, aI cy q_t_alikes 10 v_t_alikes] 24 [(0, .ref q_t), (1, .int x1), (2, .int x2)] []
def Z1_Law_shedBy (Vf : va_W → Nat → List (Nat × Value) → List Value → Prop) (cy : Nat → ClassId) (K n : Nat) (q_t q_t_shed q_t_hold q_t_common q_t_alikes : Nat) (v_t_shed : Nat → Int32) (v_t_hold : Nat → Int32) (v_t_common : Nat → Int32) (v_t_alikes : Nat → Int32) (v_t_wash : Int32) (v_t_pass : Int32) (v_t_take : Int32) (v_t_clauses : Int32) (out : Int32) : Prop := ∀ (x1 : Int32) (x2 : Int32) (y0 : Int32), f_Law_shedBy K v_t_shed n 1 (x1, x2, y0) = some out → Vf [ob q_t 5 [.ref q_t_shed, .ref q_t_hold, .ref q_t_common, .ref q_t_alikes, .int v_t_wash, .int v_t_pass, .int v_t_take, .int v_t_clauses], aI cy q_t_shed 80 v_t_shed, aI cy q_t_hold 10 v_t_hold, aI cy q_t_common 10 v_t_common, aI cy q_t_alikes 10 v_t_alikes] 25 [(0, .ref q_t), (1, .int x1), (2, .int x2)] [.int y0]
def Z_Law_shedBy (Vf : va_W → Nat → List (Nat × Value) → List Value → Prop) (cy : Nat → ClassId) (K n : Nat) (q_t q_t_shed q_t_hold q_t_common q_t_alikes : Nat) (v_t_shed : Nat → Int32) (v_t_hold : Nat → Int32) (v_t_common : Nat → Int32) (v_t_alikes : Nat → Int32) (v_t_wash : Int32) (v_t_pass : Int32) (v_t_take : Int32) (v_t_clauses : Int32) (out : Int32) : Prop := Z0_Law_shedBy Vf cy K n q_t q_t_shed q_t_hold q_t_common q_t_alikes  v_t_shed v_t_hold v_t_common v_t_alikes v_t_wash v_t_pass v_t_take v_t_clauses out ∧ Z1_Law_shedBy Vf cy K n q_t q_t_shed q_t_hold q_t_common q_t_alikes  v_t_shed v_t_hold v_t_common v_t_alikes v_t_wash v_t_pass v_t_take v_t_clauses out
set_option maxHeartbeats 4000000 in
set_option maxRecDepth 20000 in
theorem z0_Law_shedBy {p : Program} {l : Launch} {e : Env} {s : State} {m : MethodId} {args : Array Value} {below : List Frame} {meth : Method} {c : Code} {D : va_G} {cy : Nat → ClassId} {K : Nat} {q_t q_t_shed q_t_hold q_t_common q_t_alikes : Nat} {v_t_shed : Nat → Int32} {v_t_hold : Nat → Int32} {v_t_common : Nat → Int32} {v_t_alikes : Nat → Int32} {v_t_wash : Int32} {v_t_pass : Int32} {v_t_take : Int32} {v_t_clauses : Int32} {out : Int32} (C : VC p s m args c cX5_shedBy RX5 4 D cy (va_A [ob q_t 5 [.ref q_t_shed, .ref q_t_hold, .ref q_t_common, .ref q_t_alikes, .int v_t_wash, .int v_t_pass, .int v_t_take, .int v_t_clauses], aI cy q_t_shed 80 v_t_shed, aI cy q_t_hold 10 v_t_hold, aI cy q_t_common 10 v_t_common, aI cy q_t_alikes 10 v_t_alikes] s.heap.size)) (hr : meth.sig.returnType = (some .int)) (hlk : meth.locks = false) (n : Nat) (ih : Z_Law_shedBy (V p l e rm_Law_shedBy s m args below meth c (EQ below args s rm_Law_shedBy D [ob q_t 5 [.ref q_t_shed, .ref q_t_hold, .ref q_t_common, .ref q_t_alikes, .int v_t_wash, .int v_t_pass, .int v_t_take, .int v_t_clauses], aI cy q_t_shed 80 v_t_shed, aI cy q_t_hold 10 v_t_hold, aI cy q_t_common 10 v_t_common, aI cy q_t_alikes 10 v_t_alikes] (some (.int out)) [ob q_t 5 [.ref q_t_shed, .ref q_t_hold, .ref q_t_common, .ref q_t_alikes, .int v_t_wash, .int v_t_pass, .int v_t_take, .int v_t_clauses], aI cy q_t_shed 80 v_t_shed, aI cy q_t_hold 10 v_t_hold, aI cy q_t_common 10 v_t_common, aI cy q_t_alikes 10 v_t_alikes]) 4 D (va_A [ob q_t 5 [.ref q_t_shed, .ref q_t_hold, .ref q_t_common, .ref q_t_alikes, .int v_t_wash, .int v_t_pass, .int v_t_take, .int v_t_clauses], aI cy q_t_shed 80 v_t_shed, aI cy q_t_hold 10 v_t_hold, aI cy q_t_common 10 v_t_common, aI cy q_t_alikes 10 v_t_alikes] s.heap.size) 0 0) cy K n q_t q_t_shed q_t_hold q_t_common q_t_alikes  v_t_shed v_t_hold v_t_common v_t_alikes v_t_wash v_t_pass v_t_take v_t_clauses out) : Z0_Law_shedBy (V p l e rm_Law_shedBy s m args below meth c (EQ below args s rm_Law_shedBy D [ob q_t 5 [.ref q_t_shed, .ref q_t_hold, .ref q_t_common, .ref q_t_alikes, .int v_t_wash, .int v_t_pass, .int v_t_take, .int v_t_clauses], aI cy q_t_shed 80 v_t_shed, aI cy q_t_hold 10 v_t_hold, aI cy q_t_common 10 v_t_common, aI cy q_t_alikes 10 v_t_alikes] (some (.int out)) [ob q_t 5 [.ref q_t_shed, .ref q_t_hold, .ref q_t_common, .ref q_t_alikes, .int v_t_wash, .int v_t_pass, .int v_t_take, .int v_t_clauses], aI cy q_t_shed 80 v_t_shed, aI cy q_t_hold 10 v_t_hold, aI cy q_t_common 10 v_t_common, aI cy q_t_alikes 10 v_t_alikes]) 4 D (va_A [ob q_t 5 [.ref q_t_shed, .ref q_t_hold, .ref q_t_common, .ref q_t_alikes, .int v_t_wash, .int v_t_pass, .int v_t_take, .int v_t_clauses], aI cy q_t_shed 80 v_t_shed, aI cy q_t_hold 10 v_t_hold, aI cy q_t_common 10 v_t_common, aI cy q_t_alikes 10 v_t_alikes] s.heap.size) 0 0) cy K (n + 1) q_t q_t_shed q_t_hold q_t_common q_t_alikes  v_t_shed v_t_hold v_t_common v_t_alikes v_t_wash v_t_pass v_t_take v_t_clauses out := by
  intro x1 x2 y0 hf
  replace hf := hf
  refine v_iconst (v := 0) C dX5_shedBy_24 (by decide) ?_
  exact ih.2 _ _ _ hf
set_option maxHeartbeats 4000000 in
set_option maxRecDepth 20000 in
theorem z1_Law_shedBy {p : Program} {l : Launch} {e : Env} {s : State} {m : MethodId} {args : Array Value} {below : List Frame} {meth : Method} {c : Code} {D : va_G} {cy : Nat → ClassId} {K : Nat} {q_t q_t_shed q_t_hold q_t_common q_t_alikes : Nat} {v_t_shed : Nat → Int32} {v_t_hold : Nat → Int32} {v_t_common : Nat → Int32} {v_t_alikes : Nat → Int32} {v_t_wash : Int32} {v_t_pass : Int32} {v_t_take : Int32} {v_t_clauses : Int32} {out : Int32} (C : VC p s m args c cX5_shedBy RX5 4 D cy (va_A [ob q_t 5 [.ref q_t_shed, .ref q_t_hold, .ref q_t_common, .ref q_t_alikes, .int v_t_wash, .int v_t_pass, .int v_t_take, .int v_t_clauses], aI cy q_t_shed 80 v_t_shed, aI cy q_t_hold 10 v_t_hold, aI cy q_t_common 10 v_t_common, aI cy q_t_alikes 10 v_t_alikes] s.heap.size)) (hr : meth.sig.returnType = (some .int)) (hlk : meth.locks = false) (n : Nat) (ih : Z_Law_shedBy (V p l e rm_Law_shedBy s m args below meth c (EQ below args s rm_Law_shedBy D [ob q_t 5 [.ref q_t_shed, .ref q_t_hold, .ref q_t_common, .ref q_t_alikes, .int v_t_wash, .int v_t_pass, .int v_t_take, .int v_t_clauses], aI cy q_t_shed 80 v_t_shed, aI cy q_t_hold 10 v_t_hold, aI cy q_t_common 10 v_t_common, aI cy q_t_alikes 10 v_t_alikes] (some (.int out)) [ob q_t 5 [.ref q_t_shed, .ref q_t_hold, .ref q_t_common, .ref q_t_alikes, .int v_t_wash, .int v_t_pass, .int v_t_take, .int v_t_clauses], aI cy q_t_shed 80 v_t_shed, aI cy q_t_hold 10 v_t_hold, aI cy q_t_common 10 v_t_common, aI cy q_t_alikes 10 v_t_alikes]) 4 D (va_A [ob q_t 5 [.ref q_t_shed, .ref q_t_hold, .ref q_t_common, .ref q_t_alikes, .int v_t_wash, .int v_t_pass, .int v_t_take, .int v_t_clauses], aI cy q_t_shed 80 v_t_shed, aI cy q_t_hold 10 v_t_hold, aI cy q_t_common 10 v_t_common, aI cy q_t_alikes 10 v_t_alikes] s.heap.size) 0 0) cy K n q_t q_t_shed q_t_hold q_t_common q_t_alikes  v_t_shed v_t_hold v_t_common v_t_alikes v_t_wash v_t_pass v_t_take v_t_clauses out) : Z1_Law_shedBy (V p l e rm_Law_shedBy s m args below meth c (EQ below args s rm_Law_shedBy D [ob q_t 5 [.ref q_t_shed, .ref q_t_hold, .ref q_t_common, .ref q_t_alikes, .int v_t_wash, .int v_t_pass, .int v_t_take, .int v_t_clauses], aI cy q_t_shed 80 v_t_shed, aI cy q_t_hold 10 v_t_hold, aI cy q_t_common 10 v_t_common, aI cy q_t_alikes 10 v_t_alikes] (some (.int out)) [ob q_t 5 [.ref q_t_shed, .ref q_t_hold, .ref q_t_common, .ref q_t_alikes, .int v_t_wash, .int v_t_pass, .int v_t_take, .int v_t_clauses], aI cy q_t_shed 80 v_t_shed, aI cy q_t_hold 10 v_t_hold, aI cy q_t_common 10 v_t_common, aI cy q_t_alikes 10 v_t_alikes]) 4 D (va_A [ob q_t 5 [.ref q_t_shed, .ref q_t_hold, .ref q_t_common, .ref q_t_alikes, .int v_t_wash, .int v_t_pass, .int v_t_take, .int v_t_clauses], aI cy q_t_shed 80 v_t_shed, aI cy q_t_hold 10 v_t_hold, aI cy q_t_common 10 v_t_common, aI cy q_t_alikes 10 v_t_alikes] s.heap.size) 0 0) cy K (n + 1) q_t q_t_shed q_t_hold q_t_common q_t_alikes  v_t_shed v_t_hold v_t_common v_t_alikes v_t_wash v_t_pass v_t_take v_t_clauses out := by
  intro x1 x2 y0 hf
  replace hf := hf
  refine v_istore_n (lv' := [(3, .int y0), (0, .ref q_t), (1, .int x1), (2, .int x2)]) C dX5_shedBy_25 rfl (by decide) rfl ?_
  refine v_iload_n C dX5_shedBy_26 0 rfl rfl ?_
  refine v_if_eq (tgt := 44) C dX5_shedBy_27 (by decide) (fun c1 => ?_) (fun c1 => ?_)
  · replace hf := (if_pos c1).symm.trans hf
    refine v_iconst (v := 0) C dX5_shedBy_44 (by decide) ?_
    obtain rfl := Option.some.inj hf
    exact v_iret C hr hlk dX5_shedBy_45 rfl rfl rfl rfl
  · replace hf := (if_neg c1).symm.trans hf
    refine v_aload_n C dX5_shedBy_30 1 rfl rfl ?_
    refine v_get C fl_X5_9 0 rfl rfl dX5_shedBy_31 ?_
    refine v_iload_n C dX5_shedBy_34 2 rfl rfl ?_
    refine v_bipush (v := 10) C dX5_shedBy_35 (by decide) ?_
    refine v_imul C dX5_shedBy_37 ?_
    refine v_iload_n C dX5_shedBy_38 3 rfl rfl ?_
    refine v_iadd C dX5_shedBy_39 ?_
    obtain ⟨g2, hf⟩ := gd_ hf
    refine v_iald C 1 rfl g2 dX5_shedBy_40 ?_
    refine v_goto (tgt := 45) C dX5_shedBy_41 (by decide) ?_
    obtain rfl := Option.some.inj hf
    exact v_iret C hr hlk dX5_shedBy_45 rfl rfl rfl rfl
theorem z_Law_shedBy {p : Program} {l : Launch} {e : Env} {s : State} {m : MethodId} {args : Array Value} {below : List Frame} {meth : Method} {c : Code} {D : va_G} {cy : Nat → ClassId} {K : Nat} {q_t q_t_shed q_t_hold q_t_common q_t_alikes : Nat} {v_t_shed : Nat → Int32} {v_t_hold : Nat → Int32} {v_t_common : Nat → Int32} {v_t_alikes : Nat → Int32} {v_t_wash : Int32} {v_t_pass : Int32} {v_t_take : Int32} {v_t_clauses : Int32} {out : Int32} (C : VC p s m args c cX5_shedBy RX5 4 D cy (va_A [ob q_t 5 [.ref q_t_shed, .ref q_t_hold, .ref q_t_common, .ref q_t_alikes, .int v_t_wash, .int v_t_pass, .int v_t_take, .int v_t_clauses], aI cy q_t_shed 80 v_t_shed, aI cy q_t_hold 10 v_t_hold, aI cy q_t_common 10 v_t_common, aI cy q_t_alikes 10 v_t_alikes] s.heap.size)) (hr : meth.sig.returnType = (some .int)) (hlk : meth.locks = false) (n : Nat) : Z_Law_shedBy (V p l e rm_Law_shedBy s m args below meth c (EQ below args s rm_Law_shedBy D [ob q_t 5 [.ref q_t_shed, .ref q_t_hold, .ref q_t_common, .ref q_t_alikes, .int v_t_wash, .int v_t_pass, .int v_t_take, .int v_t_clauses], aI cy q_t_shed 80 v_t_shed, aI cy q_t_hold 10 v_t_hold, aI cy q_t_common 10 v_t_common, aI cy q_t_alikes 10 v_t_alikes] (some (.int out)) [ob q_t 5 [.ref q_t_shed, .ref q_t_hold, .ref q_t_common, .ref q_t_alikes, .int v_t_wash, .int v_t_pass, .int v_t_take, .int v_t_clauses], aI cy q_t_shed 80 v_t_shed, aI cy q_t_hold 10 v_t_hold, aI cy q_t_common 10 v_t_common, aI cy q_t_alikes 10 v_t_alikes]) 4 D (va_A [ob q_t 5 [.ref q_t_shed, .ref q_t_hold, .ref q_t_common, .ref q_t_alikes, .int v_t_wash, .int v_t_pass, .int v_t_take, .int v_t_clauses], aI cy q_t_shed 80 v_t_shed, aI cy q_t_hold 10 v_t_hold, aI cy q_t_common 10 v_t_common, aI cy q_t_alikes 10 v_t_alikes] s.heap.size) 0 0) cy K n q_t q_t_shed q_t_hold q_t_common q_t_alikes  v_t_shed v_t_hold v_t_common v_t_alikes v_t_wash v_t_pass v_t_take v_t_clauses out := by
  induction n with
  | zero => exact ⟨(fun _ _ _ h => nomatch h), (fun _ _ _ h => nomatch h)⟩
  | succ n ih => exact ⟨z0_Law_shedBy C hr hlk n ih, z1_Law_shedBy C hr hlk n ih⟩
set_option maxHeartbeats 4000000 in
set_option maxRecDepth 20000 in
theorem c_Law_shedBy (l : Launch) (D : va_G) (cy : Nat → ClassId) (K : Nat) (q_t q_t_shed q_t_hold q_t_common q_t_alikes : Nat) (p1 : Int32) (p2 : Int32) (v_t_shed : Nat → Int32) (v_t_hold : Nat → Int32) (v_t_common : Nat → Int32) (v_t_alikes : Nat → Int32) (v_t_wash : Int32) (v_t_pass : Int32) (v_t_take : Int32) (v_t_clauses : Int32) (out : Int32) (hf : sp_Law_shedBy K p1 p2 v_t_shed = some out) : Ct l yX5_shedBy cX5_shedBy 4 (some .int) rm_Law_shedBy D cy [.ref q_t, .int p1, .int p2] [ob q_t 5 [.ref q_t_shed, .ref q_t_hold, .ref q_t_common, .ref q_t_alikes, .int v_t_wash, .int v_t_pass, .int v_t_take, .int v_t_clauses], aI cy q_t_shed 80 v_t_shed, aI cy q_t_hold 10 v_t_hold, aI cy q_t_common 10 v_t_common, aI cy q_t_alikes 10 v_t_alikes] (some (.int out)) [ob q_t 5 [.ref q_t_shed, .ref q_t_hold, .ref q_t_common, .ref q_t_alikes, .int v_t_wash, .int v_t_pass, .int v_t_take, .int v_t_clauses], aI cy q_t_shed 80 v_t_shed, aI cy q_t_hold 10 v_t_hold, aI cy q_t_common 10 v_t_common, aI cy q_t_alikes 10 v_t_alikes] := by
  refine ct_of (by decide +kernel) (Nat.le_of_ble_eq_true rfl) (fun p e s m args below meth c C hr hlk hnm => ?_)
  unfold sp_Law_shedBy at hf
  refine v_iload_n C dX5_shedBy_0 1 rfl rfl ?_
  refine v_if_lt (tgt := 24) C dX5_shedBy_1 (by decide) (fun c1 => ?_) (fun c1 => ?_)
  · replace hf := (if_pos c1).symm.trans hf
    exact (z_Law_shedBy C hr hlk K).1 _ _ _ hf
  · replace hf := (if_neg c1).symm.trans hf
    refine v_iload_n C dX5_shedBy_4 1 rfl rfl ?_
    refine v_bipush (v := 8) C dX5_shedBy_5 (by decide) ?_
    refine v_icmp_ge (tgt := 24) C dX5_shedBy_7 (by decide) (fun c2 => ?_) (fun c2 => ?_)
    · replace hf := (if_pos c2).symm.trans hf
      exact (z_Law_shedBy C hr hlk K).1 _ _ _ hf
    · replace hf := (if_neg c2).symm.trans hf
      refine v_iload_n C dX5_shedBy_10 2 rfl rfl ?_
      refine v_if_lt (tgt := 24) C dX5_shedBy_11 (by decide) (fun c3 => ?_) (fun c3 => ?_)
      · replace hf := (if_pos c3).symm.trans hf
        exact (z_Law_shedBy C hr hlk K).1 _ _ _ hf
      · replace hf := (if_neg c3).symm.trans hf
        refine v_iload_n C dX5_shedBy_14 2 rfl rfl ?_
        refine v_bipush (v := 10) C dX5_shedBy_15 (by decide) ?_
        refine v_icmp_ge (tgt := 24) C dX5_shedBy_17 (by decide) (fun c4 => ?_) (fun c4 => ?_)
        · replace hf := (if_pos c4).symm.trans hf
          exact (z_Law_shedBy C hr hlk K).1 _ _ _ hf
        · replace hf := (if_neg c4).symm.trans hf
          refine v_iconst (v := 1) C dX5_shedBy_20 (by decide) ?_
          refine v_goto (tgt := 25) C dX5_shedBy_21 (by decide) ?_
          exact (z_Law_shedBy C hr hlk K).2 _ _ _ hf

abbrev rm_Law_holdOf : Room := { frames := 1, cells := 0, slots := 0, locals := 21 }
def sp_Law_holdOf (K : Nat) (p1 : Int32) (v_t_hold : Nat → Int32) : Option (Int32) :=
  (sp_within K p1 10).bind fun o3 =>
    if o3 = 0 then
      some 16
    else
      if inb p1 10 then
        some (v_t_hold p1.toNatClampNeg)
      else none
set_option maxHeartbeats 4000000 in
set_option maxRecDepth 20000 in
theorem c_Law_holdOf (l : Launch) (D : va_G) (cy : Nat → ClassId) (K : Nat) (q_t q_t_shed q_t_hold q_t_common q_t_alikes : Nat) (p1 : Int32) (v_t_shed : Nat → Int32) (v_t_hold : Nat → Int32) (v_t_common : Nat → Int32) (v_t_alikes : Nat → Int32) (v_t_wash : Int32) (v_t_pass : Int32) (v_t_take : Int32) (v_t_clauses : Int32) (out : Int32) (hf : sp_Law_holdOf K p1 v_t_hold = some out) : Ct l yX5_holdOf cX5_holdOf 2 (some .int) rm_Law_holdOf D cy [.ref q_t, .int p1] [ob q_t 5 [.ref q_t_shed, .ref q_t_hold, .ref q_t_common, .ref q_t_alikes, .int v_t_wash, .int v_t_pass, .int v_t_take, .int v_t_clauses], aI cy q_t_shed 80 v_t_shed, aI cy q_t_hold 10 v_t_hold, aI cy q_t_common 10 v_t_common, aI cy q_t_alikes 10 v_t_alikes] (some (.int out)) [ob q_t 5 [.ref q_t_shed, .ref q_t_hold, .ref q_t_common, .ref q_t_alikes, .int v_t_wash, .int v_t_pass, .int v_t_take, .int v_t_clauses], aI cy q_t_shed 80 v_t_shed, aI cy q_t_hold 10 v_t_hold, aI cy q_t_common 10 v_t_common, aI cy q_t_alikes 10 v_t_alikes] := by
  refine ct_of (by decide +kernel) (Nat.le_of_ble_eq_true rfl) (fun p e s m args below meth c C hr hlk hnm => ?_)
  unfold sp_Law_holdOf at hf
  refine v_iload_n C dX5_holdOf_0 1 rfl rfl ?_
  refine v_bipush (v := 10) C dX5_holdOf_1 (by decide) ?_
  obtain ⟨o3, g1, hf⟩ := bd_ hf
  refine v_callN0 (As := [.int p1, .int 10]) (st := []) (stk' := [.int o3]) C (c_within l D cy K   p1 10 o3 g1) ln_X5_46 rfl (by decide) rfl dX5_holdOf_3 (Nat.le_of_ble_eq_true rfl) rfl ?_
  refine v_if_eq (tgt := 18) C dX5_holdOf_6 (by decide) (fun c2 => ?_) (fun c2 => ?_)
  · replace hf := (if_pos c2).symm.trans hf
    refine v_bipush (v := 16) C dX5_holdOf_18 (by decide) ?_
    obtain rfl := Option.some.inj hf
    exact v_iret C hr hlk dX5_holdOf_20 rfl rfl rfl rfl
  · replace hf := (if_neg c2).symm.trans hf
    refine v_aload_n C dX5_holdOf_9 0 rfl rfl ?_
    refine v_get C fl_X5_15 0 rfl rfl dX5_holdOf_10 ?_
    refine v_iload_n C dX5_holdOf_13 1 rfl rfl ?_
    obtain ⟨g3, hf⟩ := gd_ hf
    refine v_iald C 2 rfl g3 dX5_holdOf_14 ?_
    refine v_goto (tgt := 20) C dX5_holdOf_15 (by decide) ?_
    obtain rfl := Option.some.inj hf
    exact v_iret C hr hlk dX5_holdOf_20 rfl rfl rfl rfl

abbrev rm_Law_commonOf : Room := { frames := 1, cells := 0, slots := 0, locals := 21 }
def sp_Law_commonOf (K : Nat) (p1 : Int32) (v_t_common : Nat → Int32) : Option (Int32) :=
  (sp_within K p1 10).bind fun o3 =>
    if o3 = 0 then
      some 0
    else
      if inb p1 10 then
        some (v_t_common p1.toNatClampNeg)
      else none
set_option maxHeartbeats 4000000 in
set_option maxRecDepth 20000 in
theorem c_Law_commonOf (l : Launch) (D : va_G) (cy : Nat → ClassId) (K : Nat) (q_t q_t_shed q_t_hold q_t_common q_t_alikes : Nat) (p1 : Int32) (v_t_shed : Nat → Int32) (v_t_hold : Nat → Int32) (v_t_common : Nat → Int32) (v_t_alikes : Nat → Int32) (v_t_wash : Int32) (v_t_pass : Int32) (v_t_take : Int32) (v_t_clauses : Int32) (out : Int32) (hf : sp_Law_commonOf K p1 v_t_common = some out) : Ct l yX5_commonOf cX5_commonOf 2 (some .int) rm_Law_commonOf D cy [.ref q_t, .int p1] [ob q_t 5 [.ref q_t_shed, .ref q_t_hold, .ref q_t_common, .ref q_t_alikes, .int v_t_wash, .int v_t_pass, .int v_t_take, .int v_t_clauses], aI cy q_t_shed 80 v_t_shed, aI cy q_t_hold 10 v_t_hold, aI cy q_t_common 10 v_t_common, aI cy q_t_alikes 10 v_t_alikes] (some (.int out)) [ob q_t 5 [.ref q_t_shed, .ref q_t_hold, .ref q_t_common, .ref q_t_alikes, .int v_t_wash, .int v_t_pass, .int v_t_take, .int v_t_clauses], aI cy q_t_shed 80 v_t_shed, aI cy q_t_hold 10 v_t_hold, aI cy q_t_common 10 v_t_common, aI cy q_t_alikes 10 v_t_alikes] := by
  refine ct_of (by decide +kernel) (Nat.le_of_ble_eq_true rfl) (fun p e s m args below meth c C hr hlk hnm => ?_)
  unfold sp_Law_commonOf at hf
  refine v_iload_n C dX5_commonOf_0 1 rfl rfl ?_
  refine v_bipush (v := 10) C dX5_commonOf_1 (by decide) ?_
  obtain ⟨o3, g1, hf⟩ := bd_ hf
  refine v_callN0 (As := [.int p1, .int 10]) (st := []) (stk' := [.int o3]) C (c_within l D cy K   p1 10 o3 g1) ln_X5_46 rfl (by decide) rfl dX5_commonOf_3 (Nat.le_of_ble_eq_true rfl) rfl ?_
  refine v_if_eq (tgt := 18) C dX5_commonOf_6 (by decide) (fun c2 => ?_) (fun c2 => ?_)
  · replace hf := (if_pos c2).symm.trans hf
    refine v_iconst (v := 0) C dX5_commonOf_18 (by decide) ?_
    obtain rfl := Option.some.inj hf
    exact v_iret C hr hlk dX5_commonOf_19 rfl rfl rfl rfl
  · replace hf := (if_neg c2).symm.trans hf
    refine v_aload_n C dX5_commonOf_9 0 rfl rfl ?_
    refine v_get C fl_X5_18 0 rfl rfl dX5_commonOf_10 ?_
    refine v_iload_n C dX5_commonOf_13 1 rfl rfl ?_
    obtain ⟨g3, hf⟩ := gd_ hf
    refine v_iald C 3 rfl g3 dX5_commonOf_14 ?_
    refine v_goto (tgt := 19) C dX5_commonOf_15 (by decide) ?_
    obtain rfl := Option.some.inj hf
    exact v_iret C hr hlk dX5_commonOf_19 rfl rfl rfl rfl

abbrev rm_Law_alikeWith : Room := { frames := 1, cells := 0, slots := 0, locals := 21 }
def sp_Law_alikeWith (K : Nat) (p1 : Int32) (v_t_alikes : Nat → Int32) : Option (Int32) :=
  (sp_within K p1 10).bind fun o3 =>
    if o3 = 0 then
      some 0
    else
      if inb p1 10 then
        some (v_t_alikes p1.toNatClampNeg)
      else none
set_option maxHeartbeats 4000000 in
set_option maxRecDepth 20000 in
theorem c_Law_alikeWith (l : Launch) (D : va_G) (cy : Nat → ClassId) (K : Nat) (q_t q_t_shed q_t_hold q_t_common q_t_alikes : Nat) (p1 : Int32) (v_t_shed : Nat → Int32) (v_t_hold : Nat → Int32) (v_t_common : Nat → Int32) (v_t_alikes : Nat → Int32) (v_t_wash : Int32) (v_t_pass : Int32) (v_t_take : Int32) (v_t_clauses : Int32) (out : Int32) (hf : sp_Law_alikeWith K p1 v_t_alikes = some out) : Ct l yX5_alikeWith cX5_alikeWith 2 (some .int) rm_Law_alikeWith D cy [.ref q_t, .int p1] [ob q_t 5 [.ref q_t_shed, .ref q_t_hold, .ref q_t_common, .ref q_t_alikes, .int v_t_wash, .int v_t_pass, .int v_t_take, .int v_t_clauses], aI cy q_t_shed 80 v_t_shed, aI cy q_t_hold 10 v_t_hold, aI cy q_t_common 10 v_t_common, aI cy q_t_alikes 10 v_t_alikes] (some (.int out)) [ob q_t 5 [.ref q_t_shed, .ref q_t_hold, .ref q_t_common, .ref q_t_alikes, .int v_t_wash, .int v_t_pass, .int v_t_take, .int v_t_clauses], aI cy q_t_shed 80 v_t_shed, aI cy q_t_hold 10 v_t_hold, aI cy q_t_common 10 v_t_common, aI cy q_t_alikes 10 v_t_alikes] := by
  refine ct_of (by decide +kernel) (Nat.le_of_ble_eq_true rfl) (fun p e s m args below meth c C hr hlk hnm => ?_)
  unfold sp_Law_alikeWith at hf
  refine v_iload_n C dX5_alikeWith_0 1 rfl rfl ?_
  refine v_bipush (v := 10) C dX5_alikeWith_1 (by decide) ?_
  obtain ⟨o3, g1, hf⟩ := bd_ hf
  refine v_callN0 (As := [.int p1, .int 10]) (st := []) (stk' := [.int o3]) C (c_within l D cy K   p1 10 o3 g1) ln_X5_46 rfl (by decide) rfl dX5_alikeWith_3 (Nat.le_of_ble_eq_true rfl) rfl ?_
  refine v_if_eq (tgt := 18) C dX5_alikeWith_6 (by decide) (fun c2 => ?_) (fun c2 => ?_)
  · replace hf := (if_pos c2).symm.trans hf
    refine v_iconst (v := 0) C dX5_alikeWith_18 (by decide) ?_
    obtain rfl := Option.some.inj hf
    exact v_iret C hr hlk dX5_alikeWith_19 rfl rfl rfl rfl
  · replace hf := (if_neg c2).symm.trans hf
    refine v_aload_n C dX5_alikeWith_9 0 rfl rfl ?_
    refine v_get C fl_X5_21 0 rfl rfl dX5_alikeWith_10 ?_
    refine v_iload_n C dX5_alikeWith_13 1 rfl rfl ?_
    obtain ⟨g3, hf⟩ := gd_ hf
    refine v_iald C 4 rfl g3 dX5_alikeWith_14 ?_
    refine v_goto (tgt := 19) C dX5_alikeWith_15 (by decide) ?_
    obtain rfl := Option.some.inj hf
    exact v_iret C hr hlk dX5_alikeWith_19 rfl rfl rfl rfl
