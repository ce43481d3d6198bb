abbrev rm_Tape_append : Room := { frames := 1, cells := 0, slots := 0, locals := 21 }
def f_Tape_append (K : Nat) : Nat → Nat → Int32 × Int32 × (Nat → Int32) × Int32 → Option ((Nat → Int32) × Int32)
  | 0, _, _ => none
  | n + 1, 0, (x1, x2, v_t_bytes, v_t_size) =>
    if x2 < 0 then
      some (v_t_bytes, v_t_size)
    else
      (sp_within K v_t_size 400).bind fun o14 =>
        if o14 = 0 then
          some (v_t_bytes, v_t_size)
        else
          if inb v_t_size 400 then
            f_Tape_append K  n 0 (x1, x2 + (-8), upd v_t_bytes v_t_size.toNatClampNeg (vp_nar .byte ((x1 >>> (x2 &&& 31)).toInt8.toInt32)), v_t_size + 1)
          else none
  | _ + 1, _ + 1, _ => none
def sp_Tape_append (K : Nat) (p1 : Int32) (v_t_bytes : Nat → Int32) (v_t_size : Int32) : Option ((Nat → Int32) × Int32) :=
  f_Tape_append K  K 0 (p1, 24, v_t_bytes, v_t_size)
def Z0_Tape_append (Vf : va_W → Nat → List (Nat × Value) → List Value → Prop) (cy : Nat → ClassId) (K n : Nat) (q_t q_t_bytes : Nat) (v_t_end : Int32) (v_t_at : Int32) (v_t_start : Int32) (v_t_faultKind : Int32) (v_t_faultPlace : Int32) (out : (Nat → Int32) × Int32) : Prop := ∀ (x1 : Int32) (x2 : Int32) (v_t_bytes : Nat → Int32) (v_t_size : Int32), f_Tape_append K  n 0 (x1, x2, v_t_bytes, v_t_size) = some out → Vf [ob q_t 10 [.ref q_t_bytes, .int v_t_size, .int v_t_end, .int v_t_at, .int v_t_start, .int v_t_faultKind, .int v_t_faultPlace], aB cy q_t_bytes 400 v_t_bytes] 3 [(0, .ref q_t), (1, .int x1), (2, .int x2)] []
def Z_Tape_append (Vf : va_W → Nat → List (Nat × Value) → List Value → Prop) (cy : Nat → ClassId) (K n : Nat) (q_t q_t_bytes : Nat) (v_t_end : Int32) (v_t_at : Int32) (v_t_start : Int32) (v_t_faultKind : Int32) (v_t_faultPlace : Int32) (out : (Nat → Int32) × Int32) : Prop := Z0_Tape_append Vf cy K n q_t q_t_bytes  v_t_end v_t_at v_t_start v_t_faultKind v_t_faultPlace out
set_option maxHeartbeats 4000000 in
set_option maxRecDepth 20000 in
theorem z0_Tape_append {p : Program} {l : Launch} {e : Env} {s : State} {m : MethodId} {args : Array Value} {below : List Frame} {meth : Method} {c : Code} {D : va_G} {cy : Nat → ClassId} {K : Nat} {q_t q_t_bytes : Nat} {v_t_end : Int32} {v_t_at : Int32} {v_t_start : Int32} {v_t_faultKind : Int32} {v_t_faultPlace : Int32} {v_t_bytes' : Nat → Int32} {v_t_size' : Int32} {out : (Nat → Int32) × Int32} (C : VC p s m args c cX10_append RX10 3 D cy (va_A [ob q_t 10 [.ref q_t_bytes, .int v_t_size', .int v_t_end, .int v_t_at, .int v_t_start, .int v_t_faultKind, .int v_t_faultPlace], aB cy q_t_bytes 400 v_t_bytes'] s.heap.size)) (hr : meth.sig.returnType = none) (hlk : meth.locks = false) (n : Nat) (ih : Z_Tape_append (V p l e rm_Tape_append s m args below meth c (EQ below args s rm_Tape_append D [ob q_t 10 [.ref q_t_bytes, .int v_t_size', .int v_t_end, .int v_t_at, .int v_t_start, .int v_t_faultKind, .int v_t_faultPlace], aB cy q_t_bytes 400 v_t_bytes'] none [ob q_t 10 [.ref q_t_bytes, .int out.2, .int v_t_end, .int v_t_at, .int v_t_start, .int v_t_faultKind, .int v_t_faultPlace], aB cy q_t_bytes 400 out.1]) 3 D (va_A [ob q_t 10 [.ref q_t_bytes, .int v_t_size', .int v_t_end, .int v_t_at, .int v_t_start, .int v_t_faultKind, .int v_t_faultPlace], aB cy q_t_bytes 400 v_t_bytes'] s.heap.size) 0 0) cy K n q_t q_t_bytes  v_t_end v_t_at v_t_start v_t_faultKind v_t_faultPlace out) : Z0_Tape_append (V p l e rm_Tape_append s m args below meth c (EQ below args s rm_Tape_append D [ob q_t 10 [.ref q_t_bytes, .int v_t_size', .int v_t_end, .int v_t_at, .int v_t_start, .int v_t_faultKind, .int v_t_faultPlace], aB cy q_t_bytes 400 v_t_bytes'] none [ob q_t 10 [.ref q_t_bytes, .int out.2, .int v_t_end, .int v_t_at, .int v_t_start, .int v_t_faultKind, .int v_t_faultPlace], aB cy q_t_bytes 400 out.1]) 3 D (va_A [ob q_t 10 [.ref q_t_bytes, .int v_t_size', .int v_t_end, .int v_t_at, .int v_t_start, .int v_t_faultKind, .int v_t_faultPlace], aB cy q_t_bytes 400 v_t_bytes'] s.heap.size) 0 0) cy K (n + 1) q_t q_t_bytes  v_t_end v_t_at v_t_start v_t_faultKind v_t_faultPlace out := by
  intro x1 x2 v_t_bytes v_t_size hf
  replace hf := hf
  refine v_iload_n C dX10_append_3 2 rfl rfl ?_
  refine v_if_lt (tgt := 49) C dX10_append_4 (by decide) (fun c1 => ?_) (fun c1 => ?_)
  · replace hf := (if_pos c1).symm.trans hf
    obtain rfl := Option.some.inj hf
    exact v_vret C hr hlk dX10_append_49 rfl rfl rfl rfl
  · replace hf := (if_neg c1).symm.trans hf
    refine v_aload_n C dX10_append_7 0 rfl rfl ?_
    refine v_get C fl_X10_19 0 rfl rfl dX10_append_8 ?_
    refine v_sipush (v := 400) C dX10_append_11 (by decide) ?_
    obtain ⟨o14, g2, hf⟩ := bd_ hf
    refine v_callN0 (As := [.int v_t_size, .int 400]) (st := []) (stk' := [.int o14]) C (c_within l D cy K   v_t_size 400 o14 g2) ln_X10_22 rfl (by decide) rfl dX10_append_14 (Nat.le_of_ble_eq_true rfl) rfl ?_
    refine v_if_eq (tgt := 49) C dX10_append_17 (by decide) (fun c3 => ?_) (fun c3 => ?_)
    · replace hf := (if_pos c3).symm.trans hf
      obtain rfl := Option.some.inj hf
      exact v_vret C hr hlk dX10_append_49 rfl rfl rfl rfl
    · replace hf := (if_neg c3).symm.trans hf
      refine v_aload_n C dX10_append_20 0 rfl rfl ?_
      refine v_get C fl_X10_9 0 rfl rfl dX10_append_21 ?_
      refine v_aload_n C dX10_append_24 0 rfl rfl ?_
      refine v_get C fl_X10_19 0 rfl rfl dX10_append_25 ?_
      refine v_iload_n C dX10_append_28 1 rfl rfl ?_
      refine v_iload_n C dX10_append_29 2 rfl rfl ?_
      refine v_ishr C dX10_append_30 ?_
      refine v_i2b C dX10_append_31 ?_
      obtain ⟨g4, hf⟩ := gd_ hf
      refine v_bast (ws' := [ob q_t 10 [.ref q_t_bytes, .int v_t_size, .int v_t_end, .int v_t_at, .int v_t_start, .int v_t_faultKind, .int v_t_faultPlace], aB cy q_t_bytes 400 (upd v_t_bytes v_t_size.toNatClampNeg (vp_nar .byte ((x1 >>> (x2 &&& 31)).toInt8.toInt32)))]) C 1 rfl g4 rfl dX10_append_32 ?_
      refine v_aload_n C dX10_append_33 0 rfl rfl ?_
      refine v_dup C dX10_append_34 rfl ?_
      refine v_get C fl_X10_19 0 rfl rfl dX10_append_35 ?_
      refine v_iconst (v := 1) C dX10_append_38 (by decide) ?_
      refine v_iadd C dX10_append_39 ?_
      refine v_put (ws' := [ob q_t 10 [.ref q_t_bytes, .int (v_t_size + 1), .int v_t_end, .int v_t_at, .int v_t_start, .int v_t_faultKind, .int v_t_faultPlace], aB cy q_t_bytes 400 (upd v_t_bytes v_t_size.toNatClampNeg (vp_nar .byte ((x1 >>> (x2 &&& 31)).toInt8.toInt32)))]) C fp_X10_19 0 rfl rfl rfl (Nat.le_of_ble_eq_true rfl) rfl dX10_append_40 ?_
      refine v_iinc (v := x2 + (-8)) (lv' := [(2, .int (x2 + (-8))), (0, .ref q_t), (1, .int x1)]) C dX10_append_43 2 rfl rfl (by decide) rfl ?_
      refine v_goto (tgt := 3) C dX10_append_46 (by decide) ?_
      refine v_lv (lv' := [(0, .ref q_t), (1, .int x1), (2, .int (x2 + (-8)))]) [1, 2, 0] rfl ?_
      exact ih _ _ _ _ hf
theorem z_Tape_append {p : Program} {l : Launch} {e : Env} {s : State} {m : MethodId} {args : Array Value} {below : List Frame} {meth : Method} {c : Code} {D : va_G} {cy : Nat → ClassId} {K : Nat} {q_t q_t_bytes : Nat} {v_t_end : Int32} {v_t_at : Int32} {v_t_start : Int32} {v_t_faultKind : Int32} {v_t_faultPlace : Int32} {v_t_bytes' : Nat → Int32} {v_t_size' : Int32} {out : (Nat → Int32) × Int32} (C : VC p s m args c cX10_append RX10 3 D cy (va_A [ob q_t 10 [.ref q_t_bytes, .int v_t_size', .int v_t_end, .int v_t_at, .int v_t_start, .int v_t_faultKind, .int v_t_faultPlace], aB cy q_t_bytes 400 v_t_bytes'] s.heap.size)) (hr : meth.sig.returnType = none) (hlk : meth.locks = false) (n : Nat) : Z_Tape_append (V p l e rm_Tape_append s m args below meth c (EQ below args s rm_Tape_append D [ob q_t 10 [.ref q_t_bytes, .int v_t_size', .int v_t_end, .int v_t_at, .int v_t_start, .int v_t_faultKind, .int v_t_faultPlace], aB cy q_t_bytes 400 v_t_bytes'] none [ob q_t 10 [.ref q_t_bytes, .int out.2, .int v_t_end, .int v_t_at, .int v_t_start, .int v_t_faultKind, .int v_t_faultPlace], aB cy q_t_bytes 400 out.1]) 3 D (va_A [ob q_t 10 [.ref q_t_bytes, .int v_t_size', .int v_t_end, .int v_t_at, .int v_t_start, .int v_t_faultKind, .int v_t_faultPlace], aB cy q_t_bytes 400 v_t_bytes'] s.heap.size) 0 0) cy K n q_t q_t_bytes  v_t_end v_t_at v_t_start v_t_faultKind v_t_faultPlace out := by
  induction n with
  | zero => exact fun _ _ _ _ h => nomatch h
  | succ n ih => exact z0_Tape_append C hr hlk n ih
set_option maxHeartbeats 4000000 in
set_option maxRecDepth 20000 in
theorem c_Tape_append (l : Launch) (D : va_G) (cy : Nat → ClassId) (K : Nat) (q_t q_t_bytes : Nat) (p1 : Int32) (v_t_bytes : Nat → Int32) (v_t_size : Int32) (v_t_end : Int32) (v_t_at : Int32) (v_t_start : Int32) (v_t_faultKind : Int32) (v_t_faultPlace : Int32) (out : (Nat → Int32) × Int32) (hf : sp_Tape_append K p1 v_t_bytes v_t_size = some out) : Ct l yX10_append cX10_append 3 none rm_Tape_append D cy [.ref q_t, .int p1] [ob q_t 10 [.ref q_t_bytes, .int v_t_size, .int v_t_end, .int v_t_at, .int v_t_start, .int v_t_faultKind, .int v_t_faultPlace], aB cy q_t_bytes 400 v_t_bytes] none [ob q_t 10 [.ref q_t_bytes, .int out.2, .int v_t_end, .int v_t_at, .int v_t_start, .int v_t_faultKind, .int v_t_faultPlace], aB cy q_t_bytes 400 out.1] := by
  refine ct_of (by decide +kernel) (Nat.le_of_ble_eq_true rfl) (fun p e s m args below meth c C hr hlk hnm => ?_)
  unfold sp_Tape_append at hf
  refine v_bipush (v := 24) C dX10_append_0 (by decide) ?_
  refine v_istore_n (lv' := [(2, .int 24), (0, .ref q_t), (1, .int p1)]) C dX10_append_2 rfl (by decide) rfl ?_
  refine v_lv (lv' := [(0, .ref q_t), (1, .int p1), (2, .int 24)]) [1, 2, 0] rfl ?_
  exact (z_Tape_append C hr hlk K) _ _ _ _ hf

abbrev rm_Tape_open : Room := { frames := 1, cells := 0, slots := 0, locals := 15 }
def sp_Tape_open (K : Nat) (p1 : Int32) (v_t_size : Int32) (v_t_end : Int32) (v_t_at : Int32) (v_t_start : Int32) (v_t_faultKind : Int32) (v_t_faultPlace : Int32) : Option (Int32 × Int32 × Int32 × Int32 × Int32 × Int32) :=
  some (0, if 0 < (if 400 < p1 then 400 else p1) then (if 400 < p1 then 400 else p1) else 0, 0, 0, 0, (-1))
set_option maxHeartbeats 4000000 in
set_option maxRecDepth 20000 in
theorem c_Tape_open (l : Launch) (D : va_G) (cy : Nat → ClassId) (K : Nat) (q_t q_t_bytes : Nat) (p1 : Int32) (v_t_bytes : Nat → Int32) (v_t_size : Int32) (v_t_end : Int32) (v_t_at : Int32) (v_t_start : Int32) (v_t_faultKind : Int32) (v_t_faultPlace : Int32) (out : Int32 × Int32 × Int32 × Int32 × Int32 × Int32) (hf : sp_Tape_open K p1 v_t_size v_t_end v_t_at v_t_start v_t_faultKind v_t_faultPlace = some out) : Ct l yX10_open cX10_open 2 none rm_Tape_open D cy [.ref q_t, .int p1] [ob q_t 10 [.ref q_t_bytes, .int v_t_size, .int v_t_end, .int v_t_at, .int v_t_start, .int v_t_faultKind, .int v_t_faultPlace], aB cy q_t_bytes 400 v_t_bytes] none [ob q_t 10 [.ref q_t_bytes, .int out.1, .int out.2.1, .int out.2.2.1, .int out.2.2.2.1, .int out.2.2.2.2.1, .int out.2.2.2.2.2], aB cy q_t_bytes 400 v_t_bytes] := by
  refine ct_of (by decide +kernel) (Nat.le_of_ble_eq_true rfl) (fun p e s m args below meth c C hr hlk hnm => ?_)
  unfold sp_Tape_open at hf
  refine v_aload_n C dX10_open_0 0 rfl rfl ?_
  refine v_iconst (v := 0) C dX10_open_1 (by decide) ?_
  refine v_iload_n C dX10_open_2 1 rfl rfl ?_
  refine v_sipush (v := 400) C dX10_open_3 (by decide) ?_
  refine v_mmin C mm_X10_26 mg_min ⟨Nat.le_of_ble_eq_true rfl, Nat.le_of_ble_eq_true rfl, Nat.le_of_ble_eq_true rfl, Nat.le_of_ble_eq_true rfl⟩ dX10_open_6 ?_
  refine v_mmax C mm_X10_32 mg_max ⟨Nat.le_of_ble_eq_true rfl, Nat.le_of_ble_eq_true rfl, Nat.le_of_ble_eq_true rfl, Nat.le_of_ble_eq_true rfl⟩ dX10_open_9 ?_
  refine v_put (ws' := [ob q_t 10 [.ref q_t_bytes, .int v_t_size, .int (if 0 < (if 400 < p1 then 400 else p1) then (if 400 < p1 then 400 else p1) else 0), .int v_t_at, .int v_t_start, .int v_t_faultKind, .int v_t_faultPlace], aB cy q_t_bytes 400 v_t_bytes]) C fp_X10_35 0 rfl rfl rfl (Nat.le_of_ble_eq_true rfl) rfl dX10_open_12 ?_
  refine v_aload_n C dX10_open_15 0 rfl rfl ?_
  refine v_iconst (v := 0) C dX10_open_16 (by decide) ?_
  refine v_put (ws' := [ob q_t 10 [.ref q_t_bytes, .int 0, .int (if 0 < (if 400 < p1 then 400 else p1) then (if 400 < p1 then 400 else p1) else 0), .int v_t_at, .int v_t_start, .int v_t_faultKind, .int v_t_faultPlace], aB cy q_t_bytes 400 v_t_bytes]) C fp_X10_19 0 rfl rfl rfl (Nat.le_of_ble_eq_true rfl) rfl dX10_open_17 ?_
  refine v_aload_n C dX10_open_20 0 rfl rfl ?_
  refine v_iconst (v := 0) C dX10_open_21 (by decide) ?_
  refine v_put (ws' := [ob q_t 10 [.ref q_t_bytes, .int 0, .int (if 0 < (if 400 < p1 then 400 else p1) then (if 400 < p1 then 400 else p1) else 0), .int 0, .int v_t_start, .int v_t_faultKind, .int v_t_faultPlace], aB cy q_t_bytes 400 v_t_bytes]) C fp_X10_38 0 rfl rfl rfl (Nat.le_of_ble_eq_true rfl) rfl dX10_open_22 ?_
  refine v_aload_n C dX10_open_25 0 rfl rfl ?_
  refine v_iconst (v := 0) C dX10_open_26 (by decide) ?_
  refine v_put (ws' := [ob q_t 10 [.ref q_t_bytes, .int 0, .int (if 0 < (if 400 < p1 then 400 else p1) then (if 400 < p1 then 400 else p1) else 0), .int 0, .int 0, .int v_t_faultKind, .int v_t_faultPlace], aB cy q_t_bytes 400 v_t_bytes]) C fp_X10_41 0 rfl rfl rfl (Nat.le_of_ble_eq_true rfl) rfl dX10_open_27 ?_
  refine v_aload_n C dX10_open_30 0 rfl rfl ?_
  refine v_iconst (v := 0) C dX10_open_31 (by decide) ?_
  refine v_put (ws' := [ob q_t 10 [.ref q_t_bytes, .int 0, .int (if 0 < (if 400 < p1 then 400 else p1) then (if 400 < p1 then 400 else p1) else 0), .int 0, .int 0, .int 0, .int v_t_faultPlace], aB cy q_t_bytes 400 v_t_bytes]) C fp_X10_44 0 rfl rfl rfl (Nat.le_of_ble_eq_true rfl) rfl dX10_open_32 ?_
  refine v_aload_n C dX10_open_35 0 rfl rfl ?_
  refine v_iconst (v := (-1)) C dX10_open_36 (by decide) ?_
  refine v_put (ws' := [ob q_t 10 [.ref q_t_bytes, .int 0, .int (if 0 < (if 400 < p1 then 400 else p1) then (if 400 < p1 then 400 else p1) else 0), .int 0, .int 0, .int 0, .int (-1)], aB cy q_t_bytes 400 v_t_bytes]) C fp_X10_15 0 rfl rfl rfl (Nat.le_of_ble_eq_true rfl) rfl dX10_open_37 ?_
  obtain rfl := Option.some.inj hf
  exact v_vret C hr hlk dX10_open_40 rfl rfl rfl rfl

abbrev rm_Tape_failed : Room := { frames := 0, cells := 0, slots := 0, locals := 0 }
def sp_Tape_failed (K : Nat) (v_t_faultKind : Int32) : Option (Int32) :=
  if v_t_faultKind = 0 then
    some 0
  else
    some 1
set_option maxHeartbeats 4000000 in
set_option maxRecDepth 20000 in
theorem c_Tape_failed (l : Launch) (D : va_G) (cy : Nat → ClassId) (K : Nat) (q_t q_t_bytes : Nat) (v_t_bytes : Nat → Int32) (v_t_size : Int32) (v_t_end : Int32) (v_t_at : Int32) (v_t_start : Int32) (v_t_faultKind : Int32) (v_t_faultPlace : Int32) (out : Int32) (hf : sp_Tape_failed K v_t_faultKind = some out) : Ct l yX10_failed cX10_failed 1 (some .boolean) rm_Tape_failed D cy [.ref q_t] [ob q_t 10 [.ref q_t_bytes, .int v_t_size, .int v_t_end, .int v_t_at, .int v_t_start, .int v_t_faultKind, .int v_t_faultPlace], aB cy q_t_bytes 400 v_t_bytes] (some (.int out)) [ob q_t 10 [.ref q_t_bytes, .int v_t_size, .int v_t_end, .int v_t_at, .int v_t_start, .int v_t_faultKind, .int v_t_faultPlace], aB cy q_t_bytes 400 v_t_bytes] := by
  refine ct_of (by decide +kernel) (Nat.le_of_ble_eq_true rfl) (fun p e s m args below meth c C hr hlk hnm => ?_)
  unfold sp_Tape_failed at hf
  refine v_aload_n C dX10_failed_0 0 rfl rfl ?_
  refine v_get C fl_X10_44 0 rfl rfl dX10_failed_1 ?_
  refine v_if_eq (tgt := 11) C dX10_failed_4 (by decide) (fun c1 => ?_) (fun c1 => ?_)
  · replace hf := (if_pos c1).symm.trans hf
    refine v_iconst (v := 0) C dX10_failed_11 (by decide) ?_
    obtain rfl := Option.some.inj hf
    exact v_zret C hr hlk rfl dX10_failed_12 rfl rfl rfl rfl
  · replace hf := (if_neg c1).symm.trans hf
    refine v_iconst (v := 1) C dX10_failed_7 (by decide) ?_
    refine v_goto (tgt := 12) C dX10_failed_8 (by decide) ?_
    obtain rfl := Option.some.inj hf
    exact v_zret C hr hlk rfl dX10_failed_12 rfl rfl rfl rfl

abbrev rm_Tape_fail : Room := { frames := 1, cells := 0, slots := 0, locals := 20 }
def sp_Tape_fail (K : Nat) (p1 : Int32) (p2 : Int32) (v_t_faultKind : Int32) (v_t_faultPlace : Int32) : Option (Int32 × Int32) :=
  (sp_Tape_failed K v_t_faultKind).bind fun o1 =>
    if o1 = 0 then
      some (p1, p2)
    else
      some (v_t_faultKind, v_t_faultPlace)
set_option maxHeartbeats 4000000 in
set_option maxRecDepth 20000 in
theorem c_Tape_fail (l : Launch) (D : va_G) (cy : Nat → ClassId) (K : Nat) (q_t q_t_bytes : Nat) (p1 : Int32) (p2 : Int32) (v_t_bytes : Nat → Int32) (v_t_size : Int32) (v_t_end : Int32) (v_t_at : Int32) (v_t_start : Int32) (v_t_faultKind : Int32) (v_t_faultPlace : Int32) (out : Int32 × Int32) (hf : sp_Tape_fail K p1 p2 v_t_faultKind v_t_faultPlace = some out) : Ct l yX10_fail cX10_fail 3 none rm_Tape_fail D cy [.ref q_t, .int p1, .int p2] [ob q_t 10 [.ref q_t_bytes, .int v_t_size, .int v_t_end, .int v_t_at, .int v_t_start, .int v_t_faultKind, .int v_t_faultPlace], aB cy q_t_bytes 400 v_t_bytes] none [ob q_t 10 [.ref q_t_bytes, .int v_t_size, .int v_t_end, .int v_t_at, .int v_t_start, .int out.1, .int out.2], aB cy q_t_bytes 400 v_t_bytes] := by
  refine ct_of (by decide +kernel) (Nat.le_of_ble_eq_true rfl) (fun p e s m args below meth c C hr hlk hnm => ?_)
  unfold sp_Tape_fail at hf
  refine v_aload_n C dX10_fail_0 0 rfl rfl ?_
  obtain ⟨o1, g1, hf⟩ := bd_ hf
  refine v_callV (As := []) (wr := []) (ws' := [ob q_t 10 [.ref q_t_bytes, .int v_t_size, .int v_t_end, .int v_t_at, .int v_t_start, .int v_t_faultKind, .int v_t_faultPlace], aB cy q_t_bytes 400 v_t_bytes]) (st := []) (stk' := [.int o1]) C (c_Tape_failed l D cy K q_t q_t_bytes  v_t_bytes v_t_size v_t_end v_t_at v_t_start v_t_faultKind v_t_faultPlace o1 g1) lv_X10_47 rfl (by decide) rfl 0 rfl rfl rfl dX10_fail_1 [0, 1] [] (by decide) rfl rfl (by decide) (by decide) (Nat.le_of_ble_eq_true rfl) rfl rfl ?_
  refine v_if_ne (tgt := 17) C dX10_fail_4 (by decide) (fun c2 => ?_) (fun c2 => ?_)
  · replace hf := (if_neg c2).symm.trans hf
    obtain rfl := Option.some.inj hf
    exact v_vret C hr hlk dX10_fail_17 rfl rfl rfl rfl
  · replace hf := (if_pos c2).symm.trans hf
    refine v_aload_n C dX10_fail_7 0 rfl rfl ?_
    refine v_iload_n C dX10_fail_8 1 rfl rfl ?_
    refine v_put (ws' := [ob q_t 10 [.ref q_t_bytes, .int v_t_size, .int v_t_end, .int v_t_at, .int v_t_start, .int p1, .int v_t_faultPlace], aB cy q_t_bytes 400 v_t_bytes]) C fp_X10_44 0 rfl rfl rfl (Nat.le_of_ble_eq_true rfl) rfl dX10_fail_9 ?_
    refine v_aload_n C dX10_fail_12 0 rfl rfl ?_
    refine v_iload_n C dX10_fail_13 2 rfl rfl ?_
    refine v_put (ws' := [ob q_t 10 [.ref q_t_bytes, .int v_t_size, .int v_t_end, .int v_t_at, .int v_t_start, .int p1, .int p2], aB cy q_t_bytes 400 v_t_bytes]) C fp_X10_15 0 rfl rfl rfl (Nat.le_of_ble_eq_true rfl) rfl dX10_fail_14 ?_
    obtain rfl := Option.some.inj hf
    exact v_vret C hr hlk dX10_fail_17 rfl rfl rfl rfl

abbrev rm_Tape_byteAt : Room := { frames := 0, cells := 0, slots := 0, locals := 0 }
def sp_Tape_byteAt (K : Nat) (p1 : Int32) (v_t_bytes : Nat → Int32) (v_t_end : Int32) : Option (Int32) :=
  if p1 < 0 then
    some (-1)
  else
    if v_t_end ≤ p1 then
      some (-1)
    else
      if 400 ≤ p1 then
        some (-1)
      else
        if inb p1 400 then
          some ((v_t_bytes p1.toNatClampNeg) &&& 255)
        else none
set_option maxHeartbeats 4000000 in
set_option maxRecDepth 20000 in
theorem c_Tape_byteAt (l : Launch) (D : va_G) (cy : Nat → ClassId) (K : Nat) (q_t q_t_bytes : Nat) (p1 : Int32) (v_t_bytes : Nat → Int32) (v_t_size : Int32) (v_t_end : Int32) (v_t_at : Int32) (v_t_start : Int32) (v_t_faultKind : Int32) (v_t_faultPlace : Int32) (out : Int32) (hf : sp_Tape_byteAt K p1 v_t_bytes v_t_end = some out) : Ct l yX10_byteAt cX10_byteAt 2 (some .int) rm_Tape_byteAt D cy [.ref q_t, .int p1] [ob q_t 10 [.ref q_t_bytes, .int v_t_size, .int v_t_end, .int v_t_at, .int v_t_start, .int v_t_faultKind, .int v_t_faultPlace], aB cy q_t_bytes 400 v_t_bytes] (some (.int out)) [ob q_t 10 [.ref q_t_bytes, .int v_t_size, .int v_t_end, .int v_t_at, .int v_t_start, .int v_t_faultKind, .int v_t_faultPlace], aB cy q_t_bytes 400 v_t_bytes] := by
  refine ct_of (by decide +kernel) (Nat.le_of_ble_eq_true rfl) (fun p e s m args below meth c C hr hlk hnm => ?_)
  unfold sp_Tape_byteAt at hf
  refine v_iload_n C dX10_byteAt_0 1 rfl rfl ?_
  refine v_if_lt (tgt := 32) C dX10_byteAt_1 (by decide) (fun c1 => ?_) (fun c1 => ?_)
  · replace hf := (if_pos c1).symm.trans hf
    refine v_iconst (v := (-1)) C dX10_byteAt_32 (by decide) ?_
    obtain rfl := Option.some.inj hf
    exact v_iret C hr hlk dX10_byteAt_33 rfl rfl rfl rfl
  · replace hf := (if_neg c1).symm.trans hf
    refine v_iload_n C dX10_byteAt_4 1 rfl rfl ?_
    refine v_aload_n C dX10_byteAt_5 0 rfl rfl ?_
    refine v_get C fl_X10_35 0 rfl rfl dX10_byteAt_6 ?_
    refine v_icmp_ge (tgt := 32) C dX10_byteAt_9 (by decide) (fun c2 => ?_) (fun c2 => ?_)
    · replace hf := (if_pos c2).symm.trans hf
      refine v_iconst (v := (-1)) C dX10_byteAt_32 (by decide) ?_
      obtain rfl := Option.some.inj hf
      exact v_iret C hr hlk dX10_byteAt_33 rfl rfl rfl rfl
    · replace hf := (if_neg c2).symm.trans hf
      refine v_iload_n C dX10_byteAt_12 1 rfl rfl ?_
      refine v_sipush (v := 400) C dX10_byteAt_13 (by decide) ?_
      refine v_icmp_ge (tgt := 32) C dX10_byteAt_16 (by decide) (fun c3 => ?_) (fun c3 => ?_)
      · replace hf := (if_pos c3).symm.trans hf
        refine v_iconst (v := (-1)) C dX10_byteAt_32 (by decide) ?_
        obtain rfl := Option.some.inj hf
        exact v_iret C hr hlk dX10_byteAt_33 rfl rfl rfl rfl
      · replace hf := (if_neg c3).symm.trans hf
        refine v_aload_n C dX10_byteAt_19 0 rfl rfl ?_
        refine v_get C fl_X10_9 0 rfl rfl dX10_byteAt_20 ?_
        refine v_iload_n C dX10_byteAt_23 1 rfl rfl ?_
        obtain ⟨g4, hf⟩ := gd_ hf
        refine v_bald C 1 rfl g4 dX10_byteAt_24 ?_
        refine v_sipush (v := 255) C dX10_byteAt_25 (by decide) ?_
        refine v_iand C dX10_byteAt_28 ?_
        refine v_goto (tgt := 33) C dX10_byteAt_29 (by decide) ?_
        obtain rfl := Option.some.inj hf
        exact v_iret C hr hlk dX10_byteAt_33 rfl rfl rfl rfl

abbrev rm_Tape_skipBlanks : Room := { frames := 1, cells := 0, slots := 0, locals := 21 }
def f_Tape_skipBlanks (K : Nat) (v_t_bytes : Nat → Int32) (v_t_end : Int32) : Nat → Nat → Int32 × Int32 → Option (Int32)
  | 0, _, _ => none
  | n + 1, 0, (x1, v_t_at) =>
    if v_t_end ≤ x1 then
      some v_t_at
    else
      (sp_Tape_byteAt K x1 v_t_bytes v_t_end).bind fun o15 =>
        if o15 = 32 then
          f_Tape_skipBlanks K v_t_bytes v_t_end n 0 (x1 + 1, x1 + 1)
        else
          some v_t_at
  | _ + 1, _ + 1, _ => none
def sp_Tape_skipBlanks (K : Nat) (v_t_bytes : Nat → Int32) (v_t_end : Int32) (v_t_at : Int32) : Option (Int32) :=
  f_Tape_skipBlanks K v_t_bytes v_t_end K 0 (v_t_at, v_t_at)
def Z0_Tape_skipBlanks (Vf : va_W → Nat → List (Nat × Value) → List Value → Prop) (cy : Nat → ClassId) (K n : Nat) (q_t q_t_bytes : Nat) (v_t_bytes : Nat → Int32) (v_t_size : Int32) (v_t_end : Int32) (v_t_start : Int32) (v_t_faultKind : Int32) (v_t_faultPlace : Int32) (out : Int32) : Prop := ∀ (x1 : Int32) (v_t_at : Int32), f_Tape_skipBlanks K v_t_bytes v_t_end n 0 (x1, v_t_at) = some out → Vf [ob q_t 10 [.ref q_t_bytes, .int v_t_size, .int v_t_end, .int v_t_at, .int v_t_start, .int v_t_faultKind, .int v_t_faultPlace], aB cy q_t_bytes 400 v_t_bytes] 5 [(0, .ref q_t), (1, .int x1)] []
def Z_Tape_skipBlanks (Vf : va_W → Nat → List (Nat × Value) → List Value → Prop) (cy : Nat → ClassId) (K n : Nat) (q_t q_t_bytes : Nat) (v_t_bytes : Nat → Int32) (v_t_size : Int32) (v_t_end : Int32) (v_t_start : Int32) (v_t_faultKind : Int32) (v_t_faultPlace : Int32) (out : Int32) : Prop := Z0_Tape_skipBlanks Vf cy K n q_t q_t_bytes  v_t_bytes v_t_size v_t_end v_t_start v_t_faultKind v_t_faultPlace out
set_option maxHeartbeats 4000000 in
set_option maxRecDepth 20000 in
theorem z0_Tape_skipBlanks {p : Program} {l : Launch} {e : Env} {s : State} {m : MethodId} {args : Array Value} {below : List Frame} {meth : Method} {c : Code} {D : va_G} {cy : Nat → ClassId} {K : Nat} {q_t q_t_bytes : Nat} {v_t_bytes : Nat → Int32} {v_t_size : Int32} {v_t_end : Int32} {v_t_start : Int32} {v_t_faultKind : Int32} {v_t_faultPlace : Int32} {v_t_at' : Int32} {out : Int32} (C : VC p s m args c cX10_skipBlanks RX10 2 D cy (va_A [ob q_t 10 [.ref q_t_bytes, .int v_t_size, .int v_t_end, .int v_t_at', .int v_t_start, .int v_t_faultKind, .int v_t_faultPlace], aB cy q_t_bytes 400 v_t_bytes] s.heap.size)) (hr : meth.sig.returnType = none) (hlk : meth.locks = false) (n : Nat) (ih : Z_Tape_skipBlanks (V p l e rm_Tape_skipBlanks s m args below meth c (EQ below args s rm_Tape_skipBlanks D [ob q_t 10 [.ref q_t_bytes, .int v_t_size, .int v_t_end, .int v_t_at', .int v_t_start, .int v_t_faultKind, .int v_t_faultPlace], aB cy q_t_bytes 400 v_t_bytes] none [ob q_t 10 [.ref q_t_bytes, .int v_t_size, .int v_t_end, .int out, .int v_t_start, .int v_t_faultKind, .int v_t_faultPlace], aB cy q_t_bytes 400 v_t_bytes]) 2 D (va_A [ob q_t 10 [.ref q_t_bytes, .int v_t_size, .int v_t_end, .int v_t_at', .int v_t_start, .int v_t_faultKind, .int v_t_faultPlace], aB cy q_t_bytes 400 v_t_bytes] s.heap.size) 0 0) cy K n q_t q_t_bytes  v_t_bytes v_t_size v_t_end v_t_start v_t_faultKind v_t_faultPlace out) : Z0_Tape_skipBlanks (V p l e rm_Tape_skipBlanks s m args below meth c (EQ below args s rm_Tape_skipBlanks D [ob q_t 10 [.ref q_t_bytes, .int v_t_size, .int v_t_end, .int v_t_at', .int v_t_start, .int v_t_faultKind, .int v_t_faultPlace], aB cy q_t_bytes 400 v_t_bytes] none [ob q_t 10 [.ref q_t_bytes, .int v_t_size, .int v_t_end, .int out, .int v_t_start, .int v_t_faultKind, .int v_t_faultPlace], aB cy q_t_bytes 400 v_t_bytes]) 2 D (va_A [ob q_t 10 [.ref q_t_bytes, .int v_t_size, .int v_t_end, .int v_t_at', .int v_t_start, .int v_t_faultKind, .int v_t_faultPlace], aB cy q_t_bytes 400 v_t_bytes] s.heap.size) 0 0) cy K (n + 1) q_t q_t_bytes  v_t_bytes v_t_size v_t_end v_t_start v_t_faultKind v_t_faultPlace out := by
  intro x1 v_t_at hf
  replace hf := hf
  refine v_iload_n C dX10_skipBlanks_5 1 rfl rfl ?_
  refine v_aload_n C dX10_skipBlanks_6 0 rfl rfl ?_
  refine v_get C fl_X10_35 0 rfl rfl dX10_skipBlanks_7 ?_
  refine v_icmp_ge (tgt := 36) C dX10_skipBlanks_10 (by decide) (fun c1 => ?_) (fun c1 => ?_)
  · replace hf := (if_pos c1).symm.trans hf
    obtain rfl := Option.some.inj hf
    exact v_vret C hr hlk dX10_skipBlanks_36 rfl rfl rfl rfl
  · replace hf := (if_neg c1).symm.trans hf
    refine v_aload_n C dX10_skipBlanks_13 0 rfl rfl ?_
    refine v_iload_n C dX10_skipBlanks_14 1 rfl rfl ?_
    obtain ⟨o15, g2, hf⟩ := bd_ hf
    refine v_callV (As := [.int x1]) (wr := []) (ws' := [ob q_t 10 [.ref q_t_bytes, .int v_t_size, .int v_t_end, .int v_t_at, .int v_t_start, .int v_t_faultKind, .int v_t_faultPlace], aB cy q_t_bytes 400 v_t_bytes]) (st := []) (stk' := [.int o15]) C (c_Tape_byteAt l D cy K q_t q_t_bytes  x1 v_t_bytes v_t_size v_t_end v_t_at v_t_start v_t_faultKind v_t_faultPlace o15 g2) lv_X10_51 rfl (by decide) rfl 0 rfl rfl rfl dX10_skipBlanks_15 [0, 1] [] (by decide) rfl rfl (by decide) (by decide) (Nat.le_of_ble_eq_true rfl) rfl rfl ?_
    refine v_bipush (v := 32) C dX10_skipBlanks_18 (by decide) ?_
    refine v_icmp_ne (tgt := 36) C dX10_skipBlanks_20 (by decide) (fun c3 => ?_) (fun c3 => ?_)
    · replace hf := (if_neg c3).symm.trans hf
      obtain rfl := Option.some.inj hf
      exact v_vret C hr hlk dX10_skipBlanks_36 rfl rfl rfl rfl
    · replace hf := (if_pos c3).symm.trans hf
      refine v_aload_n C dX10_skipBlanks_23 0 rfl rfl ?_
      refine v_iload_n C dX10_skipBlanks_24 1 rfl rfl ?_
      refine v_iconst (v := 1) C dX10_skipBlanks_25 (by decide) ?_
      refine v_iadd C dX10_skipBlanks_26 ?_
      refine v_put (ws' := [ob q_t 10 [.ref q_t_bytes, .int v_t_size, .int v_t_end, .int (x1 + 1), .int v_t_start, .int v_t_faultKind, .int v_t_faultPlace], aB cy q_t_bytes 400 v_t_bytes]) C fp_X10_38 0 rfl rfl rfl (Nat.le_of_ble_eq_true rfl) rfl dX10_skipBlanks_27 ?_
      refine v_iinc (v := x1 + 1) (lv' := [(1, .int (x1 + 1)), (0, .ref q_t)]) C dX10_skipBlanks_30 1 rfl rfl (by decide) rfl ?_
      refine v_goto (tgt := 5) C dX10_skipBlanks_33 (by decide) ?_
      refine v_lv (lv' := [(0, .ref q_t), (1, .int (x1 + 1))]) [1, 0] rfl ?_
      exact ih _ _ hf
theorem z_Tape_skipBlanks {p : Program} {l : Launch} {e : Env} {s : State} {m : MethodId} {args : Array Value} {below : List Frame} {meth : Method} {c : Code} {D : va_G} {cy : Nat → ClassId} {K : Nat} {q_t q_t_bytes : Nat} {v_t_bytes : Nat → Int32} {v_t_size : Int32} {v_t_end : Int32} {v_t_start : Int32} {v_t_faultKind : Int32} {v_t_faultPlace : Int32} {v_t_at' : Int32} {out : Int32} (C : VC p s m args c cX10_skipBlanks RX10 2 D cy (va_A [ob q_t 10 [.ref q_t_bytes, .int v_t_size, .int v_t_end, .int v_t_at', .int v_t_start, .int v_t_faultKind, .int v_t_faultPlace], aB cy q_t_bytes 400 v_t_bytes] s.heap.size)) (hr : meth.sig.returnType = none) (hlk : meth.locks = false) (n : Nat) : Z_Tape_skipBlanks (V p l e rm_Tape_skipBlanks s m args below meth c (EQ below args s rm_Tape_skipBlanks D [ob q_t 10 [.ref q_t_bytes, .int v_t_size, .int v_t_end, .int v_t_at', .int v_t_start, .int v_t_faultKind, .int v_t_faultPlace], aB cy q_t_bytes 400 v_t_bytes] none [ob q_t 10 [.ref q_t_bytes, .int v_t_size, .int v_t_end, .int out, .int v_t_start, .int v_t_faultKind, .int v_t_faultPlace], aB cy q_t_bytes 400 v_t_bytes]) 2 D (va_A [ob q_t 10 [.ref q_t_bytes, .int v_t_size, .int v_t_end, .int v_t_at', .int v_t_start, .int v_t_faultKind, .int v_t_faultPlace], aB cy q_t_bytes 400 v_t_bytes] s.heap.size) 0 0) cy K n q_t q_t_bytes  v_t_bytes v_t_size v_t_end v_t_start v_t_faultKind v_t_faultPlace out := by
  induction n with
  | zero => exact fun _ _ h => nomatch h
  | succ n ih => exact z0_Tape_skipBlanks C hr hlk n ih
set_option maxHeartbeats 4000000 in
set_option maxRecDepth 20000 in
theorem c_Tape_skipBlanks (l : Launch) (D : va_G) (cy : Nat → ClassId) (K : Nat) (q_t q_t_bytes : Nat) (v_t_bytes : Nat → Int32) (v_t_size : Int32) (v_t_end : Int32) (v_t_at : Int32) (v_t_start : Int32) (v_t_faultKind : Int32) (v_t_faultPlace : Int32) (out : Int32) (hf : sp_Tape_skipBlanks K v_t_bytes v_t_end v_t_at = some out) : Ct l yX10_skipBlanks cX10_skipBlanks 2 none rm_Tape_skipBlanks D cy [.ref q_t] [ob q_t 10 [.ref q_t_bytes, .int v_t_size, .int v_t_end, .int v_t_at, .int v_t_start, .int v_t_faultKind, .int v_t_faultPlace], aB cy q_t_bytes 400 v_t_bytes] none [ob q_t 10 [.ref q_t_bytes, .int v_t_size, .int v_t_end, .int out, .int v_t_start, .int v_t_faultKind, .int v_t_faultPlace], aB cy q_t_bytes 400 v_t_bytes] := by
  refine ct_of (by decide +kernel) (Nat.le_of_ble_eq_true rfl) (fun p e s m args below meth c C hr hlk hnm => ?_)
  unfold sp_Tape_skipBlanks at hf
  refine v_aload_n C dX10_skipBlanks_0 0 rfl rfl ?_
  refine v_get C fl_X10_38 0 rfl rfl dX10_skipBlanks_1 ?_
  refine v_istore_n (lv' := [(1, .int v_t_at), (0, .ref q_t)]) C dX10_skipBlanks_4 rfl (by decide) rfl ?_
  refine v_lv (lv' := [(0, .ref q_t), (1, .int v_t_at)]) [1, 0] rfl ?_
  exact (z_Tape_skipBlanks C hr hlk K) _ _ hf

abbrev rm_Tape_hasMore : Room := { frames := 2, cells := 0, slots := 0, locals := 42 }
def sp_Tape_hasMore (K : Nat) (v_t_bytes : Nat → Int32) (v_t_end : Int32) (v_t_at : Int32) (v_t_faultKind : Int32) : Option (Int32 × Int32) :=
  (sp_Tape_skipBlanks K v_t_bytes v_t_end v_t_at).bind fun o1 =>
    (sp_Tape_failed K v_t_faultKind).bind fun o5 =>
      if o5 = 0 then
        if v_t_end ≤ o1 then
          some (0, o1)
        else
          some (1, o1)
      else
        some (0, o1)
set_option maxHeartbeats 4000000 in
set_option maxRecDepth 20000 in
theorem c_Tape_hasMore (l : Launch) (D : va_G) (cy : Nat → ClassId) (K : Nat) (q_t q_t_bytes : Nat) (v_t_bytes : Nat → Int32) (v_t_size : Int32) (v_t_end : Int32) (v_t_at : Int32) (v_t_start : Int32) (v_t_faultKind : Int32) (v_t_faultPlace : Int32) (out : Int32 × Int32) (hf : sp_Tape_hasMore K v_t_bytes v_t_end v_t_at v_t_faultKind = some out) : Ct l yX10_hasMore cX10_hasMore 1 (some .boolean) rm_Tape_hasMore D cy [.ref q_t] [ob q_t 10 [.ref q_t_bytes, .int v_t_size, .int v_t_end, .int v_t_at, .int v_t_start, .int v_t_faultKind, .int v_t_faultPlace], aB cy q_t_bytes 400 v_t_bytes] (some (.int out.1)) [ob q_t 10 [.ref q_t_bytes, .int v_t_size, .int v_t_end, .int out.2, .int v_t_start, .int v_t_faultKind, .int v_t_faultPlace], aB cy q_t_bytes 400 v_t_bytes] := by
  refine ct_of (by decide +kernel) (Nat.le_of_ble_eq_true rfl) (fun p e s m args below meth c C hr hlk hnm => ?_)
  unfold sp_Tape_hasMore at hf
  refine v_aload_n C dX10_hasMore_0 0 rfl rfl ?_
  obtain ⟨o1, g1, hf⟩ := bd_ hf
  refine v_callV (As := []) (wr := []) (ws' := [ob q_t 10 [.ref q_t_bytes, .int v_t_size, .int v_t_end, .int o1, .int v_t_start, .int v_t_faultKind, .int v_t_faultPlace], aB cy q_t_bytes 400 v_t_bytes]) (st := []) (stk' := []) C (c_Tape_skipBlanks l D cy K q_t q_t_bytes  v_t_bytes v_t_size v_t_end v_t_at v_t_start v_t_faultKind v_t_faultPlace o1 g1) lv_X10_55 rfl (by decide) rfl 0 rfl rfl rfl dX10_hasMore_1 [0, 1] [] (by decide) rfl rfl (by decide) (by decide) (Nat.le_of_ble_eq_true rfl) rfl rfl ?_
  refine v_aload_n C dX10_hasMore_4 0 rfl rfl ?_
  obtain ⟨o5, g2, hf⟩ := bd_ hf
  refine v_callV (As := []) (wr := []) (ws' := [ob q_t 10 [.ref q_t_bytes, .int v_t_size, .int v_t_end, .int o1, .int v_t_start, .int v_t_faultKind, .int v_t_faultPlace], aB cy q_t_bytes 400 v_t_bytes]) (st := []) (stk' := [.int o5]) C (c_Tape_failed l D cy K q_t q_t_bytes  v_t_bytes v_t_size v_t_end o1 v_t_start v_t_faultKind v_t_faultPlace o5 g2) lv_X10_47 rfl (by decide) rfl 0 rfl rfl rfl dX10_hasMore_5 [0, 1] [] (by decide) rfl rfl (by decide) (by decide) (Nat.le_of_ble_eq_true rfl) rfl rfl ?_
  refine v_if_ne (tgt := 26) C dX10_hasMore_8 (by decide) (fun c3 => ?_) (fun c3 => ?_)
  · replace hf := (if_neg c3).symm.trans hf
    refine v_iconst (v := 0) C dX10_hasMore_26 (by decide) ?_
    obtain rfl := Option.some.inj hf
    exact v_zret C hr hlk rfl dX10_hasMore_27 rfl rfl rfl rfl
  · replace hf := (if_pos c3).symm.trans hf
    refine v_aload_n C dX10_hasMore_11 0 rfl rfl ?_
    refine v_get C fl_X10_38 0 rfl rfl dX10_hasMore_12 ?_
    refine v_aload_n C dX10_hasMore_15 0 rfl rfl ?_
    refine v_get C fl_X10_35 0 rfl rfl dX10_hasMore_16 ?_
    refine v_icmp_ge (tgt := 26) C dX10_hasMore_19 (by decide) (fun c4 => ?_) (fun c4 => ?_)
    · replace hf := (if_pos c4).symm.trans hf
      refine v_iconst (v := 0) C dX10_hasMore_26 (by decide) ?_
      obtain rfl := Option.some.inj hf
      exact v_zret C hr hlk rfl dX10_hasMore_27 rfl rfl rfl rfl
    · replace hf := (if_neg c4).symm.trans hf
      refine v_iconst (v := 1) C dX10_hasMore_22 (by decide) ?_
      refine v_goto (tgt := 27) C dX10_hasMore_23 (by decide) ?_
      obtain rfl := Option.some.inj hf
      exact v_zret C hr hlk rfl dX10_hasMore_27 rfl rfl rfl rfl

abbrev rm_Tape_readAll : Room := { frames := 2, cells := 0, slots := 0, locals := 42 }
def f_Tape_readAll (K : Nat) (v_t_bytes : Nat → Int32) (v_t_end : Int32) : Nat → Nat → Int32 × Int32 × Int32 × Int32 × Int32 → Option (Int32 × Int32)
  | 0, _, _ => none
  | n + 1, 0, (x1, x2, x3, v_t_at, v_t_start) =>
    if v_t_end ≤ x3 then
      some (v_t_at, v_t_start)
    else
      (sp_Tape_byteAt K x3 v_t_bytes v_t_end).bind fun o27 =>
        if o27 < x1 then
          some (v_t_at, v_t_start)
        else
          (sp_Tape_byteAt K x3 v_t_bytes v_t_end).bind fun o36 =>
            if x2 < o36 then
              some (v_t_at, v_t_start)
            else
              f_Tape_readAll K v_t_bytes v_t_end n 0 (x1, x2, x3 + 1, x3 + 1, v_t_start)
  | _ + 1, _ + 1, _ => none
def sp_Tape_readAll (K : Nat) (p1 : Int32) (p2 : Int32) (v_t_bytes : Nat → Int32) (v_t_end : Int32) (v_t_at : Int32) (v_t_start : Int32) : Option (Int32 × Int32) :=
  (sp_Tape_skipBlanks K v_t_bytes v_t_end v_t_at).bind fun o1 =>
    f_Tape_readAll K v_t_bytes v_t_end K 0 (p1, p2, o1, o1, o1)
def Z0_Tape_readAll (Vf : va_W → Nat → List (Nat × Value) → List Value → Prop) (cy : Nat → ClassId) (K n : Nat) (q_t q_t_bytes : Nat) (v_t_bytes : Nat → Int32) (v_t_size : Int32) (v_t_end : Int32) (v_t_faultKind : Int32) (v_t_faultPlace : Int32) (out : Int32 × Int32) : Prop := ∀ (x1 : Int32) (x2 : Int32) (x3 : Int32) (v_t_at : Int32) (v_t_start : Int32), f_Tape_readAll K v_t_bytes v_t_end n 0 (x1, x2, x3, v_t_at, v_t_start) = some out → Vf [ob q_t 10 [.ref q_t_bytes, .int v_t_size, .int v_t_end, .int v_t_at, .int v_t_start, .int v_t_faultKind, .int v_t_faultPlace], aB cy q_t_bytes 400 v_t_bytes] 17 [(0, .ref q_t), (1, .int x1), (2, .int x2), (3, .int x3)] []
def Z_Tape_readAll (Vf : va_W → Nat → List (Nat × Value) → List Value → Prop) (cy : Nat → ClassId) (K n : Nat) (q_t q_t_bytes : Nat) (v_t_bytes : Nat → Int32) (v_t_size : Int32) (v_t_end : Int32) (v_t_faultKind : Int32) (v_t_faultPlace : Int32) (out : Int32 × Int32) : Prop := Z0_Tape_readAll Vf cy K n q_t q_t_bytes  v_t_bytes v_t_size v_t_end v_t_faultKind v_t_faultPlace out
set_option maxHeartbeats 4000000 in
set_option maxRecDepth 20000 in
theorem z0_Tape_readAll {p : Program} {l : Launch} {e : Env} {s : State} {m : MethodId} {args : Array Value} {below : List Frame} {meth : Method} {c : Code} {D : va_G} {cy : Nat → ClassId} {K : Nat} {q_t q_t_bytes : Nat} {v_t_bytes : Nat → Int32} {v_t_size : Int32} {v_t_end : Int32} {v_t_faultKind : Int32} {v_t_faultPlace : Int32} {v_t_at' : Int32} {v_t_start' : Int32} {out : Int32 × Int32} (C : VC p s m args c cX10_readAll RX10 4 D cy (va_A [ob q_t 10 [.ref q_t_bytes, .int v_t_size, .int v_t_end, .int v_t_at', .int v_t_start', .int v_t_faultKind, .int v_t_faultPlace], aB cy q_t_bytes 400 v_t_bytes] s.heap.size)) (hr : meth.sig.returnType = none) (hlk : meth.locks = false) (n : Nat) (ih : Z_Tape_readAll (V p l e rm_Tape_readAll s m args below meth c (EQ below args s rm_Tape_readAll D [ob q_t 10 [.ref q_t_bytes, .int v_t_size, .int v_t_end, .int v_t_at', .int v_t_start', .int v_t_faultKind, .int v_t_faultPlace], aB cy q_t_bytes 400 v_t_bytes] none [ob q_t 10 [.ref q_t_bytes, .int v_t_size, .int v_t_end, .int out.1, .int out.2, .int v_t_faultKind, .int v_t_faultPlace], aB cy q_t_bytes 400 v_t_bytes]) 4 D (va_A [ob q_t 10 [.ref q_t_bytes, .int v_t_size, .int v_t_end, .int v_t_at', .int v_t_start', .int v_t_faultKind, .int v_t_faultPlace], aB cy q_t_bytes 400 v_t_bytes] s.heap.size) 0 0) cy K n q_t q_t_bytes  v_t_bytes v_t_size v_t_end v_t_faultKind v_t_faultPlace out) : Z0_Tape_readAll (V p l e rm_Tape_readAll s m args below meth c (EQ below args s rm_Tape_readAll D [ob q_t 10 [.ref q_t_bytes, .int v_t_size, .int v_t_end, .int v_t_at', .int v_t_start', .int v_t_faultKind, .int v_t_faultPlace], aB cy q_t_bytes 400 v_t_bytes] none [ob q_t 10 [.ref q_t_bytes, .int v_t_size, .int v_t_end, .int out.1, .int out.2, .int v_t_faultKind, .int v_t_faultPlace], aB cy q_t_bytes 400 v_t_bytes]) 4 D (va_A [ob q_t 10 [.ref q_t_bytes, .int v_t_size, .int v_t_end, .int v_t_at', .int v_t_start', .int v_t_faultKind, .int v_t_faultPlace], aB cy q_t_bytes 400 v_t_bytes] s.heap.size) 0 0) cy K (n + 1) q_t q_t_bytes  v_t_bytes v_t_size v_t_end v_t_faultKind v_t_faultPlace out := by
  intro x1 x2 x3 v_t_at v_t_start hf
  replace hf := hf
  refine v_iload_n C dX10_readAll_17 3 rfl rfl ?_
  refine v_aload_n C dX10_readAll_18 0 rfl rfl ?_
  refine v_get C fl_X10_35 0 rfl rfl dX10_readAll_19 ?_
  refine v_icmp_ge (tgt := 56) C dX10_readAll_22 (by decide) (fun c1 => ?_) (fun c1 => ?_)
  · replace hf := (if_pos c1).symm.trans hf
    obtain rfl := Option.some.inj hf
    exact v_vret C hr hlk dX10_readAll_56 rfl rfl rfl rfl
  · replace hf := (if_neg c1).symm.trans hf
    refine v_aload_n C dX10_readAll_25 0 rfl rfl ?_
    refine v_iload_n C dX10_readAll_26 3 rfl rfl ?_
    obtain ⟨o27, g2, hf⟩ := bd_ hf
    refine v_callV (As := [.int x3]) (wr := []) (ws' := [ob q_t 10 [.ref q_t_bytes, .int v_t_size, .int v_t_end, .int v_t_at, .int v_t_start, .int v_t_faultKind, .int v_t_faultPlace], aB cy q_t_bytes 400 v_t_bytes]) (st := []) (stk' := [.int o27]) C (c_Tape_byteAt l D cy K q_t q_t_bytes  x3 v_t_bytes v_t_size v_t_end v_t_at v_t_start v_t_faultKind v_t_faultPlace o27 g2) lv_X10_51 rfl (by decide) rfl 0 rfl rfl rfl dX10_readAll_27 [0, 1] [] (by decide) rfl rfl (by decide) (by decide) (Nat.le_of_ble_eq_true rfl) rfl rfl ?_
    refine v_iload_n C dX10_readAll_30 1 rfl rfl ?_
    refine v_icmp_lt (tgt := 56) C dX10_readAll_31 (by decide) (fun c3 => ?_) (fun c3 => ?_)
    · replace hf := (if_pos c3).symm.trans hf
      obtain rfl := Option.some.inj hf
      exact v_vret C hr hlk dX10_readAll_56 rfl rfl rfl rfl
    · replace hf := (if_neg c3).symm.trans hf
      refine v_aload_n C dX10_readAll_34 0 rfl rfl ?_
      refine v_iload_n C dX10_readAll_35 3 rfl rfl ?_
      obtain ⟨o36, g4, hf⟩ := bd_ hf
      refine v_callV (As := [.int x3]) (wr := []) (ws' := [ob q_t 10 [.ref q_t_bytes, .int v_t_size, .int v_t_end, .int v_t_at, .int v_t_start, .int v_t_faultKind, .int v_t_faultPlace], aB cy q_t_bytes 400 v_t_bytes]) (st := []) (stk' := [.int o36]) C (c_Tape_byteAt l D cy K q_t q_t_bytes  x3 v_t_bytes v_t_size v_t_end v_t_at v_t_start v_t_faultKind v_t_faultPlace o36 g4) lv_X10_51 rfl (by decide) rfl 0 rfl rfl rfl dX10_readAll_36 [0, 1] [] (by decide) rfl rfl (by decide) (by decide) (Nat.le_of_ble_eq_true rfl) rfl rfl ?_
      refine v_iload_n C dX10_readAll_39 2 rfl rfl ?_
      refine v_icmp_gt (tgt := 56) C dX10_readAll_40 (by decide) (fun c5 => ?_) (fun c5 => ?_)
      · replace hf := (if_pos c5).symm.trans hf
        obtain rfl := Option.some.inj hf
        exact v_vret C hr hlk dX10_readAll_56 rfl rfl rfl rfl
      · replace hf := (if_neg c5).symm.trans hf
        refine v_aload_n C dX10_readAll_43 0 rfl rfl ?_
        refine v_iload_n C dX10_readAll_44 3 rfl rfl ?_
        refine v_iconst (v := 1) C dX10_readAll_45 (by decide) ?_
        refine v_iadd C dX10_readAll_46 ?_
        refine v_put (ws' := [ob q_t 10 [.ref q_t_bytes, .int v_t_size, .int v_t_end, .int (x3 + 1), .int v_t_start, .int v_t_faultKind, .int v_t_faultPlace], aB cy q_t_bytes 400 v_t_bytes]) C fp_X10_38 0 rfl rfl rfl (Nat.le_of_ble_eq_true rfl) rfl dX10_readAll_47 ?_
        refine v_iinc (v := x3 + 1) (lv' := [(3, .int (x3 + 1)), (0, .ref q_t), (1, .int x1), (2, .int x2)]) C dX10_readAll_50 3 rfl rfl (by decide) rfl ?_
        refine v_goto (tgt := 17) C dX10_readAll_53 (by decide) ?_
        refine v_lv (lv' := [(0, .ref q_t), (1, .int x1), (2, .int x2), (3, .int (x3 + 1))]) [1, 2, 3, 0] rfl ?_
        exact ih _ _ _ _ _ hf
theorem z_Tape_readAll {p : Program} {l : Launch} {e : Env} {s : State} {m : MethodId} {args : Array Value} {below : List Frame} {meth : Method} {c : Code} {D : va_G} {cy : Nat → ClassId} {K : Nat} {q_t q_t_bytes : Nat} {v_t_bytes : Nat → Int32} {v_t_size : Int32} {v_t_end : Int32} {v_t_faultKind : Int32} {v_t_faultPlace : Int32} {v_t_at' : Int32} {v_t_start' : Int32} {out : Int32 × Int32} (C : VC p s m args c cX10_readAll RX10 4 D cy (va_A [ob q_t 10 [.ref q_t_bytes, .int v_t_size, .int v_t_end, .int v_t_at', .int v_t_start', .int v_t_faultKind, .int v_t_faultPlace], aB cy q_t_bytes 400 v_t_bytes] s.heap.size)) (hr : meth.sig.returnType = none) (hlk : meth.locks = false) (n : Nat) : Z_Tape_readAll (V p l e rm_Tape_readAll s m args below meth c (EQ below args s rm_Tape_readAll D [ob q_t 10 [.ref q_t_bytes, .int v_t_size, .int v_t_end, .int v_t_at', .int v_t_start', .int v_t_faultKind, .int v_t_faultPlace], aB cy q_t_bytes 400 v_t_bytes] none [ob q_t 10 [.ref q_t_bytes, .int v_t_size, .int v_t_end, .int out.1, .int out.2, .int v_t_faultKind, .int v_t_faultPlace], aB cy q_t_bytes 400 v_t_bytes]) 4 D (va_A [ob q_t 10 [.ref q_t_bytes, .int v_t_size, .int v_t_end, .int v_t_at', .int v_t_start', .int v_t_faultKind, .int v_t_faultPlace], aB cy q_t_bytes 400 v_t_bytes] s.heap.size) 0 0) cy K n q_t q_t_bytes  v_t_bytes v_t_size v_t_end v_t_faultKind v_t_faultPlace out := by
  induction n with
  | zero => exact fun _ _ _ _ _ h => nomatch h
  | succ n ih => exact z0_Tape_readAll C hr hlk n ih
set_option maxHeartbeats 4000000 in
set_option maxRecDepth 20000 in
theorem c_Tape_readAll (l : Launch) (D : va_G) (cy : Nat → ClassId) (K : Nat) (q_t q_t_bytes : Nat) (p1 : Int32) (p2 : Int32) (v_t_bytes : Nat → Int32) (v_t_size : Int32) (v_t_end : Int32) (v_t_at : Int32) (v_t_start : Int32) (v_t_faultKind : Int32) (v_t_faultPlace : Int32) (out : Int32 × Int32) (hf : sp_Tape_readAll K p1 p2 v_t_bytes v_t_end v_t_at v_t_start = some out) : Ct l yX10_readAll cX10_readAll 4 none rm_Tape_readAll D cy [.ref q_t, .int p1, .int p2] [ob q_t 10 [.ref q_t_bytes, .int v_t_size, .int v_t_end, .int v_t_at, .int v_t_start, .int v_t_faultKind, .int v_t_faultPlace], aB cy q_t_bytes 400 v_t_bytes] none [ob q_t 10 [.ref q_t_bytes, .int v_t_size, .int v_t_end, .int out.1, .int out.2, .int v_t_faultKind, .int v_t_faultPlace], aB cy q_t_bytes 400 v_t_bytes] := by
  refine ct_of (by decide +kernel) (Nat.le_of_ble_eq_true rfl) (fun p e s m args below meth c C hr hlk hnm => ?_)
  unfold sp_Tape_readAll at hf
  refine v_aload_n C dX10_readAll_0 0 rfl rfl ?_
  obtain ⟨o1, g1, hf⟩ := bd_ hf
  refine v_callV (As := []) (wr := []) (ws' := [ob q_t 10 [.ref q_t_bytes, .int v_t_size, .int v_t_end, .int o1, .int v_t_start, .int v_t_faultKind, .int v_t_faultPlace], aB cy q_t_bytes 400 v_t_bytes]) (st := []) (stk' := []) C (c_Tape_skipBlanks l D cy K q_t q_t_bytes  v_t_bytes v_t_size v_t_end v_t_at v_t_start v_t_faultKind v_t_faultPlace o1 g1) lv_X10_55 rfl (by decide) rfl 0 rfl rfl rfl dX10_readAll_1 [0, 1] [] (by decide) rfl rfl (by decide) (by decide) (Nat.le_of_ble_eq_true rfl) rfl rfl ?_
  refine v_aload_n C dX10_readAll_4 0 rfl rfl ?_
  refine v_aload_n C dX10_readAll_5 0 rfl rfl ?_
  refine v_get C fl_X10_38 0 rfl rfl dX10_readAll_6 ?_
  refine v_put (ws' := [ob q_t 10 [.ref q_t_bytes, .int v_t_size, .int v_t_end, .int o1, .int o1, .int v_t_faultKind, .int v_t_faultPlace], aB cy q_t_bytes 400 v_t_bytes]) C fp_X10_41 0 rfl rfl rfl (Nat.le_of_ble_eq_true rfl) rfl dX10_readAll_9 ?_
  refine v_aload_n C dX10_readAll_12 0 rfl rfl ?_
  refine v_get C fl_X10_38 0 rfl rfl dX10_readAll_13 ?_
  refine v_istore_n (lv' := [(3, .int o1), (0, .ref q_t), (1, .int p1), (2, .int p2)]) C dX10_readAll_16 rfl (by decide) rfl ?_
  refine v_lv (lv' := [(0, .ref q_t), (1, .int p1), (2, .int p2), (3, .int o1)]) [1, 2, 3, 0] rfl ?_
  exact (z_Tape_readAll C hr hlk K) _ _ _ _ _ hf

abbrev rm_Tape_readWord : Room := { frames := 3, cells := 0, slots := 0, locals := 65 }
def sp_Tape_readWord (K : Nat) (v_t_bytes : Nat → Int32) (v_t_end : Int32) (v_t_at : Int32) (v_t_start : Int32) (v_t_faultKind : Int32) : Option (Int32 × Int32) :=
  (sp_Tape_failed K v_t_faultKind).bind fun o1 =>
    if o1 = 0 then
      (sp_Tape_readAll K 97 122 v_t_bytes v_t_end v_t_at v_t_start).bind fun o12 =>
        some (o12.1, o12.2)
    else
      some (v_t_at, v_t_start)
set_option maxHeartbeats 4000000 in
set_option maxRecDepth 20000 in
theorem c_Tape_readWord (l : Launch) (D : va_G) (cy : Nat → ClassId) (K : Nat) (q_t q_t_bytes : Nat) (v_t_bytes : Nat → Int32) (v_t_size : Int32) (v_t_end : Int32) (v_t_at : Int32) (v_t_start : Int32) (v_t_faultKind : Int32) (v_t_faultPlace : Int32) (out : Int32 × Int32) (hf : sp_Tape_readWord K v_t_bytes v_t_end v_t_at v_t_start v_t_faultKind = some out) : Ct l yX10_readWord cX10_readWord 1 none rm_Tape_readWord D cy [.ref q_t] [ob q_t 10 [.ref q_t_bytes, .int v_t_size, .int v_t_end, .int v_t_at, .int v_t_start, .int v_t_faultKind, .int v_t_faultPlace], aB cy q_t_bytes 400 v_t_bytes] none [ob q_t 10 [.ref q_t_bytes, .int v_t_size, .int v_t_end, .int out.1, .int out.2, .int v_t_faultKind, .int v_t_faultPlace], aB cy q_t_bytes 400 v_t_bytes] := by
  refine ct_of (by decide +kernel) (Nat.le_of_ble_eq_true rfl) (fun p e s m args below meth c C hr hlk hnm => ?_)
  unfold sp_Tape_readWord at hf
  refine v_aload_n C dX10_readWord_0 0 rfl rfl ?_
  obtain ⟨o1, g1, hf⟩ := bd_ hf
  refine v_callV (As := []) (wr := []) (ws' := [ob q_t 10 [.ref q_t_bytes, .int v_t_size, .int v_t_end, .int v_t_at, .int v_t_start, .int v_t_faultKind, .int v_t_faultPlace], aB cy q_t_bytes 400 v_t_bytes]) (st := []) (stk' := [.int o1]) C (c_Tape_failed l D cy K q_t q_t_bytes  v_t_bytes v_t_size v_t_end v_t_at v_t_start v_t_faultKind v_t_faultPlace o1 g1) lv_X10_47 rfl (by decide) rfl 0 rfl rfl rfl dX10_readWord_1 [0, 1] [] (by decide) rfl rfl (by decide) (by decide) (Nat.le_of_ble_eq_true rfl) rfl rfl ?_
  refine v_if_ne (tgt := 15) C dX10_readWord_4 (by decide) (fun c2 => ?_) (fun c2 => ?_)
  · replace hf := (if_neg c2).symm.trans hf
    obtain rfl := Option.some.inj hf
    exact v_vret C hr hlk dX10_readWord_15 rfl rfl rfl rfl
  · replace hf := (if_pos c2).symm.trans hf
    refine v_aload_n C dX10_readWord_7 0 rfl rfl ?_
    refine v_bipush (v := 97) C dX10_readWord_8 (by decide) ?_
    refine v_bipush (v := 122) C dX10_readWord_10 (by decide) ?_
    obtain ⟨o12, g3, hf⟩ := bd_ hf
    refine v_callV (As := [.int 97, .int 122]) (wr := []) (ws' := [ob q_t 10 [.ref q_t_bytes, .int v_t_size, .int v_t_end, .int o12.1, .int o12.2, .int v_t_faultKind, .int v_t_faultPlace], aB cy q_t_bytes 400 v_t_bytes]) (st := []) (stk' := []) C (c_Tape_readAll l D cy K q_t q_t_bytes  97 122 v_t_bytes v_t_size v_t_end v_t_at v_t_start v_t_faultKind v_t_faultPlace o12 g3) lv_X10_58 rfl (by decide) rfl 0 rfl rfl rfl dX10_readWord_12 [0, 1] [] (by decide) rfl rfl (by decide) (by decide) (Nat.le_of_ble_eq_true rfl) rfl rfl ?_
    obtain rfl := Option.some.inj hf
    exact v_vret C hr hlk dX10_readWord_15 rfl rfl rfl rfl

abbrev rm_Tape_refuseWord : Room := { frames := 2, cells := 0, slots := 0, locals := 42 }
def sp_Tape_refuseWord (K : Nat) (p1 : Int32) (p2 : Int32) (v_t_start : Int32) (v_t_faultKind : Int32) (v_t_faultPlace : Int32) : Option (Int32 × Int32) :=
  if p1 = 0 then
    if p2 = 0 then
      some (v_t_faultKind, v_t_faultPlace)
    else
      (sp_Tape_fail K 3 v_t_start v_t_faultKind v_t_faultPlace).bind fun o26 =>
        some (o26.1, o26.2)
  else
    (sp_Tape_fail K 1 v_t_start v_t_faultKind v_t_faultPlace).bind fun o10 =>
      some (o10.1, o10.2)
set_option maxHeartbeats 4000000 in
set_option maxRecDepth 20000 in
theorem c_Tape_refuseWord (l : Launch) (D : va_G) (cy : Nat → ClassId) (K : Nat) (q_t q_t_bytes : Nat) (p1 : Int32) (p2 : Int32) (v_t_bytes : Nat → Int32) (v_t_size : Int32) (v_t_end : Int32) (v_t_at : Int32) (v_t_start : Int32) (v_t_faultKind : Int32) (v_t_faultPlace : Int32) (out : Int32 × Int32) (hf : sp_Tape_refuseWord K p1 p2 v_t_start v_t_faultKind v_t_faultPlace = some out) : Ct l yX10_refuseWord cX10_refuseWord 3 none rm_Tape_refuseWord D cy [.ref q_t, .int p1, .int p2] [ob q_t 10 [.ref q_t_bytes, .int v_t_size, .int v_t_end, .int v_t_at, .int v_t_start, .int v_t_faultKind, .int v_t_faultPlace], aB cy q_t_bytes 400 v_t_bytes] none [ob q_t 10 [.ref q_t_bytes, .int v_t_size, .int v_t_end, .int v_t_at, .int v_t_start, .int out.1, .int out.2], aB cy q_t_bytes 400 v_t_bytes] := by
  refine ct_of (by decide +kernel) (Nat.le_of_ble_eq_true rfl) (fun p e s m args below meth c C hr hlk hnm => ?_)
  unfold sp_Tape_refuseWord at hf
  refine v_iload_n C dX10_refuseWord_0 1 rfl rfl ?_
  refine v_if_eq (tgt := 16) C dX10_refuseWord_1 (by decide) (fun c1 => ?_) (fun c1 => ?_)
  · replace hf := (if_pos c1).symm.trans hf
    refine v_iload_n C dX10_refuseWord_16 2 rfl rfl ?_
    refine v_if_eq (tgt := 29) C dX10_refuseWord_17 (by decide) (fun c2 => ?_) (fun c2 => ?_)
    · replace hf := (if_pos c2).symm.trans hf
      obtain rfl := Option.some.inj hf
      exact v_vret C hr hlk dX10_refuseWord_29 rfl rfl rfl rfl
    · replace hf := (if_neg c2).symm.trans hf
      refine v_aload_n C dX10_refuseWord_20 0 rfl rfl ?_
      refine v_iconst (v := 3) C dX10_refuseWord_21 (by decide) ?_
      refine v_aload_n C dX10_refuseWord_22 0 rfl rfl ?_
      refine v_get C fl_X10_41 0 rfl rfl dX10_refuseWord_23 ?_
      obtain ⟨o26, g3, hf⟩ := bd_ hf
      refine v_callV (As := [.int 3, .int v_t_start]) (wr := []) (ws' := [ob q_t 10 [.ref q_t_bytes, .int v_t_size, .int v_t_end, .int v_t_at, .int v_t_start, .int o26.1, .int o26.2], aB cy q_t_bytes 400 v_t_bytes]) (st := []) (stk' := []) C (c_Tape_fail l D cy K q_t q_t_bytes  3 v_t_start v_t_bytes v_t_size v_t_end v_t_at v_t_start v_t_faultKind v_t_faultPlace o26 g3) lv_X10_72 rfl (by decide) rfl 0 rfl rfl rfl dX10_refuseWord_26 [0, 1] [] (by decide) rfl rfl (by decide) (by decide) (Nat.le_of_ble_eq_true rfl) rfl rfl ?_
      obtain rfl := Option.some.inj hf
      exact v_vret C hr hlk dX10_refuseWord_29 rfl rfl rfl rfl
  · replace hf := (if_neg c1).symm.trans hf
    refine v_aload_n C dX10_refuseWord_4 0 rfl rfl ?_
    refine v_iconst (v := 1) C dX10_refuseWord_5 (by decide) ?_
    refine v_aload_n C dX10_refuseWord_6 0 rfl rfl ?_
    refine v_get C fl_X10_41 0 rfl rfl dX10_refuseWord_7 ?_
    obtain ⟨o10, g4, hf⟩ := bd_ hf
    refine v_callV (As := [.int 1, .int v_t_start]) (wr := []) (ws' := [ob q_t 10 [.ref q_t_bytes, .int v_t_size, .int v_t_end, .int v_t_at, .int v_t_start, .int o10.1, .int o10.2], aB cy q_t_bytes 400 v_t_bytes]) (st := []) (stk' := []) C (c_Tape_fail l D cy K q_t q_t_bytes  1 v_t_start v_t_bytes v_t_size v_t_end v_t_at v_t_start v_t_faultKind v_t_faultPlace o10 g4) lv_X10_72 rfl (by decide) rfl 0 rfl rfl rfl dX10_refuseWord_10 [0, 1] [] (by decide) rfl rfl (by decide) (by decide) (Nat.le_of_ble_eq_true rfl) rfl rfl ?_
    refine v_goto (tgt := 29) C dX10_refuseWord_13 (by decide) ?_
    obtain rfl := Option.some.inj hf
    exact v_vret C hr hlk dX10_refuseWord_29 rfl rfl rfl rfl

abbrev rm_Tape_readNumber : Room := { frames := 3, cells := 0, slots := 0, locals := 65 }
def f_Tape_readNumber (K : Nat) (v_t_bytes : Nat → Int32) (v_t_end : Int32) : Nat → Nat → Int32 × Int32 × Int32 × Int32 × Int32 × Int32 × Int32 × Int32 → Option (Int32 × Int32 × Int32 × Int32 × Int32)
  | 0, _, _ => none
  | n + 1, 0, (x1, x2, x3, x4, v_t_at, v_t_start, v_t_faultKind, v_t_faultPlace) =>
    if v_t_at ≤ x4 then
      if x3 < x1 then
        f_Tape_readNumber K v_t_bytes v_t_end n 1 (x1, 0, 0, 0, v_t_at, v_t_start, v_t_faultKind, v_t_faultPlace)
      else
        if x3 ≤ x2 then
          some (x3, v_t_at, v_t_start, v_t_faultKind, v_t_faultPlace)
        else
          f_Tape_readNumber K v_t_bytes v_t_end n 1 (x1, 0, 0, 0, v_t_at, v_t_start, v_t_faultKind, v_t_faultPlace)
    else
      (sp_Tape_byteAt K x4 v_t_bytes v_t_end).bind fun o63 =>
        f_Tape_readNumber K v_t_bytes v_t_end n 0 (x1, x2, if 1000 < (((x3 * 10) + o63) - 48) then 1000 else (((x3 * 10) + o63) - 48), x4 + 1, v_t_at, v_t_start, v_t_faultKind, v_t_faultPlace)
  | n + 1, 1, (x1, x2, x3, x4, v_t_at, v_t_start, v_t_faultKind, v_t_faultPlace) =>
    (sp_Tape_fail K 2 v_t_start v_t_faultKind v_t_faultPlace).bind fun o99 =>
      some (x1, v_t_at, v_t_start, o99.1, o99.2)
  | _ + 1, _ + 2, _ => none
def sp_Tape_readNumber (K : Nat) (p1 : Int32) (p2 : Int32) (v_t_bytes : Nat → Int32) (v_t_end : Int32) (v_t_at : Int32) (v_t_start : Int32) (v_t_faultKind : Int32) (v_t_faultPlace : Int32) : Option (Int32 × Int32 × Int32 × Int32 × Int32) :=
  (sp_Tape_failed K v_t_faultKind).bind fun o1 =>
    if o1 = 0 then
      (sp_Tape_readAll K 48 57 v_t_bytes v_t_end v_t_at v_t_start).bind fun o14 =>
        if o14.1 = o14.2 then
          (sp_Tape_fail K 1 o14.2 v_t_faultKind v_t_faultPlace).bind fun o34 =>
            some (p1, o14.1, o14.2, o34.1, o34.2)
        else
          f_Tape_readNumber K v_t_bytes v_t_end K 0 (p1, p2, 0, o14.2, o14.1, o14.2, v_t_faultKind, v_t_faultPlace)
    else
      some (p1, v_t_at, v_t_start, v_t_faultKind, v_t_faultPlace)
def Z0_Tape_readNumber (Vf : va_W → Nat → List (Nat × Value) → List Value → Prop) (cy : Nat → ClassId) (K n : Nat) (q_t q_t_bytes : Nat) (v_t_bytes : Nat → Int32) (v_t_size : Int32) (v_t_end : Int32) (out : Int32 × Int32 × Int32 × Int32 × Int32) : Prop := ∀ (x1 : Int32) (x2 : Int32) (x3 : Int32) (x4 : Int32) (v_t_at : Int32) (v_t_start : Int32) (v_t_faultKind : Int32) (v_t_faultPlace : Int32), f_Tape_readNumber K v_t_bytes v_t_end n 0 (x1, x2, x3, x4, v_t_at, v_t_start, v_t_faultKind, v_t_faultPlace) = some out → Vf [ob q_t 10 [.ref q_t_bytes, .int v_t_size, .int v_t_end, .int v_t_at, .int v_t_start, .int v_t_faultKind, .int v_t_faultPlace], aB cy q_t_bytes 400 v_t_bytes] 47 [(0, .ref q_t), (1, .int x1), (2, .int x2), (3, .int x3), (4, .int x4)] []
def Z1_Tape_readNumber (Vf : va_W → Nat → List (Nat × Value) → List Value → Prop) (cy : Nat → ClassId) (K n : Nat) (q_t q_t_bytes : Nat) (v_t_bytes : Nat → Int32) (v_t_size : Int32) (v_t_end : Int32) (out : Int32 × Int32 × Int32 × Int32 × Int32) : Prop := ∀ (x1 : Int32) (x2 : Int32) (x3 : Int32) (x4 : Int32) (v_t_at : Int32) (v_t_start : Int32) (v_t_faultKind : Int32) (v_t_faultPlace : Int32), f_Tape_readNumber K v_t_bytes v_t_end n 1 (x1, x2, x3, x4, v_t_at, v_t_start, v_t_faultKind, v_t_faultPlace) = some out → Vf [ob q_t 10 [.ref q_t_bytes, .int v_t_size, .int v_t_end, .int v_t_at, .int v_t_start, .int v_t_faultKind, .int v_t_faultPlace], aB cy q_t_bytes 400 v_t_bytes] 93 [(0, .ref q_t), (1, .int x1)] []
def Z_Tape_readNumber (Vf : va_W → Nat → List (Nat × Value) → List Value → Prop) (cy : Nat → ClassId) (K n : Nat) (q_t q_t_bytes : Nat) (v_t_bytes : Nat → Int32) (v_t_size : Int32) (v_t_end : Int32) (out : Int32 × Int32 × Int32 × Int32 × Int32) : Prop := Z0_Tape_readNumber Vf cy K n q_t q_t_bytes  v_t_bytes v_t_size v_t_end out ∧ Z1_Tape_readNumber Vf cy K n q_t q_t_bytes  v_t_bytes v_t_size v_t_end out
set_option maxHeartbeats 4000000 in
set_option maxRecDepth 20000 in
theorem z0_Tape_readNumber {p : Program} {l : Launch} {e : Env} {s : State} {m : MethodId} {args : Array Value} {below : List Frame} {meth : Method} {c : Code} {D : va_G} {cy : Nat → ClassId} {K : Nat} {q_t q_t_bytes : Nat} {v_t_bytes : Nat → Int32} {v_t_size : Int32} {v_t_end : Int32} {v_t_at' : Int32} {v_t_start' : Int32} {v_t_faultKind' : Int32} {v_t_faultPlace' : Int32} {out : Int32 × Int32 × Int32 × Int32 × Int32} (C : VC p s m args c cX10_readNumber RX10 5 D cy (va_A [ob q_t 10 [.ref q_t_bytes, .int v_t_size, .int v_t_end, .int v_t_at', .int v_t_start', .int v_t_faultKind', .int v_t_faultPlace'], aB cy q_t_bytes 400 v_t_bytes] s.heap.size)) (hr : meth.sig.returnType = (some .int)) (hlk : meth.locks = false) (n : Nat) (ih : Z_Tape_readNumber (V p l e rm_Tape_readNumber s m args below meth c (EQ below args s rm_Tape_readNumber D [ob q_t 10 [.ref q_t_bytes, .int v_t_size, .int v_t_end, .int v_t_at', .int v_t_start', .int v_t_faultKind', .int v_t_faultPlace'], aB cy q_t_bytes 400 v_t_bytes] (some (.int out.1)) [ob q_t 10 [.ref q_t_bytes, .int v_t_size, .int v_t_end, .int out.2.1, .int out.2.2.1, .int out.2.2.2.1, .int out.2.2.2.2], aB cy q_t_bytes 400 v_t_bytes]) 5 D (va_A [ob q_t 10 [.ref q_t_bytes, .int v_t_size, .int v_t_end, .int v_t_at', .int v_t_start', .int v_t_faultKind', .int v_t_faultPlace'], aB cy q_t_bytes 400 v_t_bytes] s.heap.size) 0 0) cy K n q_t q_t_bytes  v_t_bytes v_t_size v_t_end out) : Z0_Tape_readNumber (V p l e rm_Tape_readNumber s m args below meth c (EQ below args s rm_Tape_readNumber D [ob q_t 10 [.ref q_t_bytes, .int v_t_size, .int v_t_end, .int v_t_at', .int v_t_start', .int v_t_faultKind', .int v_t_faultPlace'], aB cy q_t_bytes 400 v_t_bytes] (some (.int out.1)) [ob q_t 10 [.ref q_t_bytes, .int v_t_size, .int v_t_end, .int out.2.1, .int out.2.2.1, .int out.2.2.2.1, .int out.2.2.2.2], aB cy q_t_bytes 400 v_t_bytes]) 5 D (va_A [ob q_t 10 [.ref q_t_bytes, .int v_t_size, .int v_t_end, .int v_t_at', .int v_t_start', .int v_t_faultKind', .int v_t_faultPlace'], aB cy q_t_bytes 400 v_t_bytes] s.heap.size) 0 0) cy K (n + 1) q_t q_t_bytes  v_t_bytes v_t_size v_t_end out := by
  intro x1 x2 x3 x4 v_t_at v_t_start v_t_faultKind v_t_faultPlace hf
  replace hf := hf
  refine v_iload C dX10_readNumber_47 4 rfl ?_
  refine v_aload_n C dX10_readNumber_49 0 rfl rfl ?_
  refine v_get C fl_X10_38 0 rfl rfl dX10_readNumber_50 ?_
  refine v_icmp_ge (tgt := 83) C dX10_readNumber_53 (by decide) (fun c1 => ?_) (fun c1 => ?_)
  · replace hf := (if_pos c1).symm.trans hf
    refine v_iload_n C dX10_readNumber_83 3 rfl rfl ?_
    refine v_iload_n C dX10_readNumber_84 1 rfl rfl ?_
    refine v_icmp_lt (tgt := 93) C dX10_readNumber_85 (by decide) (fun c2 => ?_) (fun c2 => ?_)
    · replace hf := (if_pos c2).symm.trans hf
      refine v_lv (lv' := [(0, .ref q_t), (1, .int x1)]) [0, 1] rfl ?_
      exact ih.2 _ _ _ _ _ _ _ _ hf
    · replace hf := (if_neg c2).symm.trans hf
      refine v_iload_n C dX10_readNumber_88 3 rfl rfl ?_
      refine v_iload_n C dX10_readNumber_89 2 rfl rfl ?_
      refine v_icmp_le (tgt := 104) C dX10_readNumber_90 (by decide) (fun c3 => ?_) (fun c3 => ?_)
      · replace hf := (if_pos c3).symm.trans hf
        refine v_iload_n C dX10_readNumber_104 3 rfl rfl ?_
        obtain rfl := Option.some.inj hf
        exact v_iret C hr hlk dX10_readNumber_105 rfl rfl rfl rfl
      · replace hf := (if_neg c3).symm.trans hf
        refine v_lv (lv' := [(0, .ref q_t), (1, .int x1)]) [0, 1] rfl ?_
        exact ih.2 _ _ _ _ _ _ _ _ hf
  · replace hf := (if_neg c1).symm.trans hf
    refine v_iload_n C dX10_readNumber_56 3 rfl rfl ?_
    refine v_bipush (v := 10) C dX10_readNumber_57 (by decide) ?_
    refine v_imul C dX10_readNumber_59 ?_
    refine v_aload_n C dX10_readNumber_60 0 rfl rfl ?_
    refine v_iload C dX10_readNumber_61 4 rfl ?_
    obtain ⟨o63, g4, hf⟩ := bd_ hf
    refine v_callV (As := [.int x4]) (wr := []) (ws' := [ob q_t 10 [.ref q_t_bytes, .int v_t_size, .int v_t_end, .int v_t_at, .int v_t_start, .int v_t_faultKind, .int v_t_faultPlace], aB cy q_t_bytes 400 v_t_bytes]) (st := [.int (x3 * 10)]) (stk' := [.int o63, .int (x3 * 10)]) C (c_Tape_byteAt l D cy K q_t q_t_bytes  x4 v_t_bytes v_t_size v_t_end v_t_at v_t_start v_t_faultKind v_t_faultPlace o63 g4) lv_X10_51 rfl (by decide) rfl 0 rfl rfl rfl dX10_readNumber_63 [0, 1] [] (by decide) rfl rfl (by decide) (by decide) (Nat.le_of_ble_eq_true rfl) rfl rfl ?_
    refine v_iadd C dX10_readNumber_66 ?_
    refine v_bipush (v := 48) C dX10_readNumber_67 (by decide) ?_
    refine v_isub C dX10_readNumber_69 ?_
    refine v_sipush (v := 1000) C dX10_readNumber_70 (by decide) ?_
    refine v_mmin C mm_X10_26 mg_min ⟨Nat.le_of_ble_eq_true rfl, Nat.le_of_ble_eq_true rfl, Nat.le_of_ble_eq_true rfl, Nat.le_of_ble_eq_true rfl⟩ dX10_readNumber_73 ?_
    refine v_istore_n (lv' := [(3, .int (if 1000 < (((x3 * 10) + o63) - 48) then 1000 else (((x3 * 10) + o63) - 48))), (0, .ref q_t), (1, .int x1), (2, .int x2), (4, .int x4)]) C dX10_readNumber_76 rfl (by decide) rfl ?_
    refine v_iinc (v := x4 + 1) (lv' := [(4, .int (x4 + 1)), (3, .int (if 1000 < (((x3 * 10) + o63) - 48) then 1000 else (((x3 * 10) + o63) - 48))), (0, .ref q_t), (1, .int x1), (2, .int x2)]) C dX10_readNumber_77 4 rfl rfl (by decide) rfl ?_
    refine v_goto (tgt := 47) C dX10_readNumber_80 (by decide) ?_
    refine v_lv (lv' := [(0, .ref q_t), (1, .int x1), (2, .int x2), (3, .int (if 1000 < (((x3 * 10) + o63) - 48) then 1000 else (((x3 * 10) + o63) - 48))), (4, .int (x4 + 1))]) [2, 3, 4, 1, 0] rfl ?_
    exact ih.1 _ _ _ _ _ _ _ _ hf
set_option maxHeartbeats 4000000 in
set_option maxRecDepth 20000 in
theorem z1_Tape_readNumber {p : Program} {l : Launch} {e : Env} {s : State} {m : MethodId} {args : Array Value} {below : List Frame} {meth : Method} {c : Code} {D : va_G} {cy : Nat → ClassId} {K : Nat} {q_t q_t_bytes : Nat} {v_t_bytes : Nat → Int32} {v_t_size : Int32} {v_t_end : Int32} {v_t_at' : Int32} {v_t_start' : Int32} {v_t_faultKind' : Int32} {v_t_faultPlace' : Int32} {out : Int32 × Int32 × Int32 × Int32 × Int32} (C : VC p s m args c cX10_readNumber RX10 5 D cy (va_A [ob q_t 10 [.ref q_t_bytes, .int v_t_size, .int v_t_end, .int v_t_at', .int v_t_start', .int v_t_faultKind', .int v_t_faultPlace'], aB cy q_t_bytes 400 v_t_bytes] s.heap.size)) (hr : meth.sig.returnType = (some .int)) (hlk : meth.locks = false) (n : Nat) (ih : Z_Tape_readNumber (V p l e rm_Tape_readNumber s m args below meth c (EQ below args s rm_Tape_readNumber D [ob q_t 10 [.ref q_t_bytes, .int v_t_size, .int v_t_end, .int v_t_at', .int v_t_start', .int v_t_faultKind', .int v_t_faultPlace'], aB cy q_t_bytes 400 v_t_bytes] (some (.int out.1)) [ob q_t 10 [.ref q_t_bytes, .int v_t_size, .int v_t_end, .int out.2.1, .int out.2.2.1, .int out.2.2.2.1, .int out.2.2.2.2], aB cy q_t_bytes 400 v_t_bytes]) 5 D (va_A [ob q_t 10 [.ref q_t_bytes, .int v_t_size, .int v_t_end, .int v_t_at', .int v_t_start', .int v_t_faultKind', .int v_t_faultPlace'], aB cy q_t_bytes 400 v_t_bytes] s.heap.size) 0 0) cy K n q_t q_t_bytes  v_t_bytes v_t_size v_t_end out) : Z1_Tape_readNumber (V p l e rm_Tape_readNumber s m args below meth c (EQ below args s rm_Tape_readNumber D [ob q_t 10 [.ref q_t_bytes, .int v_t_size, .int v_t_end, .int v_t_at', .int v_t_start', .int v_t_faultKind', .int v_t_faultPlace'], aB cy q_t_bytes 400 v_t_bytes] (some (.int out.1)) [ob q_t 10 [.ref q_t_bytes, .int v_t_size, .int v_t_end, .int out.2.1, .int out.2.2.1, .int out.2.2.2.1, .int out.2.2.2.2], aB cy q_t_bytes 400 v_t_bytes]) 5 D (va_A [ob q_t 10 [.ref q_t_bytes, .int v_t_size, .int v_t_end, .int v_t_at', .int v_t_start', .int v_t_faultKind', .int v_t_faultPlace'], aB cy q_t_bytes 400 v_t_bytes] s.heap.size) 0 0) cy K (n + 1) q_t q_t_bytes  v_t_bytes v_t_size v_t_end out := by
  intro x1 x2 x3 x4 v_t_at v_t_start v_t_faultKind v_t_faultPlace hf
  replace hf := hf
  refine v_aload_n C dX10_readNumber_93 0 rfl rfl ?_
  refine v_iconst (v := 2) C dX10_readNumber_94 (by decide) ?_
  refine v_aload_n C dX10_readNumber_95 0 rfl rfl ?_
  refine v_get C fl_X10_41 0 rfl rfl dX10_readNumber_96 ?_
  obtain ⟨o99, g1, hf⟩ := bd_ hf
  refine v_callV (As := [.int 2, .int v_t_start]) (wr := []) (ws' := [ob q_t 10 [.ref q_t_bytes, .int v_t_size, .int v_t_end, .int v_t_at, .int v_t_start, .int o99.1, .int o99.2], aB cy q_t_bytes 400 v_t_bytes]) (st := []) (stk' := []) C (c_Tape_fail l D cy K q_t q_t_bytes  2 v_t_start v_t_bytes v_t_size v_t_end v_t_at v_t_start v_t_faultKind v_t_faultPlace o99 g1) lv_X10_72 rfl (by decide) rfl 0 rfl rfl rfl dX10_readNumber_99 [0, 1] [] (by decide) rfl rfl (by decide) (by decide) (Nat.le_of_ble_eq_true rfl) rfl rfl ?_
  refine v_iload_n C dX10_readNumber_102 1 rfl rfl ?_
  obtain rfl := Option.some.inj hf
  exact v_iret C hr hlk dX10_readNumber_103 rfl rfl rfl rfl
theorem z_Tape_readNumber {p : Program} {l : Launch} {e : Env} {s : State} {m : MethodId} {args : Array Value} {below : List Frame} {meth : Method} {c : Code} {D : va_G} {cy : Nat → ClassId} {K : Nat} {q_t q_t_bytes : Nat} {v_t_bytes : Nat → Int32} {v_t_size : Int32} {v_t_end : Int32} {v_t_at' : Int32} {v_t_start' : Int32} {v_t_faultKind' : Int32} {v_t_faultPlace' : Int32} {out : Int32 × Int32 × Int32 × Int32 × Int32} (C : VC p s m args c cX10_readNumber RX10 5 D cy (va_A [ob q_t 10 [.ref q_t_bytes, .int v_t_size, .int v_t_end, .int v_t_at', .int v_t_start', .int v_t_faultKind', .int v_t_faultPlace'], aB cy q_t_bytes 400 v_t_bytes] s.heap.size)) (hr : meth.sig.returnType = (some .int)) (hlk : meth.locks = false) (n : Nat) : Z_Tape_readNumber (V p l e rm_Tape_readNumber s m args below meth c (EQ below args s rm_Tape_readNumber D [ob q_t 10 [.ref q_t_bytes, .int v_t_size, .int v_t_end, .int v_t_at', .int v_t_start', .int v_t_faultKind', .int v_t_faultPlace'], aB cy q_t_bytes 400 v_t_bytes] (some (.int out.1)) [ob q_t 10 [.ref q_t_bytes, .int v_t_size, .int v_t_end, .int out.2.1, .int out.2.2.1, .int out.2.2.2.1, .int out.2.2.2.2], aB cy q_t_bytes 400 v_t_bytes]) 5 D (va_A [ob q_t 10 [.ref q_t_bytes, .int v_t_size, .int v_t_end, .int v_t_at', .int v_t_start', .int v_t_faultKind', .int v_t_faultPlace'], aB cy q_t_bytes 400 v_t_bytes] s.heap.size) 0 0) cy K n q_t q_t_bytes  v_t_bytes v_t_size v_t_end out := by
  induction n with
  | zero => exact ⟨(fun _ _ _ _ _ _ _ _ h => nomatch h), (fun _ _ _ _ _ _ _ _ h => nomatch h)⟩
  | succ n ih => exact ⟨z0_Tape_readNumber C hr hlk n ih, z1_Tape_readNumber C hr hlk n ih⟩
set_option maxHeartbeats 4000000 in
set_option maxRecDepth 20000 in
theorem c_Tape_readNumber (l : Launch) (D : va_G) (cy : Nat → ClassId) (K : Nat) (q_t q_t_bytes : Nat) (p1 : Int32) (p2 : Int32) (v_t_bytes : Nat → Int32) (v_t_size : Int32) (v_t_end : Int32) (v_t_at : Int32) (v_t_start : Int32) (v_t_faultKind : Int32) (v_t_faultPlace : Int32) (out : Int32 × Int32 × Int32 × Int32 × Int32) (hf : sp_Tape_readNumber K p1 p2 v_t_bytes v_t_end v_t_at v_t_start v_t_faultKind v_t_faultPlace = some out) : Ct l yX10_readNumber cX10_readNumber 5 (some .int) rm_Tape_readNumber D cy [.ref q_t, .int p1, .int p2] [ob q_t 10 [.ref q_t_bytes, .int v_t_size, .int v_t_end, .int v_t_at, .int v_t_start, .int v_t_faultKind, .int v_t_faultPlace], aB cy q_t_bytes 400 v_t_bytes] (some (.int out.1)) [ob q_t 10 [.ref q_t_bytes, .int v_t_size, .int v_t_end, .int out.2.1, .int out.2.2.1, .int out.2.2.2.1, .int out.2.2.2.2], aB cy q_t_bytes 400 v_t_bytes] := by
  refine ct_of (by decide +kernel) (Nat.le_of_ble_eq_true rfl) (fun p e s m args below meth c C hr hlk hnm => ?_)
  unfold sp_Tape_readNumber at hf
  refine v_aload_n C dX10_readNumber_0 0 rfl rfl ?_
  obtain ⟨o1, g1, hf⟩ := bd_ hf
  refine v_callV (As := []) (wr := []) (ws' := [ob q_t 10 [.ref q_t_bytes, .int v_t_size, .int v_t_end, .int v_t_at, .int v_t_start, .int v_t_faultKind, .int v_t_faultPlace], aB cy q_t_bytes 400 v_t_bytes]) (st := []) (stk' := [.int o1]) C (c_Tape_failed l D cy K q_t q_t_bytes  v_t_bytes v_t_size v_t_end v_t_at v_t_start v_t_faultKind v_t_faultPlace o1 g1) lv_X10_47 rfl (by decide) rfl 0 rfl rfl rfl dX10_readNumber_1 [0, 1] [] (by decide) rfl rfl (by decide) (by decide) (Nat.le_of_ble_eq_true rfl) rfl rfl ?_
  refine v_if_eq (tgt := 9) C dX10_readNumber_4 (by decide) (fun c2 => ?_) (fun c2 => ?_)
  · replace hf := (if_pos c2).symm.trans hf
    refine v_aload_n C dX10_readNumber_9 0 rfl rfl ?_
    refine v_bipush (v := 48) C dX10_readNumber_10 (by decide) ?_
    refine v_bipush (v := 57) C dX10_readNumber_12 (by decide) ?_
    obtain ⟨o14, g3, hf⟩ := bd_ hf
    refine v_callV (As := [.int 48, .int 57]) (wr := []) (ws' := [ob q_t 10 [.ref q_t_bytes, .int v_t_size, .int v_t_end, .int o14.1, .int o14.2, .int v_t_faultKind, .int v_t_faultPlace], aB cy q_t_bytes 400 v_t_bytes]) (st := []) (stk' := []) C (c_Tape_readAll l D cy K q_t q_t_bytes  48 57 v_t_bytes v_t_size v_t_end v_t_at v_t_start v_t_faultKind v_t_faultPlace o14 g3) lv_X10_58 rfl (by decide) rfl 0 rfl rfl rfl dX10_readNumber_14 [0, 1] [] (by decide) rfl rfl (by decide) (by decide) (Nat.le_of_ble_eq_true rfl) rfl rfl ?_
    refine v_aload_n C dX10_readNumber_17 0 rfl rfl ?_
    refine v_get C fl_X10_38 0 rfl rfl dX10_readNumber_18 ?_
    refine v_aload_n C dX10_readNumber_21 0 rfl rfl ?_
    refine v_get C fl_X10_41 0 rfl rfl dX10_readNumber_22 ?_
    refine v_icmp_ne (tgt := 39) C dX10_readNumber_25 (by decide) (fun c4 => ?_) (fun c4 => ?_)
    · replace hf := (if_neg c4).symm.trans hf
      refine v_iconst (v := 0) C dX10_readNumber_39 (by decide) ?_
      refine v_istore_n (lv' := [(3, .int 0), (0, .ref q_t), (1, .int p1), (2, .int p2)]) C dX10_readNumber_40 rfl (by decide) rfl ?_
      refine v_aload_n C dX10_readNumber_41 1 rfl rfl ?_
      refine v_get C fl_X10_41 0 rfl rfl dX10_readNumber_42 ?_
      refine v_istore (lv' := [(4, .int o14.2), (3, .int 0), (0, .ref q_t), (1, .int p1), (2, .int p2)]) C dX10_readNumber_45 (by decide) rfl ?_
      refine v_lv (lv' := [(0, .ref q_t), (1, .int p1), (2, .int p2), (3, .int 0), (4, .int o14.2)]) [2, 3, 4, 1, 0] rfl ?_
      exact (z_Tape_readNumber C hr hlk K).1 _ _ _ _ _ _ _ _ hf
    · replace hf := (if_pos c4).symm.trans hf
      refine v_aload_n C dX10_readNumber_28 0 rfl rfl ?_
      refine v_iconst (v := 1) C dX10_readNumber_29 (by decide) ?_
      refine v_aload_n C dX10_readNumber_30 0 rfl rfl ?_
      refine v_get C fl_X10_41 0 rfl rfl dX10_readNumber_31 ?_
      obtain ⟨o34, g5, hf⟩ := bd_ hf
      refine v_callV (As := [.int 1, .int o14.2]) (wr := []) (ws' := [ob q_t 10 [.ref q_t_bytes, .int v_t_size, .int v_t_end, .int o14.1, .int o14.2, .int o34.1, .int o34.2], aB cy q_t_bytes 400 v_t_bytes]) (st := []) (stk' := []) C (c_Tape_fail l D cy K q_t q_t_bytes  1 o14.2 v_t_bytes v_t_size v_t_end o14.1 o14.2 v_t_faultKind v_t_faultPlace o34 g5) lv_X10_72 rfl (by decide) rfl 0 rfl rfl rfl dX10_readNumber_34 [0, 1] [] (by decide) rfl rfl (by decide) (by decide) (Nat.le_of_ble_eq_true rfl) rfl rfl ?_
      refine v_iload_n C dX10_readNumber_37 1 rfl rfl ?_
      obtain rfl := Option.some.inj hf
      exact v_iret C hr hlk dX10_readNumber_38 rfl rfl rfl rfl
  · replace hf := (if_neg c2).symm.trans hf
    refine v_iload_n C dX10_readNumber_7 1 rfl rfl ?_
    obtain rfl := Option.some.inj hf
    exact v_iret C hr hlk dX10_readNumber_8 rfl rfl rfl rfl

abbrev rm_Tape_refuseSame : Room := { frames := 2, cells := 0, slots := 0, locals := 42 }
def sp_Tape_refuseSame (K : Nat) (p1 : Int32) (p2 : Int32) (v_t_start : Int32) (v_t_faultKind : Int32) (v_t_faultPlace : Int32) : Option (Int32 × Int32) :=
  if p1 = p2 then
    (sp_Tape_fail K 2 v_t_start v_t_faultKind v_t_faultPlace).bind fun o11 =>
      some (o11.1, o11.2)
  else
    some (v_t_faultKind, v_t_faultPlace)
set_option maxHeartbeats 4000000 in
set_option maxRecDepth 20000 in
theorem c_Tape_refuseSame (l : Launch) (D : va_G) (cy : Nat → ClassId) (K : Nat) (q_t q_t_bytes : Nat) (p1 : Int32) (p2 : Int32) (v_t_bytes : Nat → Int32) (v_t_size : Int32) (v_t_end : Int32) (v_t_at : Int32) (v_t_start : Int32) (v_t_faultKind : Int32) (v_t_faultPlace : Int32) (out : Int32 × Int32) (hf : sp_Tape_refuseSame K p1 p2 v_t_start v_t_faultKind v_t_faultPlace = some out) : Ct l yX10_refuseSame cX10_refuseSame 3 none rm_Tape_refuseSame D cy [.ref q_t, .int p1, .int p2] [ob q_t 10 [.ref q_t_bytes, .int v_t_size, .int v_t_end, .int v_t_at, .int v_t_start, .int v_t_faultKind, .int v_t_faultPlace], aB cy q_t_bytes 400 v_t_bytes] none [ob q_t 10 [.ref q_t_bytes, .int v_t_size, .int v_t_end, .int v_t_at, .int v_t_start, .int out.1, .int out.2], aB cy q_t_bytes 400 v_t_bytes] := by
  refine ct_of (by decide +kernel) (Nat.le_of_ble_eq_true rfl) (fun p e s m args below meth c C hr hlk hnm => ?_)
  unfold sp_Tape_refuseSame at hf
  refine v_iload_n C dX10_refuseSame_0 1 rfl rfl ?_
  refine v_iload_n C dX10_refuseSame_1 2 rfl rfl ?_
  refine v_icmp_ne (tgt := 14) C dX10_refuseSame_2 (by decide) (fun c1 => ?_) (fun c1 => ?_)
  · replace hf := (if_neg c1).symm.trans hf
    obtain rfl := Option.some.inj hf
    exact v_vret C hr hlk dX10_refuseSame_14 rfl rfl rfl rfl
  · replace hf := (if_pos c1).symm.trans hf
    refine v_aload_n C dX10_refuseSame_5 0 rfl rfl ?_
    refine v_iconst (v := 2) C dX10_refuseSame_6 (by decide) ?_
    refine v_aload_n C dX10_refuseSame_7 0 rfl rfl ?_
    refine v_get C fl_X10_41 0 rfl rfl dX10_refuseSame_8 ?_
    obtain ⟨o11, g2, hf⟩ := bd_ hf
    refine v_callV (As := [.int 2, .int v_t_start]) (wr := []) (ws' := [ob q_t 10 [.ref q_t_bytes, .int v_t_size, .int v_t_end, .int v_t_at, .int v_t_start, .int o11.1, .int o11.2], aB cy q_t_bytes 400 v_t_bytes]) (st := []) (stk' := []) C (c_Tape_fail l D cy K q_t q_t_bytes  2 v_t_start v_t_bytes v_t_size v_t_end v_t_at v_t_start v_t_faultKind v_t_faultPlace o11 g2) lv_X10_72 rfl (by decide) rfl 0 rfl rfl rfl dX10_refuseSame_11 [0, 1] [] (by decide) rfl rfl (by decide) (by decide) (Nat.le_of_ble_eq_true rfl) rfl rfl ?_
    obtain rfl := Option.some.inj hf
    exact v_vret C hr hlk dX10_refuseSame_14 rfl rfl rfl rfl

abbrev rm_Tape_expectSemicolon : Room := { frames := 2, cells := 0, slots := 0, locals := 42 }
def sp_Tape_expectSemicolon (K : Nat) (v_t_bytes : Nat → Int32) (v_t_end : Int32) (v_t_at : Int32) (v_t_faultKind : Int32) (v_t_faultPlace : Int32) : Option (Int32 × Int32 × Int32) :=
  (sp_Tape_failed K v_t_faultKind).bind fun o1 =>
    if o1 = 0 then
      (sp_Tape_skipBlanks K v_t_bytes v_t_end v_t_at).bind fun o9 =>
        (sp_Tape_byteAt K o9 v_t_bytes v_t_end).bind fun o17 =>
          if o17 = 59 then
            some (o9 + 1, v_t_faultKind, v_t_faultPlace)
          else
            (sp_Tape_fail K 1 o9 v_t_faultKind v_t_faultPlace).bind fun o44 =>
              some (o9, o44.1, o44.2)
    else
      some (v_t_at, v_t_faultKind, v_t_faultPlace)
set_option maxHeartbeats 4000000 in
set_option maxRecDepth 20000 in
theorem c_Tape_expectSemicolon (l : Launch) (D : va_G) (cy : Nat → ClassId) (K : Nat) (q_t q_t_bytes : Nat) (v_t_bytes : Nat → Int32) (v_t_size : Int32) (v_t_end : Int32) (v_t_at : Int32) (v_t_start : Int32) (v_t_faultKind : Int32) (v_t_faultPlace : Int32) (out : Int32 × Int32 × Int32) (hf : sp_Tape_expectSemicolon K v_t_bytes v_t_end v_t_at v_t_faultKind v_t_faultPlace = some out) : Ct l yX10_expectSemicolon cX10_expectSemicolon 1 none rm_Tape_expectSemicolon D cy [.ref q_t] [ob q_t 10 [.ref q_t_bytes, .int v_t_size, .int v_t_end, .int v_t_at, .int v_t_start, .int v_t_faultKind, .int v_t_faultPlace], aB cy q_t_bytes 400 v_t_bytes] none [ob q_t 10 [.ref q_t_bytes, .int v_t_size, .int v_t_end, .int out.1, .int v_t_start, .int out.2.1, .int out.2.2], aB cy q_t_bytes 400 v_t_bytes] := by
  refine ct_of (by decide +kernel) (Nat.le_of_ble_eq_true rfl) (fun p e s m args below meth c C hr hlk hnm => ?_)
  unfold sp_Tape_expectSemicolon at hf
  refine v_aload_n C dX10_expectSemicolon_0 0 rfl rfl ?_
  obtain ⟨o1, g1, hf⟩ := bd_ hf
  refine v_callV (As := []) (wr := []) (ws' := [ob q_t 10 [.ref q_t_bytes, .int v_t_size, .int v_t_end, .int v_t_at, .int v_t_start, .int v_t_faultKind, .int v_t_faultPlace], aB cy q_t_bytes 400 v_t_bytes]) (st := []) (stk' := [.int o1]) C (c_Tape_failed l D cy K q_t q_t_bytes  v_t_bytes v_t_size v_t_end v_t_at v_t_start v_t_faultKind v_t_faultPlace o1 g1) lv_X10_47 rfl (by decide) rfl 0 rfl rfl rfl dX10_expectSemicolon_1 [0, 1] [] (by decide) rfl rfl (by decide) (by decide) (Nat.le_of_ble_eq_true rfl) rfl rfl ?_
  refine v_if_eq (tgt := 8) C dX10_expectSemicolon_4 (by decide) (fun c2 => ?_) (fun c2 => ?_)
  · replace hf := (if_pos c2).symm.trans hf
    refine v_aload_n C dX10_expectSemicolon_8 0 rfl rfl ?_
    obtain ⟨o9, g3, hf⟩ := bd_ hf
    refine v_callV (As := []) (wr := []) (ws' := [ob q_t 10 [.ref q_t_bytes, .int v_t_size, .int v_t_end, .int o9, .int v_t_start, .int v_t_faultKind, .int v_t_faultPlace], aB cy q_t_bytes 400 v_t_bytes]) (st := []) (stk' := []) C (c_Tape_skipBlanks l D cy K q_t q_t_bytes  v_t_bytes v_t_size v_t_end v_t_at v_t_start v_t_faultKind v_t_faultPlace o9 g3) lv_X10_55 rfl (by decide) rfl 0 rfl rfl rfl dX10_expectSemicolon_9 [0, 1] [] (by decide) rfl rfl (by decide) (by decide) (Nat.le_of_ble_eq_true rfl) rfl rfl ?_
    refine v_aload_n C dX10_expectSemicolon_12 0 rfl rfl ?_
    refine v_aload_n C dX10_expectSemicolon_13 0 rfl rfl ?_
    refine v_get C fl_X10_38 0 rfl rfl dX10_expectSemicolon_14 ?_
    obtain ⟨o17, g4, hf⟩ := bd_ hf
    refine v_callV (As := [.int o9]) (wr := []) (ws' := [ob q_t 10 [.ref q_t_bytes, .int v_t_size, .int v_t_end, .int o9, .int v_t_start, .int v_t_faultKind, .int v_t_faultPlace], aB cy q_t_bytes 400 v_t_bytes]) (st := []) (stk' := [.int o17]) C (c_Tape_byteAt l D cy K q_t q_t_bytes  o9 v_t_bytes v_t_size v_t_end o9 v_t_start v_t_faultKind v_t_faultPlace o17 g4) lv_X10_51 rfl (by decide) rfl 0 rfl rfl rfl dX10_expectSemicolon_17 [0, 1] [] (by decide) rfl rfl (by decide) (by decide) (Nat.le_of_ble_eq_true rfl) rfl rfl ?_
    refine v_bipush (v := 59) C dX10_expectSemicolon_20 (by decide) ?_
    refine v_icmp_ne (tgt := 38) C dX10_expectSemicolon_22 (by decide) (fun c5 => ?_) (fun c5 => ?_)
    · replace hf := (if_neg c5).symm.trans hf
      refine v_aload_n C dX10_expectSemicolon_38 0 rfl rfl ?_
      refine v_iconst (v := 1) C dX10_expectSemicolon_39 (by decide) ?_
      refine v_aload_n C dX10_expectSemicolon_40 0 rfl rfl ?_
      refine v_get C fl_X10_38 0 rfl rfl dX10_expectSemicolon_41 ?_
      obtain ⟨o44, g6, hf⟩ := bd_ hf
      refine v_callV (As := [.int 1, .int o9]) (wr := []) (ws' := [ob q_t 10 [.ref q_t_bytes, .int v_t_size, .int v_t_end, .int o9, .int v_t_start, .int o44.1, .int o44.2], aB cy q_t_bytes 400 v_t_bytes]) (st := []) (stk' := []) C (c_Tape_fail l D cy K q_t q_t_bytes  1 o9 v_t_bytes v_t_size v_t_end o9 v_t_start v_t_faultKind v_t_faultPlace o44 g6) lv_X10_72 rfl (by decide) rfl 0 rfl rfl rfl dX10_expectSemicolon_44 [0, 1] [] (by decide) rfl rfl (by decide) (by decide) (Nat.le_of_ble_eq_true rfl) rfl rfl ?_
      obtain rfl := Option.some.inj hf
      exact v_vret C hr hlk dX10_expectSemicolon_47 rfl rfl rfl rfl
    · replace hf := (if_pos c5).symm.trans hf
      refine v_aload_n C dX10_expectSemicolon_25 0 rfl rfl ?_
      refine v_dup C dX10_expectSemicolon_26 rfl ?_
      refine v_get C fl_X10_38 0 rfl rfl dX10_expectSemicolon_27 ?_
      refine v_iconst (v := 1) C dX10_expectSemicolon_30 (by decide) ?_
      refine v_iadd C dX10_expectSemicolon_31 ?_
      refine v_put (ws' := [ob q_t 10 [.ref q_t_bytes, .int v_t_size, .int v_t_end, .int (o9 + 1), .int v_t_start, .int v_t_faultKind, .int v_t_faultPlace], aB cy q_t_bytes 400 v_t_bytes]) C fp_X10_38 0 rfl rfl rfl (Nat.le_of_ble_eq_true rfl) rfl dX10_expectSemicolon_32 ?_
      refine v_goto (tgt := 47) C dX10_expectSemicolon_35 (by decide) ?_
      obtain rfl := Option.some.inj hf
      exact v_vret C hr hlk dX10_expectSemicolon_47 rfl rfl rfl rfl
  · replace hf := (if_neg c2).symm.trans hf
    obtain rfl := Option.some.inj hf
    exact v_vret C hr hlk dX10_expectSemicolon_7 rfl rfl rfl rfl
