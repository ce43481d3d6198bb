abbrev rm_within : Room := { frames := 0, cells := 0, slots := 0, locals := 0 }
def sp_within (K : Nat) (p0 : Int32) (p1 : Int32) : Option (Int32) :=
  if p0 < 0 then
    some 0
  else
    if p1 ≤ p0 then
      some 0
    else
      some 1
set_option maxHeartbeats 4000000 in
set_option maxRecDepth 20000 in
theorem c_within (l : Launch) (D : va_G) (cy : Nat → ClassId) (K : Nat) (p0 : Int32) (p1 : Int32) (out : Int32) (hf : sp_within K p0 p1 = some out) : Ct l yX11_within cX11_within 2 (some .boolean) rm_within D cy [.int p0, .int p1] [] (some (.int out)) [] := by
  refine ct_of (by decide +kernel) (Nat.le_of_ble_eq_true rfl) (fun p e s m args below meth c C hr hlk hnm => ?_)
  unfold sp_within at hf
  refine v_iload_n C dX11_within_0 0 rfl rfl ?_
  refine v_if_lt (tgt := 13) C dX11_within_1 (by decide) (fun c1 => ?_) (fun c1 => ?_)
  · replace hf := (if_pos c1).symm.trans hf
    refine v_iconst (v := 0) C dX11_within_13 (by decide) ?_
    obtain rfl := Option.some.inj hf
    exact v_zret C hr hlk rfl dX11_within_14 rfl rfl rfl rfl
  · replace hf := (if_neg c1).symm.trans hf
    refine v_iload_n C dX11_within_4 0 rfl rfl ?_
    refine v_iload_n C dX11_within_5 1 rfl rfl ?_
    refine v_icmp_ge (tgt := 13) C dX11_within_6 (by decide) (fun c2 => ?_) (fun c2 => ?_)
    · replace hf := (if_pos c2).symm.trans hf
      refine v_iconst (v := 0) C dX11_within_13 (by decide) ?_
      obtain rfl := Option.some.inj hf
      exact v_zret C hr hlk rfl dX11_within_14 rfl rfl rfl rfl
    · replace hf := (if_neg c2).symm.trans hf
      refine v_iconst (v := 1) C dX11_within_9 (by decide) ?_
      refine v_goto (tgt := 14) C dX11_within_10 (by decide) ?_
      obtain rfl := Option.some.inj hf
      exact v_zret C hr hlk rfl dX11_within_14 rfl rfl rfl rfl

abbrev rm_Seats_add : Room := { frames := 1, cells := 0, slots := 0, locals := 21 }
def sp_Seats_add (K : Nat) (p1 : Int32) (v_t_sorts : Nat → Int32) (v_t_size : Int32) : Option (Int32 × (Nat → Int32) × Int32) :=
  (sp_within K v_t_size 40).bind fun o6 =>
    if o6 = 0 then
      some ((-1), v_t_sorts, v_t_size)
    else
      if inb v_t_size 40 then
        some (v_t_size + 1, upd v_t_sorts v_t_size.toNatClampNeg p1, v_t_size + 1)
      else none
set_option maxHeartbeats 4000000 in
set_option maxRecDepth 20000 in
theorem c_Seats_add (l : Launch) (D : va_G) (cy : Nat → ClassId) (K : Nat) (q_t q_t_sorts : Nat) (p1 : Int32) (v_t_sorts : Nat → Int32) (v_t_size : Int32) (out : Int32 × (Nat → Int32) × Int32) (hf : sp_Seats_add K p1 v_t_sorts v_t_size = some out) : Ct l yX7_add cX7_add 2 (some .int) rm_Seats_add D cy [.ref q_t, .int p1] [ob q_t 7 [.ref q_t_sorts, .int v_t_size], aI cy q_t_sorts 40 v_t_sorts] (some (.int out.1)) [ob q_t 7 [.ref q_t_sorts, .int out.2.2], aI cy q_t_sorts 40 out.2.1] := by
  refine ct_of (by decide +kernel) (Nat.le_of_ble_eq_true rfl) (fun p e s m args below meth c C hr hlk hnm => ?_)
  unfold sp_Seats_add at hf
  refine v_aload_n C dX7_add_0 0 rfl rfl ?_
  refine v_get C fl_X7_15 0 rfl rfl dX7_add_1 ?_
  refine v_bipush (v := 40) C dX7_add_4 (by decide) ?_
  obtain ⟨o6, g1, hf⟩ := bd_ hf
  refine v_callN0 (As := [.int v_t_size, .int 40]) (st := []) (stk' := [.int o6]) C (c_within l D cy K   v_t_size 40 o6 g1) ln_X7_19 rfl (by decide) rfl dX7_add_6 (Nat.le_of_ble_eq_true rfl) rfl ?_
  refine v_if_ne (tgt := 14) C dX7_add_9 (by decide) (fun c2 => ?_) (fun c2 => ?_)
  · replace hf := (if_neg c2).symm.trans hf
    refine v_aload_n C dX7_add_14 0 rfl rfl ?_
    refine v_get C fl_X7_9 0 rfl rfl dX7_add_15 ?_
    refine v_aload_n C dX7_add_18 0 rfl rfl ?_
    refine v_get C fl_X7_15 0 rfl rfl dX7_add_19 ?_
    refine v_iload_n C dX7_add_22 1 rfl rfl ?_
    obtain ⟨g3, hf⟩ := gd_ hf
    refine v_iast (ws' := [ob q_t 7 [.ref q_t_sorts, .int v_t_size], aI cy q_t_sorts 40 (upd v_t_sorts v_t_size.toNatClampNeg p1)]) C 1 rfl g3 rfl dX7_add_23 ?_
    refine v_aload_n C dX7_add_24 0 rfl rfl ?_
    refine v_dup C dX7_add_25 rfl ?_
    refine v_get C fl_X7_15 0 rfl rfl dX7_add_26 ?_
    refine v_iconst (v := 1) C dX7_add_29 (by decide) ?_
    refine v_iadd C dX7_add_30 ?_
    refine v_put (ws' := [ob q_t 7 [.ref q_t_sorts, .int (v_t_size + 1)], aI cy q_t_sorts 40 (upd v_t_sorts v_t_size.toNatClampNeg p1)]) C fp_X7_15 0 rfl rfl rfl (Nat.le_of_ble_eq_true rfl) rfl dX7_add_31 ?_
    refine v_aload_n C dX7_add_34 0 rfl rfl ?_
    refine v_get C fl_X7_15 0 rfl rfl dX7_add_35 ?_
    obtain rfl := Option.some.inj hf
    exact v_iret C hr hlk dX7_add_38 rfl rfl rfl rfl
  · replace hf := (if_pos c2).symm.trans hf
    refine v_iconst (v := (-1)) C dX7_add_12 (by decide) ?_
    obtain rfl := Option.some.inj hf
    exact v_iret C hr hlk dX7_add_13 rfl rfl rfl rfl

abbrev rm_Seats_having : Room := { frames := 0, cells := 0, slots := 0, locals := 0 }
def f_Seats_having (K : Nat) (v_t_sorts : Nat → Int32) (v_t_size : Int32) : Nat → Nat → Int32 × Int32 × Int32 → Option (Int32)
  | 0, _, _ => none
  | n + 1, 0, (x1, x2, x3) =>
    if v_t_size ≤ x3 then
      some x2
    else
      if 40 ≤ x3 then
        some x2
      else
        if inb x3 40 then
          if ((v_t_sorts x3.toNatClampNeg) &&& x1) = x1 then
            f_Seats_having K v_t_sorts v_t_size n 1 (x1, x2 + 1, x3)
          else
            f_Seats_having K v_t_sorts v_t_size n 1 (x1, x2, x3)
        else none
  | n + 1, 1, (x1, x2, x3) =>
    f_Seats_having K v_t_sorts v_t_size n 0 (x1, x2, x3 + 1)
  | _ + 1, _ + 2, _ => none
def sp_Seats_having (K : Nat) (p1 : Int32) (v_t_sorts : Nat → Int32) (v_t_size : Int32) : Option (Int32) :=
  f_Seats_having K v_t_sorts v_t_size K 0 (p1, 0, 0)
def Z0_Seats_having (Vf : va_W → Nat → List (Nat × Value) → List Value → Prop) (cy : Nat → ClassId) (K n : Nat) (q_t q_t_sorts : Nat) (v_t_sorts : Nat → Int32) (v_t_size : Int32) (out : Int32) : Prop := ∀ (x1 : Int32) (x2 : Int32) (x3 : Int32), f_Seats_having K v_t_sorts v_t_size n 0 (x1, x2, x3) = some out → Vf [ob q_t 7 [.ref q_t_sorts, .int v_t_size], aI cy q_t_sorts 40 v_t_sorts] 4 [(0, .ref q_t), (1, .int x1), (2, .int x2), (3, .int x3)] []
def Z1_Seats_having (Vf : va_W → Nat → List (Nat × Value) → List Value → Prop) (cy : Nat → ClassId) (K n : Nat) (q_t q_t_sorts : Nat) (v_t_sorts : Nat → Int32) (v_t_size : Int32) (out : Int32) : Prop := ∀ (x1 : Int32) (x2 : Int32) (x3 : Int32), f_Seats_having K v_t_sorts v_t_size n 1 (x1, x2, x3) = some out → Vf [ob q_t 7 [.ref q_t_sorts, .int v_t_size], aI cy q_t_sorts 40 v_t_sorts] 33 [(0, .ref q_t), (1, .int x1), (2, .int x2), (3, .int x3)] []
def Z_Seats_having (Vf : va_W → Nat → List (Nat × Value) → List Value → Prop) (cy : Nat → ClassId) (K n : Nat) (q_t q_t_sorts : Nat) (v_t_sorts : Nat → Int32) (v_t_size : Int32) (out : Int32) : Prop := Z0_Seats_having Vf cy K n q_t q_t_sorts  v_t_sorts v_t_size out ∧ Z1_Seats_having Vf cy K n q_t q_t_sorts  v_t_sorts v_t_size out
set_option maxHeartbeats 4000000 in
set_option maxRecDepth 20000 in
theorem z0_Seats_having {p : Program} {l : Launch} {e : Env} {s : State} {m : MethodId} {args : Array Value} {below : List Frame} {meth : Method} {c : Code} {D : va_G} {cy : Nat → ClassId} {K : Nat} {q_t q_t_sorts : Nat} {v_t_sorts : Nat → Int32} {v_t_size : Int32} {out : Int32} (C : VC p s m args c cX7_having RX7 4 D cy (va_A [ob q_t 7 [.ref q_t_sorts, .int v_t_size], aI cy q_t_sorts 40 v_t_sorts] s.heap.size)) (hr : meth.sig.returnType = (some .int)) (hlk : meth.locks = false) (n : Nat) (ih : Z_Seats_having (V p l e rm_Seats_having s m args below meth c (EQ below args s rm_Seats_having D [ob q_t 7 [.ref q_t_sorts, .int v_t_size], aI cy q_t_sorts 40 v_t_sorts] (some (.int out)) [ob q_t 7 [.ref q_t_sorts, .int v_t_size], aI cy q_t_sorts 40 v_t_sorts]) 4 D (va_A [ob q_t 7 [.ref q_t_sorts, .int v_t_size], aI cy q_t_sorts 40 v_t_sorts] s.heap.size) 0 0) cy K n q_t q_t_sorts  v_t_sorts v_t_size out) : Z0_Seats_having (V p l e rm_Seats_having s m args below meth c (EQ below args s rm_Seats_having D [ob q_t 7 [.ref q_t_sorts, .int v_t_size], aI cy q_t_sorts 40 v_t_sorts] (some (.int out)) [ob q_t 7 [.ref q_t_sorts, .int v_t_size], aI cy q_t_sorts 40 v_t_sorts]) 4 D (va_A [ob q_t 7 [.ref q_t_sorts, .int v_t_size], aI cy q_t_sorts 40 v_t_sorts] s.heap.size) 0 0) cy K (n + 1) q_t q_t_sorts  v_t_sorts v_t_size out := by
  intro x1 x2 x3 hf
  replace hf := hf
  refine v_iload_n C dX7_having_4 3 rfl rfl ?_
  refine v_aload_n C dX7_having_5 0 rfl rfl ?_
  refine v_get C fl_X7_15 0 rfl rfl dX7_having_6 ?_
  refine v_icmp_ge (tgt := 39) C dX7_having_9 (by decide) (fun c1 => ?_) (fun c1 => ?_)
  · replace hf := (if_pos c1).symm.trans hf
    refine v_iload_n C dX7_having_39 2 rfl rfl ?_
    obtain rfl := Option.some.inj hf
    exact v_iret C hr hlk dX7_having_40 rfl rfl rfl rfl
  · replace hf := (if_neg c1).symm.trans hf
    refine v_iload_n C dX7_having_12 3 rfl rfl ?_
    refine v_bipush (v := 40) C dX7_having_13 (by decide) ?_
    refine v_icmp_ge (tgt := 39) C dX7_having_15 (by decide) (fun c2 => ?_) (fun c2 => ?_)
    · replace hf := (if_pos c2).symm.trans hf
      refine v_iload_n C dX7_having_39 2 rfl rfl ?_
      obtain rfl := Option.some.inj hf
      exact v_iret C hr hlk dX7_having_40 rfl rfl rfl rfl
    · replace hf := (if_neg c2).symm.trans hf
      refine v_aload_n C dX7_having_18 0 rfl rfl ?_
      refine v_get C fl_X7_9 0 rfl rfl dX7_having_19 ?_
      refine v_iload_n C dX7_having_22 3 rfl rfl ?_
      obtain ⟨g3, hf⟩ := gd_ hf
      refine v_iald C 1 rfl g3 dX7_having_23 ?_
      refine v_iload_n C dX7_having_24 1 rfl rfl ?_
      refine v_iand C dX7_having_25 ?_
      refine v_iload_n C dX7_having_26 1 rfl rfl ?_
      refine v_icmp_ne (tgt := 33) C dX7_having_27 (by decide) (fun c4 => ?_) (fun c4 => ?_)
      · replace hf := (if_neg c4).symm.trans hf
        exact ih.2 _ _ _ hf
      · replace hf := (if_pos c4).symm.trans hf
        refine v_iinc (v := x2 + 1) (lv' := [(2, .int (x2 + 1)), (0, .ref q_t), (1, .int x1), (3, .int x3)]) C dX7_having_30 2 rfl rfl (by decide) rfl ?_
        refine v_lv (lv' := [(0, .ref q_t), (1, .int x1), (2, .int (x2 + 1)), (3, .int x3)]) [1, 2, 0, 3] rfl ?_
        exact ih.2 _ _ _ hf
set_option maxHeartbeats 4000000 in
set_option maxRecDepth 20000 in
theorem z1_Seats_having {p : Program} {l : Launch} {e : Env} {s : State} {m : MethodId} {args : Array Value} {below : List Frame} {meth : Method} {c : Code} {D : va_G} {cy : Nat → ClassId} {K : Nat} {q_t q_t_sorts : Nat} {v_t_sorts : Nat → Int32} {v_t_size : Int32} {out : Int32} (C : VC p s m args c cX7_having RX7 4 D cy (va_A [ob q_t 7 [.ref q_t_sorts, .int v_t_size], aI cy q_t_sorts 40 v_t_sorts] s.heap.size)) (hr : meth.sig.returnType = (some .int)) (hlk : meth.locks = false) (n : Nat) (ih : Z_Seats_having (V p l e rm_Seats_having s m args below meth c (EQ below args s rm_Seats_having D [ob q_t 7 [.ref q_t_sorts, .int v_t_size], aI cy q_t_sorts 40 v_t_sorts] (some (.int out)) [ob q_t 7 [.ref q_t_sorts, .int v_t_size], aI cy q_t_sorts 40 v_t_sorts]) 4 D (va_A [ob q_t 7 [.ref q_t_sorts, .int v_t_size], aI cy q_t_sorts 40 v_t_sorts] s.heap.size) 0 0) cy K n q_t q_t_sorts  v_t_sorts v_t_size out) : Z1_Seats_having (V p l e rm_Seats_having s m args below meth c (EQ below args s rm_Seats_having D [ob q_t 7 [.ref q_t_sorts, .int v_t_size], aI cy q_t_sorts 40 v_t_sorts] (some (.int out)) [ob q_t 7 [.ref q_t_sorts, .int v_t_size], aI cy q_t_sorts 40 v_t_sorts]) 4 D (va_A [ob q_t 7 [.ref q_t_sorts, .int v_t_size], aI cy q_t_sorts 40 v_t_sorts] s.heap.size) 0 0) cy K (n + 1) q_t q_t_sorts  v_t_sorts v_t_size out := by
  intro x1 x2 x3 hf
  replace hf := hf
  refine v_iinc (v := x3 + 1) (lv' := [(3, .int (x3 + 1)), (0, .ref q_t), (1, .int x1), (2, .int x2)]) C dX7_having_33 3 rfl rfl (by decide) rfl ?_
  refine v_goto (tgt := 4) C dX7_having_36 (by decide) ?_
  refine v_lv (lv' := [(0, .ref q_t), (1, .int x1), (2, .int x2), (3, .int (x3 + 1))]) [1, 2, 3, 0] rfl ?_
  exact ih.1 _ _ _ hf
theorem z_Seats_having {p : Program} {l : Launch} {e : Env} {s : State} {m : MethodId} {args : Array Value} {below : List Frame} {meth : Method} {c : Code} {D : va_G} {cy : Nat → ClassId} {K : Nat} {q_t q_t_sorts : Nat} {v_t_sorts : Nat → Int32} {v_t_size : Int32} {out : Int32} (C : VC p s m args c cX7_having RX7 4 D cy (va_A [ob q_t 7 [.ref q_t_sorts, .int v_t_size], aI cy q_t_sorts 40 v_t_sorts] s.heap.size)) (hr : meth.sig.returnType = (some .int)) (hlk : meth.locks = false) (n : Nat) : Z_Seats_having (V p l e rm_Seats_having s m args below meth c (EQ below args s rm_Seats_having D [ob q_t 7 [.ref q_t_sorts, .int v_t_size], aI cy q_t_sorts 40 v_t_sorts] (some (.int out)) [ob q_t 7 [.ref q_t_sorts, .int v_t_size], aI cy q_t_sorts 40 v_t_sorts]) 4 D (va_A [ob q_t 7 [.ref q_t_sorts, .int v_t_size], aI cy q_t_sorts 40 v_t_sorts] s.heap.size) 0 0) cy K n q_t q_t_sorts  v_t_sorts v_t_size out := by
  induction n with
  | zero => exact ⟨(fun _ _ _ h => nomatch h), (fun _ _ _ h => nomatch h)⟩
  | succ n ih => exact ⟨z0_Seats_having C hr hlk n ih, z1_Seats_having C hr hlk n ih⟩
set_option maxHeartbeats 4000000 in
set_option maxRecDepth 20000 in
theorem c_Seats_having (l : Launch) (D : va_G) (cy : Nat → ClassId) (K : Nat) (q_t q_t_sorts : Nat) (p1 : Int32) (v_t_sorts : Nat → Int32) (v_t_size : Int32) (out : Int32) (hf : sp_Seats_having K p1 v_t_sorts v_t_size = some out) : Ct l yX7_having cX7_having 4 (some .int) rm_Seats_having D cy [.ref q_t, .int p1] [ob q_t 7 [.ref q_t_sorts, .int v_t_size], aI cy q_t_sorts 40 v_t_sorts] (some (.int out)) [ob q_t 7 [.ref q_t_sorts, .int v_t_size], aI cy q_t_sorts 40 v_t_sorts] := by
  refine ct_of (by decide +kernel) (Nat.le_of_ble_eq_true rfl) (fun p e s m args below meth c C hr hlk hnm => ?_)
  unfold sp_Seats_having at hf
  refine v_iconst (v := 0) C dX7_having_0 (by decide) ?_
  refine v_istore_n (lv' := [(2, .int 0), (0, .ref q_t), (1, .int p1)]) C dX7_having_1 rfl (by decide) rfl ?_
  refine v_iconst (v := 0) C dX7_having_2 (by decide) ?_
  refine v_istore_n (lv' := [(3, .int 0), (2, .int 0), (0, .ref q_t), (1, .int p1)]) C dX7_having_3 rfl (by decide) rfl ?_
  refine v_lv (lv' := [(0, .ref q_t), (1, .int p1), (2, .int 0), (3, .int 0)]) [2, 3, 1, 0] rfl ?_
  exact (z_Seats_having C hr hlk K).1 _ _ _ hf

abbrev rm_Seats_copy : Room := { frames := 2, cells := 0, slots := 0, locals := 42 }
def f_Seats_copy (K : Nat) (v_p1_sorts : Nat → Int32) (v_p1_size : Int32) : Nat → Nat → Int32 × (Nat → Int32) × Int32 → Option ((Nat → Int32) × Int32)
  | 0, _, _ => none
  | n + 1, 0, (x2, v_t_sorts, v_t_size) =>
    if v_p1_size ≤ x2 then
      some (v_t_sorts, v_t_size)
    else
      if 40 ≤ x2 then
        some (v_t_sorts, v_t_size)
      else
        if inb x2 40 then
          (sp_Seats_add K (v_p1_sorts x2.toNatClampNeg) v_t_sorts v_t_size).bind fun o28 =>
            f_Seats_copy K v_p1_sorts v_p1_size n 0 (x2 + 1, o28.2.1, o28.2.2)
        else none
  | _ + 1, _ + 1, _ => none
def sp_Seats_copy (K : Nat) (v_t_sorts : Nat → Int32) (v_t_size : Int32) (v_p1_sorts : Nat → Int32) (v_p1_size : Int32) : Option ((Nat → Int32) × Int32) :=
  f_Seats_copy K v_p1_sorts v_p1_size K 0 (0, v_t_sorts, 0)
def Z0_Seats_copy (Vf : va_W → Nat → List (Nat × Value) → List Value → Prop) (cy : Nat → ClassId) (K n : Nat) (q_t q_t_sorts q_p1 q_p1_sorts : Nat) (v_p1_sorts : Nat → Int32) (v_p1_size : Int32) (out : (Nat → Int32) × Int32) : Prop := ∀ (x2 : Int32) (v_t_sorts : Nat → Int32) (v_t_size : Int32), f_Seats_copy K v_p1_sorts v_p1_size n 0 (x2, v_t_sorts, v_t_size) = some out → Vf [ob q_t 7 [.ref q_t_sorts, .int v_t_size], aI cy q_t_sorts 40 v_t_sorts, ob q_p1 7 [.ref q_p1_sorts, .int v_p1_size], aI cy q_p1_sorts 40 v_p1_sorts] 7 [(0, .ref q_t), (1, .ref q_p1), (2, .int x2)] []
def Z_Seats_copy (Vf : va_W → Nat → List (Nat × Value) → List Value → Prop) (cy : Nat → ClassId) (K n : Nat) (q_t q_t_sorts q_p1 q_p1_sorts : Nat) (v_p1_sorts : Nat → Int32) (v_p1_size : Int32) (out : (Nat → Int32) × Int32) : Prop := Z0_Seats_copy Vf cy K n q_t q_t_sorts q_p1 q_p1_sorts  v_p1_sorts v_p1_size out
set_option maxHeartbeats 4000000 in
set_option maxRecDepth 20000 in
theorem z0_Seats_copy {p : Program} {l : Launch} {e : Env} {s : State} {m : MethodId} {args : Array Value} {below : List Frame} {meth : Method} {c : Code} {D : va_G} {cy : Nat → ClassId} {K : Nat} {q_t q_t_sorts q_p1 q_p1_sorts : Nat} {v_p1_sorts : Nat → Int32} {v_p1_size : Int32} {v_t_sorts' : Nat → Int32} {v_t_size' : Int32} {out : (Nat → Int32) × Int32} (C : VC p s m args c cX7_copy RX7 3 D cy (va_A [ob q_t 7 [.ref q_t_sorts, .int v_t_size'], aI cy q_t_sorts 40 v_t_sorts', ob q_p1 7 [.ref q_p1_sorts, .int v_p1_size], aI cy q_p1_sorts 40 v_p1_sorts] s.heap.size)) (hr : meth.sig.returnType = none) (hlk : meth.locks = false) (n : Nat) (ih : Z_Seats_copy (V p l e rm_Seats_copy s m args below meth c (EQ below args s rm_Seats_copy D [ob q_t 7 [.ref q_t_sorts, .int v_t_size'], aI cy q_t_sorts 40 v_t_sorts', ob q_p1 7 [.ref q_p1_sorts, .int v_p1_size], aI cy q_p1_sorts 40 v_p1_sorts] none [ob q_t 7 [.ref q_t_sorts, .int out.2], aI cy q_t_sorts 40 out.1, ob q_p1 7 [.ref q_p1_sorts, .int v_p1_size], aI cy q_p1_sorts 40 v_p1_sorts]) 3 D (va_A [ob q_t 7 [.ref q_t_sorts, .int v_t_size'], aI cy q_t_sorts 40 v_t_sorts', ob q_p1 7 [.ref q_p1_sorts, .int v_p1_size], aI cy q_p1_sorts 40 v_p1_sorts] s.heap.size) 0 0) cy K n q_t q_t_sorts q_p1 q_p1_sorts  v_p1_sorts v_p1_size out) : Z0_Seats_copy (V p l e rm_Seats_copy s m args below meth c (EQ below args s rm_Seats_copy D [ob q_t 7 [.ref q_t_sorts, .int v_t_size'], aI cy q_t_sorts 40 v_t_sorts', ob q_p1 7 [.ref q_p1_sorts, .int v_p1_size], aI cy q_p1_sorts 40 v_p1_sorts] none [ob q_t 7 [.ref q_t_sorts, .int out.2], aI cy q_t_sorts 40 out.1, ob q_p1 7 [.ref q_p1_sorts, .int v_p1_size], aI cy q_p1_sorts 40 v_p1_sorts]) 3 D (va_A [ob q_t 7 [.ref q_t_sorts, .int v_t_size'], aI cy q_t_sorts 40 v_t_sorts', ob q_p1 7 [.ref q_p1_sorts, .int v_p1_size], aI cy q_p1_sorts 40 v_p1_sorts] s.heap.size) 0 0) cy K (n + 1) q_t q_t_sorts q_p1 q_p1_sorts  v_p1_sorts v_p1_size out := by
  intro x2 v_t_sorts v_t_size hf
  replace hf := hf
  refine v_iload_n C dX7_copy_7 2 rfl rfl ?_
  refine v_aload_n C dX7_copy_8 1 rfl rfl ?_
  refine v_get C fl_X7_15 2 rfl rfl dX7_copy_9 ?_
  refine v_icmp_ge (tgt := 38) C dX7_copy_12 (by decide) (fun c1 => ?_) (fun c1 => ?_)
  · replace hf := (if_pos c1).symm.trans hf
    obtain rfl := Option.some.inj hf
    exact v_vret C hr hlk dX7_copy_38 rfl rfl rfl rfl
  · replace hf := (if_neg c1).symm.trans hf
    refine v_iload_n C dX7_copy_15 2 rfl rfl ?_
    refine v_bipush (v := 40) C dX7_copy_16 (by decide) ?_
    refine v_icmp_ge (tgt := 38) C dX7_copy_18 (by decide) (fun c2 => ?_) (fun c2 => ?_)
    · replace hf := (if_pos c2).symm.trans hf
      obtain rfl := Option.some.inj hf
      exact v_vret C hr hlk dX7_copy_38 rfl rfl rfl rfl
    · replace hf := (if_neg c2).symm.trans hf
      refine v_aload_n C dX7_copy_21 0 rfl rfl ?_
      refine v_aload_n C dX7_copy_22 1 rfl rfl ?_
      refine v_get C fl_X7_9 2 rfl rfl dX7_copy_23 ?_
      refine v_iload_n C dX7_copy_26 2 rfl rfl ?_
      obtain ⟨g3, hf⟩ := gd_ hf
      refine v_iald C 3 rfl g3 dX7_copy_27 ?_
      obtain ⟨o28, g4, hf⟩ := bd_ hf
      refine v_callV (As := [.int (v_p1_sorts x2.toNatClampNeg)]) (wr := [ob q_p1 7 [.ref q_p1_sorts, .int v_p1_size], aI cy q_p1_sorts 40 v_p1_sorts]) (ws' := [ob q_p1 7 [.ref q_p1_sorts, .int v_p1_size], aI cy q_p1_sorts 40 v_p1_sorts, ob q_t 7 [.ref q_t_sorts, .int o28.2.2], aI cy q_t_sorts 40 o28.2.1]) (st := []) (stk' := [.int o28.1]) C (c_Seats_add l D cy K q_t q_t_sorts  (v_p1_sorts x2.toNatClampNeg) v_t_sorts v_t_size o28 g4) lv_X7_23 rfl (by decide) rfl 0 rfl rfl rfl dX7_copy_28 [0, 1] [2, 3] (by decide) rfl rfl (by decide) (by decide) (Nat.le_of_ble_eq_true rfl) rfl rfl ?_
      refine v_pop C dX7_copy_31 rfl ?_
      refine v_iinc (v := x2 + 1) (lv' := [(2, .int (x2 + 1)), (0, .ref q_t), (1, .ref q_p1)]) C dX7_copy_32 2 rfl rfl (by decide) rfl ?_
      refine v_goto (tgt := 7) C dX7_copy_35 (by decide) ?_
      refine v_lv (lv' := [(0, .ref q_t), (1, .ref q_p1), (2, .int (x2 + 1))]) [1, 2, 0] rfl ?_
      refine v_ws (ws' := [ob q_t 7 [.ref q_t_sorts, .int o28.2.2], aI cy q_t_sorts 40 o28.2.1, ob q_p1 7 [.ref q_p1_sorts, .int v_p1_size], aI cy q_p1_sorts 40 v_p1_sorts]) [2, 3, 0, 1] (by decide) rfl ?_
      exact ih _ _ _ hf
theorem z_Seats_copy {p : Program} {l : Launch} {e : Env} {s : State} {m : MethodId} {args : Array Value} {below : List Frame} {meth : Method} {c : Code} {D : va_G} {cy : Nat → ClassId} {K : Nat} {q_t q_t_sorts q_p1 q_p1_sorts : Nat} {v_p1_sorts : Nat → Int32} {v_p1_size : Int32} {v_t_sorts' : Nat → Int32} {v_t_size' : Int32} {out : (Nat → Int32) × Int32} (C : VC p s m args c cX7_copy RX7 3 D cy (va_A [ob q_t 7 [.ref q_t_sorts, .int v_t_size'], aI cy q_t_sorts 40 v_t_sorts', ob q_p1 7 [.ref q_p1_sorts, .int v_p1_size], aI cy q_p1_sorts 40 v_p1_sorts] s.heap.size)) (hr : meth.sig.returnType = none) (hlk : meth.locks = false) (n : Nat) : Z_Seats_copy (V p l e rm_Seats_copy s m args below meth c (EQ below args s rm_Seats_copy D [ob q_t 7 [.ref q_t_sorts, .int v_t_size'], aI cy q_t_sorts 40 v_t_sorts', ob q_p1 7 [.ref q_p1_sorts, .int v_p1_size], aI cy q_p1_sorts 40 v_p1_sorts] none [ob q_t 7 [.ref q_t_sorts, .int out.2], aI cy q_t_sorts 40 out.1, ob q_p1 7 [.ref q_p1_sorts, .int v_p1_size], aI cy q_p1_sorts 40 v_p1_sorts]) 3 D (va_A [ob q_t 7 [.ref q_t_sorts, .int v_t_size'], aI cy q_t_sorts 40 v_t_sorts', ob q_p1 7 [.ref q_p1_sorts, .int v_p1_size], aI cy q_p1_sorts 40 v_p1_sorts] s.heap.size) 0 0) cy K n q_t q_t_sorts q_p1 q_p1_sorts  v_p1_sorts v_p1_size out := by
  induction n with
  | zero => exact fun _ _ _ h => nomatch h
  | succ n ih => exact z0_Seats_copy C hr hlk n ih
set_option maxHeartbeats 4000000 in
set_option maxRecDepth 20000 in
theorem c_Seats_copy (l : Launch) (D : va_G) (cy : Nat → ClassId) (K : Nat) (q_t q_t_sorts q_p1 q_p1_sorts : Nat) (v_t_sorts : Nat → Int32) (v_t_size : Int32) (v_p1_sorts : Nat → Int32) (v_p1_size : Int32) (out : (Nat → Int32) × Int32) (hf : sp_Seats_copy K v_t_sorts v_t_size v_p1_sorts v_p1_size = some out) : Ct l yX7_copy cX7_copy 3 none rm_Seats_copy D cy [.ref q_t, .ref q_p1] [ob q_t 7 [.ref q_t_sorts, .int v_t_size], aI cy q_t_sorts 40 v_t_sorts, ob q_p1 7 [.ref q_p1_sorts, .int v_p1_size], aI cy q_p1_sorts 40 v_p1_sorts] none [ob q_t 7 [.ref q_t_sorts, .int out.2], aI cy q_t_sorts 40 out.1, ob q_p1 7 [.ref q_p1_sorts, .int v_p1_size], aI cy q_p1_sorts 40 v_p1_sorts] := by
  refine ct_of (by decide +kernel) (Nat.le_of_ble_eq_true rfl) (fun p e s m args below meth c C hr hlk hnm => ?_)
  unfold sp_Seats_copy at hf
  refine v_aload_n C dX7_copy_0 0 rfl rfl ?_
  refine v_iconst (v := 0) C dX7_copy_1 (by decide) ?_
  refine v_put (ws' := [ob q_t 7 [.ref q_t_sorts, .int 0], aI cy q_t_sorts 40 v_t_sorts, ob q_p1 7 [.ref q_p1_sorts, .int v_p1_size], aI cy q_p1_sorts 40 v_p1_sorts]) C fp_X7_15 0 rfl rfl rfl (Nat.le_of_ble_eq_true rfl) rfl dX7_copy_2 ?_
  refine v_iconst (v := 0) C dX7_copy_5 (by decide) ?_
  refine v_istore_n (lv' := [(2, .int 0), (0, .ref q_t), (1, .ref q_p1)]) C dX7_copy_6 rfl (by decide) rfl ?_
  refine v_lv (lv' := [(0, .ref q_t), (1, .ref q_p1), (2, .int 0)]) [1, 2, 0] rfl ?_
  exact (z_Seats_copy C hr hlk K) _ _ _ hf
