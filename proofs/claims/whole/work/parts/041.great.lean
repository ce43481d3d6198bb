abbrev rm_Great_setOne : Room := { frames := 0, cells := 0, slots := 0, locals := 0 }
def sp_Great_setOne (K : Nat) (v_t_limbs : Nat → Int32) (v_t_size : Int32) : Option ((Nat → Int32) × Int32) :=
  if inb 0 136 then
    some (upd v_t_limbs (0 : Int32).toNatClampNeg 1, 1)
  else none
set_option maxHeartbeats 4000000 in
set_option maxRecDepth 20000 in
theorem c_Great_setOne (l : Launch) (D : va_G) (cy : Nat → ClassId) (K : Nat) (q_t q_t_limbs : Nat) (v_t_limbs : Nat → Int32) (v_t_size : Int32) (out : (Nat → Int32) × Int32) (hf : sp_Great_setOne K v_t_limbs v_t_size = some out) : Ct l yX4_setOne cX4_setOne 1 none rm_Great_setOne D cy [.ref q_t] [ob q_t 4 [.ref q_t_limbs, .int v_t_size], aI cy q_t_limbs 136 v_t_limbs] none [ob q_t 4 [.ref q_t_limbs, .int out.2], aI cy q_t_limbs 136 out.1] := by
  refine ct_of (by decide +kernel) (Nat.le_of_ble_eq_true rfl) (fun p e s m args below meth c C hr hlk hnm => ?_)
  unfold sp_Great_setOne at hf
  refine v_aload_n C dX4_setOne_0 0 rfl rfl ?_
  refine v_get C fl_X4_11 0 rfl rfl dX4_setOne_1 ?_
  refine v_iconst (v := 0) C dX4_setOne_4 (by decide) ?_
  refine v_iconst (v := 1) C dX4_setOne_5 (by decide) ?_
  obtain ⟨g1, hf⟩ := gd_ hf
  refine v_iast (ws' := [ob q_t 4 [.ref q_t_limbs, .int v_t_size], aI cy q_t_limbs 136 (upd v_t_limbs (0 : Int32).toNatClampNeg 1)]) C 1 rfl g1 rfl dX4_setOne_6 ?_
  refine v_aload_n C dX4_setOne_7 0 rfl rfl ?_
  refine v_iconst (v := 1) C dX4_setOne_8 (by decide) ?_
  refine v_put (ws' := [ob q_t 4 [.ref q_t_limbs, .int 1], aI cy q_t_limbs 136 (upd v_t_limbs (0 : Int32).toNatClampNeg 1)]) C fp_X4_15 0 rfl rfl rfl (Nat.le_of_ble_eq_true rfl) rfl dX4_setOne_9 ?_
  obtain rfl := Option.some.inj hf
  exact v_vret C hr hlk dX4_setOne_12 rfl rfl rfl rfl

abbrev rm_Great_isZero : Room := { frames := 0, cells := 0, slots := 0, locals := 0 }
def sp_Great_isZero (K : Nat) (v_t_size : Int32) : Option (Int32) :=
  if v_t_size = 0 then
    some 1
  else
    some 0
set_option maxHeartbeats 4000000 in
set_option maxRecDepth 20000 in
theorem c_Great_isZero (l : Launch) (D : va_G) (cy : Nat → ClassId) (K : Nat) (q_t q_t_limbs : Nat) (v_t_limbs : Nat → Int32) (v_t_size : Int32) (out : Int32) (hf : sp_Great_isZero K v_t_size = some out) : Ct l yX4_isZero cX4_isZero 1 (some .boolean) rm_Great_isZero D cy [.ref q_t] [ob q_t 4 [.ref q_t_limbs, .int v_t_size], aI cy q_t_limbs 136 v_t_limbs] (some (.int out)) [ob q_t 4 [.ref q_t_limbs, .int v_t_size], aI cy q_t_limbs 136 v_t_limbs] := by
  refine ct_of (by decide +kernel) (Nat.le_of_ble_eq_true rfl) (fun p e s m args below meth c C hr hlk hnm => ?_)
  unfold sp_Great_isZero at hf
  refine v_aload_n C dX4_isZero_0 0 rfl rfl ?_
  refine v_get C fl_X4_15 0 rfl rfl dX4_isZero_1 ?_
  refine v_if_ne (tgt := 11) C dX4_isZero_4 (by decide) (fun c1 => ?_) (fun c1 => ?_)
  · replace hf := (if_neg c1).symm.trans hf
    refine v_iconst (v := 0) C dX4_isZero_11 (by decide) ?_
    obtain rfl := Option.some.inj hf
    exact v_zret C hr hlk rfl dX4_isZero_12 rfl rfl rfl rfl
  · replace hf := (if_pos c1).symm.trans hf
    refine v_iconst (v := 1) C dX4_isZero_7 (by decide) ?_
    refine v_goto (tgt := 12) C dX4_isZero_8 (by decide) ?_
    obtain rfl := Option.some.inj hf
    exact v_zret C hr hlk rfl dX4_isZero_12 rfl rfl rfl rfl

abbrev rm_Great_times : Room := { frames := 1, cells := 0, slots := 0, locals := 13 }
def f_Great_times (K : Nat) : Nat → Nat → Int64 × Int64 × Int64 × Int64 × Int32 × Int32 × Int32 × Int64 × (Nat → Int32) × Int32 → Option ((Nat → Int32) × Int32)
  | 0, _, _ => none
  | n + 1, 0, (z3, z5, z7, z9, x11, x12, x13, w0, v_t_limbs, v_t_size) =>
    if x12 ≤ x13 then
      some (v_t_limbs, x11)
    else
      if v_t_size ≤ x13 then
        f_Great_times K  n 1 (z3, z5, z7, z9, x11, x12, x13, 0, v_t_limbs, v_t_size)
      else
        if inb x13 136 then
          f_Great_times K  n 1 (z3, z5, z7, z9, x11, x12, x13, (v_t_limbs x13.toNatClampNeg).toInt64, v_t_limbs, v_t_size)
        else none
  | n + 1, 1, (z3, z5, z7, z9, x11, x12, x13, w0, v_t_limbs, v_t_size) =>
    if inb x13 136 then
      if inb x13 136 then
        if ((upd v_t_limbs x13.toNatClampNeg (((((w0 * z5) + (z7 * z3)) + z9) - (((w0 * z5) + (z7 * z3)) + z9) / 1000000000 * 1000000000).toInt32)) x13.toNatClampNeg) = 0 then
          f_Great_times K  n 2 (z3, z5, w0, (((w0 * z5) + (z7 * z3)) + z9) / 1000000000, x11, x12, x13, 0, upd v_t_limbs x13.toNatClampNeg (((((w0 * z5) + (z7 * z3)) + z9) - (((w0 * z5) + (z7 * z3)) + z9) / 1000000000 * 1000000000).toInt32), v_t_size)
        else
          f_Great_times K  n 2 (z3, z5, w0, (((w0 * z5) + (z7 * z3)) + z9) / 1000000000, x13 + 1, x12, x13, 0, upd v_t_limbs x13.toNatClampNeg (((((w0 * z5) + (z7 * z3)) + z9) - (((w0 * z5) + (z7 * z3)) + z9) / 1000000000 * 1000000000).toInt32), v_t_size)
      else none
    else none
  | n + 1, 2, (z3, z5, z7, z9, x11, x12, x13, w0, v_t_limbs, v_t_size) =>
    f_Great_times K  n 0 (z3, z5, z7, z9, x11, x12, x13 + 1, 0, v_t_limbs, v_t_size)
  | _ + 1, _ + 3, _ => none
def sp_Great_times (K : Nat) (p1 : Int64) (v_t_limbs : Nat → Int32) (v_t_size : Int32) : Option ((Nat → Int32) × Int32) :=
  f_Great_times K  K 0 (p1 / 1000000000, p1 - p1 / 1000000000 * 1000000000, 0, 0, 0, if 136 < (v_t_size + 3) then 136 else (v_t_size + 3), 0, 0, v_t_limbs, v_t_size)
def Z0_Great_times (Vf : va_W → Nat → List (Nat × Value) → List Value → Prop) (cy : Nat → ClassId) (K n : Nat) (q_t q_t_limbs : Nat) (out : (Nat → Int32) × Int32) : Prop := ∀ (z3 : Int64) (z5 : Int64) (z7 : Int64) (z9 : Int64) (x11 : Int32) (x12 : Int32) (x13 : Int32) (w0 : Int64) (v_t_limbs : Nat → Int32) (v_t_size : Int32), f_Great_times K  n 0 (z3, z5, z7, z9, x11, x12, x13, w0, v_t_limbs, v_t_size) = some out → Vf [ob q_t 4 [.ref q_t_limbs, .int v_t_size], aI cy q_t_limbs 136 v_t_limbs] 39 [(0, .ref q_t), (3, .long z3), (5, .long z5), (7, .long z7), (9, .long z9), (11, .int x11), (12, .int x12), (13, .int x13)] []
def Z1_Great_times (Vf : va_W → Nat → List (Nat × Value) → List Value → Prop) (cy : Nat → ClassId) (K n : Nat) (q_t q_t_limbs : Nat) (out : (Nat → Int32) × Int32) : Prop := ∀ (z3 : Int64) (z5 : Int64) (z7 : Int64) (z9 : Int64) (x11 : Int32) (x12 : Int32) (x13 : Int32) (w0 : Int64) (v_t_limbs : Nat → Int32) (v_t_size : Int32), f_Great_times K  n 1 (z3, z5, z7, z9, x11, x12, x13, w0, v_t_limbs, v_t_size) = some out → Vf [ob q_t 4 [.ref q_t_limbs, .int v_t_size], aI cy q_t_limbs 136 v_t_limbs] 67 [(0, .ref q_t), (3, .long z3), (5, .long z5), (7, .long z7), (9, .long z9), (11, .int x11), (12, .int x12), (13, .int x13)] [.long w0]
def Z2_Great_times (Vf : va_W → Nat → List (Nat × Value) → List Value → Prop) (cy : Nat → ClassId) (K n : Nat) (q_t q_t_limbs : Nat) (out : (Nat → Int32) × Int32) : Prop := ∀ (z3 : Int64) (z5 : Int64) (z7 : Int64) (z9 : Int64) (x11 : Int32) (x12 : Int32) (x13 : Int32) (w0 : Int64) (v_t_limbs : Nat → Int32) (v_t_size : Int32), f_Great_times K  n 2 (z3, z5, z7, z9, x11, x12, x13, w0, v_t_limbs, v_t_size) = some out → Vf [ob q_t 4 [.ref q_t_limbs, .int v_t_size], aI cy q_t_limbs 136 v_t_limbs] 126 [(0, .ref q_t), (3, .long z3), (5, .long z5), (7, .long z7), (9, .long z9), (11, .int x11), (12, .int x12), (13, .int x13)] []
def Z_Great_times (Vf : va_W → Nat → List (Nat × Value) → List Value → Prop) (cy : Nat → ClassId) (K n : Nat) (q_t q_t_limbs : Nat) (out : (Nat → Int32) × Int32) : Prop := Z0_Great_times Vf cy K n q_t q_t_limbs   out ∧ Z1_Great_times Vf cy K n q_t q_t_limbs   out ∧ Z2_Great_times Vf cy K n q_t q_t_limbs   out
set_option maxHeartbeats 4000000 in
set_option maxRecDepth 20000 in
theorem z0_Great_times {p : Program} {l : Launch} {e : Env} {s : State} {m : MethodId} {args : Array Value} {below : List Frame} {meth : Method} {c : Code} {D : va_G} {cy : Nat → ClassId} {K : Nat} {q_t q_t_limbs : Nat} {v_t_limbs' : Nat → Int32} {v_t_size' : Int32} {out : (Nat → Int32) × Int32} (C : VC p s m args c cX4_times RX4 18 D cy (va_A [ob q_t 4 [.ref q_t_limbs, .int v_t_size'], aI cy q_t_limbs 136 v_t_limbs'] s.heap.size)) (hr : meth.sig.returnType = none) (hlk : meth.locks = false) (n : Nat) (ih : Z_Great_times (V p l e rm_Great_times s m args below meth c (EQ below args s rm_Great_times D [ob q_t 4 [.ref q_t_limbs, .int v_t_size'], aI cy q_t_limbs 136 v_t_limbs'] none [ob q_t 4 [.ref q_t_limbs, .int out.2], aI cy q_t_limbs 136 out.1]) 18 D (va_A [ob q_t 4 [.ref q_t_limbs, .int v_t_size'], aI cy q_t_limbs 136 v_t_limbs'] s.heap.size) 0 0) cy K n q_t q_t_limbs   out) : Z0_Great_times (V p l e rm_Great_times s m args below meth c (EQ below args s rm_Great_times D [ob q_t 4 [.ref q_t_limbs, .int v_t_size'], aI cy q_t_limbs 136 v_t_limbs'] none [ob q_t 4 [.ref q_t_limbs, .int out.2], aI cy q_t_limbs 136 out.1]) 18 D (va_A [ob q_t 4 [.ref q_t_limbs, .int v_t_size'], aI cy q_t_limbs 136 v_t_limbs'] s.heap.size) 0 0) cy K (n + 1) q_t q_t_limbs   out := by
  intro z3 z5 z7 z9 x11 x12 x13 w0 v_t_limbs v_t_size hf
  replace hf := hf
  refine v_iload C dX4_times_39 7 rfl ?_
  refine v_iload C dX4_times_41 6 rfl ?_
  refine v_icmp_ge (tgt := 132) C dX4_times_43 (by decide) (fun c1 => ?_) (fun c1 => ?_)
  · replace hf := (if_pos c1).symm.trans hf
    refine v_aload_n C dX4_times_132 0 rfl rfl ?_
    refine v_iload C dX4_times_133 5 rfl ?_
    refine v_put (ws' := [ob q_t 4 [.ref q_t_limbs, .int x11], aI cy q_t_limbs 136 v_t_limbs]) C fp_X4_15 0 rfl rfl rfl (Nat.le_of_ble_eq_true rfl) rfl dX4_times_135 ?_
    obtain rfl := Option.some.inj hf
    exact v_vret C hr hlk dX4_times_138 rfl rfl rfl rfl
  · replace hf := (if_neg c1).symm.trans hf
    refine v_iload C dX4_times_46 7 rfl ?_
    refine v_aload_n C dX4_times_48 0 rfl rfl ?_
    refine v_get C fl_X4_15 0 rfl rfl dX4_times_49 ?_
    refine v_icmp_ge (tgt := 66) C dX4_times_52 (by decide) (fun c2 => ?_) (fun c2 => ?_)
    · replace hf := (if_pos c2).symm.trans hf
      refine v_lconst (v := 0) C dX4_times_66 (by decide) ?_
      exact ih.2.1 _ _ _ _ _ _ _ _ _ _ hf
    · replace hf := (if_neg c2).symm.trans hf
      refine v_aload_n C dX4_times_55 0 rfl rfl ?_
      refine v_get C fl_X4_11 0 rfl rfl dX4_times_56 ?_
      refine v_iload C dX4_times_59 7 rfl ?_
      obtain ⟨g3, hf⟩ := gd_ hf
      refine v_iald C 1 rfl g3 dX4_times_61 ?_
      refine v_i2l C dX4_times_62 ?_
      refine v_goto (tgt := 67) C dX4_times_63 (by decide) ?_
      exact ih.2.1 _ _ _ _ _ _ _ _ _ _ hf
set_option maxHeartbeats 4000000 in
set_option maxRecDepth 20000 in
theorem z1_Great_times {p : Program} {l : Launch} {e : Env} {s : State} {m : MethodId} {args : Array Value} {below : List Frame} {meth : Method} {c : Code} {D : va_G} {cy : Nat → ClassId} {K : Nat} {q_t q_t_limbs : Nat} {v_t_limbs' : Nat → Int32} {v_t_size' : Int32} {out : (Nat → Int32) × Int32} (C : VC p s m args c cX4_times RX4 18 D cy (va_A [ob q_t 4 [.ref q_t_limbs, .int v_t_size'], aI cy q_t_limbs 136 v_t_limbs'] s.heap.size)) (hr : meth.sig.returnType = none) (hlk : meth.locks = false) (n : Nat) (ih : Z_Great_times (V p l e rm_Great_times s m args below meth c (EQ below args s rm_Great_times D [ob q_t 4 [.ref q_t_limbs, .int v_t_size'], aI cy q_t_limbs 136 v_t_limbs'] none [ob q_t 4 [.ref q_t_limbs, .int out.2], aI cy q_t_limbs 136 out.1]) 18 D (va_A [ob q_t 4 [.ref q_t_limbs, .int v_t_size'], aI cy q_t_limbs 136 v_t_limbs'] s.heap.size) 0 0) cy K n q_t q_t_limbs   out) : Z1_Great_times (V p l e rm_Great_times s m args below meth c (EQ below args s rm_Great_times D [ob q_t 4 [.ref q_t_limbs, .int v_t_size'], aI cy q_t_limbs 136 v_t_limbs'] none [ob q_t 4 [.ref q_t_limbs, .int out.2], aI cy q_t_limbs 136 out.1]) 18 D (va_A [ob q_t 4 [.ref q_t_limbs, .int v_t_size'], aI cy q_t_limbs 136 v_t_limbs'] s.heap.size) 0 0) cy K (n + 1) q_t q_t_limbs   out := by
  intro z3 z5 z7 z9 x11 x12 x13 w0 v_t_limbs v_t_size hf
  replace hf := hf
  refine v_lstore (lv' := [(14, .long w0), (0, .ref q_t), (3, .long z3), (5, .long z5), (7, .long z7), (9, .long z9), (11, .int x11), (12, .int x12), (13, .int x13)]) C dX4_times_67 (by decide) rfl ?_
  refine v_lload C dX4_times_69 0 rfl ?_
  refine v_lload C dX4_times_71 3 rfl ?_
  refine v_lmul C dX4_times_73 ?_
  refine v_lload C dX4_times_74 4 rfl ?_
  refine v_lload_n C dX4_times_76 2 rfl rfl ?_
  refine v_lmul C dX4_times_77 ?_
  refine v_ladd C dX4_times_78 ?_
  refine v_lload C dX4_times_79 5 rfl ?_
  refine v_ladd C dX4_times_81 ?_
  refine v_lstore (lv' := [(16, .long (((w0 * z5) + (z7 * z3)) + z9)), (14, .long w0), (0, .ref q_t), (3, .long z3), (5, .long z5), (7, .long z7), (9, .long z9), (11, .int x11), (12, .int x12), (13, .int x13)]) C dX4_times_82 (by decide) rfl ?_
  refine v_lload C dX4_times_84 1 rfl ?_
  refine v_lstore (lv' := [(7, .long w0), (16, .long (((w0 * z5) + (z7 * z3)) + z9)), (14, .long w0), (0, .ref q_t), (3, .long z3), (5, .long z5), (9, .long z9), (11, .int x11), (12, .int x12), (13, .int x13)]) C dX4_times_86 (by decide) rfl ?_
  refine v_lload C dX4_times_88 1 rfl ?_
  refine v_ldc2 C kc_X4_34 dX4_times_90 ?_
  refine v_ldiv C dX4_times_93 (by decide) ?_
  refine v_lstore (lv' := [(9, .long ((((w0 * z5) + (z7 * z3)) + z9) / 1000000000)), (7, .long w0), (16, .long (((w0 * z5) + (z7 * z3)) + z9)), (14, .long w0), (0, .ref q_t), (3, .long z3), (5, .long z5), (11, .int x11), (12, .int x12), (13, .int x13)]) C dX4_times_94 (by decide) rfl ?_
  refine v_aload_n C dX4_times_96 4 rfl rfl ?_
  refine v_get C fl_X4_11 0 rfl rfl dX4_times_97 ?_
  refine v_iload C dX4_times_100 9 rfl ?_
  refine v_lload C dX4_times_102 2 rfl ?_
  refine v_ldc2 C kc_X4_34 dX4_times_104 ?_
  refine v_lrem C dX4_times_107 (by decide) ?_
  refine v_l2i C dX4_times_108 ?_
  obtain ⟨g1, hf⟩ := gd_ hf
  refine v_iast (ws' := [ob q_t 4 [.ref q_t_limbs, .int v_t_size], aI cy q_t_limbs 136 (upd v_t_limbs x13.toNatClampNeg (((((w0 * z5) + (z7 * z3)) + z9) - (((w0 * z5) + (z7 * z3)) + z9) / 1000000000 * 1000000000).toInt32))]) C 1 rfl g1 rfl dX4_times_109 ?_
  refine v_aload_n C dX4_times_110 4 rfl rfl ?_
  refine v_get C fl_X4_11 0 rfl rfl dX4_times_111 ?_
  refine v_iload C dX4_times_114 9 rfl ?_
  obtain ⟨g2, hf⟩ := gd_ hf
  refine v_iald C 1 rfl g2 dX4_times_116 ?_
  refine v_if_eq (tgt := 126) C dX4_times_117 (by decide) (fun c3 => ?_) (fun c3 => ?_)
  · replace hf := (if_pos c3).symm.trans hf
    refine v_lv (lv' := [(0, .ref q_t), (3, .long z3), (5, .long z5), (7, .long w0), (9, .long ((((w0 * z5) + (z7 * z3)) + z9) / 1000000000)), (11, .int x11), (12, .int x12), (13, .int x13)]) [4, 5, 6, 1, 0, 7, 8, 9] rfl ?_
    exact ih.2.2 _ _ _ _ _ _ _ _ _ _ hf
  · replace hf := (if_neg c3).symm.trans hf
    refine v_iload C dX4_times_120 9 rfl ?_
    refine v_iconst (v := 1) C dX4_times_122 (by decide) ?_
    refine v_iadd C dX4_times_123 ?_
    refine v_istore (lv' := [(11, .int (x13 + 1)), (9, .long ((((w0 * z5) + (z7 * z3)) + z9) / 1000000000)), (7, .long w0), (16, .long (((w0 * z5) + (z7 * z3)) + z9)), (14, .long w0), (0, .ref q_t), (3, .long z3), (5, .long z5), (12, .int x12), (13, .int x13)]) C dX4_times_124 (by decide) rfl ?_
    refine v_lv (lv' := [(0, .ref q_t), (3, .long z3), (5, .long z5), (7, .long w0), (9, .long ((((w0 * z5) + (z7 * z3)) + z9) / 1000000000)), (11, .int (x13 + 1)), (12, .int x12), (13, .int x13)]) [5, 6, 7, 2, 1, 0, 8, 9] rfl ?_
    exact ih.2.2 _ _ _ _ _ _ _ _ _ _ hf
set_option maxHeartbeats 4000000 in
set_option maxRecDepth 20000 in
theorem z2_Great_times {p : Program} {l : Launch} {e : Env} {s : State} {m : MethodId} {args : Array Value} {below : List Frame} {meth : Method} {c : Code} {D : va_G} {cy : Nat → ClassId} {K : Nat} {q_t q_t_limbs : Nat} {v_t_limbs' : Nat → Int32} {v_t_size' : Int32} {out : (Nat → Int32) × Int32} (C : VC p s m args c cX4_times RX4 18 D cy (va_A [ob q_t 4 [.ref q_t_limbs, .int v_t_size'], aI cy q_t_limbs 136 v_t_limbs'] s.heap.size)) (hr : meth.sig.returnType = none) (hlk : meth.locks = false) (n : Nat) (ih : Z_Great_times (V p l e rm_Great_times s m args below meth c (EQ below args s rm_Great_times D [ob q_t 4 [.ref q_t_limbs, .int v_t_size'], aI cy q_t_limbs 136 v_t_limbs'] none [ob q_t 4 [.ref q_t_limbs, .int out.2], aI cy q_t_limbs 136 out.1]) 18 D (va_A [ob q_t 4 [.ref q_t_limbs, .int v_t_size'], aI cy q_t_limbs 136 v_t_limbs'] s.heap.size) 0 0) cy K n q_t q_t_limbs   out) : Z2_Great_times (V p l e rm_Great_times s m args below meth c (EQ below args s rm_Great_times D [ob q_t 4 [.ref q_t_limbs, .int v_t_size'], aI cy q_t_limbs 136 v_t_limbs'] none [ob q_t 4 [.ref q_t_limbs, .int out.2], aI cy q_t_limbs 136 out.1]) 18 D (va_A [ob q_t 4 [.ref q_t_limbs, .int v_t_size'], aI cy q_t_limbs 136 v_t_limbs'] s.heap.size) 0 0) cy K (n + 1) q_t q_t_limbs   out := by
  intro z3 z5 z7 z9 x11 x12 x13 w0 v_t_limbs v_t_size hf
  replace hf := hf
  refine v_iinc (v := x13 + 1) (lv' := [(13, .int (x13 + 1)), (0, .ref q_t), (3, .long z3), (5, .long z5), (7, .long z7), (9, .long z9), (11, .int x11), (12, .int x12)]) C dX4_times_126 7 rfl rfl (by decide) rfl ?_
  refine v_goto (tgt := 39) C dX4_times_129 (by decide) ?_
  refine v_lv (lv' := [(0, .ref q_t), (3, .long z3), (5, .long z5), (7, .long z7), (9, .long z9), (11, .int x11), (12, .int x12), (13, .int (x13 + 1))]) [1, 2, 3, 4, 5, 6, 7, 0] rfl ?_
  exact ih.1 _ _ _ _ _ _ _ _ _ _ hf
theorem z_Great_times {p : Program} {l : Launch} {e : Env} {s : State} {m : MethodId} {args : Array Value} {below : List Frame} {meth : Method} {c : Code} {D : va_G} {cy : Nat → ClassId} {K : Nat} {q_t q_t_limbs : Nat} {v_t_limbs' : Nat → Int32} {v_t_size' : Int32} {out : (Nat → Int32) × Int32} (C : VC p s m args c cX4_times RX4 18 D cy (va_A [ob q_t 4 [.ref q_t_limbs, .int v_t_size'], aI cy q_t_limbs 136 v_t_limbs'] s.heap.size)) (hr : meth.sig.returnType = none) (hlk : meth.locks = false) (n : Nat) : Z_Great_times (V p l e rm_Great_times s m args below meth c (EQ below args s rm_Great_times D [ob q_t 4 [.ref q_t_limbs, .int v_t_size'], aI cy q_t_limbs 136 v_t_limbs'] none [ob q_t 4 [.ref q_t_limbs, .int out.2], aI cy q_t_limbs 136 out.1]) 18 D (va_A [ob q_t 4 [.ref q_t_limbs, .int v_t_size'], aI cy q_t_limbs 136 v_t_limbs'] s.heap.size) 0 0) cy K n q_t q_t_limbs   out := by
  induction n with
  | zero => exact ⟨(fun _ _ _ _ _ _ _ _ _ _ h => nomatch h), (fun _ _ _ _ _ _ _ _ _ _ h => nomatch h), (fun _ _ _ _ _ _ _ _ _ _ h => nomatch h)⟩
  | succ n ih => exact ⟨z0_Great_times C hr hlk n ih, z1_Great_times C hr hlk n ih, z2_Great_times C hr hlk n ih⟩
set_option maxHeartbeats 4000000 in
set_option maxRecDepth 20000 in
theorem c_Great_times (l : Launch) (D : va_G) (cy : Nat → ClassId) (K : Nat) (q_t q_t_limbs : Nat) (p1 : Int64) (v_t_limbs : Nat → Int32) (v_t_size : Int32) (out : (Nat → Int32) × Int32) (hf : sp_Great_times K p1 v_t_limbs v_t_size = some out) : Ct l yX4_times cX4_times 18 none rm_Great_times D cy [.ref q_t, .long p1] [ob q_t 4 [.ref q_t_limbs, .int v_t_size], aI cy q_t_limbs 136 v_t_limbs] none [ob q_t 4 [.ref q_t_limbs, .int out.2], aI cy q_t_limbs 136 out.1] := by
  refine ct_of (by decide +kernel) (Nat.le_of_ble_eq_true rfl) (fun p e s m args below meth c C hr hlk hnm => ?_)
  unfold sp_Great_times at hf
  refine v_lload_n C dX4_times_0 1 rfl rfl ?_
  refine v_ldc2 C kc_X4_34 dX4_times_1 ?_
  refine v_ldiv C dX4_times_4 (by decide) ?_
  refine v_lstore_n (lv' := [(3, .long (p1 / 1000000000)), (0, .ref q_t), (1, .long p1)]) C dX4_times_5 rfl (by decide) rfl ?_
  refine v_lload_n C dX4_times_6 2 rfl rfl ?_
  refine v_ldc2 C kc_X4_34 dX4_times_7 ?_
  refine v_lrem C dX4_times_10 (by decide) ?_
  refine v_lstore (lv' := [(5, .long (p1 - p1 / 1000000000 * 1000000000)), (3, .long (p1 / 1000000000)), (0, .ref q_t), (1, .long p1)]) C dX4_times_11 (by decide) rfl ?_
  refine v_lconst (v := 0) C dX4_times_13 (by decide) ?_
  refine v_lstore (lv' := [(7, .long 0), (5, .long (p1 - p1 / 1000000000 * 1000000000)), (3, .long (p1 / 1000000000)), (0, .ref q_t), (1, .long p1)]) C dX4_times_14 (by decide) rfl ?_
  refine v_lconst (v := 0) C dX4_times_16 (by decide) ?_
  refine v_lstore (lv' := [(9, .long 0), (7, .long 0), (5, .long (p1 - p1 / 1000000000 * 1000000000)), (3, .long (p1 / 1000000000)), (0, .ref q_t), (1, .long p1)]) C dX4_times_17 (by decide) rfl ?_
  refine v_iconst (v := 0) C dX4_times_19 (by decide) ?_
  refine v_istore (lv' := [(11, .int 0), (9, .long 0), (7, .long 0), (5, .long (p1 - p1 / 1000000000 * 1000000000)), (3, .long (p1 / 1000000000)), (0, .ref q_t), (1, .long p1)]) C dX4_times_20 (by decide) rfl ?_
  refine v_aload_n C dX4_times_22 5 rfl rfl ?_
  refine v_get C fl_X4_15 0 rfl rfl dX4_times_23 ?_
  refine v_iconst (v := 3) C dX4_times_26 (by decide) ?_
  refine v_iadd C dX4_times_27 ?_
  refine v_sipush (v := 136) C dX4_times_28 (by decide) ?_
  refine v_mmin C mm_X4_19 mg_min ⟨Nat.le_of_ble_eq_true rfl, Nat.le_of_ble_eq_true rfl, Nat.le_of_ble_eq_true rfl, Nat.le_of_ble_eq_true rfl⟩ dX4_times_31 ?_
  refine v_istore (lv' := [(12, .int (if 136 < (v_t_size + 3) then 136 else (v_t_size + 3))), (11, .int 0), (9, .long 0), (7, .long 0), (5, .long (p1 - p1 / 1000000000 * 1000000000)), (3, .long (p1 / 1000000000)), (0, .ref q_t), (1, .long p1)]) C dX4_times_34 (by decide) rfl ?_
  refine v_iconst (v := 0) C dX4_times_36 (by decide) ?_
  refine v_istore (lv' := [(13, .int 0), (12, .int (if 136 < (v_t_size + 3) then 136 else (v_t_size + 3))), (11, .int 0), (9, .long 0), (7, .long 0), (5, .long (p1 - p1 / 1000000000 * 1000000000)), (3, .long (p1 / 1000000000)), (0, .ref q_t), (1, .long p1)]) C dX4_times_37 (by decide) rfl ?_
  refine v_lv (lv' := [(0, .ref q_t), (3, .long (p1 / 1000000000)), (5, .long (p1 - p1 / 1000000000 * 1000000000)), (7, .long 0), (9, .long 0), (11, .int 0), (12, .int (if 136 < (v_t_size + 3) then 136 else (v_t_size + 3))), (13, .int 0)]) [7, 6, 5, 4, 3, 2, 1, 0] rfl ?_
  exact (z_Great_times C hr hlk K).1 _ _ _ _ _ _ _ _ _ _ hf

abbrev rm_Great_timesPower : Room := { frames := 2, cells := 0, slots := 0, locals := 50 }
def f_Great_timesPower (K : Nat) : Nat → Nat → Int32 × Int32 × Int64 × Int32 × (Nat → Int32) × Int32 → Option ((Nat → Int32) × Int32)
  | 0, _, _ => none
  | n + 1, 0, (x1, x2, z3, x5, v_t_limbs, v_t_size) =>
    if x2 ≤ x5 then
      if (lg_cmp z3 1) ≤ 0 then
        some (v_t_limbs, v_t_size)
      else
        (sp_Great_times K z3 v_t_limbs v_t_size).bind fun o45 =>
          some (o45.1, o45.2)
    else
      if (lg_cmp (z3 * x1.toInt64) 10000000000000000) ≤ 0 then
        f_Great_timesPower K  n 1 (x1, x2, z3 * x1.toInt64, x5, v_t_limbs, v_t_size)
      else
        (sp_Great_times K (z3 * x1.toInt64) v_t_limbs v_t_size).bind fun o26 =>
          f_Great_timesPower K  n 1 (x1, x2, 1, x5, o26.1, o26.2)
  | n + 1, 1, (x1, x2, z3, x5, v_t_limbs, v_t_size) =>
    f_Great_timesPower K  n 0 (x1, x2, z3, x5 + 1, v_t_limbs, v_t_size)
  | _ + 1, _ + 2, _ => none
def sp_Great_timesPower (K : Nat) (p1 : Int32) (p2 : Int32) (v_t_limbs : Nat → Int32) (v_t_size : Int32) : Option ((Nat → Int32) × Int32) :=
  f_Great_timesPower K  K 0 (p1, p2, 1, 0, v_t_limbs, v_t_size)
def Z0_Great_timesPower (Vf : va_W → Nat → List (Nat × Value) → List Value → Prop) (cy : Nat → ClassId) (K n : Nat) (q_t q_t_limbs : Nat) (out : (Nat → Int32) × Int32) : Prop := ∀ (x1 : Int32) (x2 : Int32) (z3 : Int64) (x5 : Int32) (v_t_limbs : Nat → Int32) (v_t_size : Int32), f_Great_timesPower K  n 0 (x1, x2, z3, x5, v_t_limbs, v_t_size) = some out → Vf [ob q_t 4 [.ref q_t_limbs, .int v_t_size], aI cy q_t_limbs 136 v_t_limbs] 5 [(0, .ref q_t), (1, .int x1), (2, .int x2), (3, .long z3), (5, .int x5)] []
def Z1_Great_timesPower (Vf : va_W → Nat → List (Nat × Value) → List Value → Prop) (cy : Nat → ClassId) (K n : Nat) (q_t q_t_limbs : Nat) (out : (Nat → Int32) × Int32) : Prop := ∀ (x1 : Int32) (x2 : Int32) (z3 : Int64) (x5 : Int32) (v_t_limbs : Nat → Int32) (v_t_size : Int32), f_Great_timesPower K  n 1 (x1, x2, z3, x5, v_t_limbs, v_t_size) = some out → Vf [ob q_t 4 [.ref q_t_limbs, .int v_t_size], aI cy q_t_limbs 136 v_t_limbs] 31 [(0, .ref q_t), (1, .int x1), (2, .int x2), (3, .long z3), (5, .int x5)] []
def Z_Great_timesPower (Vf : va_W → Nat → List (Nat × Value) → List Value → Prop) (cy : Nat → ClassId) (K n : Nat) (q_t q_t_limbs : Nat) (out : (Nat → Int32) × Int32) : Prop := Z0_Great_timesPower Vf cy K n q_t q_t_limbs   out ∧ Z1_Great_timesPower Vf cy K n q_t q_t_limbs   out
set_option maxHeartbeats 4000000 in
set_option maxRecDepth 20000 in
theorem z0_Great_timesPower {p : Program} {l : Launch} {e : Env} {s : State} {m : MethodId} {args : Array Value} {below : List Frame} {meth : Method} {c : Code} {D : va_G} {cy : Nat → ClassId} {K : Nat} {q_t q_t_limbs : Nat} {v_t_limbs' : Nat → Int32} {v_t_size' : Int32} {out : (Nat → Int32) × Int32} (C : VC p s m args c cX4_timesPower RX4 6 D cy (va_A [ob q_t 4 [.ref q_t_limbs, .int v_t_size'], aI cy q_t_limbs 136 v_t_limbs'] s.heap.size)) (hr : meth.sig.returnType = none) (hlk : meth.locks = false) (n : Nat) (ih : Z_Great_timesPower (V p l e rm_Great_timesPower s m args below meth c (EQ below args s rm_Great_timesPower D [ob q_t 4 [.ref q_t_limbs, .int v_t_size'], aI cy q_t_limbs 136 v_t_limbs'] none [ob q_t 4 [.ref q_t_limbs, .int out.2], aI cy q_t_limbs 136 out.1]) 6 D (va_A [ob q_t 4 [.ref q_t_limbs, .int v_t_size'], aI cy q_t_limbs 136 v_t_limbs'] s.heap.size) 0 0) cy K n q_t q_t_limbs   out) : Z0_Great_timesPower (V p l e rm_Great_timesPower s m args below meth c (EQ below args s rm_Great_timesPower D [ob q_t 4 [.ref q_t_limbs, .int v_t_size'], aI cy q_t_limbs 136 v_t_limbs'] none [ob q_t 4 [.ref q_t_limbs, .int out.2], aI cy q_t_limbs 136 out.1]) 6 D (va_A [ob q_t 4 [.ref q_t_limbs, .int v_t_size'], aI cy q_t_limbs 136 v_t_limbs'] s.heap.size) 0 0) cy K (n + 1) q_t q_t_limbs   out := by
  intro x1 x2 z3 x5 v_t_limbs v_t_size hf
  replace hf := hf
  refine v_iload C dX4_timesPower_5 4 rfl ?_
  refine v_iload_n C dX4_timesPower_7 2 rfl rfl ?_
  refine v_icmp_ge (tgt := 37) C dX4_timesPower_8 (by decide) (fun c1 => ?_) (fun c1 => ?_)
  · replace hf := (if_pos c1).symm.trans hf
    refine v_lload_n C dX4_timesPower_37 3 rfl rfl ?_
    refine v_lconst (v := 1) C dX4_timesPower_38 (by decide) ?_
    refine v_lcmp C dX4_timesPower_39 ?_
    refine v_if_le (tgt := 48) C dX4_timesPower_40 (by decide) (fun c2 => ?_) (fun c2 => ?_)
    · replace hf := (if_pos c2).symm.trans hf
      obtain rfl := Option.some.inj hf
      exact v_vret C hr hlk dX4_timesPower_48 rfl rfl rfl rfl
    · replace hf := (if_neg c2).symm.trans hf
      refine v_aload_n C dX4_timesPower_43 0 rfl rfl ?_
      refine v_lload_n C dX4_timesPower_44 3 rfl rfl ?_
      obtain ⟨o45, g3, hf⟩ := bd_ hf
      refine v_callV (As := [.long z3]) (wr := []) (ws' := [ob q_t 4 [.ref q_t_limbs, .int o45.2], aI cy q_t_limbs 136 o45.1]) (st := []) (stk' := []) C (c_Great_times l D cy K q_t q_t_limbs  z3 v_t_limbs v_t_size o45 g3) lv_X4_38 rfl (by decide) rfl 0 rfl rfl rfl dX4_timesPower_45 [0, 1] [] (by decide) rfl rfl (by decide) (by decide) (Nat.le_of_ble_eq_true rfl) rfl rfl ?_
      obtain rfl := Option.some.inj hf
      exact v_vret C hr hlk dX4_timesPower_48 rfl rfl rfl rfl
  · replace hf := (if_neg c1).symm.trans hf
    refine v_lload_n C dX4_timesPower_11 3 rfl rfl ?_
    refine v_iload_n C dX4_timesPower_12 1 rfl rfl ?_
    refine v_i2l C dX4_timesPower_13 ?_
    refine v_lmul C dX4_timesPower_14 ?_
    refine v_lstore_n (lv' := [(3, .long (z3 * x1.toInt64)), (0, .ref q_t), (1, .int x1), (2, .int x2), (5, .int x5)]) C dX4_timesPower_15 rfl (by decide) rfl ?_
    refine v_lload_n C dX4_timesPower_16 0 rfl rfl ?_
    refine v_ldc2 C kc_X4_36 dX4_timesPower_17 ?_
    refine v_lcmp C dX4_timesPower_20 ?_
    refine v_if_le (tgt := 31) C dX4_timesPower_21 (by decide) (fun c4 => ?_) (fun c4 => ?_)
    · replace hf := (if_pos c4).symm.trans hf
      refine v_lv (lv' := [(0, .ref q_t), (1, .int x1), (2, .int x2), (3, .long (z3 * x1.toInt64)), (5, .int x5)]) [1, 2, 3, 0, 4] rfl ?_
      exact ih.2 _ _ _ _ _ _ hf
    · replace hf := (if_neg c4).symm.trans hf
      refine v_aload_n C dX4_timesPower_24 1 rfl rfl ?_
      refine v_lload_n C dX4_timesPower_25 0 rfl rfl ?_
      obtain ⟨o26, g5, hf⟩ := bd_ hf
      refine v_callV (As := [.long (z3 * x1.toInt64)]) (wr := []) (ws' := [ob q_t 4 [.ref q_t_limbs, .int o26.2], aI cy q_t_limbs 136 o26.1]) (st := []) (stk' := []) C (c_Great_times l D cy K q_t q_t_limbs  (z3 * x1.toInt64) v_t_limbs v_t_size o26 g5) lv_X4_38 rfl (by decide) rfl 0 rfl rfl rfl dX4_timesPower_26 [0, 1] [] (by decide) rfl rfl (by decide) (by decide) (Nat.le_of_ble_eq_true rfl) rfl rfl ?_
      refine v_lconst (v := 1) C dX4_timesPower_29 (by decide) ?_
      refine v_lstore_n (lv' := [(3, .long 1), (0, .ref q_t), (1, .int x1), (2, .int x2), (5, .int x5)]) C dX4_timesPower_30 rfl (by decide) rfl ?_
      refine v_lv (lv' := [(0, .ref q_t), (1, .int x1), (2, .int x2), (3, .long 1), (5, .int x5)]) [1, 2, 3, 0, 4] rfl ?_
      exact ih.2 _ _ _ _ _ _ hf
set_option maxHeartbeats 4000000 in
set_option maxRecDepth 20000 in
theorem z1_Great_timesPower {p : Program} {l : Launch} {e : Env} {s : State} {m : MethodId} {args : Array Value} {below : List Frame} {meth : Method} {c : Code} {D : va_G} {cy : Nat → ClassId} {K : Nat} {q_t q_t_limbs : Nat} {v_t_limbs' : Nat → Int32} {v_t_size' : Int32} {out : (Nat → Int32) × Int32} (C : VC p s m args c cX4_timesPower RX4 6 D cy (va_A [ob q_t 4 [.ref q_t_limbs, .int v_t_size'], aI cy q_t_limbs 136 v_t_limbs'] s.heap.size)) (hr : meth.sig.returnType = none) (hlk : meth.locks = false) (n : Nat) (ih : Z_Great_timesPower (V p l e rm_Great_timesPower s m args below meth c (EQ below args s rm_Great_timesPower D [ob q_t 4 [.ref q_t_limbs, .int v_t_size'], aI cy q_t_limbs 136 v_t_limbs'] none [ob q_t 4 [.ref q_t_limbs, .int out.2], aI cy q_t_limbs 136 out.1]) 6 D (va_A [ob q_t 4 [.ref q_t_limbs, .int v_t_size'], aI cy q_t_limbs 136 v_t_limbs'] s.heap.size) 0 0) cy K n q_t q_t_limbs   out) : Z1_Great_timesPower (V p l e rm_Great_timesPower s m args below meth c (EQ below args s rm_Great_timesPower D [ob q_t 4 [.ref q_t_limbs, .int v_t_size'], aI cy q_t_limbs 136 v_t_limbs'] none [ob q_t 4 [.ref q_t_limbs, .int out.2], aI cy q_t_limbs 136 out.1]) 6 D (va_A [ob q_t 4 [.ref q_t_limbs, .int v_t_size'], aI cy q_t_limbs 136 v_t_limbs'] s.heap.size) 0 0) cy K (n + 1) q_t q_t_limbs   out := by
  intro x1 x2 z3 x5 v_t_limbs v_t_size hf
  replace hf := hf
  refine v_iinc (v := x5 + 1) (lv' := [(5, .int (x5 + 1)), (0, .ref q_t), (1, .int x1), (2, .int x2), (3, .long z3)]) C dX4_timesPower_31 4 rfl rfl (by decide) rfl ?_
  refine v_goto (tgt := 5) C dX4_timesPower_34 (by decide) ?_
  refine v_lv (lv' := [(0, .ref q_t), (1, .int x1), (2, .int x2), (3, .long z3), (5, .int (x5 + 1))]) [1, 2, 3, 4, 0] rfl ?_
  exact ih.1 _ _ _ _ _ _ hf
theorem z_Great_timesPower {p : Program} {l : Launch} {e : Env} {s : State} {m : MethodId} {args : Array Value} {below : List Frame} {meth : Method} {c : Code} {D : va_G} {cy : Nat → ClassId} {K : Nat} {q_t q_t_limbs : Nat} {v_t_limbs' : Nat → Int32} {v_t_size' : Int32} {out : (Nat → Int32) × Int32} (C : VC p s m args c cX4_timesPower RX4 6 D cy (va_A [ob q_t 4 [.ref q_t_limbs, .int v_t_size'], aI cy q_t_limbs 136 v_t_limbs'] s.heap.size)) (hr : meth.sig.returnType = none) (hlk : meth.locks = false) (n : Nat) : Z_Great_timesPower (V p l e rm_Great_timesPower s m args below meth c (EQ below args s rm_Great_timesPower D [ob q_t 4 [.ref q_t_limbs, .int v_t_size'], aI cy q_t_limbs 136 v_t_limbs'] none [ob q_t 4 [.ref q_t_limbs, .int out.2], aI cy q_t_limbs 136 out.1]) 6 D (va_A [ob q_t 4 [.ref q_t_limbs, .int v_t_size'], aI cy q_t_limbs 136 v_t_limbs'] s.heap.size) 0 0) cy K n q_t q_t_limbs   out := by
  induction n with
  | zero => exact ⟨(fun _ _ _ _ _ _ h => nomatch h), (fun _ _ _ _ _ _ h => nomatch h)⟩
  | succ n ih => exact ⟨z0_Great_timesPower C hr hlk n ih, z1_Great_timesPower C hr hlk n ih⟩
set_option maxHeartbeats 4000000 in
set_option maxRecDepth 20000 in
theorem c_Great_timesPower (l : Launch) (D : va_G) (cy : Nat → ClassId) (K : Nat) (q_t q_t_limbs : Nat) (p1 : Int32) (p2 : Int32) (v_t_limbs : Nat → Int32) (v_t_size : Int32) (out : (Nat → Int32) × Int32) (hf : sp_Great_timesPower K p1 p2 v_t_limbs v_t_size = some out) : Ct l yX4_timesPower cX4_timesPower 6 none rm_Great_timesPower D cy [.ref q_t, .int p1, .int p2] [ob q_t 4 [.ref q_t_limbs, .int v_t_size], aI cy q_t_limbs 136 v_t_limbs] none [ob q_t 4 [.ref q_t_limbs, .int out.2], aI cy q_t_limbs 136 out.1] := by
  refine ct_of (by decide +kernel) (Nat.le_of_ble_eq_true rfl) (fun p e s m args below meth c C hr hlk hnm => ?_)
  unfold sp_Great_timesPower at hf
  refine v_lconst (v := 1) C dX4_timesPower_0 (by decide) ?_
  refine v_lstore_n (lv' := [(3, .long 1), (0, .ref q_t), (1, .int p1), (2, .int p2)]) C dX4_timesPower_1 rfl (by decide) rfl ?_
  refine v_iconst (v := 0) C dX4_timesPower_2 (by decide) ?_
  refine v_istore (lv' := [(5, .int 0), (3, .long 1), (0, .ref q_t), (1, .int p1), (2, .int p2)]) C dX4_timesPower_3 (by decide) rfl ?_
  refine v_lv (lv' := [(0, .ref q_t), (1, .int p1), (2, .int p2), (3, .long 1), (5, .int 0)]) [2, 3, 4, 1, 0] rfl ?_
  exact (z_Great_timesPower C hr hlk K).1 _ _ _ _ _ _ hf

abbrev rm_Great_compareWith : Room := { frames := 1, cells := 0, slots := 0, locals := 13 }
def f_Great_compareWith (K : Nat) (v_t_limbs : Nat → Int32) (v_p1_limbs : Nat → Int32) : Nat → Nat → Int32 → Option (Int32)
  | 0, _, _ => none
  | n + 1, 0, x2 =>
    if x2 < 0 then
      some 0
    else
      if inb x2 136 then
        if inb x2 136 then
          if (v_t_limbs x2.toNatClampNeg) = (v_p1_limbs x2.toNatClampNeg) then
            f_Great_compareWith K v_t_limbs v_p1_limbs n 0 (x2 + (-1))
          else
            if inb x2 136 then
              if inb x2 136 then
                if (v_t_limbs x2.toNatClampNeg) ≤ (v_p1_limbs x2.toNatClampNeg) then
                  some (-1)
                else
                  some 1
              else none
            else none
        else none
      else none
  | _ + 1, _ + 1, _ => none
def sp_Great_compareWith (K : Nat) (v_t_limbs : Nat → Int32) (v_t_size : Int32) (v_p1_limbs : Nat → Int32) (v_p1_size : Int32) : Option (Int32) :=
  if v_t_size = v_p1_size then
    f_Great_compareWith K v_t_limbs v_p1_limbs K 0 ((if 136 < v_t_size then 136 else v_t_size) - 1)
  else
    if v_t_size ≤ v_p1_size then
      some (-1)
    else
      some 1
def Z0_Great_compareWith (Vf : va_W → Nat → List (Nat × Value) → List Value → Prop) (cy : Nat → ClassId) (K n : Nat) (q_t q_t_limbs q_p1 q_p1_limbs : Nat) (v_t_limbs : Nat → Int32) (v_t_size : Int32) (v_p1_limbs : Nat → Int32) (v_p1_size : Int32) (out : Int32) : Prop := ∀ (x2 : Int32), f_Great_compareWith K v_t_limbs v_p1_limbs n 0 x2 = some out → Vf [ob q_t 4 [.ref q_t_limbs, .int v_t_size], aI cy q_t_limbs 136 v_t_limbs, ob q_p1 4 [.ref q_p1_limbs, .int v_p1_size], aI cy q_p1_limbs 136 v_p1_limbs] 41 [(0, .ref q_t), (1, .ref q_p1), (2, .int x2)] []
def Z_Great_compareWith (Vf : va_W → Nat → List (Nat × Value) → List Value → Prop) (cy : Nat → ClassId) (K n : Nat) (q_t q_t_limbs q_p1 q_p1_limbs : Nat) (v_t_limbs : Nat → Int32) (v_t_size : Int32) (v_p1_limbs : Nat → Int32) (v_p1_size : Int32) (out : Int32) : Prop := Z0_Great_compareWith Vf cy K n q_t q_t_limbs q_p1 q_p1_limbs  v_t_limbs v_t_size v_p1_limbs v_p1_size out
set_option maxHeartbeats 4000000 in
set_option maxRecDepth 20000 in
theorem z0_Great_compareWith {p : Program} {l : Launch} {e : Env} {s : State} {m : MethodId} {args : Array Value} {below : List Frame} {meth : Method} {c : Code} {D : va_G} {cy : Nat → ClassId} {K : Nat} {q_t q_t_limbs q_p1 q_p1_limbs : Nat} {v_t_limbs : Nat → Int32} {v_t_size : Int32} {v_p1_limbs : Nat → Int32} {v_p1_size : Int32} {out : Int32} (C : VC p s m args c cX4_compareWith RX4 3 D cy (va_A [ob q_t 4 [.ref q_t_limbs, .int v_t_size], aI cy q_t_limbs 136 v_t_limbs, ob q_p1 4 [.ref q_p1_limbs, .int v_p1_size], aI cy q_p1_limbs 136 v_p1_limbs] s.heap.size)) (hr : meth.sig.returnType = (some .int)) (hlk : meth.locks = false) (n : Nat) (ih : Z_Great_compareWith (V p l e rm_Great_compareWith s m args below meth c (EQ below args s rm_Great_compareWith D [ob q_t 4 [.ref q_t_limbs, .int v_t_size], aI cy q_t_limbs 136 v_t_limbs, ob q_p1 4 [.ref q_p1_limbs, .int v_p1_size], aI cy q_p1_limbs 136 v_p1_limbs] (some (.int out)) [ob q_t 4 [.ref q_t_limbs, .int v_t_size], aI cy q_t_limbs 136 v_t_limbs, ob q_p1 4 [.ref q_p1_limbs, .int v_p1_size], aI cy q_p1_limbs 136 v_p1_limbs]) 3 D (va_A [ob q_t 4 [.ref q_t_limbs, .int v_t_size], aI cy q_t_limbs 136 v_t_limbs, ob q_p1 4 [.ref q_p1_limbs, .int v_p1_size], aI cy q_p1_limbs 136 v_p1_limbs] s.heap.size) 0 0) cy K n q_t q_t_limbs q_p1 q_p1_limbs  v_t_limbs v_t_size v_p1_limbs v_p1_size out) : Z0_Great_compareWith (V p l e rm_Great_compareWith s m args below meth c (EQ below args s rm_Great_compareWith D [ob q_t 4 [.ref q_t_limbs, .int v_t_size], aI cy q_t_limbs 136 v_t_limbs, ob q_p1 4 [.ref q_p1_limbs, .int v_p1_size], aI cy q_p1_limbs 136 v_p1_limbs] (some (.int out)) [ob q_t 4 [.ref q_t_limbs, .int v_t_size], aI cy q_t_limbs 136 v_t_limbs, ob q_p1 4 [.ref q_p1_limbs, .int v_p1_size], aI cy q_p1_limbs 136 v_p1_limbs]) 3 D (va_A [ob q_t 4 [.ref q_t_limbs, .int v_t_size], aI cy q_t_limbs 136 v_t_limbs, ob q_p1 4 [.ref q_p1_limbs, .int v_p1_size], aI cy q_p1_limbs 136 v_p1_limbs] s.heap.size) 0 0) cy K (n + 1) q_t q_t_limbs q_p1 q_p1_limbs  v_t_limbs v_t_size v_p1_limbs v_p1_size out := by
  intro x2 hf
  replace hf := hf
  refine v_iload_n C dX4_compareWith_41 2 rfl rfl ?_
  refine v_if_lt (tgt := 87) C dX4_compareWith_42 (by decide) (fun c1 => ?_) (fun c1 => ?_)
  · replace hf := (if_pos c1).symm.trans hf
    refine v_iconst (v := 0) C dX4_compareWith_87 (by decide) ?_
    obtain rfl := Option.some.inj hf
    exact v_iret C hr hlk dX4_compareWith_88 rfl rfl rfl rfl
  · replace hf := (if_neg c1).symm.trans hf
    refine v_aload_n C dX4_compareWith_45 0 rfl rfl ?_
    refine v_get C fl_X4_11 0 rfl rfl dX4_compareWith_46 ?_
    refine v_iload_n C dX4_compareWith_49 2 rfl rfl ?_
    obtain ⟨g2, hf⟩ := gd_ hf
    refine v_iald C 1 rfl g2 dX4_compareWith_50 ?_
    refine v_aload_n C dX4_compareWith_51 1 rfl rfl ?_
    refine v_get C fl_X4_11 2 rfl rfl dX4_compareWith_52 ?_
    refine v_iload_n C dX4_compareWith_55 2 rfl rfl ?_
    obtain ⟨g3, hf⟩ := gd_ hf
    refine v_iald C 3 rfl g3 dX4_compareWith_56 ?_
    refine v_icmp_eq (tgt := 81) C dX4_compareWith_57 (by decide) (fun c4 => ?_) (fun c4 => ?_)
    · replace hf := (if_pos c4).symm.trans hf
      refine v_iinc (v := x2 + (-1)) (lv' := [(2, .int (x2 + (-1))), (0, .ref q_t), (1, .ref q_p1)]) C dX4_compareWith_81 2 rfl rfl (by decide) rfl ?_
      refine v_goto (tgt := 41) C dX4_compareWith_84 (by decide) ?_
      refine v_lv (lv' := [(0, .ref q_t), (1, .ref q_p1), (2, .int (x2 + (-1)))]) [1, 2, 0] rfl ?_
      exact ih _ hf
    · replace hf := (if_neg c4).symm.trans hf
      refine v_aload_n C dX4_compareWith_60 0 rfl rfl ?_
      refine v_get C fl_X4_11 0 rfl rfl dX4_compareWith_61 ?_
      refine v_iload_n C dX4_compareWith_64 2 rfl rfl ?_
      obtain ⟨g5, hf⟩ := gd_ hf
      refine v_iald C 1 rfl g5 dX4_compareWith_65 ?_
      refine v_aload_n C dX4_compareWith_66 1 rfl rfl ?_
      refine v_get C fl_X4_11 2 rfl rfl dX4_compareWith_67 ?_
      refine v_iload_n C dX4_compareWith_70 2 rfl rfl ?_
      obtain ⟨g6, hf⟩ := gd_ hf
      refine v_iald C 3 rfl g6 dX4_compareWith_71 ?_
      refine v_icmp_le (tgt := 79) C dX4_compareWith_72 (by decide) (fun c7 => ?_) (fun c7 => ?_)
      · replace hf := (if_pos c7).symm.trans hf
        refine v_iconst (v := (-1)) C dX4_compareWith_79 (by decide) ?_
        obtain rfl := Option.some.inj hf
        exact v_iret C hr hlk dX4_compareWith_80 rfl rfl rfl rfl
      · replace hf := (if_neg c7).symm.trans hf
        refine v_iconst (v := 1) C dX4_compareWith_75 (by decide) ?_
        refine v_goto (tgt := 80) C dX4_compareWith_76 (by decide) ?_
        obtain rfl := Option.some.inj hf
        exact v_iret C hr hlk dX4_compareWith_80 rfl rfl rfl rfl
theorem z_Great_compareWith {p : Program} {l : Launch} {e : Env} {s : State} {m : MethodId} {args : Array Value} {below : List Frame} {meth : Method} {c : Code} {D : va_G} {cy : Nat → ClassId} {K : Nat} {q_t q_t_limbs q_p1 q_p1_limbs : Nat} {v_t_limbs : Nat → Int32} {v_t_size : Int32} {v_p1_limbs : Nat → Int32} {v_p1_size : Int32} {out : Int32} (C : VC p s m args c cX4_compareWith RX4 3 D cy (va_A [ob q_t 4 [.ref q_t_limbs, .int v_t_size], aI cy q_t_limbs 136 v_t_limbs, ob q_p1 4 [.ref q_p1_limbs, .int v_p1_size], aI cy q_p1_limbs 136 v_p1_limbs] s.heap.size)) (hr : meth.sig.returnType = (some .int)) (hlk : meth.locks = false) (n : Nat) : Z_Great_compareWith (V p l e rm_Great_compareWith s m args below meth c (EQ below args s rm_Great_compareWith D [ob q_t 4 [.ref q_t_limbs, .int v_t_size], aI cy q_t_limbs 136 v_t_limbs, ob q_p1 4 [.ref q_p1_limbs, .int v_p1_size], aI cy q_p1_limbs 136 v_p1_limbs] (some (.int out)) [ob q_t 4 [.ref q_t_limbs, .int v_t_size], aI cy q_t_limbs 136 v_t_limbs, ob q_p1 4 [.ref q_p1_limbs, .int v_p1_size], aI cy q_p1_limbs 136 v_p1_limbs]) 3 D (va_A [ob q_t 4 [.ref q_t_limbs, .int v_t_size], aI cy q_t_limbs 136 v_t_limbs, ob q_p1 4 [.ref q_p1_limbs, .int v_p1_size], aI cy q_p1_limbs 136 v_p1_limbs] s.heap.size) 0 0) cy K n q_t q_t_limbs q_p1 q_p1_limbs  v_t_limbs v_t_size v_p1_limbs v_p1_size out := by
  induction n with
  | zero => exact fun _ h => nomatch h
  | succ n ih => exact z0_Great_compareWith C hr hlk n ih
set_option maxHeartbeats 4000000 in
set_option maxRecDepth 20000 in
theorem c_Great_compareWith (l : Launch) (D : va_G) (cy : Nat → ClassId) (K : Nat) (q_t q_t_limbs q_p1 q_p1_limbs : Nat) (v_t_limbs : Nat → Int32) (v_t_size : Int32) (v_p1_limbs : Nat → Int32) (v_p1_size : Int32) (out : Int32) (hf : sp_Great_compareWith K v_t_limbs v_t_size v_p1_limbs v_p1_size = some out) : Ct l yX4_compareWith cX4_compareWith 3 (some .int) rm_Great_compareWith D cy [.ref q_t, .ref q_p1] [ob q_t 4 [.ref q_t_limbs, .int v_t_size], aI cy q_t_limbs 136 v_t_limbs, ob q_p1 4 [.ref q_p1_limbs, .int v_p1_size], aI cy q_p1_limbs 136 v_p1_limbs] (some (.int out)) [ob q_t 4 [.ref q_t_limbs, .int v_t_size], aI cy q_t_limbs 136 v_t_limbs, ob q_p1 4 [.ref q_p1_limbs, .int v_p1_size], aI cy q_p1_limbs 136 v_p1_limbs] := by
  refine ct_of (by decide +kernel) (Nat.le_of_ble_eq_true rfl) (fun p e s m args below meth c C hr hlk hnm => ?_)
  unfold sp_Great_compareWith at hf
  refine v_aload_n C dX4_compareWith_0 0 rfl rfl ?_
  refine v_get C fl_X4_15 0 rfl rfl dX4_compareWith_1 ?_
  refine v_aload_n C dX4_compareWith_4 1 rfl rfl ?_
  refine v_get C fl_X4_15 2 rfl rfl dX4_compareWith_5 ?_
  refine v_icmp_eq (tgt := 28) C dX4_compareWith_8 (by decide) (fun c1 => ?_) (fun c1 => ?_)
  · replace hf := (if_pos c1).symm.trans hf
    refine v_aload_n C dX4_compareWith_28 0 rfl rfl ?_
    refine v_get C fl_X4_15 0 rfl rfl dX4_compareWith_29 ?_
    refine v_sipush (v := 136) C dX4_compareWith_32 (by decide) ?_
    refine v_mmin C mm_X4_19 mg_min ⟨Nat.le_of_ble_eq_true rfl, Nat.le_of_ble_eq_true rfl, Nat.le_of_ble_eq_true rfl, Nat.le_of_ble_eq_true rfl⟩ dX4_compareWith_35 ?_
    refine v_iconst (v := 1) C dX4_compareWith_38 (by decide) ?_
    refine v_isub C dX4_compareWith_39 ?_
    refine v_istore_n (lv' := [(2, .int ((if 136 < v_t_size then 136 else v_t_size) - 1)), (0, .ref q_t), (1, .ref q_p1)]) C dX4_compareWith_40 rfl (by decide) rfl ?_
    refine v_lv (lv' := [(0, .ref q_t), (1, .ref q_p1), (2, .int ((if 136 < v_t_size then 136 else v_t_size) - 1))]) [1, 2, 0] rfl ?_
    exact (z_Great_compareWith C hr hlk K) _ hf
  · replace hf := (if_neg c1).symm.trans hf
    refine v_aload_n C dX4_compareWith_11 0 rfl rfl ?_
    refine v_get C fl_X4_15 0 rfl rfl dX4_compareWith_12 ?_
    refine v_aload_n C dX4_compareWith_15 1 rfl rfl ?_
    refine v_get C fl_X4_15 2 rfl rfl dX4_compareWith_16 ?_
    refine v_icmp_le (tgt := 26) C dX4_compareWith_19 (by decide) (fun c2 => ?_) (fun c2 => ?_)
    · replace hf := (if_pos c2).symm.trans hf
      refine v_iconst (v := (-1)) C dX4_compareWith_26 (by decide) ?_
      obtain rfl := Option.some.inj hf
      exact v_iret C hr hlk dX4_compareWith_27 rfl rfl rfl rfl
    · replace hf := (if_neg c2).symm.trans hf
      refine v_iconst (v := 1) C dX4_compareWith_22 (by decide) ?_
      refine v_goto (tgt := 27) C dX4_compareWith_23 (by decide) ?_
      obtain rfl := Option.some.inj hf
      exact v_iret C hr hlk dX4_compareWith_27 rfl rfl rfl rfl

abbrev rm_Great_howManyDigits : Room := { frames := 1, cells := 0, slots := 0, locals := 21 }
def f_Great_howManyDigits (K : Nat) : Nat → Nat → Int32 × Int32 × Int32 → Option (Int32)
  | 0, _, _ => none
  | n + 1, 0, (x1, x2, x3) =>
    if 9 ≤ x3 then
      some x1
    else
      if x2 ≤ 0 then
        some x1
      else
        f_Great_howManyDigits K  n 0 (x1 + 1, x2 / 10, x3 + 1)
  | _ + 1, _ + 1, _ => none
def sp_Great_howManyDigits (K : Nat) (v_t_limbs : Nat → Int32) (v_t_size : Int32) : Option (Int32) :=
  (sp_within K (v_t_size - 1) 136).bind fun o9 =>
    if o9 = 0 then
      some 1
    else
      if inb (v_t_size - 1) 136 then
        f_Great_howManyDigits K  K 0 ((v_t_size - 1) * 9, v_t_limbs (v_t_size - 1 : Int32).toNatClampNeg, 0)
      else none
def Z0_Great_howManyDigits (Vf : va_W → Nat → List (Nat × Value) → List Value → Prop) (cy : Nat → ClassId) (K n : Nat) (q_t q_t_limbs : Nat) (v_t_limbs : Nat → Int32) (v_t_size : Int32) (out : Int32) : Prop := ∀ (x1 : Int32) (x2 : Int32) (x3 : Int32), f_Great_howManyDigits K  n 0 (x1, x2, x3) = some out → Vf [ob q_t 4 [.ref q_t_limbs, .int v_t_size], aI cy q_t_limbs 136 v_t_limbs] 41 [(1, .int x1), (2, .int x2), (3, .int x3)] []
def Z_Great_howManyDigits (Vf : va_W → Nat → List (Nat × Value) → List Value → Prop) (cy : Nat → ClassId) (K n : Nat) (q_t q_t_limbs : Nat) (v_t_limbs : Nat → Int32) (v_t_size : Int32) (out : Int32) : Prop := Z0_Great_howManyDigits Vf cy K n q_t q_t_limbs  v_t_limbs v_t_size out
set_option maxHeartbeats 4000000 in
set_option maxRecDepth 20000 in
theorem z0_Great_howManyDigits {p : Program} {l : Launch} {e : Env} {s : State} {m : MethodId} {args : Array Value} {below : List Frame} {meth : Method} {c : Code} {D : va_G} {cy : Nat → ClassId} {K : Nat} {q_t q_t_limbs : Nat} {v_t_limbs : Nat → Int32} {v_t_size : Int32} {out : Int32} (C : VC p s m args c cX4_howManyDigits RX4 4 D cy (va_A [ob q_t 4 [.ref q_t_limbs, .int v_t_size], aI cy q_t_limbs 136 v_t_limbs] s.heap.size)) (hr : meth.sig.returnType = (some .int)) (hlk : meth.locks = false) (n : Nat) (ih : Z_Great_howManyDigits (V p l e rm_Great_howManyDigits s m args below meth c (EQ below args s rm_Great_howManyDigits D [ob q_t 4 [.ref q_t_limbs, .int v_t_size], aI cy q_t_limbs 136 v_t_limbs] (some (.int out)) [ob q_t 4 [.ref q_t_limbs, .int v_t_size], aI cy q_t_limbs 136 v_t_limbs]) 4 D (va_A [ob q_t 4 [.ref q_t_limbs, .int v_t_size], aI cy q_t_limbs 136 v_t_limbs] s.heap.size) 0 0) cy K n q_t q_t_limbs  v_t_limbs v_t_size out) : Z0_Great_howManyDigits (V p l e rm_Great_howManyDigits s m args below meth c (EQ below args s rm_Great_howManyDigits D [ob q_t 4 [.ref q_t_limbs, .int v_t_size], aI cy q_t_limbs 136 v_t_limbs] (some (.int out)) [ob q_t 4 [.ref q_t_limbs, .int v_t_size], aI cy q_t_limbs 136 v_t_limbs]) 4 D (va_A [ob q_t 4 [.ref q_t_limbs, .int v_t_size], aI cy q_t_limbs 136 v_t_limbs] s.heap.size) 0 0) cy K (n + 1) q_t q_t_limbs  v_t_limbs v_t_size out := by
  intro x1 x2 x3 hf
  replace hf := hf
  refine v_iload_n C dX4_howManyDigits_41 2 rfl rfl ?_
  refine v_bipush (v := 9) C dX4_howManyDigits_42 (by decide) ?_
  refine v_icmp_ge (tgt := 65) C dX4_howManyDigits_44 (by decide) (fun c1 => ?_) (fun c1 => ?_)
  · replace hf := (if_pos c1).symm.trans hf
    refine v_iload_n C dX4_howManyDigits_65 0 rfl rfl ?_
    obtain rfl := Option.some.inj hf
    exact v_iret C hr hlk dX4_howManyDigits_66 rfl rfl rfl rfl
  · replace hf := (if_neg c1).symm.trans hf
    refine v_iload_n C dX4_howManyDigits_47 1 rfl rfl ?_
    refine v_if_le (tgt := 65) C dX4_howManyDigits_48 (by decide) (fun c2 => ?_) (fun c2 => ?_)
    · replace hf := (if_pos c2).symm.trans hf
      refine v_iload_n C dX4_howManyDigits_65 0 rfl rfl ?_
      obtain rfl := Option.some.inj hf
      exact v_iret C hr hlk dX4_howManyDigits_66 rfl rfl rfl rfl
    · replace hf := (if_neg c2).symm.trans hf
      refine v_iinc (v := x1 + 1) (lv' := [(1, .int (x1 + 1)), (2, .int x2), (3, .int x3)]) C dX4_howManyDigits_51 0 rfl rfl (by decide) rfl ?_
      refine v_iload_n C dX4_howManyDigits_54 1 rfl rfl ?_
      refine v_bipush (v := 10) C dX4_howManyDigits_55 (by decide) ?_
      refine v_idiv C dX4_howManyDigits_57 (by decide) ?_
      refine v_istore_n (lv' := [(2, .int (x2 / 10)), (1, .int (x1 + 1)), (3, .int x3)]) C dX4_howManyDigits_58 rfl (by decide) rfl ?_
      refine v_iinc (v := x3 + 1) (lv' := [(3, .int (x3 + 1)), (2, .int (x2 / 10)), (1, .int (x1 + 1))]) C dX4_howManyDigits_59 2 rfl rfl (by decide) rfl ?_
      refine v_goto (tgt := 41) C dX4_howManyDigits_62 (by decide) ?_
      refine v_lv (lv' := [(1, .int (x1 + 1)), (2, .int (x2 / 10)), (3, .int (x3 + 1))]) [2, 1, 0] rfl ?_
      exact ih _ _ _ hf
theorem z_Great_howManyDigits {p : Program} {l : Launch} {e : Env} {s : State} {m : MethodId} {args : Array Value} {below : List Frame} {meth : Method} {c : Code} {D : va_G} {cy : Nat → ClassId} {K : Nat} {q_t q_t_limbs : Nat} {v_t_limbs : Nat → Int32} {v_t_size : Int32} {out : Int32} (C : VC p s m args c cX4_howManyDigits RX4 4 D cy (va_A [ob q_t 4 [.ref q_t_limbs, .int v_t_size], aI cy q_t_limbs 136 v_t_limbs] s.heap.size)) (hr : meth.sig.returnType = (some .int)) (hlk : meth.locks = false) (n : Nat) : Z_Great_howManyDigits (V p l e rm_Great_howManyDigits s m args below meth c (EQ below args s rm_Great_howManyDigits D [ob q_t 4 [.ref q_t_limbs, .int v_t_size], aI cy q_t_limbs 136 v_t_limbs] (some (.int out)) [ob q_t 4 [.ref q_t_limbs, .int v_t_size], aI cy q_t_limbs 136 v_t_limbs]) 4 D (va_A [ob q_t 4 [.ref q_t_limbs, .int v_t_size], aI cy q_t_limbs 136 v_t_limbs] s.heap.size) 0 0) cy K n q_t q_t_limbs  v_t_limbs v_t_size out := by
  induction n with
  | zero => exact fun _ _ _ h => nomatch h
  | succ n ih => exact z0_Great_howManyDigits C hr hlk n ih
set_option maxHeartbeats 4000000 in
set_option maxRecDepth 20000 in
theorem c_Great_howManyDigits (l : Launch) (D : va_G) (cy : Nat → ClassId) (K : Nat) (q_t q_t_limbs : Nat) (v_t_limbs : Nat → Int32) (v_t_size : Int32) (out : Int32) (hf : sp_Great_howManyDigits K v_t_limbs v_t_size = some out) : Ct l yX4_howManyDigits cX4_howManyDigits 4 (some .int) rm_Great_howManyDigits D cy [.ref q_t] [ob q_t 4 [.ref q_t_limbs, .int v_t_size], aI cy q_t_limbs 136 v_t_limbs] (some (.int out)) [ob q_t 4 [.ref q_t_limbs, .int v_t_size], aI cy q_t_limbs 136 v_t_limbs] := by
  refine ct_of (by decide +kernel) (Nat.le_of_ble_eq_true rfl) (fun p e s m args below meth c C hr hlk hnm => ?_)
  unfold sp_Great_howManyDigits at hf
  refine v_aload_n C dX4_howManyDigits_0 0 rfl rfl ?_
  refine v_get C fl_X4_15 0 rfl rfl dX4_howManyDigits_1 ?_
  refine v_iconst (v := 1) C dX4_howManyDigits_4 (by decide) ?_
  refine v_isub C dX4_howManyDigits_5 ?_
  refine v_sipush (v := 136) C dX4_howManyDigits_6 (by decide) ?_
  obtain ⟨o9, g1, hf⟩ := bd_ hf
  refine v_callN0 (As := [.int (v_t_size - 1), .int 136]) (st := []) (stk' := [.int o9]) C (c_within l D cy K   (v_t_size - 1) 136 o9 g1) ln_X4_42 rfl (by decide) rfl dX4_howManyDigits_9 (Nat.le_of_ble_eq_true rfl) rfl ?_
  refine v_if_ne (tgt := 17) C dX4_howManyDigits_12 (by decide) (fun c2 => ?_) (fun c2 => ?_)
  · replace hf := (if_neg c2).symm.trans hf
    refine v_aload_n C dX4_howManyDigits_17 0 rfl rfl ?_
    refine v_get C fl_X4_15 0 rfl rfl dX4_howManyDigits_18 ?_
    refine v_iconst (v := 1) C dX4_howManyDigits_21 (by decide) ?_
    refine v_isub C dX4_howManyDigits_22 ?_
    refine v_bipush (v := 9) C dX4_howManyDigits_23 (by decide) ?_
    refine v_imul C dX4_howManyDigits_25 ?_
    refine v_istore_n (lv' := [(1, .int ((v_t_size - 1) * 9)), (0, .ref q_t)]) C dX4_howManyDigits_26 rfl (by decide) rfl ?_
    refine v_aload_n C dX4_howManyDigits_27 1 rfl rfl ?_
    refine v_get C fl_X4_11 0 rfl rfl dX4_howManyDigits_28 ?_
    refine v_aload_n C dX4_howManyDigits_31 1 rfl rfl ?_
    refine v_get C fl_X4_15 0 rfl rfl dX4_howManyDigits_32 ?_
    refine v_iconst (v := 1) C dX4_howManyDigits_35 (by decide) ?_
    refine v_isub C dX4_howManyDigits_36 ?_
    obtain ⟨g3, hf⟩ := gd_ hf
    refine v_iald C 1 rfl g3 dX4_howManyDigits_37 ?_
    refine v_istore_n (lv' := [(2, .int (v_t_limbs (v_t_size - 1 : Int32).toNatClampNeg)), (1, .int ((v_t_size - 1) * 9)), (0, .ref q_t)]) C dX4_howManyDigits_38 rfl (by decide) rfl ?_
    refine v_iconst (v := 0) C dX4_howManyDigits_39 (by decide) ?_
    refine v_istore_n (lv' := [(3, .int 0), (2, .int (v_t_limbs (v_t_size - 1 : Int32).toNatClampNeg)), (1, .int ((v_t_size - 1) * 9)), (0, .ref q_t)]) C dX4_howManyDigits_40 rfl (by decide) rfl ?_
    refine v_lv (lv' := [(1, .int ((v_t_size - 1) * 9)), (2, .int (v_t_limbs (v_t_size - 1 : Int32).toNatClampNeg)), (3, .int 0)]) [2, 1, 0] rfl ?_
    exact (z_Great_howManyDigits C hr hlk K) _ _ _ hf
  · replace hf := (if_pos c2).symm.trans hf
    refine v_iconst (v := 1) C dX4_howManyDigits_15 (by decide) ?_
    obtain rfl := Option.some.inj hf
    exact v_iret C hr hlk dX4_howManyDigits_16 rfl rfl rfl rfl

abbrev rm_Great_digitAt : Room := { frames := 2, cells := 0, slots := 0, locals := 44 }
def f_Great_digitAt (K : Nat) : Nat → Nat → Int32 × Int32 × Int32 × Int32 → Option (Int32)
  | 0, _, _ => none
  | n + 1, 0, (x1, y0, x3, x4) =>
    f_Great_digitAt K  n 1 (x1, 0, 0, 0)
  | n + 1, 1, (x1, y0, x3, x4) =>
    f_Great_digitAt K  n 2 (x1, 0, y0, 0)
  | n + 1, 2, (x1, y0, x3, x4) =>
    if (x1 - x1 / 9 * 9) ≤ x4 then
      some (x3 - x3 / 10 * 10)
    else
      f_Great_digitAt K  n 2 (x1, 0, x3 / 10, x4 + 1)
  | _ + 1, _ + 3, _ => none
def sp_Great_digitAt (K : Nat) (p1 : Int32) (v_t_limbs : Nat → Int32) (v_t_size : Int32) : Option (Int32) :=
  (sp_Great_howManyDigits K v_t_limbs v_t_size).bind fun o2 =>
    (sp_within K p1 o2).bind fun o5 =>
      if o5 = 0 then
        some (-1)
      else
        (sp_within K (p1 / 9) v_t_size).bind fun o23 =>
          if o23 = 0 then
            f_Great_digitAt K  K 0 (p1, 0, 0, 0)
          else
            (sp_within K (p1 / 9) 136).bind fun o33 =>
              if o33 = 0 then
                f_Great_digitAt K  K 0 (p1, 0, 0, 0)
              else
                if inb (p1 / 9) 136 then
                  f_Great_digitAt K  K 1 (p1, v_t_limbs (p1 / 9 : Int32).toNatClampNeg, 0, 0)
                else none
def Z0_Great_digitAt (Vf : va_W → Nat → List (Nat × Value) → List Value → Prop) (cy : Nat → ClassId) (K n : Nat) (q_t q_t_limbs : Nat) (v_t_limbs : Nat → Int32) (v_t_size : Int32) (out : Int32) : Prop := ∀ (x1 : Int32) (y0 : Int32) (x3 : Int32) (x4 : Int32), f_Great_digitAt K  n 0 (x1, y0, x3, x4) = some out → Vf [ob q_t 4 [.ref q_t_limbs, .int v_t_size], aI cy q_t_limbs 136 v_t_limbs] 48 [(1, .int x1)] []
def Z1_Great_digitAt (Vf : va_W → Nat → List (Nat × Value) → List Value → Prop) (cy : Nat → ClassId) (K n : Nat) (q_t q_t_limbs : Nat) (v_t_limbs : Nat → Int32) (v_t_size : Int32) (out : Int32) : Prop := ∀ (x1 : Int32) (y0 : Int32) (x3 : Int32) (x4 : Int32), f_Great_digitAt K  n 1 (x1, y0, x3, x4) = some out → Vf [ob q_t 4 [.ref q_t_limbs, .int v_t_size], aI cy q_t_limbs 136 v_t_limbs] 49 [(1, .int x1)] [.int y0]
def Z2_Great_digitAt (Vf : va_W → Nat → List (Nat × Value) → List Value → Prop) (cy : Nat → ClassId) (K n : Nat) (q_t q_t_limbs : Nat) (v_t_limbs : Nat → Int32) (v_t_size : Int32) (out : Int32) : Prop := ∀ (x1 : Int32) (y0 : Int32) (x3 : Int32) (x4 : Int32), f_Great_digitAt K  n 2 (x1, y0, x3, x4) = some out → Vf [ob q_t 4 [.ref q_t_limbs, .int v_t_size], aI cy q_t_limbs 136 v_t_limbs] 53 [(1, .int x1), (3, .int x3), (4, .int x4)] []
def Z_Great_digitAt (Vf : va_W → Nat → List (Nat × Value) → List Value → Prop) (cy : Nat → ClassId) (K n : Nat) (q_t q_t_limbs : Nat) (v_t_limbs : Nat → Int32) (v_t_size : Int32) (out : Int32) : Prop := Z0_Great_digitAt Vf cy K n q_t q_t_limbs  v_t_limbs v_t_size out ∧ Z1_Great_digitAt Vf cy K n q_t q_t_limbs  v_t_limbs v_t_size out ∧ Z2_Great_digitAt Vf cy K n q_t q_t_limbs  v_t_limbs v_t_size out
set_option maxHeartbeats 4000000 in
set_option maxRecDepth 20000 in
theorem z0_Great_digitAt {p : Program} {l : Launch} {e : Env} {s : State} {m : MethodId} {args : Array Value} {below : List Frame} {meth : Method} {c : Code} {D : va_G} {cy : Nat → ClassId} {K : Nat} {q_t q_t_limbs : Nat} {v_t_limbs : Nat → Int32} {v_t_size : Int32} {out : Int32} (C : VC p s m args c cX4_digitAt RX4 5 D cy (va_A [ob q_t 4 [.ref q_t_limbs, .int v_t_size], aI cy q_t_limbs 136 v_t_limbs] s.heap.size)) (hr : meth.sig.returnType = (some .int)) (hlk : meth.locks = false) (n : Nat) (ih : Z_Great_digitAt (V p l e rm_Great_digitAt s m args below meth c (EQ below args s rm_Great_digitAt D [ob q_t 4 [.ref q_t_limbs, .int v_t_size], aI cy q_t_limbs 136 v_t_limbs] (some (.int out)) [ob q_t 4 [.ref q_t_limbs, .int v_t_size], aI cy q_t_limbs 136 v_t_limbs]) 5 D (va_A [ob q_t 4 [.ref q_t_limbs, .int v_t_size], aI cy q_t_limbs 136 v_t_limbs] s.heap.size) 0 0) cy K n q_t q_t_limbs  v_t_limbs v_t_size out) : Z0_Great_digitAt (V p l e rm_Great_digitAt s m args below meth c (EQ below args s rm_Great_digitAt D [ob q_t 4 [.ref q_t_limbs, .int v_t_size], aI cy q_t_limbs 136 v_t_limbs] (some (.int out)) [ob q_t 4 [.ref q_t_limbs, .int v_t_size], aI cy q_t_limbs 136 v_t_limbs]) 5 D (va_A [ob q_t 4 [.ref q_t_limbs, .int v_t_size], aI cy q_t_limbs 136 v_t_limbs] s.heap.size) 0 0) cy K (n + 1) q_t q_t_limbs  v_t_limbs v_t_size out := by
  intro x1 y0 x3 x4 hf
  replace hf := hf
  refine v_iconst (v := 0) C dX4_digitAt_48 (by decide) ?_
  exact ih.2.1 _ _ _ _ hf
set_option maxHeartbeats 4000000 in
set_option maxRecDepth 20000 in
theorem z1_Great_digitAt {p : Program} {l : Launch} {e : Env} {s : State} {m : MethodId} {args : Array Value} {below : List Frame} {meth : Method} {c : Code} {D : va_G} {cy : Nat → ClassId} {K : Nat} {q_t q_t_limbs : Nat} {v_t_limbs : Nat → Int32} {v_t_size : Int32} {out : Int32} (C : VC p s m args c cX4_digitAt RX4 5 D cy (va_A [ob q_t 4 [.ref q_t_limbs, .int v_t_size], aI cy q_t_limbs 136 v_t_limbs] s.heap.size)) (hr : meth.sig.returnType = (some .int)) (hlk : meth.locks = false) (n : Nat) (ih : Z_Great_digitAt (V p l e rm_Great_digitAt s m args below meth c (EQ below args s rm_Great_digitAt D [ob q_t 4 [.ref q_t_limbs, .int v_t_size], aI cy q_t_limbs 136 v_t_limbs] (some (.int out)) [ob q_t 4 [.ref q_t_limbs, .int v_t_size], aI cy q_t_limbs 136 v_t_limbs]) 5 D (va_A [ob q_t 4 [.ref q_t_limbs, .int v_t_size], aI cy q_t_limbs 136 v_t_limbs] s.heap.size) 0 0) cy K n q_t q_t_limbs  v_t_limbs v_t_size out) : Z1_Great_digitAt (V p l e rm_Great_digitAt s m args below meth c (EQ below args s rm_Great_digitAt D [ob q_t 4 [.ref q_t_limbs, .int v_t_size], aI cy q_t_limbs 136 v_t_limbs] (some (.int out)) [ob q_t 4 [.ref q_t_limbs, .int v_t_size], aI cy q_t_limbs 136 v_t_limbs]) 5 D (va_A [ob q_t 4 [.ref q_t_limbs, .int v_t_size], aI cy q_t_limbs 136 v_t_limbs] s.heap.size) 0 0) cy K (n + 1) q_t q_t_limbs  v_t_limbs v_t_size out := by
  intro x1 y0 x3 x4 hf
  replace hf := hf
  refine v_istore_n (lv' := [(3, .int y0), (1, .int x1)]) C dX4_digitAt_49 rfl (by decide) rfl ?_
  refine v_iconst (v := 0) C dX4_digitAt_50 (by decide) ?_
  refine v_istore (lv' := [(4, .int 0), (3, .int y0), (1, .int x1)]) C dX4_digitAt_51 (by decide) rfl ?_
  refine v_lv (lv' := [(1, .int x1), (3, .int y0), (4, .int 0)]) [2, 1, 0] rfl ?_
  exact ih.2.2 _ _ _ _ hf
set_option maxHeartbeats 4000000 in
set_option maxRecDepth 20000 in
theorem z2_Great_digitAt {p : Program} {l : Launch} {e : Env} {s : State} {m : MethodId} {args : Array Value} {below : List Frame} {meth : Method} {c : Code} {D : va_G} {cy : Nat → ClassId} {K : Nat} {q_t q_t_limbs : Nat} {v_t_limbs : Nat → Int32} {v_t_size : Int32} {out : Int32} (C : VC p s m args c cX4_digitAt RX4 5 D cy (va_A [ob q_t 4 [.ref q_t_limbs, .int v_t_size], aI cy q_t_limbs 136 v_t_limbs] s.heap.size)) (hr : meth.sig.returnType = (some .int)) (hlk : meth.locks = false) (n : Nat) (ih : Z_Great_digitAt (V p l e rm_Great_digitAt s m args below meth c (EQ below args s rm_Great_digitAt D [ob q_t 4 [.ref q_t_limbs, .int v_t_size], aI cy q_t_limbs 136 v_t_limbs] (some (.int out)) [ob q_t 4 [.ref q_t_limbs, .int v_t_size], aI cy q_t_limbs 136 v_t_limbs]) 5 D (va_A [ob q_t 4 [.ref q_t_limbs, .int v_t_size], aI cy q_t_limbs 136 v_t_limbs] s.heap.size) 0 0) cy K n q_t q_t_limbs  v_t_limbs v_t_size out) : Z2_Great_digitAt (V p l e rm_Great_digitAt s m args below meth c (EQ below args s rm_Great_digitAt D [ob q_t 4 [.ref q_t_limbs, .int v_t_size], aI cy q_t_limbs 136 v_t_limbs] (some (.int out)) [ob q_t 4 [.ref q_t_limbs, .int v_t_size], aI cy q_t_limbs 136 v_t_limbs]) 5 D (va_A [ob q_t 4 [.ref q_t_limbs, .int v_t_size], aI cy q_t_limbs 136 v_t_limbs] s.heap.size) 0 0) cy K (n + 1) q_t q_t_limbs  v_t_limbs v_t_size out := by
  intro x1 y0 x3 x4 hf
  replace hf := hf
  refine v_iload C dX4_digitAt_53 2 rfl ?_
  refine v_iload_n C dX4_digitAt_55 0 rfl rfl ?_
  refine v_bipush (v := 9) C dX4_digitAt_56 (by decide) ?_
  refine v_irem C dX4_digitAt_58 (by decide) ?_
  refine v_icmp_ge (tgt := 73) C dX4_digitAt_59 (by decide) (fun c1 => ?_) (fun c1 => ?_)
  · replace hf := (if_pos c1).symm.trans hf
    refine v_iload_n C dX4_digitAt_73 1 rfl rfl ?_
    refine v_bipush (v := 10) C dX4_digitAt_74 (by decide) ?_
    refine v_irem C dX4_digitAt_76 (by decide) ?_
    obtain rfl := Option.some.inj hf
    exact v_iret C hr hlk dX4_digitAt_77 rfl rfl rfl rfl
  · replace hf := (if_neg c1).symm.trans hf
    refine v_iload_n C dX4_digitAt_62 1 rfl rfl ?_
    refine v_bipush (v := 10) C dX4_digitAt_63 (by decide) ?_
    refine v_idiv C dX4_digitAt_65 (by decide) ?_
    refine v_istore_n (lv' := [(3, .int (x3 / 10)), (1, .int x1), (4, .int x4)]) C dX4_digitAt_66 rfl (by decide) rfl ?_
    refine v_iinc (v := x4 + 1) (lv' := [(4, .int (x4 + 1)), (3, .int (x3 / 10)), (1, .int x1)]) C dX4_digitAt_67 2 rfl rfl (by decide) rfl ?_
    refine v_goto (tgt := 53) C dX4_digitAt_70 (by decide) ?_
    refine v_lv (lv' := [(1, .int x1), (3, .int (x3 / 10)), (4, .int (x4 + 1))]) [2, 1, 0] rfl ?_
    exact ih.2.2 _ _ _ _ hf
theorem z_Great_digitAt {p : Program} {l : Launch} {e : Env} {s : State} {m : MethodId} {args : Array Value} {below : List Frame} {meth : Method} {c : Code} {D : va_G} {cy : Nat → ClassId} {K : Nat} {q_t q_t_limbs : Nat} {v_t_limbs : Nat → Int32} {v_t_size : Int32} {out : Int32} (C : VC p s m args c cX4_digitAt RX4 5 D cy (va_A [ob q_t 4 [.ref q_t_limbs, .int v_t_size], aI cy q_t_limbs 136 v_t_limbs] s.heap.size)) (hr : meth.sig.returnType = (some .int)) (hlk : meth.locks = false) (n : Nat) : Z_Great_digitAt (V p l e rm_Great_digitAt s m args below meth c (EQ below args s rm_Great_digitAt D [ob q_t 4 [.ref q_t_limbs, .int v_t_size], aI cy q_t_limbs 136 v_t_limbs] (some (.int out)) [ob q_t 4 [.ref q_t_limbs, .int v_t_size], aI cy q_t_limbs 136 v_t_limbs]) 5 D (va_A [ob q_t 4 [.ref q_t_limbs, .int v_t_size], aI cy q_t_limbs 136 v_t_limbs] s.heap.size) 0 0) cy K n q_t q_t_limbs  v_t_limbs v_t_size out := by
  induction n with
  | zero => exact ⟨(fun _ _ _ _ h => nomatch h), (fun _ _ _ _ h => nomatch h), (fun _ _ _ _ h => nomatch h)⟩
  | succ n ih => exact ⟨z0_Great_digitAt C hr hlk n ih, z1_Great_digitAt C hr hlk n ih, z2_Great_digitAt C hr hlk n ih⟩
set_option maxHeartbeats 4000000 in
set_option maxRecDepth 20000 in
theorem c_Great_digitAt (l : Launch) (D : va_G) (cy : Nat → ClassId) (K : Nat) (q_t q_t_limbs : Nat) (p1 : Int32) (v_t_limbs : Nat → Int32) (v_t_size : Int32) (out : Int32) (hf : sp_Great_digitAt K p1 v_t_limbs v_t_size = some out) : Ct l yX4_digitAt cX4_digitAt 5 (some .int) rm_Great_digitAt D cy [.ref q_t, .int p1] [ob q_t 4 [.ref q_t_limbs, .int v_t_size], aI cy q_t_limbs 136 v_t_limbs] (some (.int out)) [ob q_t 4 [.ref q_t_limbs, .int v_t_size], aI cy q_t_limbs 136 v_t_limbs] := by
  refine ct_of (by decide +kernel) (Nat.le_of_ble_eq_true rfl) (fun p e s m args below meth c C hr hlk hnm => ?_)
  unfold sp_Great_digitAt at hf
  refine v_iload_n C dX4_digitAt_0 1 rfl rfl ?_
  refine v_aload_n C dX4_digitAt_1 0 rfl rfl ?_
  obtain ⟨o2, g1, hf⟩ := bd_ hf
  refine v_callV (As := []) (wr := []) (ws' := [ob q_t 4 [.ref q_t_limbs, .int v_t_size], aI cy q_t_limbs 136 v_t_limbs]) (st := [.int p1]) (stk' := [.int o2, .int p1]) C (c_Great_howManyDigits l D cy K q_t q_t_limbs  v_t_limbs v_t_size o2 g1) lv_X4_46 rfl (by decide) rfl 0 rfl rfl rfl dX4_digitAt_2 [0, 1] [] (by decide) rfl rfl (by decide) (by decide) (Nat.le_of_ble_eq_true rfl) rfl rfl ?_
  obtain ⟨o5, g2, hf⟩ := bd_ hf
  refine v_callN0 (As := [.int p1, .int o2]) (st := []) (stk' := [.int o5]) C (c_within l D cy K   p1 o2 o5 g2) ln_X4_42 rfl (by decide) rfl dX4_digitAt_5 (Nat.le_of_ble_eq_true rfl) rfl ?_
  refine v_if_ne (tgt := 13) C dX4_digitAt_8 (by decide) (fun c3 => ?_) (fun c3 => ?_)
  · replace hf := (if_neg c3).symm.trans hf
    refine v_iload_n C dX4_digitAt_13 1 rfl rfl ?_
    refine v_bipush (v := 9) C dX4_digitAt_14 (by decide) ?_
    refine v_idiv C dX4_digitAt_16 (by decide) ?_
    refine v_istore_n (lv' := [(2, .int (p1 / 9)), (0, .ref q_t), (1, .int p1)]) C dX4_digitAt_17 rfl (by decide) rfl ?_
    refine v_iload_n C dX4_digitAt_18 0 rfl rfl ?_
    refine v_aload_n C dX4_digitAt_19 1 rfl rfl ?_
    refine v_get C fl_X4_15 0 rfl rfl dX4_digitAt_20 ?_
    obtain ⟨o23, g4, hf⟩ := bd_ hf
    refine v_callN0 (As := [.int (p1 / 9), .int v_t_size]) (st := []) (stk' := [.int o23]) C (c_within l D cy K   (p1 / 9) v_t_size o23 g4) ln_X4_42 rfl (by decide) rfl dX4_digitAt_23 (Nat.le_of_ble_eq_true rfl) rfl ?_
    refine v_if_eq (tgt := 48) C dX4_digitAt_26 (by decide) (fun c5 => ?_) (fun c5 => ?_)
    · replace hf := (if_pos c5).symm.trans hf
      refine v_lv (lv' := [(1, .int p1)]) [2] rfl ?_
      exact (z_Great_digitAt C hr hlk K).1 _ _ _ _ hf
    · replace hf := (if_neg c5).symm.trans hf
      refine v_iload_n C dX4_digitAt_29 0 rfl rfl ?_
      refine v_sipush (v := 136) C dX4_digitAt_30 (by decide) ?_
      obtain ⟨o33, g6, hf⟩ := bd_ hf
      refine v_callN0 (As := [.int (p1 / 9), .int 136]) (st := []) (stk' := [.int o33]) C (c_within l D cy K   (p1 / 9) 136 o33 g6) ln_X4_42 rfl (by decide) rfl dX4_digitAt_33 (Nat.le_of_ble_eq_true rfl) rfl ?_
      refine v_if_eq (tgt := 48) C dX4_digitAt_36 (by decide) (fun c7 => ?_) (fun c7 => ?_)
      · replace hf := (if_pos c7).symm.trans hf
        refine v_lv (lv' := [(1, .int p1)]) [2] rfl ?_
        exact (z_Great_digitAt C hr hlk K).1 _ _ _ _ hf
      · replace hf := (if_neg c7).symm.trans hf
        refine v_aload_n C dX4_digitAt_39 1 rfl rfl ?_
        refine v_get C fl_X4_11 0 rfl rfl dX4_digitAt_40 ?_
        refine v_iload_n C dX4_digitAt_43 0 rfl rfl ?_
        obtain ⟨g8, hf⟩ := gd_ hf
        refine v_iald C 1 rfl g8 dX4_digitAt_44 ?_
        refine v_goto (tgt := 49) C dX4_digitAt_45 (by decide) ?_
        refine v_lv (lv' := [(1, .int p1)]) [2] rfl ?_
        exact (z_Great_digitAt C hr hlk K).2.1 _ _ _ _ hf
  · replace hf := (if_pos c3).symm.trans hf
    refine v_iconst (v := (-1)) C dX4_digitAt_11 (by decide) ?_
    obtain rfl := Option.some.inj hf
    exact v_iret C hr hlk dX4_digitAt_12 rfl rfl rfl rfl

abbrev rm_Great_copy : Room := { frames := 1, cells := 0, slots := 0, locals := 40 }
def sp_Great_copy (K : Nat) (v_t_limbs : Nat → Int32) (v_t_size : Int32) (v_p1_limbs : Nat → Int32) (v_p1_size : Int32) : Option ((Nat → Int32) × Int32) :=
  if (¬ (0 : Int32) < 0 ∧ ¬ (0 : Int32) < 0 ∧ ¬ (if 0 < (if 136 < v_p1_size then 136 else v_p1_size) then (if 136 < v_p1_size then 136 else v_p1_size) else 0 : Int32) < 0) ∧ (0 : Int32).toNatClampNeg + (if 0 < (if 136 < v_p1_size then 136 else v_p1_size) then (if 136 < v_p1_size then 136 else v_p1_size) else 0 : Int32).toNatClampNeg ≤ 136 ∧ (0 : Int32).toNatClampNeg + (if 0 < (if 136 < v_p1_size then 136 else v_p1_size) then (if 136 < v_p1_size then 136 else v_p1_size) else 0 : Int32).toNatClampNeg ≤ 136 then
    some (va_cpy v_p1_limbs v_t_limbs (0 : Int32).toNatClampNeg (0 : Int32).toNatClampNeg (if 0 < (if 136 < v_p1_size then 136 else v_p1_size) then (if 136 < v_p1_size then 136 else v_p1_size) else 0 : Int32).toNatClampNeg, if 0 < (if 136 < v_p1_size then 136 else v_p1_size) then (if 136 < v_p1_size then 136 else v_p1_size) else 0)
  else none
set_option maxHeartbeats 4000000 in
set_option maxRecDepth 20000 in
theorem c_Great_copy (l : Launch) (D : va_G) (cy : Nat → ClassId) (K : Nat) (q_t q_t_limbs q_p1 q_p1_limbs : Nat) (v_t_limbs : Nat → Int32) (v_t_size : Int32) (v_p1_limbs : Nat → Int32) (v_p1_size : Int32) (out : (Nat → Int32) × Int32) (hf : sp_Great_copy K v_t_limbs v_t_size v_p1_limbs v_p1_size = some out) : Ct l yX4_copy cX4_copy 2 none rm_Great_copy D cy [.ref q_t, .ref q_p1] [ob q_t 4 [.ref q_t_limbs, .int v_t_size], aI cy q_t_limbs 136 v_t_limbs, ob q_p1 4 [.ref q_p1_limbs, .int v_p1_size], aI cy q_p1_limbs 136 v_p1_limbs] none [ob q_t 4 [.ref q_t_limbs, .int out.2], aI cy q_t_limbs 136 out.1, ob q_p1 4 [.ref q_p1_limbs, .int v_p1_size], aI cy q_p1_limbs 136 v_p1_limbs] := by
  refine ct_of (by decide +kernel) (Nat.le_of_ble_eq_true rfl) (fun p e s m args below meth c C hr hlk hnm => ?_)
  unfold sp_Great_copy at hf
  refine v_aload_n C dX4_copy_0 0 rfl rfl ?_
  refine v_iconst (v := 0) C dX4_copy_1 (by decide) ?_
  refine v_aload_n C dX4_copy_2 1 rfl rfl ?_
  refine v_get C fl_X4_15 2 rfl rfl dX4_copy_3 ?_
  refine v_sipush (v := 136) C dX4_copy_6 (by decide) ?_
  refine v_mmin C mm_X4_19 mg_min ⟨Nat.le_of_ble_eq_true rfl, Nat.le_of_ble_eq_true rfl, Nat.le_of_ble_eq_true rfl, Nat.le_of_ble_eq_true rfl⟩ dX4_copy_9 ?_
  refine v_mmax C mm_X4_25 mg_max ⟨Nat.le_of_ble_eq_true rfl, Nat.le_of_ble_eq_true rfl, Nat.le_of_ble_eq_true rfl, Nat.le_of_ble_eq_true rfl⟩ dX4_copy_12 ?_
  refine v_put (ws' := [ob q_t 4 [.ref q_t_limbs, .int (if 0 < (if 136 < v_p1_size then 136 else v_p1_size) then (if 136 < v_p1_size then 136 else v_p1_size) else 0)], aI cy q_t_limbs 136 v_t_limbs, ob q_p1 4 [.ref q_p1_limbs, .int v_p1_size], aI cy q_p1_limbs 136 v_p1_limbs]) C fp_X4_15 0 rfl rfl rfl (Nat.le_of_ble_eq_true rfl) rfl dX4_copy_15 ?_
  refine v_aload_n C dX4_copy_18 1 rfl rfl ?_
  refine v_get C fl_X4_11 2 rfl rfl dX4_copy_19 ?_
  refine v_iconst (v := 0) C dX4_copy_22 (by decide) ?_
  refine v_aload_n C dX4_copy_23 0 rfl rfl ?_
  refine v_get C fl_X4_11 0 rfl rfl dX4_copy_24 ?_
  refine v_iconst (v := 0) C dX4_copy_27 (by decide) ?_
  refine v_aload_n C dX4_copy_28 0 rfl rfl ?_
  refine v_get C fl_X4_15 0 rfl rfl dX4_copy_29 ?_
  obtain ⟨g1, hf⟩ := gd_ hf
  refine v_copyi (ws' := [ob q_t 4 [.ref q_t_limbs, .int (if 0 < (if 136 < v_p1_size then 136 else v_p1_size) then (if 136 < v_p1_size then 136 else v_p1_size) else 0)], aI cy q_t_limbs 136 (va_cpy v_p1_limbs v_t_limbs (0 : Int32).toNatClampNeg (0 : Int32).toNatClampNeg (if 0 < (if 136 < v_p1_size then 136 else v_p1_size) then (if 136 < v_p1_size then 136 else v_p1_size) else 0 : Int32).toNatClampNeg), ob q_p1 4 [.ref q_p1_limbs, .int v_p1_size], aI cy q_p1_limbs 136 v_p1_limbs]) C cm_X4_28 cg_copy 3 1 rfl rfl g1 ⟨Nat.le_of_ble_eq_true rfl, Nat.le_of_ble_eq_true rfl⟩ rfl dX4_copy_32 ?_
  obtain rfl := Option.some.inj hf
  exact v_vret C hr hlk dX4_copy_35 rfl rfl rfl rfl

abbrev rm_Chance_waysToChoose : Room := { frames := 1, cells := 0, slots := 0, locals := 13 }
def f_Chance_waysToChoose (K : Nat) : Nat → Nat → Int32 × Int32 × Int64 × Int32 → Option (Int64)
  | 0, _, _ => none
  | n + 1, 0, (x0, x2, z3, x5) =>
    if x2 ≤ x5 then
      some z3
    else
      if ¬ ((x5 + 1).toInt64) = 0 then
        f_Chance_waysToChoose K  n 0 (x0, x2, (z3 * ((x0 - x5).toInt64)) / ((x5 + 1).toInt64), x5 + 1)
      else none
  | _ + 1, _ + 1, _ => none
def sp_Chance_waysToChoose (K : Nat) (p0 : Int32) (p1 : Int32) : Option (Int64) :=
  if p1 ≤ p0 then
    f_Chance_waysToChoose K  K 0 (p0, if (p0 - p1) < p1 then (p0 - p1) else p1, 1, 0)
  else
    some 0
def Z0_Chance_waysToChoose (Vf : va_W → Nat → List (Nat × Value) → List Value → Prop) (cy : Nat → ClassId) (K n : Nat) (out : Int64) : Prop := ∀ (x0 : Int32) (x2 : Int32) (z3 : Int64) (x5 : Int32), f_Chance_waysToChoose K  n 0 (x0, x2, z3, x5) = some out → Vf [] 20 [(0, .int x0), (2, .int x2), (3, .long z3), (5, .int x5)] []
def Z_Chance_waysToChoose (Vf : va_W → Nat → List (Nat × Value) → List Value → Prop) (cy : Nat → ClassId) (K n : Nat) (out : Int64) : Prop := Z0_Chance_waysToChoose Vf cy K n    out
set_option maxHeartbeats 4000000 in
set_option maxRecDepth 20000 in
theorem z0_Chance_waysToChoose {p : Program} {l : Launch} {e : Env} {s : State} {m : MethodId} {args : Array Value} {below : List Frame} {meth : Method} {c : Code} {D : va_G} {cy : Nat → ClassId} {K : Nat} {out : Int64} (C : VC p s m args c cX1_waysToChoose RX1 6 D cy (va_A [] s.heap.size)) (hr : meth.sig.returnType = (some .long)) (hlk : meth.locks = false) (n : Nat) (ih : Z_Chance_waysToChoose (V p l e rm_Chance_waysToChoose s m args below meth c (EQ below args s rm_Chance_waysToChoose D [] (some (.long out)) []) 6 D (va_A [] s.heap.size) 0 0) cy K n    out) : Z0_Chance_waysToChoose (V p l e rm_Chance_waysToChoose s m args below meth c (EQ below args s rm_Chance_waysToChoose D [] (some (.long out)) []) 6 D (va_A [] s.heap.size) 0 0) cy K (n + 1)    out := by
  intro x0 x2 z3 x5 hf
  replace hf := hf
  refine v_iload C dX1_waysToChoose_20 3 rfl ?_
  refine v_iload_n C dX1_waysToChoose_22 1 rfl rfl ?_
  refine v_icmp_ge (tgt := 46) C dX1_waysToChoose_23 (by decide) (fun c1 => ?_) (fun c1 => ?_)
  · replace hf := (if_pos c1).symm.trans hf
    refine v_lload_n C dX1_waysToChoose_46 2 rfl rfl ?_
    obtain rfl := Option.some.inj hf
    exact v_lret C hr hlk dX1_waysToChoose_47 rfl rfl rfl rfl
  · replace hf := (if_neg c1).symm.trans hf
    refine v_lload_n C dX1_waysToChoose_26 2 rfl rfl ?_
    refine v_iload_n C dX1_waysToChoose_27 0 rfl rfl ?_
    refine v_iload C dX1_waysToChoose_28 3 rfl ?_
    refine v_isub C dX1_waysToChoose_30 ?_
    refine v_i2l C dX1_waysToChoose_31 ?_
    refine v_lmul C dX1_waysToChoose_32 ?_
    refine v_iload C dX1_waysToChoose_33 3 rfl ?_
    refine v_iconst (v := 1) C dX1_waysToChoose_35 (by decide) ?_
    refine v_iadd C dX1_waysToChoose_36 ?_
    refine v_i2l C dX1_waysToChoose_37 ?_
    obtain ⟨g2, hf⟩ := gd_ hf
    refine v_ldiv C dX1_waysToChoose_38 g2 ?_
    refine v_lstore_n (lv' := [(3, .long ((z3 * ((x0 - x5).toInt64)) / ((x5 + 1).toInt64))), (0, .int x0), (2, .int x2), (5, .int x5)]) C dX1_waysToChoose_39 rfl (by decide) rfl ?_
    refine v_iinc (v := x5 + 1) (lv' := [(5, .int (x5 + 1)), (3, .long ((z3 * ((x0 - x5).toInt64)) / ((x5 + 1).toInt64))), (0, .int x0), (2, .int x2)]) C dX1_waysToChoose_40 3 rfl rfl (by decide) rfl ?_
    refine v_goto (tgt := 20) C dX1_waysToChoose_43 (by decide) ?_
    refine v_lv (lv' := [(0, .int x0), (2, .int x2), (3, .long ((z3 * ((x0 - x5).toInt64)) / ((x5 + 1).toInt64))), (5, .int (x5 + 1))]) [2, 3, 1, 0] rfl ?_
    exact ih _ _ _ _ hf
theorem z_Chance_waysToChoose {p : Program} {l : Launch} {e : Env} {s : State} {m : MethodId} {args : Array Value} {below : List Frame} {meth : Method} {c : Code} {D : va_G} {cy : Nat → ClassId} {K : Nat} {out : Int64} (C : VC p s m args c cX1_waysToChoose RX1 6 D cy (va_A [] s.heap.size)) (hr : meth.sig.returnType = (some .long)) (hlk : meth.locks = false) (n : Nat) : Z_Chance_waysToChoose (V p l e rm_Chance_waysToChoose s m args below meth c (EQ below args s rm_Chance_waysToChoose D [] (some (.long out)) []) 6 D (va_A [] s.heap.size) 0 0) cy K n    out := by
  induction n with
  | zero => exact fun _ _ _ _ h => nomatch h
  | succ n ih => exact z0_Chance_waysToChoose C hr hlk n ih
set_option maxHeartbeats 4000000 in
set_option maxRecDepth 20000 in
theorem c_Chance_waysToChoose (l : Launch) (D : va_G) (cy : Nat → ClassId) (K : Nat) (p0 : Int32) (p1 : Int32) (out : Int64) (hf : sp_Chance_waysToChoose K p0 p1 = some out) : Ct l yX1_waysToChoose cX1_waysToChoose 6 (some .long) rm_Chance_waysToChoose D cy [.int p0, .int p1] [] (some (.long out)) [] := by
  refine ct_of (by decide +kernel) (Nat.le_of_ble_eq_true rfl) (fun p e s m args below meth c C hr hlk hnm => ?_)
  unfold sp_Chance_waysToChoose at hf
  refine v_iload_n C dX1_waysToChoose_0 1 rfl rfl ?_
  refine v_iload_n C dX1_waysToChoose_1 0 rfl rfl ?_
  refine v_icmp_le (tgt := 7) C dX1_waysToChoose_2 (by decide) (fun c1 => ?_) (fun c1 => ?_)
  · replace hf := (if_pos c1).symm.trans hf
    refine v_iload_n C dX1_waysToChoose_7 1 rfl rfl ?_
    refine v_iload_n C dX1_waysToChoose_8 0 rfl rfl ?_
    refine v_iload_n C dX1_waysToChoose_9 1 rfl rfl ?_
    refine v_isub C dX1_waysToChoose_10 ?_
    refine v_mmin C mm_X1_37 mg_min ⟨Nat.le_of_ble_eq_true rfl, Nat.le_of_ble_eq_true rfl, Nat.le_of_ble_eq_true rfl, Nat.le_of_ble_eq_true rfl⟩ dX1_waysToChoose_11 ?_
    refine v_istore_n (lv' := [(2, .int (if (p0 - p1) < p1 then (p0 - p1) else p1)), (0, .int p0), (1, .int p1)]) C dX1_waysToChoose_14 rfl (by decide) rfl ?_
    refine v_lconst (v := 1) C dX1_waysToChoose_15 (by decide) ?_
    refine v_lstore_n (lv' := [(3, .long 1), (2, .int (if (p0 - p1) < p1 then (p0 - p1) else p1)), (0, .int p0), (1, .int p1)]) C dX1_waysToChoose_16 rfl (by decide) rfl ?_
    refine v_iconst (v := 0) C dX1_waysToChoose_17 (by decide) ?_
    refine v_istore (lv' := [(5, .int 0), (3, .long 1), (2, .int (if (p0 - p1) < p1 then (p0 - p1) else p1)), (0, .int p0), (1, .int p1)]) C dX1_waysToChoose_18 (by decide) rfl ?_
    refine v_lv (lv' := [(0, .int p0), (2, .int (if (p0 - p1) < p1 then (p0 - p1) else p1)), (3, .long 1), (5, .int 0)]) [3, 2, 1, 0] rfl ?_
    exact (z_Chance_waysToChoose C hr hlk K) _ _ _ _ hf
  · replace hf := (if_neg c1).symm.trans hf
    refine v_lconst (v := 0) C dX1_waysToChoose_5 (by decide) ?_
    obtain rfl := Option.some.inj hf
    exact v_lret C hr hlk dX1_waysToChoose_6 rfl rfl rfl rfl

abbrev rm_Chance_begin : Room := { frames := 1, cells := 0, slots := 0, locals := 20 }
def sp_Chance_begin (K : Nat) (v_t_scale : Int32) (v_t_number_limbs : Nat → Int32) (v_t_number_size : Int32) : Option (Int32 × (Nat → Int32) × Int32) :=
  (sp_Great_setOne K v_t_number_limbs v_t_number_size).bind fun o4 =>
    some (0, o4.1, o4.2)
set_option maxHeartbeats 4000000 in
set_option maxRecDepth 20000 in
theorem c_Chance_begin (l : Launch) (D : va_G) (cy : Nat → ClassId) (K : Nat) (q_t q_t_number q_t_number_limbs : Nat) (v_t_scale : Int32) (v_t_number_limbs : Nat → Int32) (v_t_number_size : Int32) (out : Int32 × (Nat → Int32) × Int32) (hf : sp_Chance_begin K v_t_scale v_t_number_limbs v_t_number_size = some out) : Ct l yX1_begin cX1_begin 1 none rm_Chance_begin D cy [.ref q_t] [ob q_t 1 [.ref q_t_number, .int v_t_scale], ob q_t_number 4 [.ref q_t_number_limbs, .int v_t_number_size], aI cy q_t_number_limbs 136 v_t_number_limbs] none [ob q_t 1 [.ref q_t_number, .int out.1], ob q_t_number 4 [.ref q_t_number_limbs, .int out.2.2], aI cy q_t_number_limbs 136 out.2.1] := by
  refine ct_of (by decide +kernel) (Nat.le_of_ble_eq_true rfl) (fun p e s m args below meth c C hr hlk hnm => ?_)
  unfold sp_Chance_begin at hf
  refine v_aload_n C dX1_begin_0 0 rfl rfl ?_
  refine v_get C fl_X1_12 0 rfl rfl dX1_begin_1 ?_
  obtain ⟨o4, g1, hf⟩ := bd_ hf
  refine v_callV (As := []) (wr := [ob q_t 1 [.ref q_t_number, .int v_t_scale]]) (ws' := [ob q_t 1 [.ref q_t_number, .int v_t_scale], ob q_t_number 4 [.ref q_t_number_limbs, .int o4.2], aI cy q_t_number_limbs 136 o4.1]) (st := []) (stk' := []) C (c_Great_setOne l D cy K q_t_number q_t_number_limbs  v_t_number_limbs v_t_number_size o4 g1) lv_X1_18 rfl (by decide) rfl 1 rfl rfl rfl dX1_begin_4 [1, 2] [0] (by decide) rfl rfl (by decide) (by decide) (Nat.le_of_ble_eq_true rfl) rfl rfl ?_
  refine v_aload_n C dX1_begin_7 0 rfl rfl ?_
  refine v_iconst (v := 0) C dX1_begin_8 (by decide) ?_
  refine v_put (ws' := [ob q_t 1 [.ref q_t_number, .int 0], ob q_t_number 4 [.ref q_t_number_limbs, .int o4.2], aI cy q_t_number_limbs 136 o4.1]) C fp_X1_21 0 rfl rfl rfl (Nat.le_of_ble_eq_true rfl) rfl dX1_begin_9 ?_
  obtain rfl := Option.some.inj hf
  exact v_vret C hr hlk dX1_begin_12 rfl rfl rfl rfl

abbrev rm_Chance_times : Room := { frames := 3, cells := 0, slots := 0, locals := 75 }
def sp_Chance_times (K : Nat) (p1 : Int32) (p2 : Int32) (p3 : Int32) (v_t_scale : Int32) (v_t_number_limbs : Nat → Int32) (v_t_number_size : Int32) : Option (Int32 × (Nat → Int32) × Int32) :=
  (sp_Chance_waysToChoose K p1 p2).bind fun o6 =>
    (sp_Great_times K o6 v_t_number_limbs v_t_number_size).bind fun o9 =>
      (sp_Great_timesPower K p3 p2 o9.1 o9.2).bind fun o18 =>
        (sp_Great_timesPower K (16 - p3) (p1 - p2) o18.1 o18.2).bind fun o32 =>
          some (v_t_scale + p1, o32.1, o32.2)
set_option maxHeartbeats 4000000 in
set_option maxRecDepth 20000 in
theorem c_Chance_times (l : Launch) (D : va_G) (cy : Nat → ClassId) (K : Nat) (q_t q_t_number q_t_number_limbs : Nat) (p1 : Int32) (p2 : Int32) (p3 : Int32) (v_t_scale : Int32) (v_t_number_limbs : Nat → Int32) (v_t_number_size : Int32) (out : Int32 × (Nat → Int32) × Int32) (hf : sp_Chance_times K p1 p2 p3 v_t_scale v_t_number_limbs v_t_number_size = some out) : Ct l yX1_times cX1_times 4 none rm_Chance_times D cy [.ref q_t, .int p1, .int p2, .int p3] [ob q_t 1 [.ref q_t_number, .int v_t_scale], ob q_t_number 4 [.ref q_t_number_limbs, .int v_t_number_size], aI cy q_t_number_limbs 136 v_t_number_limbs] none [ob q_t 1 [.ref q_t_number, .int out.1], ob q_t_number 4 [.ref q_t_number_limbs, .int out.2.2], aI cy q_t_number_limbs 136 out.2.1] := by
  refine ct_of (by decide +kernel) (Nat.le_of_ble_eq_true rfl) (fun p e s m args below meth c C hr hlk hnm => ?_)
  unfold sp_Chance_times at hf
  refine v_aload_n C dX1_times_0 0 rfl rfl ?_
  refine v_get C fl_X1_12 0 rfl rfl dX1_times_1 ?_
  refine v_iload_n C dX1_times_4 1 rfl rfl ?_
  refine v_iload_n C dX1_times_5 2 rfl rfl ?_
  obtain ⟨o6, g1, hf⟩ := bd_ hf
  refine v_callS0 (As := [.int p1, .int p2]) (st := [.ref q_t_number]) (stk' := [.long o6, .ref q_t_number]) C (c_Chance_waysToChoose l D cy K   p1 p2 o6 g1) ls_X1_25 rfl (by decide) rfl dX1_times_6 (Nat.le_of_ble_eq_true rfl) rfl ?_
  obtain ⟨o9, g2, hf⟩ := bd_ hf
  refine v_callV (As := [.long o6]) (wr := [ob q_t 1 [.ref q_t_number, .int v_t_scale]]) (ws' := [ob q_t 1 [.ref q_t_number, .int v_t_scale], ob q_t_number 4 [.ref q_t_number_limbs, .int o9.2], aI cy q_t_number_limbs 136 o9.1]) (st := []) (stk' := []) C (c_Great_times l D cy K q_t_number q_t_number_limbs  o6 v_t_number_limbs v_t_number_size o9 g2) lv_X1_29 rfl (by decide) rfl 1 rfl rfl rfl dX1_times_9 [1, 2] [0] (by decide) rfl rfl (by decide) (by decide) (Nat.le_of_ble_eq_true rfl) rfl rfl ?_
  refine v_aload_n C dX1_times_12 0 rfl rfl ?_
  refine v_get C fl_X1_12 0 rfl rfl dX1_times_13 ?_
  refine v_iload_n C dX1_times_16 3 rfl rfl ?_
  refine v_iload_n C dX1_times_17 2 rfl rfl ?_
  obtain ⟨o18, g3, hf⟩ := bd_ hf
  refine v_callV (As := [.int p3, .int p2]) (wr := [ob q_t 1 [.ref q_t_number, .int v_t_scale]]) (ws' := [ob q_t 1 [.ref q_t_number, .int v_t_scale], ob q_t_number 4 [.ref q_t_number_limbs, .int o18.2], aI cy q_t_number_limbs 136 o18.1]) (st := []) (stk' := []) C (c_Great_timesPower l D cy K q_t_number q_t_number_limbs  p3 p2 o9.1 o9.2 o18 g3) lv_X1_33 rfl (by decide) rfl 1 rfl rfl rfl dX1_times_18 [1, 2] [0] (by decide) rfl rfl (by decide) (by decide) (Nat.le_of_ble_eq_true rfl) rfl rfl ?_
  refine v_aload_n C dX1_times_21 0 rfl rfl ?_
  refine v_get C fl_X1_12 0 rfl rfl dX1_times_22 ?_
  refine v_bipush (v := 16) C dX1_times_25 (by decide) ?_
  refine v_iload_n C dX1_times_27 3 rfl rfl ?_
  refine v_isub C dX1_times_28 ?_
  refine v_iload_n C dX1_times_29 1 rfl rfl ?_
  refine v_iload_n C dX1_times_30 2 rfl rfl ?_
  refine v_isub C dX1_times_31 ?_
  obtain ⟨o32, g4, hf⟩ := bd_ hf
  refine v_callV (As := [.int (16 - p3), .int (p1 - p2)]) (wr := [ob q_t 1 [.ref q_t_number, .int v_t_scale]]) (ws' := [ob q_t 1 [.ref q_t_number, .int v_t_scale], ob q_t_number 4 [.ref q_t_number_limbs, .int o32.2], aI cy q_t_number_limbs 136 o32.1]) (st := []) (stk' := []) C (c_Great_timesPower l D cy K q_t_number q_t_number_limbs  (16 - p3) (p1 - p2) o18.1 o18.2 o32 g4) lv_X1_33 rfl (by decide) rfl 1 rfl rfl rfl dX1_times_32 [1, 2] [0] (by decide) rfl rfl (by decide) (by decide) (Nat.le_of_ble_eq_true rfl) rfl rfl ?_
  refine v_aload_n C dX1_times_35 0 rfl rfl ?_
  refine v_dup C dX1_times_36 rfl ?_
  refine v_get C fl_X1_21 0 rfl rfl dX1_times_37 ?_
  refine v_iload_n C dX1_times_40 1 rfl rfl ?_
  refine v_iadd C dX1_times_41 ?_
  refine v_put (ws' := [ob q_t 1 [.ref q_t_number, .int (v_t_scale + p1)], ob q_t_number 4 [.ref q_t_number_limbs, .int o32.2], aI cy q_t_number_limbs 136 o32.1]) C fp_X1_21 0 rfl rfl rfl (Nat.le_of_ble_eq_true rfl) rfl dX1_times_42 ?_
  obtain rfl := Option.some.inj hf
  exact v_vret C hr hlk dX1_times_45 rfl rfl rfl rfl
