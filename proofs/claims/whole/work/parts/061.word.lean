abbrev rm_Tape_wordIs : Room := { frames := 4, cells := 0, slots := 0, locals := 85 }
def f_Tape_wordIs (K : Nat) (v_t_bytes : Nat → Int32) (v_t_end : Int32) (v_t_start : Int32) (i_p1 : Nat) : Nat → Nat → Int32 → Option (Int32)
  | 0, _, _ => none
  | n + 1, 0, x2 =>
    if i_p1 < 13 then
      (sp_J0_length K i_p1).bind fun o22 =>
        if o22 ≤ x2 then
          some 1
        else
          (sp_Tape_byteAt K (v_t_start + x2) v_t_bytes v_t_end).bind fun o35 =>
            (sp_J0_charAt K x2 i_p1).bind fun o40 =>
              if o35 = o40 then
                f_Tape_wordIs K v_t_bytes v_t_end v_t_start i_p1 n 0 (x2 + 1)
              else
                some 0
    else none
  | _ + 1, _ + 1, _ => none
def sp_Tape_wordIs (K : Nat) (v_t_bytes : Nat → Int32) (v_t_end : Int32) (v_t_at : Int32) (v_t_start : Int32) (i_p1 : Nat) : Option (Int32) :=
  if i_p1 < 13 then
    (sp_J0_length K i_p1).bind fun o10 =>
      if (v_t_at - v_t_start) = o10 then
        f_Tape_wordIs K v_t_bytes v_t_end v_t_start i_p1 K 0 0
      else
        some 0
  else none
def Z0_Tape_wordIs (Vf : va_W → Nat → List (Nat × Value) → List Value → Prop) (cy : Nat → ClassId) (K n : Nat) (adK adV : Nat → Nat) (q_t q_t_bytes : Nat) (v_t_bytes : Nat → Int32) (v_t_size : Int32) (v_t_end : Int32) (v_t_at : Int32) (v_t_start : Int32) (v_t_faultKind : Int32) (v_t_faultPlace : Int32) (i_p1 : Nat) (out : Int32) : Prop := ∀ (x2 : Int32), f_Tape_wordIs K v_t_bytes v_t_end v_t_start i_p1 n 0 x2 = some out → Vf [ob q_t 10 [.ref q_t_bytes, .int v_t_size, .int v_t_end, .int v_t_at, .int v_t_start, .int v_t_faultKind, .int v_t_faultPlace], aB cy q_t_bytes 400 v_t_bytes] 20 [(0, .ref q_t), (1, .ref (adK i_p1)), (2, .int x2)] []
def Z_Tape_wordIs (Vf : va_W → Nat → List (Nat × Value) → List Value → Prop) (cy : Nat → ClassId) (K n : Nat) (adK adV : Nat → Nat) (q_t q_t_bytes : Nat) (v_t_bytes : Nat → Int32) (v_t_size : Int32) (v_t_end : Int32) (v_t_at : Int32) (v_t_start : Int32) (v_t_faultKind : Int32) (v_t_faultPlace : Int32) (i_p1 : Nat) (out : Int32) : Prop := Z0_Tape_wordIs Vf cy K n adK adV q_t q_t_bytes  v_t_bytes v_t_size v_t_end v_t_at v_t_start v_t_faultKind v_t_faultPlace i_p1 out
set_option maxHeartbeats 4000000 in
set_option maxRecDepth 20000 in
theorem z0_Tape_wordIs {p : Program} {l : Launch} {e : Env} {s : State} {m : MethodId} {args : Array Value} {below : List Frame} {meth : Method} {c : Code} {D : va_G} {cy : Nat → ClassId} {K : Nat} {adK adV : Nat → Nat} {q_t q_t_bytes : Nat} {v_t_bytes : Nat → Int32} {v_t_size : Int32} {v_t_end : Int32} {v_t_at : Int32} {v_t_start : Int32} {v_t_faultKind : Int32} {v_t_faultPlace : Int32} {i_p1 : Nat} {out : Int32} (C : VC p s m args c cX10_wordIs RX10 3 D cy (va_A [ob q_t 10 [.ref q_t_bytes, .int v_t_size, .int v_t_end, .int v_t_at, .int v_t_start, .int v_t_faultKind, .int v_t_faultPlace], aB cy q_t_bytes 400 v_t_bytes] s.heap.size)) (hO : OW adK adV (va_A [ob q_t 10 [.ref q_t_bytes, .int v_t_size, .int v_t_end, .int v_t_at, .int v_t_start, .int v_t_faultKind, .int v_t_faultPlace], aB cy q_t_bytes 400 v_t_bytes] s.heap.size) s s.heap) (hr : meth.sig.returnType = (some .boolean)) (hlk : meth.locks = false) (n : Nat) (ih : Z_Tape_wordIs (V p l e rm_Tape_wordIs s m args below meth c (EQ below args s rm_Tape_wordIs D [ob q_t 10 [.ref q_t_bytes, .int v_t_size, .int v_t_end, .int v_t_at, .int v_t_start, .int v_t_faultKind, .int v_t_faultPlace], aB cy q_t_bytes 400 v_t_bytes] (some (.int out)) [ob q_t 10 [.ref q_t_bytes, .int v_t_size, .int v_t_end, .int v_t_at, .int v_t_start, .int v_t_faultKind, .int v_t_faultPlace], aB cy q_t_bytes 400 v_t_bytes]) 3 D (va_A [ob q_t 10 [.ref q_t_bytes, .int v_t_size, .int v_t_end, .int v_t_at, .int v_t_start, .int v_t_faultKind, .int v_t_faultPlace], aB cy q_t_bytes 400 v_t_bytes] s.heap.size) 0 0) cy K n adK adV q_t q_t_bytes  v_t_bytes v_t_size v_t_end v_t_at v_t_start v_t_faultKind v_t_faultPlace i_p1 out) : Z0_Tape_wordIs (V p l e rm_Tape_wordIs s m args below meth c (EQ below args s rm_Tape_wordIs D [ob q_t 10 [.ref q_t_bytes, .int v_t_size, .int v_t_end, .int v_t_at, .int v_t_start, .int v_t_faultKind, .int v_t_faultPlace], aB cy q_t_bytes 400 v_t_bytes] (some (.int out)) [ob q_t 10 [.ref q_t_bytes, .int v_t_size, .int v_t_end, .int v_t_at, .int v_t_start, .int v_t_faultKind, .int v_t_faultPlace], aB cy q_t_bytes 400 v_t_bytes]) 3 D (va_A [ob q_t 10 [.ref q_t_bytes, .int v_t_size, .int v_t_end, .int v_t_at, .int v_t_start, .int v_t_faultKind, .int v_t_faultPlace], aB cy q_t_bytes 400 v_t_bytes] s.heap.size) 0 0) cy K (n + 1) adK adV q_t q_t_bytes  v_t_bytes v_t_size v_t_end v_t_at v_t_start v_t_faultKind v_t_faultPlace i_p1 out := by
  intro x2 hf
  replace hf := hf
  refine v_iload_n C dX10_wordIs_20 2 rfl rfl ?_
  refine v_aload_n C dX10_wordIs_21 1 rfl rfl ?_
  obtain ⟨b1, hf⟩ := gd_ hf
  obtain ⟨o22, g2, hf⟩ := bd_ hf
  refine v_callVs (As := []) (wr := [ob q_t 10 [.ref q_t_bytes, .int v_t_size, .int v_t_end, .int v_t_at, .int v_t_start, .int v_t_faultKind, .int v_t_faultPlace], aB cy q_t_bytes 400 v_t_bytes]) (ws' := [ob q_t 10 [.ref q_t_bytes, .int v_t_size, .int v_t_end, .int v_t_at, .int v_t_start, .int v_t_faultKind, .int v_t_faultPlace], aB cy q_t_bytes 400 v_t_bytes]) (st := [.int x2]) (stk' := [.int o22, .int x2]) C hO (c_J0_length l D cy K adK adV   i_p1 o22 g2) b1 rfl lv_X10_62 rfl (by decide) rfl dX10_wordIs_22 [] [0, 1] (by decide) rfl rfl (by decide) (by decide) (Nat.le_of_ble_eq_true rfl) rfl rfl ?_
  refine v_icmp_ge (tgt := 54) C dX10_wordIs_25 (by decide) (fun c3 => ?_) (fun c3 => ?_)
  · replace hf := (if_pos c3).symm.trans hf
    refine v_iconst (v := 1) C dX10_wordIs_54 (by decide) ?_
    obtain rfl := Option.some.inj hf
    exact v_zret C hr hlk rfl dX10_wordIs_55 rfl rfl rfl rfl
  · replace hf := (if_neg c3).symm.trans hf
    refine v_aload_n C dX10_wordIs_28 0 rfl rfl ?_
    refine v_aload_n C dX10_wordIs_29 0 rfl rfl ?_
    refine v_get C fl_X10_41 0 rfl rfl dX10_wordIs_30 ?_
    refine v_iload_n C dX10_wordIs_33 2 rfl rfl ?_
    refine v_iadd C dX10_wordIs_34 ?_
    obtain ⟨o35, g4, hf⟩ := bd_ hf
    refine v_callV (As := [.int (v_t_start + x2)]) (wr := []) (ws' := [ob q_t 10 [.ref q_t_bytes, .int v_t_size, .int v_t_end, .int v_t_at, .int v_t_start, .int v_t_faultKind, .int v_t_faultPlace], aB cy q_t_bytes 400 v_t_bytes]) (st := []) (stk' := [.int o35]) C (c_Tape_byteAt l D cy K q_t q_t_bytes  (v_t_start + x2) v_t_bytes v_t_size v_t_end v_t_at v_t_start v_t_faultKind v_t_faultPlace o35 g4) lv_X10_51 rfl (by decide) rfl 0 rfl rfl rfl dX10_wordIs_35 [0, 1] [] (by decide) rfl rfl (by decide) (by decide) (Nat.le_of_ble_eq_true rfl) rfl rfl ?_
    refine v_aload_n C dX10_wordIs_38 1 rfl rfl ?_
    refine v_iload_n C dX10_wordIs_39 2 rfl rfl ?_
    obtain ⟨o40, g5, hf⟩ := bd_ hf
    refine v_callVs (As := [.int x2]) (wr := [ob q_t 10 [.ref q_t_bytes, .int v_t_size, .int v_t_end, .int v_t_at, .int v_t_start, .int v_t_faultKind, .int v_t_faultPlace], aB cy q_t_bytes 400 v_t_bytes]) (ws' := [ob q_t 10 [.ref q_t_bytes, .int v_t_size, .int v_t_end, .int v_t_at, .int v_t_start, .int v_t_faultKind, .int v_t_faultPlace], aB cy q_t_bytes 400 v_t_bytes]) (st := [.int o35]) (stk' := [.int o40, .int o35]) C hO (c_J0_charAt l D cy K adK adV   x2 i_p1 o40 g5) b1 rfl lv_X10_68 rfl (by decide) rfl dX10_wordIs_40 [] [0, 1] (by decide) rfl rfl (by decide) (by decide) (Nat.le_of_ble_eq_true rfl) rfl rfl ?_
    refine v_icmp_eq (tgt := 48) C dX10_wordIs_43 (by decide) (fun c6 => ?_) (fun c6 => ?_)
    · replace hf := (if_pos c6).symm.trans hf
      refine v_iinc (v := x2 + 1) (lv' := [(2, .int (x2 + 1)), (0, .ref q_t), (1, .ref (adK i_p1))]) C dX10_wordIs_48 2 rfl rfl (by decide) rfl ?_
      refine v_goto (tgt := 20) C dX10_wordIs_51 (by decide) ?_
      refine v_lv (lv' := [(0, .ref q_t), (1, .ref (adK i_p1)), (2, .int (x2 + 1))]) [1, 2, 0] rfl ?_
      exact ih _ hf
    · replace hf := (if_neg c6).symm.trans hf
      refine v_iconst (v := 0) C dX10_wordIs_46 (by decide) ?_
      obtain rfl := Option.some.inj hf
      exact v_zret C hr hlk rfl dX10_wordIs_47 rfl rfl rfl rfl
theorem z_Tape_wordIs {p : Program} {l : Launch} {e : Env} {s : State} {m : MethodId} {args : Array Value} {below : List Frame} {meth : Method} {c : Code} {D : va_G} {cy : Nat → ClassId} {K : Nat} {adK adV : Nat → Nat} {q_t q_t_bytes : Nat} {v_t_bytes : Nat → Int32} {v_t_size : Int32} {v_t_end : Int32} {v_t_at : Int32} {v_t_start : Int32} {v_t_faultKind : Int32} {v_t_faultPlace : Int32} {i_p1 : Nat} {out : Int32} (C : VC p s m args c cX10_wordIs RX10 3 D cy (va_A [ob q_t 10 [.ref q_t_bytes, .int v_t_size, .int v_t_end, .int v_t_at, .int v_t_start, .int v_t_faultKind, .int v_t_faultPlace], aB cy q_t_bytes 400 v_t_bytes] s.heap.size)) (hO : OW adK adV (va_A [ob q_t 10 [.ref q_t_bytes, .int v_t_size, .int v_t_end, .int v_t_at, .int v_t_start, .int v_t_faultKind, .int v_t_faultPlace], aB cy q_t_bytes 400 v_t_bytes] s.heap.size) s s.heap) (hr : meth.sig.returnType = (some .boolean)) (hlk : meth.locks = false) (n : Nat) : Z_Tape_wordIs (V p l e rm_Tape_wordIs s m args below meth c (EQ below args s rm_Tape_wordIs D [ob q_t 10 [.ref q_t_bytes, .int v_t_size, .int v_t_end, .int v_t_at, .int v_t_start, .int v_t_faultKind, .int v_t_faultPlace], aB cy q_t_bytes 400 v_t_bytes] (some (.int out)) [ob q_t 10 [.ref q_t_bytes, .int v_t_size, .int v_t_end, .int v_t_at, .int v_t_start, .int v_t_faultKind, .int v_t_faultPlace], aB cy q_t_bytes 400 v_t_bytes]) 3 D (va_A [ob q_t 10 [.ref q_t_bytes, .int v_t_size, .int v_t_end, .int v_t_at, .int v_t_start, .int v_t_faultKind, .int v_t_faultPlace], aB cy q_t_bytes 400 v_t_bytes] s.heap.size) 0 0) cy K n adK adV q_t q_t_bytes  v_t_bytes v_t_size v_t_end v_t_at v_t_start v_t_faultKind v_t_faultPlace i_p1 out := by
  induction n with
  | zero => exact fun _ h => nomatch h
  | succ n ih => exact z0_Tape_wordIs C hO hr hlk n ih
set_option maxHeartbeats 4000000 in
set_option maxRecDepth 20000 in
theorem c_Tape_wordIs (l : Launch) (D : va_G) (cy : Nat → ClassId) (K : Nat) (adK adV : Nat → Nat) (q_t q_t_bytes : Nat) (v_t_bytes : Nat → Int32) (v_t_size : Int32) (v_t_end : Int32) (v_t_at : Int32) (v_t_start : Int32) (v_t_faultKind : Int32) (v_t_faultPlace : Int32) (i_p1 : Nat) (out : Int32) (hf : sp_Tape_wordIs K v_t_bytes v_t_end v_t_at v_t_start i_p1 = some out) : Co l yX10_wordIs cX10_wordIs 3 (some .boolean) rm_Tape_wordIs D cy adK adV [.ref q_t, .ref (adK i_p1)] [ob q_t 10 [.ref q_t_bytes, .int v_t_size, .int v_t_end, .int v_t_at, .int v_t_start, .int v_t_faultKind, .int v_t_faultPlace], aB cy q_t_bytes 400 v_t_bytes] (some (.int out)) [ob q_t 10 [.ref q_t_bytes, .int v_t_size, .int v_t_end, .int v_t_at, .int v_t_start, .int v_t_faultKind, .int v_t_faultPlace], aB cy q_t_bytes 400 v_t_bytes] := by
  refine co_of (by decide +kernel) (Nat.le_of_ble_eq_true rfl) (fun p e s m args below meth c C hO hr hlk hnm => ?_)
  unfold sp_Tape_wordIs at hf
  refine v_aload_n C dX10_wordIs_0 0 rfl rfl ?_
  refine v_get C fl_X10_38 0 rfl rfl dX10_wordIs_1 ?_
  refine v_aload_n C dX10_wordIs_4 0 rfl rfl ?_
  refine v_get C fl_X10_41 0 rfl rfl dX10_wordIs_5 ?_
  refine v_isub C dX10_wordIs_8 ?_
  refine v_aload_n C dX10_wordIs_9 1 rfl rfl ?_
  obtain ⟨b1, hf⟩ := gd_ hf
  obtain ⟨o10, g2, hf⟩ := bd_ hf
  refine v_callVs (As := []) (wr := [ob q_t 10 [.ref q_t_bytes, .int v_t_size, .int v_t_end, .int v_t_at, .int v_t_start, .int v_t_faultKind, .int v_t_faultPlace], aB cy q_t_bytes 400 v_t_bytes]) (ws' := [ob q_t 10 [.ref q_t_bytes, .int v_t_size, .int v_t_end, .int v_t_at, .int v_t_start, .int v_t_faultKind, .int v_t_faultPlace], aB cy q_t_bytes 400 v_t_bytes]) (st := [.int (v_t_at - v_t_start)]) (stk' := [.int o10, .int (v_t_at - v_t_start)]) C hO (c_J0_length l D cy K adK adV   i_p1 o10 g2) b1 rfl lv_X10_62 rfl (by decide) rfl dX10_wordIs_10 [] [0, 1] (by decide) rfl rfl (by decide) (by decide) (Nat.le_of_ble_eq_true rfl) rfl rfl ?_
  refine v_icmp_eq (tgt := 18) C dX10_wordIs_13 (by decide) (fun c3 => ?_) (fun c3 => ?_)
  · replace hf := (if_pos c3).symm.trans hf
    refine v_iconst (v := 0) C dX10_wordIs_18 (by decide) ?_
    refine v_istore_n (lv' := [(2, .int 0), (0, .ref q_t), (1, .ref (adK i_p1))]) C dX10_wordIs_19 rfl (by decide) rfl ?_
    refine v_lv (lv' := [(0, .ref q_t), (1, .ref (adK i_p1)), (2, .int 0)]) [1, 2, 0] rfl ?_
    exact (z_Tape_wordIs C hO hr hlk K) _ hf
  · replace hf := (if_neg c3).symm.trans hf
    refine v_iconst (v := 0) C dX10_wordIs_16 (by decide) ?_
    obtain rfl := Option.some.inj hf
    exact v_zret C hr hlk rfl dX10_wordIs_17 rfl rfl rfl rfl

abbrev rm_Tape_expectWord : Room := { frames := 5, cells := 0, slots := 0, locals := 107 }
def sp_Tape_expectWord (K : Nat) (v_t_bytes : Nat → Int32) (v_t_end : Int32) (v_t_at : Int32) (v_t_start : Int32) (v_t_faultKind : Int32) (v_t_faultPlace : Int32) (i_p1 : Nat) : Option (Int32 × Int32 × Int32 × Int32) :=
  (sp_Tape_readWord K v_t_bytes v_t_end v_t_at v_t_start v_t_faultKind).bind fun o1 =>
    (sp_Tape_wordIs K v_t_bytes v_t_end o1.1 o1.2 i_p1).bind fun o6 =>
      if o6 = 0 then
        (sp_Tape_fail K 1 o1.2 v_t_faultKind v_t_faultPlace).bind fun o18 =>
          some (o1.1, o1.2, o18.1, o18.2)
      else
        some (o1.1, o1.2, v_t_faultKind, v_t_faultPlace)
set_option maxHeartbeats 4000000 in
set_option maxRecDepth 20000 in
theorem c_Tape_expectWord (l : Launch) (D : va_G) (cy : Nat → ClassId) (K : Nat) (adK adV : Nat → Nat) (q_t q_t_bytes : Nat) (v_t_bytes : Nat → Int32) (v_t_size : Int32) (v_t_end : Int32) (v_t_at : Int32) (v_t_start : Int32) (v_t_faultKind : Int32) (v_t_faultPlace : Int32) (i_p1 : Nat) (out : Int32 × Int32 × Int32 × Int32) (hf : sp_Tape_expectWord K v_t_bytes v_t_end v_t_at v_t_start v_t_faultKind v_t_faultPlace i_p1 = some out) : Co l yX10_expectWord cX10_expectWord 2 none rm_Tape_expectWord D cy adK adV [.ref q_t, .ref (adK i_p1)] [ob q_t 10 [.ref q_t_bytes, .int v_t_size, .int v_t_end, .int v_t_at, .int v_t_start, .int v_t_faultKind, .int v_t_faultPlace], aB cy q_t_bytes 400 v_t_bytes] none [ob q_t 10 [.ref q_t_bytes, .int v_t_size, .int v_t_end, .int out.1, .int out.2.1, .int out.2.2.1, .int out.2.2.2], aB cy q_t_bytes 400 v_t_bytes] := by
  refine co_of (by decide +kernel) (Nat.le_of_ble_eq_true rfl) (fun p e s m args below meth c C hO hr hlk hnm => ?_)
  unfold sp_Tape_expectWord at hf
  refine v_aload_n C dX10_expectWord_0 0 rfl rfl ?_
  obtain ⟨o1, g1, hf⟩ := bd_ hf
  refine v_callV (As := []) (wr := []) (ws' := [ob q_t 10 [.ref q_t_bytes, .int v_t_size, .int v_t_end, .int o1.1, .int o1.2, .int v_t_faultKind, .int v_t_faultPlace], aB cy q_t_bytes 400 v_t_bytes]) (st := []) (stk' := []) C (c_Tape_readWord l D cy K q_t q_t_bytes  v_t_bytes v_t_size v_t_end v_t_at v_t_start v_t_faultKind v_t_faultPlace o1 g1) lv_X10_76 rfl (by decide) rfl 0 rfl rfl rfl dX10_expectWord_1 [0, 1] [] (by decide) rfl rfl (by decide) (by decide) (Nat.le_of_ble_eq_true rfl) rfl rfl ?_
  refine v_aload_n C dX10_expectWord_4 0 rfl rfl ?_
  refine v_aload_n C dX10_expectWord_5 1 rfl rfl ?_
  obtain ⟨o6, g2, hf⟩ := bd_ hf
  refine v_callVO (As := [.ref (adK i_p1)]) (wr := []) (ws' := [ob q_t 10 [.ref q_t_bytes, .int v_t_size, .int v_t_end, .int o1.1, .int o1.2, .int v_t_faultKind, .int v_t_faultPlace], aB cy q_t_bytes 400 v_t_bytes]) (st := []) (stk' := [.int o6]) C hO (c_Tape_wordIs l D cy K adK adV q_t q_t_bytes  v_t_bytes v_t_size v_t_end o1.1 o1.2 v_t_faultKind v_t_faultPlace i_p1 o6 g2) lv_X10_79 rfl (by decide) rfl 0 rfl rfl rfl dX10_expectWord_6 [0, 1] [] (by decide) rfl rfl (by decide) (by decide) (Nat.le_of_ble_eq_true rfl) rfl rfl ?_
  refine v_if_ne (tgt := 21) C dX10_expectWord_9 (by decide) (fun c3 => ?_) (fun c3 => ?_)
  · replace hf := (if_neg c3).symm.trans hf
    obtain rfl := Option.some.inj hf
    exact v_vret C hr hlk dX10_expectWord_21 rfl rfl rfl rfl
  · replace hf := (if_pos c3).symm.trans hf
    refine v_aload_n C dX10_expectWord_12 0 rfl rfl ?_
    refine v_iconst (v := 1) C dX10_expectWord_13 (by decide) ?_
    refine v_aload_n C dX10_expectWord_14 0 rfl rfl ?_
    refine v_get C fl_X10_41 0 rfl rfl dX10_expectWord_15 ?_
    obtain ⟨o18, g4, hf⟩ := bd_ hf
    refine v_callV (As := [.int 1, .int o1.2]) (wr := []) (ws' := [ob q_t 10 [.ref q_t_bytes, .int v_t_size, .int v_t_end, .int o1.1, .int o1.2, .int o18.1, .int o18.2], aB cy q_t_bytes 400 v_t_bytes]) (st := []) (stk' := []) C (c_Tape_fail l D cy K q_t q_t_bytes  1 o1.2 v_t_bytes v_t_size v_t_end o1.1 o1.2 v_t_faultKind v_t_faultPlace o18 g4) lv_X10_72 rfl (by decide) rfl 0 rfl rfl rfl dX10_expectWord_18 [0, 1] [] (by decide) rfl rfl (by decide) (by decide) (Nat.le_of_ble_eq_true rfl) rfl rfl ?_
    obtain rfl := Option.some.inj hf
    exact v_vret C hr hlk dX10_expectWord_21 rfl rfl rfl rfl
