abbrev rm_Finds_add : Room := { frames := 1, cells := 0, slots := 0, locals := 21 }
def sp_Finds_add (K : Nat) (p1 : Int32) (p2 : Int32) (p3 : Int32) (p4 : Int32) (v_t_place : Nat → Int32) (v_t_hour : Nat → Int32) (v_t_sort : Nat → Int32) (v_t_many : Nat → Int32) (v_t_size : Int32) : Option (Int32 × (Nat → Int32) × (Nat → Int32) × (Nat → Int32) × (Nat → Int32) × Int32) :=
  (sp_within K v_t_size 8).bind fun o6 =>
    if o6 = 0 then
      some ((-1), v_t_place, v_t_hour, v_t_sort, v_t_many, v_t_size)
    else
      if inb v_t_size 8 then
        if inb v_t_size 8 then
          if inb v_t_size 8 then
            if inb v_t_size 8 then
              some ((v_t_size + 1) - 1, upd v_t_place v_t_size.toNatClampNeg p1, upd v_t_hour v_t_size.toNatClampNeg p2, upd v_t_sort v_t_size.toNatClampNeg p3, upd v_t_many v_t_size.toNatClampNeg p4, v_t_size + 1)
            else none
          else none
        else none
      else none
set_option maxHeartbeats 4000000 in
set_option maxRecDepth 20000 in
theorem c_Finds_add (l : Launch) (D : va_G) (cy : Nat → ClassId) (K : Nat) (q_t q_t_place q_t_hour q_t_sort q_t_many : Nat) (p1 : Int32) (p2 : Int32) (p3 : Int32) (p4 : Int32) (v_t_place : Nat → Int32) (v_t_hour : Nat → Int32) (v_t_sort : Nat → Int32) (v_t_many : Nat → Int32) (v_t_size : Int32) (out : Int32 × (Nat → Int32) × (Nat → Int32) × (Nat → Int32) × (Nat → Int32) × Int32) (hf : sp_Finds_add K p1 p2 p3 p4 v_t_place v_t_hour v_t_sort v_t_many v_t_size = some out) : Ct l yX3_add cX3_add 5 (some .int) rm_Finds_add D cy [.ref q_t, .int p1, .int p2, .int p3, .int p4] [ob q_t 3 [.ref q_t_place, .ref q_t_hour, .ref q_t_sort, .ref q_t_many, .int v_t_size], aI cy q_t_place 8 v_t_place, aI cy q_t_hour 8 v_t_hour, aI cy q_t_sort 8 v_t_sort, aI cy q_t_many 8 v_t_many] (some (.int out.1)) [ob q_t 3 [.ref q_t_place, .ref q_t_hour, .ref q_t_sort, .ref q_t_many, .int out.2.2.2.2.2], aI cy q_t_place 8 out.2.1, aI cy q_t_hour 8 out.2.2.1, aI cy q_t_sort 8 out.2.2.2.1, aI cy q_t_many 8 out.2.2.2.2.1] := by
  refine ct_of (by decide +kernel) (Nat.le_of_ble_eq_true rfl) (fun p e s m args below meth c C hr hlk hnm => ?_)
  unfold sp_Finds_add at hf
  refine v_aload_n C dX3_add_0 0 rfl rfl ?_
  refine v_get C fl_X3_24 0 rfl rfl dX3_add_1 ?_
  refine v_bipush (v := 8) C dX3_add_4 (by decide) ?_
  obtain ⟨o6, g1, hf⟩ := bd_ hf
  refine v_callN0 (As := [.int v_t_size, .int 8]) (st := []) (stk' := [.int o6]) C (c_within l D cy K   v_t_size 8 o6 g1) ln_X3_28 rfl (by decide) rfl dX3_add_6 (Nat.le_of_ble_eq_true rfl) rfl ?_
  refine v_if_ne (tgt := 14) C dX3_add_9 (by decide) (fun c2 => ?_) (fun c2 => ?_)
  · replace hf := (if_neg c2).symm.trans hf
    refine v_aload_n C dX3_add_14 0 rfl rfl ?_
    refine v_get C fl_X3_9 0 rfl rfl dX3_add_15 ?_
    refine v_aload_n C dX3_add_18 0 rfl rfl ?_
    refine v_get C fl_X3_24 0 rfl rfl dX3_add_19 ?_
    refine v_iload_n C dX3_add_22 1 rfl rfl ?_
    obtain ⟨g3, hf⟩ := gd_ hf
    refine v_iast (ws' := [ob q_t 3 [.ref q_t_place, .ref q_t_hour, .ref q_t_sort, .ref q_t_many, .int v_t_size], aI cy q_t_place 8 (upd v_t_place v_t_size.toNatClampNeg p1), aI cy q_t_hour 8 v_t_hour, aI cy q_t_sort 8 v_t_sort, aI cy q_t_many 8 v_t_many]) C 1 rfl g3 rfl dX3_add_23 ?_
    refine v_aload_n C dX3_add_24 0 rfl rfl ?_
    refine v_get C fl_X3_15 0 rfl rfl dX3_add_25 ?_
    refine v_aload_n C dX3_add_28 0 rfl rfl ?_
    refine v_get C fl_X3_24 0 rfl rfl dX3_add_29 ?_
    refine v_iload_n C dX3_add_32 2 rfl rfl ?_
    obtain ⟨g4, hf⟩ := gd_ hf
    refine v_iast (ws' := [ob q_t 3 [.ref q_t_place, .ref q_t_hour, .ref q_t_sort, .ref q_t_many, .int v_t_size], aI cy q_t_place 8 (upd v_t_place v_t_size.toNatClampNeg p1), aI cy q_t_hour 8 (upd v_t_hour v_t_size.toNatClampNeg p2), aI cy q_t_sort 8 v_t_sort, aI cy q_t_many 8 v_t_many]) C 2 rfl g4 rfl dX3_add_33 ?_
    refine v_aload_n C dX3_add_34 0 rfl rfl ?_
    refine v_get C fl_X3_18 0 rfl rfl dX3_add_35 ?_
    refine v_aload_n C dX3_add_38 0 rfl rfl ?_
    refine v_get C fl_X3_24 0 rfl rfl dX3_add_39 ?_
    refine v_iload_n C dX3_add_42 3 rfl rfl ?_
    obtain ⟨g5, hf⟩ := gd_ hf
    refine v_iast (ws' := [ob q_t 3 [.ref q_t_place, .ref q_t_hour, .ref q_t_sort, .ref q_t_many, .int v_t_size], aI cy q_t_place 8 (upd v_t_place v_t_size.toNatClampNeg p1), aI cy q_t_hour 8 (upd v_t_hour v_t_size.toNatClampNeg p2), aI cy q_t_sort 8 (upd v_t_sort v_t_size.toNatClampNeg p3), aI cy q_t_many 8 v_t_many]) C 3 rfl g5 rfl dX3_add_43 ?_
    refine v_aload_n C dX3_add_44 0 rfl rfl ?_
    refine v_get C fl_X3_21 0 rfl rfl dX3_add_45 ?_
    refine v_aload_n C dX3_add_48 0 rfl rfl ?_
    refine v_get C fl_X3_24 0 rfl rfl dX3_add_49 ?_
    refine v_iload C dX3_add_52 4 rfl ?_
    obtain ⟨g6, hf⟩ := gd_ hf
    refine v_iast (ws' := [ob q_t 3 [.ref q_t_place, .ref q_t_hour, .ref q_t_sort, .ref q_t_many, .int v_t_size], aI cy q_t_place 8 (upd v_t_place v_t_size.toNatClampNeg p1), aI cy q_t_hour 8 (upd v_t_hour v_t_size.toNatClampNeg p2), aI cy q_t_sort 8 (upd v_t_sort v_t_size.toNatClampNeg p3), aI cy q_t_many 8 (upd v_t_many v_t_size.toNatClampNeg p4)]) C 4 rfl g6 rfl dX3_add_54 ?_
    refine v_aload_n C dX3_add_55 0 rfl rfl ?_
    refine v_dup C dX3_add_56 rfl ?_
    refine v_get C fl_X3_24 0 rfl rfl dX3_add_57 ?_
    refine v_iconst (v := 1) C dX3_add_60 (by decide) ?_
    refine v_iadd C dX3_add_61 ?_
    refine v_put (ws' := [ob q_t 3 [.ref q_t_place, .ref q_t_hour, .ref q_t_sort, .ref q_t_many, .int (v_t_size + 1)], aI cy q_t_place 8 (upd v_t_place v_t_size.toNatClampNeg p1), aI cy q_t_hour 8 (upd v_t_hour v_t_size.toNatClampNeg p2), aI cy q_t_sort 8 (upd v_t_sort v_t_size.toNatClampNeg p3), aI cy q_t_many 8 (upd v_t_many v_t_size.toNatClampNeg p4)]) C fp_X3_24 0 rfl rfl rfl (Nat.le_of_ble_eq_true rfl) rfl dX3_add_62 ?_
    refine v_aload_n C dX3_add_65 0 rfl rfl ?_
    refine v_get C fl_X3_24 0 rfl rfl dX3_add_66 ?_
    refine v_iconst (v := 1) C dX3_add_69 (by decide) ?_
    refine v_isub C dX3_add_70 ?_
    obtain rfl := Option.some.inj hf
    exact v_iret C hr hlk dX3_add_71 rfl rfl rfl rfl
  · replace hf := (if_pos c2).symm.trans hf
    refine v_iconst (v := (-1)) C dX3_add_12 (by decide) ?_
    obtain rfl := Option.some.inj hf
    exact v_iret C hr hlk dX3_add_13 rfl rfl rfl rfl

abbrev rm_Finds_takeBack : Room := { frames := 1, cells := 0, slots := 0, locals := 21 }
def f_Finds_takeBack (K : Nat) : Nat → Nat → Int32 × (Nat → Int32) × (Nat → Int32) × (Nat → Int32) × (Nat → Int32) × Int32 → Option ((Nat → Int32) × (Nat → Int32) × (Nat → Int32) × (Nat → Int32) × Int32)
  | 0, _, _ => none
  | n + 1, 0, (x2, v_t_place, v_t_hour, v_t_sort, v_t_many, v_t_size) =>
    if (v_t_size - 1) ≤ x2 then
      f_Finds_takeBack K  n 1 (0, v_t_place, v_t_hour, v_t_sort, v_t_many, v_t_size)
    else
      if 7 ≤ x2 then
        f_Finds_takeBack K  n 1 (0, v_t_place, v_t_hour, v_t_sort, v_t_many, v_t_size)
      else
        if inb (x2 + 1) 8 then
          if inb x2 8 then
            if inb (x2 + 1) 8 then
              if inb x2 8 then
                if inb (x2 + 1) 8 then
                  if inb x2 8 then
                    if inb (x2 + 1) 8 then
                      if inb x2 8 then
                        f_Finds_takeBack K  n 0 (x2 + 1, upd v_t_place x2.toNatClampNeg (v_t_place (x2 + 1 : Int32).toNatClampNeg), upd v_t_hour x2.toNatClampNeg (v_t_hour (x2 + 1 : Int32).toNatClampNeg), upd v_t_sort x2.toNatClampNeg (v_t_sort (x2 + 1 : Int32).toNatClampNeg), upd v_t_many x2.toNatClampNeg (v_t_many (x2 + 1 : Int32).toNatClampNeg), v_t_size)
                      else none
                    else none
                  else none
                else none
              else none
            else none
          else none
        else none
  | n + 1, 1, (x2, v_t_place, v_t_hour, v_t_sort, v_t_many, v_t_size) =>
    some (v_t_place, v_t_hour, v_t_sort, v_t_many, v_t_size - 1)
  | _ + 1, _ + 2, _ => none
def sp_Finds_takeBack (K : Nat) (p1 : Int32) (v_t_place : Nat → Int32) (v_t_hour : Nat → Int32) (v_t_sort : Nat → Int32) (v_t_many : Nat → Int32) (v_t_size : Int32) : Option ((Nat → Int32) × (Nat → Int32) × (Nat → Int32) × (Nat → Int32) × Int32) :=
  (sp_within K p1 v_t_size).bind fun o5 =>
    if o5 = 0 then
      some (v_t_place, v_t_hour, v_t_sort, v_t_many, v_t_size)
    else
      f_Finds_takeBack K  K 0 (p1, v_t_place, v_t_hour, v_t_sort, v_t_many, v_t_size)
def Z0_Finds_takeBack (Vf : va_W → Nat → List (Nat × Value) → List Value → Prop) (cy : Nat → ClassId) (K n : Nat) (q_t q_t_place q_t_hour q_t_sort q_t_many : Nat) (out : (Nat → Int32) × (Nat → Int32) × (Nat → Int32) × (Nat → Int32) × Int32) : Prop := ∀ (x2 : Int32) (v_t_place : Nat → Int32) (v_t_hour : Nat → Int32) (v_t_sort : Nat → Int32) (v_t_many : Nat → Int32) (v_t_size : Int32), f_Finds_takeBack K  n 0 (x2, v_t_place, v_t_hour, v_t_sort, v_t_many, v_t_size) = some out → Vf [ob q_t 3 [.ref q_t_place, .ref q_t_hour, .ref q_t_sort, .ref q_t_many, .int v_t_size], aI cy q_t_place 8 v_t_place, aI cy q_t_hour 8 v_t_hour, aI cy q_t_sort 8 v_t_sort, aI cy q_t_many 8 v_t_many] 14 [(0, .ref q_t), (2, .int x2)] []
def Z1_Finds_takeBack (Vf : va_W → Nat → List (Nat × Value) → List Value → Prop) (cy : Nat → ClassId) (K n : Nat) (q_t q_t_place q_t_hour q_t_sort q_t_many : Nat) (out : (Nat → Int32) × (Nat → Int32) × (Nat → Int32) × (Nat → Int32) × Int32) : Prop := ∀ (x2 : Int32) (v_t_place : Nat → Int32) (v_t_hour : Nat → Int32) (v_t_sort : Nat → Int32) (v_t_many : Nat → Int32) (v_t_size : Int32), f_Finds_takeBack K  n 1 (x2, v_t_place, v_t_hour, v_t_sort, v_t_many, v_t_size) = some out → Vf [ob q_t 3 [.ref q_t_place, .ref q_t_hour, .ref q_t_sort, .ref q_t_many, .int v_t_size], aI cy q_t_place 8 v_t_place, aI cy q_t_hour 8 v_t_hour, aI cy q_t_sort 8 v_t_sort, aI cy q_t_many 8 v_t_many] 92 [(0, .ref q_t)] []
def Z_Finds_takeBack (Vf : va_W → Nat → List (Nat × Value) → List Value → Prop) (cy : Nat → ClassId) (K n : Nat) (q_t q_t_place q_t_hour q_t_sort q_t_many : Nat) (out : (Nat → Int32) × (Nat → Int32) × (Nat → Int32) × (Nat → Int32) × Int32) : Prop := Z0_Finds_takeBack Vf cy K n q_t q_t_place q_t_hour q_t_sort q_t_many   out ∧ Z1_Finds_takeBack Vf cy K n q_t q_t_place q_t_hour q_t_sort q_t_many   out
set_option maxHeartbeats 4000000 in
set_option maxRecDepth 20000 in
theorem z0_Finds_takeBack {p : Program} {l : Launch} {e : Env} {s : State} {m : MethodId} {args : Array Value} {below : List Frame} {meth : Method} {c : Code} {D : va_G} {cy : Nat → ClassId} {K : Nat} {q_t q_t_place q_t_hour q_t_sort q_t_many : Nat} {v_t_place' : Nat → Int32} {v_t_hour' : Nat → Int32} {v_t_sort' : Nat → Int32} {v_t_many' : Nat → Int32} {v_t_size' : Int32} {out : (Nat → Int32) × (Nat → Int32) × (Nat → Int32) × (Nat → Int32) × Int32} (C : VC p s m args c cX3_takeBack RX3 3 D cy (va_A [ob q_t 3 [.ref q_t_place, .ref q_t_hour, .ref q_t_sort, .ref q_t_many, .int v_t_size'], aI cy q_t_place 8 v_t_place', aI cy q_t_hour 8 v_t_hour', aI cy q_t_sort 8 v_t_sort', aI cy q_t_many 8 v_t_many'] s.heap.size)) (hr : meth.sig.returnType = none) (hlk : meth.locks = false) (n : Nat) (ih : Z_Finds_takeBack (V p l e rm_Finds_takeBack s m args below meth c (EQ below args s rm_Finds_takeBack D [ob q_t 3 [.ref q_t_place, .ref q_t_hour, .ref q_t_sort, .ref q_t_many, .int v_t_size'], aI cy q_t_place 8 v_t_place', aI cy q_t_hour 8 v_t_hour', aI cy q_t_sort 8 v_t_sort', aI cy q_t_many 8 v_t_many'] none [ob q_t 3 [.ref q_t_place, .ref q_t_hour, .ref q_t_sort, .ref q_t_many, .int out.2.2.2.2], aI cy q_t_place 8 out.1, aI cy q_t_hour 8 out.2.1, aI cy q_t_sort 8 out.2.2.1, aI cy q_t_many 8 out.2.2.2.1]) 3 D (va_A [ob q_t 3 [.ref q_t_place, .ref q_t_hour, .ref q_t_sort, .ref q_t_many, .int v_t_size'], aI cy q_t_place 8 v_t_place', aI cy q_t_hour 8 v_t_hour', aI cy q_t_sort 8 v_t_sort', aI cy q_t_many 8 v_t_many'] s.heap.size) 0 0) cy K n q_t q_t_place q_t_hour q_t_sort q_t_many   out) : Z0_Finds_takeBack (V p l e rm_Finds_takeBack s m args below meth c (EQ below args s rm_Finds_takeBack D [ob q_t 3 [.ref q_t_place, .ref q_t_hour, .ref q_t_sort, .ref q_t_many, .int v_t_size'], aI cy q_t_place 8 v_t_place', aI cy q_t_hour 8 v_t_hour', aI cy q_t_sort 8 v_t_sort', aI cy q_t_many 8 v_t_many'] none [ob q_t 3 [.ref q_t_place, .ref q_t_hour, .ref q_t_sort, .ref q_t_many, .int out.2.2.2.2], aI cy q_t_place 8 out.1, aI cy q_t_hour 8 out.2.1, aI cy q_t_sort 8 out.2.2.1, aI cy q_t_many 8 out.2.2.2.1]) 3 D (va_A [ob q_t 3 [.ref q_t_place, .ref q_t_hour, .ref q_t_sort, .ref q_t_many, .int v_t_size'], aI cy q_t_place 8 v_t_place', aI cy q_t_hour 8 v_t_hour', aI cy q_t_sort 8 v_t_sort', aI cy q_t_many 8 v_t_many'] s.heap.size) 0 0) cy K (n + 1) q_t q_t_place q_t_hour q_t_sort q_t_many   out := by
  intro x2 v_t_place v_t_hour v_t_sort v_t_many v_t_size hf
  replace hf := hf
  refine v_iload_n C dX3_takeBack_14 1 rfl rfl ?_
  refine v_aload_n C dX3_takeBack_15 0 rfl rfl ?_
  refine v_get C fl_X3_24 0 rfl rfl dX3_takeBack_16 ?_
  refine v_iconst (v := 1) C dX3_takeBack_19 (by decide) ?_
  refine v_isub C dX3_takeBack_20 ?_
  refine v_icmp_ge (tgt := 92) C dX3_takeBack_21 (by decide) (fun c1 => ?_) (fun c1 => ?_)
  · replace hf := (if_pos c1).symm.trans hf
    refine v_lv (lv' := [(0, .ref q_t)]) [0] rfl ?_
    exact ih.2 _ _ _ _ _ _ hf
  · replace hf := (if_neg c1).symm.trans hf
    refine v_iload_n C dX3_takeBack_24 1 rfl rfl ?_
    refine v_bipush (v := 7) C dX3_takeBack_25 (by decide) ?_
    refine v_icmp_ge (tgt := 92) C dX3_takeBack_27 (by decide) (fun c2 => ?_) (fun c2 => ?_)
    · replace hf := (if_pos c2).symm.trans hf
      refine v_lv (lv' := [(0, .ref q_t)]) [0] rfl ?_
      exact ih.2 _ _ _ _ _ _ hf
    · replace hf := (if_neg c2).symm.trans hf
      refine v_aload_n C dX3_takeBack_30 0 rfl rfl ?_
      refine v_get C fl_X3_9 0 rfl rfl dX3_takeBack_31 ?_
      refine v_iload_n C dX3_takeBack_34 1 rfl rfl ?_
      refine v_aload_n C dX3_takeBack_35 0 rfl rfl ?_
      refine v_get C fl_X3_9 0 rfl rfl dX3_takeBack_36 ?_
      refine v_iload_n C dX3_takeBack_39 1 rfl rfl ?_
      refine v_iconst (v := 1) C dX3_takeBack_40 (by decide) ?_
      refine v_iadd C dX3_takeBack_41 ?_
      obtain ⟨g3, hf⟩ := gd_ hf
      refine v_iald C 1 rfl g3 dX3_takeBack_42 ?_
      obtain ⟨g4, hf⟩ := gd_ hf
      refine v_iast (ws' := [ob q_t 3 [.ref q_t_place, .ref q_t_hour, .ref q_t_sort, .ref q_t_many, .int v_t_size], aI cy q_t_place 8 (upd v_t_place x2.toNatClampNeg (v_t_place (x2 + 1 : Int32).toNatClampNeg)), aI cy q_t_hour 8 v_t_hour, aI cy q_t_sort 8 v_t_sort, aI cy q_t_many 8 v_t_many]) C 1 rfl g4 rfl dX3_takeBack_43 ?_
      refine v_aload_n C dX3_takeBack_44 0 rfl rfl ?_
      refine v_get C fl_X3_15 0 rfl rfl dX3_takeBack_45 ?_
      refine v_iload_n C dX3_takeBack_48 1 rfl rfl ?_
      refine v_aload_n C dX3_takeBack_49 0 rfl rfl ?_
      refine v_get C fl_X3_15 0 rfl rfl dX3_takeBack_50 ?_
      refine v_iload_n C dX3_takeBack_53 1 rfl rfl ?_
      refine v_iconst (v := 1) C dX3_takeBack_54 (by decide) ?_
      refine v_iadd C dX3_takeBack_55 ?_
      obtain ⟨g5, hf⟩ := gd_ hf
      refine v_iald C 2 rfl g5 dX3_takeBack_56 ?_
      obtain ⟨g6, hf⟩ := gd_ hf
      refine v_iast (ws' := [ob q_t 3 [.ref q_t_place, .ref q_t_hour, .ref q_t_sort, .ref q_t_many, .int v_t_size], aI cy q_t_place 8 (upd v_t_place x2.toNatClampNeg (v_t_place (x2 + 1 : Int32).toNatClampNeg)), aI cy q_t_hour 8 (upd v_t_hour x2.toNatClampNeg (v_t_hour (x2 + 1 : Int32).toNatClampNeg)), aI cy q_t_sort 8 v_t_sort, aI cy q_t_many 8 v_t_many]) C 2 rfl g6 rfl dX3_takeBack_57 ?_
      refine v_aload_n C dX3_takeBack_58 0 rfl rfl ?_
      refine v_get C fl_X3_18 0 rfl rfl dX3_takeBack_59 ?_
      refine v_iload_n C dX3_takeBack_62 1 rfl rfl ?_
      refine v_aload_n C dX3_takeBack_63 0 rfl rfl ?_
      refine v_get C fl_X3_18 0 rfl rfl dX3_takeBack_64 ?_
      refine v_iload_n C dX3_takeBack_67 1 rfl rfl ?_
      refine v_iconst (v := 1) C dX3_takeBack_68 (by decide) ?_
      refine v_iadd C dX3_takeBack_69 ?_
      obtain ⟨g7, hf⟩ := gd_ hf
      refine v_iald C 3 rfl g7 dX3_takeBack_70 ?_
      obtain ⟨g8, hf⟩ := gd_ hf
      refine v_iast (ws' := [ob q_t 3 [.ref q_t_place, .ref q_t_hour, .ref q_t_sort, .ref q_t_many, .int v_t_size], aI cy q_t_place 8 (upd v_t_place x2.toNatClampNeg (v_t_place (x2 + 1 : Int32).toNatClampNeg)), aI cy q_t_hour 8 (upd v_t_hour x2.toNatClampNeg (v_t_hour (x2 + 1 : Int32).toNatClampNeg)), aI cy q_t_sort 8 (upd v_t_sort x2.toNatClampNeg (v_t_sort (x2 + 1 : Int32).toNatClampNeg)), aI cy q_t_many 8 v_t_many]) C 3 rfl g8 rfl dX3_takeBack_71 ?_
      refine v_aload_n C dX3_takeBack_72 0 rfl rfl ?_
      refine v_get C fl_X3_21 0 rfl rfl dX3_takeBack_73 ?_
      refine v_iload_n C dX3_takeBack_76 1 rfl rfl ?_
      refine v_aload_n C dX3_takeBack_77 0 rfl rfl ?_
      refine v_get C fl_X3_21 0 rfl rfl dX3_takeBack_78 ?_
      refine v_iload_n C dX3_takeBack_81 1 rfl rfl ?_
      refine v_iconst (v := 1) C dX3_takeBack_82 (by decide) ?_
      refine v_iadd C dX3_takeBack_83 ?_
      obtain ⟨g9, hf⟩ := gd_ hf
      refine v_iald C 4 rfl g9 dX3_takeBack_84 ?_
      obtain ⟨g10, hf⟩ := gd_ hf
      refine v_iast (ws' := [ob q_t 3 [.ref q_t_place, .ref q_t_hour, .ref q_t_sort, .ref q_t_many, .int v_t_size], aI cy q_t_place 8 (upd v_t_place x2.toNatClampNeg (v_t_place (x2 + 1 : Int32).toNatClampNeg)), aI cy q_t_hour 8 (upd v_t_hour x2.toNatClampNeg (v_t_hour (x2 + 1 : Int32).toNatClampNeg)), aI cy q_t_sort 8 (upd v_t_sort x2.toNatClampNeg (v_t_sort (x2 + 1 : Int32).toNatClampNeg)), aI cy q_t_many 8 (upd v_t_many x2.toNatClampNeg (v_t_many (x2 + 1 : Int32).toNatClampNeg))]) C 4 rfl g10 rfl dX3_takeBack_85 ?_
      refine v_iinc (v := x2 + 1) (lv' := [(2, .int (x2 + 1)), (0, .ref q_t)]) C dX3_takeBack_86 1 rfl rfl (by decide) rfl ?_
      refine v_goto (tgt := 14) C dX3_takeBack_89 (by decide) ?_
      refine v_lv (lv' := [(0, .ref q_t), (2, .int (x2 + 1))]) [1, 0] rfl ?_
      exact ih.1 _ _ _ _ _ _ hf
set_option maxHeartbeats 4000000 in
set_option maxRecDepth 20000 in
theorem z1_Finds_takeBack {p : Program} {l : Launch} {e : Env} {s : State} {m : MethodId} {args : Array Value} {below : List Frame} {meth : Method} {c : Code} {D : va_G} {cy : Nat → ClassId} {K : Nat} {q_t q_t_place q_t_hour q_t_sort q_t_many : Nat} {v_t_place' : Nat → Int32} {v_t_hour' : Nat → Int32} {v_t_sort' : Nat → Int32} {v_t_many' : Nat → Int32} {v_t_size' : Int32} {out : (Nat → Int32) × (Nat → Int32) × (Nat → Int32) × (Nat → Int32) × Int32} (C : VC p s m args c cX3_takeBack RX3 3 D cy (va_A [ob q_t 3 [.ref q_t_place, .ref q_t_hour, .ref q_t_sort, .ref q_t_many, .int v_t_size'], aI cy q_t_place 8 v_t_place', aI cy q_t_hour 8 v_t_hour', aI cy q_t_sort 8 v_t_sort', aI cy q_t_many 8 v_t_many'] s.heap.size)) (hr : meth.sig.returnType = none) (hlk : meth.locks = false) (n : Nat) (ih : Z_Finds_takeBack (V p l e rm_Finds_takeBack s m args below meth c (EQ below args s rm_Finds_takeBack D [ob q_t 3 [.ref q_t_place, .ref q_t_hour, .ref q_t_sort, .ref q_t_many, .int v_t_size'], aI cy q_t_place 8 v_t_place', aI cy q_t_hour 8 v_t_hour', aI cy q_t_sort 8 v_t_sort', aI cy q_t_many 8 v_t_many'] none [ob q_t 3 [.ref q_t_place, .ref q_t_hour, .ref q_t_sort, .ref q_t_many, .int out.2.2.2.2], aI cy q_t_place 8 out.1, aI cy q_t_hour 8 out.2.1, aI cy q_t_sort 8 out.2.2.1, aI cy q_t_many 8 out.2.2.2.1]) 3 D (va_A [ob q_t 3 [.ref q_t_place, .ref q_t_hour, .ref q_t_sort, .ref q_t_many, .int v_t_size'], aI cy q_t_place 8 v_t_place', aI cy q_t_hour 8 v_t_hour', aI cy q_t_sort 8 v_t_sort', aI cy q_t_many 8 v_t_many'] s.heap.size) 0 0) cy K n q_t q_t_place q_t_hour q_t_sort q_t_many   out) : Z1_Finds_takeBack (V p l e rm_Finds_takeBack s m args below meth c (EQ below args s rm_Finds_takeBack D [ob q_t 3 [.ref q_t_place, .ref q_t_hour, .ref q_t_sort, .ref q_t_many, .int v_t_size'], aI cy q_t_place 8 v_t_place', aI cy q_t_hour 8 v_t_hour', aI cy q_t_sort 8 v_t_sort', aI cy q_t_many 8 v_t_many'] none [ob q_t 3 [.ref q_t_place, .ref q_t_hour, .ref q_t_sort, .ref q_t_many, .int out.2.2.2.2], aI cy q_t_place 8 out.1, aI cy q_t_hour 8 out.2.1, aI cy q_t_sort 8 out.2.2.1, aI cy q_t_many 8 out.2.2.2.1]) 3 D (va_A [ob q_t 3 [.ref q_t_place, .ref q_t_hour, .ref q_t_sort, .ref q_t_many, .int v_t_size'], aI cy q_t_place 8 v_t_place', aI cy q_t_hour 8 v_t_hour', aI cy q_t_sort 8 v_t_sort', aI cy q_t_many 8 v_t_many'] s.heap.size) 0 0) cy K (n + 1) q_t q_t_place q_t_hour q_t_sort q_t_many   out := by
  intro x2 v_t_place v_t_hour v_t_sort v_t_many v_t_size hf
  replace hf := hf
  refine v_aload_n C dX3_takeBack_92 0 rfl rfl ?_
  refine v_dup C dX3_takeBack_93 rfl ?_
  refine v_get C fl_X3_24 0 rfl rfl dX3_takeBack_94 ?_
  refine v_iconst (v := 1) C dX3_takeBack_97 (by decide) ?_
  refine v_isub C dX3_takeBack_98 ?_
  refine v_put (ws' := [ob q_t 3 [.ref q_t_place, .ref q_t_hour, .ref q_t_sort, .ref q_t_many, .int (v_t_size - 1)], aI cy q_t_place 8 v_t_place, aI cy q_t_hour 8 v_t_hour, aI cy q_t_sort 8 v_t_sort, aI cy q_t_many 8 v_t_many]) C fp_X3_24 0 rfl rfl rfl (Nat.le_of_ble_eq_true rfl) rfl dX3_takeBack_99 ?_
  obtain rfl := Option.some.inj hf
  exact v_vret C hr hlk dX3_takeBack_102 rfl rfl rfl rfl
theorem z_Finds_takeBack {p : Program} {l : Launch} {e : Env} {s : State} {m : MethodId} {args : Array Value} {below : List Frame} {meth : Method} {c : Code} {D : va_G} {cy : Nat → ClassId} {K : Nat} {q_t q_t_place q_t_hour q_t_sort q_t_many : Nat} {v_t_place' : Nat → Int32} {v_t_hour' : Nat → Int32} {v_t_sort' : Nat → Int32} {v_t_many' : Nat → Int32} {v_t_size' : Int32} {out : (Nat → Int32) × (Nat → Int32) × (Nat → Int32) × (Nat → Int32) × Int32} (C : VC p s m args c cX3_takeBack RX3 3 D cy (va_A [ob q_t 3 [.ref q_t_place, .ref q_t_hour, .ref q_t_sort, .ref q_t_many, .int v_t_size'], aI cy q_t_place 8 v_t_place', aI cy q_t_hour 8 v_t_hour', aI cy q_t_sort 8 v_t_sort', aI cy q_t_many 8 v_t_many'] s.heap.size)) (hr : meth.sig.returnType = none) (hlk : meth.locks = false) (n : Nat) : Z_Finds_takeBack (V p l e rm_Finds_takeBack s m args below meth c (EQ below args s rm_Finds_takeBack D [ob q_t 3 [.ref q_t_place, .ref q_t_hour, .ref q_t_sort, .ref q_t_many, .int v_t_size'], aI cy q_t_place 8 v_t_place', aI cy q_t_hour 8 v_t_hour', aI cy q_t_sort 8 v_t_sort', aI cy q_t_many 8 v_t_many'] none [ob q_t 3 [.ref q_t_place, .ref q_t_hour, .ref q_t_sort, .ref q_t_many, .int out.2.2.2.2], aI cy q_t_place 8 out.1, aI cy q_t_hour 8 out.2.1, aI cy q_t_sort 8 out.2.2.1, aI cy q_t_many 8 out.2.2.2.1]) 3 D (va_A [ob q_t 3 [.ref q_t_place, .ref q_t_hour, .ref q_t_sort, .ref q_t_many, .int v_t_size'], aI cy q_t_place 8 v_t_place', aI cy q_t_hour 8 v_t_hour', aI cy q_t_sort 8 v_t_sort', aI cy q_t_many 8 v_t_many'] s.heap.size) 0 0) cy K n q_t q_t_place q_t_hour q_t_sort q_t_many   out := by
  induction n with
  | zero => exact ⟨(fun _ _ _ _ _ _ h => nomatch h), (fun _ _ _ _ _ _ h => nomatch h)⟩
  | succ n ih => exact ⟨z0_Finds_takeBack C hr hlk n ih, z1_Finds_takeBack C hr hlk n ih⟩
set_option maxHeartbeats 4000000 in
set_option maxRecDepth 20000 in
theorem c_Finds_takeBack (l : Launch) (D : va_G) (cy : Nat → ClassId) (K : Nat) (q_t q_t_place q_t_hour q_t_sort q_t_many : Nat) (p1 : Int32) (v_t_place : Nat → Int32) (v_t_hour : Nat → Int32) (v_t_sort : Nat → Int32) (v_t_many : Nat → Int32) (v_t_size : Int32) (out : (Nat → Int32) × (Nat → Int32) × (Nat → Int32) × (Nat → Int32) × Int32) (hf : sp_Finds_takeBack K p1 v_t_place v_t_hour v_t_sort v_t_many v_t_size = some out) : Ct l yX3_takeBack cX3_takeBack 3 none rm_Finds_takeBack D cy [.ref q_t, .int p1] [ob q_t 3 [.ref q_t_place, .ref q_t_hour, .ref q_t_sort, .ref q_t_many, .int v_t_size], aI cy q_t_place 8 v_t_place, aI cy q_t_hour 8 v_t_hour, aI cy q_t_sort 8 v_t_sort, aI cy q_t_many 8 v_t_many] none [ob q_t 3 [.ref q_t_place, .ref q_t_hour, .ref q_t_sort, .ref q_t_many, .int out.2.2.2.2], aI cy q_t_place 8 out.1, aI cy q_t_hour 8 out.2.1, aI cy q_t_sort 8 out.2.2.1, aI cy q_t_many 8 out.2.2.2.1] := by
  refine ct_of (by decide +kernel) (Nat.le_of_ble_eq_true rfl) (fun p e s m args below meth c C hr hlk hnm => ?_)
  unfold sp_Finds_takeBack at hf
  refine v_iload_n C dX3_takeBack_0 1 rfl rfl ?_
  refine v_aload_n C dX3_takeBack_1 0 rfl rfl ?_
  refine v_get C fl_X3_24 0 rfl rfl dX3_takeBack_2 ?_
  obtain ⟨o5, g1, hf⟩ := bd_ hf
  refine v_callN0 (As := [.int p1, .int v_t_size]) (st := []) (stk' := [.int o5]) C (c_within l D cy K   p1 v_t_size o5 g1) ln_X3_28 rfl (by decide) rfl dX3_takeBack_5 (Nat.le_of_ble_eq_true rfl) rfl ?_
  refine v_if_ne (tgt := 12) C dX3_takeBack_8 (by decide) (fun c2 => ?_) (fun c2 => ?_)
  · replace hf := (if_neg c2).symm.trans hf
    refine v_iload_n C dX3_takeBack_12 1 rfl rfl ?_
    refine v_istore_n (lv' := [(2, .int p1), (0, .ref q_t), (1, .int p1)]) C dX3_takeBack_13 rfl (by decide) rfl ?_
    refine v_lv (lv' := [(0, .ref q_t), (2, .int p1)]) [1, 0] rfl ?_
    exact (z_Finds_takeBack C hr hlk K).1 _ _ _ _ _ _ hf
  · replace hf := (if_pos c2).symm.trans hf
    obtain rfl := Option.some.inj hf
    exact v_vret C hr hlk dX3_takeBack_11 rfl rfl rfl rfl

abbrev rm_Finds_copy : Room := { frames := 2, cells := 0, slots := 0, locals := 45 }
def f_Finds_copy (K : Nat) (v_p1_place : Nat → Int32) (v_p1_hour : Nat → Int32) (v_p1_sort : Nat → Int32) (v_p1_many : Nat → Int32) (v_p1_size : Int32) : Nat → Nat → Int32 × (Nat → Int32) × (Nat → Int32) × (Nat → Int32) × (Nat → Int32) × Int32 → Option ((Nat → Int32) × (Nat → Int32) × (Nat → Int32) × (Nat → Int32) × Int32)
  | 0, _, _ => none
  | n + 1, 0, (x2, v_t_place, v_t_hour, v_t_sort, v_t_many, v_t_size) =>
    if v_p1_size ≤ x2 then
      some (v_t_place, v_t_hour, v_t_sort, v_t_many, v_t_size)
    else
      if 8 ≤ x2 then
        some (v_t_place, v_t_hour, v_t_sort, v_t_many, v_t_size)
      else
        if inb x2 8 then
          if inb x2 8 then
            if inb x2 8 then
              if inb x2 8 then
                (sp_Finds_add K (v_p1_place x2.toNatClampNeg) (v_p1_hour x2.toNatClampNeg) (v_p1_sort x2.toNatClampNeg) (v_p1_many x2.toNatClampNeg) v_t_place v_t_hour v_t_sort v_t_many v_t_size).bind fun o46 =>
                  f_Finds_copy K v_p1_place v_p1_hour v_p1_sort v_p1_many v_p1_size n 0 (x2 + 1, o46.2.1, o46.2.2.1, o46.2.2.2.1, o46.2.2.2.2.1, o46.2.2.2.2.2)
              else none
            else none
          else none
        else none
  | _ + 1, _ + 1, _ => none
def sp_Finds_copy (K : Nat) (v_t_place : Nat → Int32) (v_t_hour : Nat → Int32) (v_t_sort : Nat → Int32) (v_t_many : Nat → Int32) (v_t_size : Int32) (v_p1_place : Nat → Int32) (v_p1_hour : Nat → Int32) (v_p1_sort : Nat → Int32) (v_p1_many : Nat → Int32) (v_p1_size : Int32) : Option ((Nat → Int32) × (Nat → Int32) × (Nat → Int32) × (Nat → Int32) × Int32) :=
  f_Finds_copy K v_p1_place v_p1_hour v_p1_sort v_p1_many v_p1_size K 0 (0, v_t_place, v_t_hour, v_t_sort, v_t_many, 0)
def Z0_Finds_copy (Vf : va_W → Nat → List (Nat × Value) → List Value → Prop) (cy : Nat → ClassId) (K n : Nat) (q_t q_t_place q_t_hour q_t_sort q_t_many q_p1 q_p1_place q_p1_hour q_p1_sort q_p1_many : Nat) (v_p1_place : Nat → Int32) (v_p1_hour : Nat → Int32) (v_p1_sort : Nat → Int32) (v_p1_many : Nat → Int32) (v_p1_size : Int32) (out : (Nat → Int32) × (Nat → Int32) × (Nat → Int32) × (Nat → Int32) × Int32) : Prop := ∀ (x2 : Int32) (v_t_place : Nat → Int32) (v_t_hour : Nat → Int32) (v_t_sort : Nat → Int32) (v_t_many : Nat → Int32) (v_t_size : Int32), f_Finds_copy K v_p1_place v_p1_hour v_p1_sort v_p1_many v_p1_size n 0 (x2, v_t_place, v_t_hour, v_t_sort, v_t_many, v_t_size) = some out → Vf [ob q_t 3 [.ref q_t_place, .ref q_t_hour, .ref q_t_sort, .ref q_t_many, .int v_t_size], aI cy q_t_place 8 v_t_place, aI cy q_t_hour 8 v_t_hour, aI cy q_t_sort 8 v_t_sort, aI cy q_t_many 8 v_t_many, ob q_p1 3 [.ref q_p1_place, .ref q_p1_hour, .ref q_p1_sort, .ref q_p1_many, .int v_p1_size], aI cy q_p1_place 8 v_p1_place, aI cy q_p1_hour 8 v_p1_hour, aI cy q_p1_sort 8 v_p1_sort, aI cy q_p1_many 8 v_p1_many] 7 [(0, .ref q_t), (1, .ref q_p1), (2, .int x2)] []
def Z_Finds_copy (Vf : va_W → Nat → List (Nat × Value) → List Value → Prop) (cy : Nat → ClassId) (K n : Nat) (q_t q_t_place q_t_hour q_t_sort q_t_many q_p1 q_p1_place q_p1_hour q_p1_sort q_p1_many : Nat) (v_p1_place : Nat → Int32) (v_p1_hour : Nat → Int32) (v_p1_sort : Nat → Int32) (v_p1_many : Nat → Int32) (v_p1_size : Int32) (out : (Nat → Int32) × (Nat → Int32) × (Nat → Int32) × (Nat → Int32) × Int32) : Prop := Z0_Finds_copy Vf cy K n q_t q_t_place q_t_hour q_t_sort q_t_many q_p1 q_p1_place q_p1_hour q_p1_sort q_p1_many  v_p1_place v_p1_hour v_p1_sort v_p1_many v_p1_size out
set_option maxHeartbeats 4000000 in
set_option maxRecDepth 20000 in
theorem z0_Finds_copy {p : Program} {l : Launch} {e : Env} {s : State} {m : MethodId} {args : Array Value} {below : List Frame} {meth : Method} {c : Code} {D : va_G} {cy : Nat → ClassId} {K : Nat} {q_t q_t_place q_t_hour q_t_sort q_t_many q_p1 q_p1_place q_p1_hour q_p1_sort q_p1_many : Nat} {v_p1_place : Nat → Int32} {v_p1_hour : Nat → Int32} {v_p1_sort : Nat → Int32} {v_p1_many : Nat → Int32} {v_p1_size : Int32} {v_t_place' : Nat → Int32} {v_t_hour' : Nat → Int32} {v_t_sort' : Nat → Int32} {v_t_many' : Nat → Int32} {v_t_size' : Int32} {out : (Nat → Int32) × (Nat → Int32) × (Nat → Int32) × (Nat → Int32) × Int32} (C : VC p s m args c cX3_copy RX3 3 D cy (va_A [ob q_t 3 [.ref q_t_place, .ref q_t_hour, .ref q_t_sort, .ref q_t_many, .int v_t_size'], aI cy q_t_place 8 v_t_place', aI cy q_t_hour 8 v_t_hour', aI cy q_t_sort 8 v_t_sort', aI cy q_t_many 8 v_t_many', ob q_p1 3 [.ref q_p1_place, .ref q_p1_hour, .ref q_p1_sort, .ref q_p1_many, .int v_p1_size], aI cy q_p1_place 8 v_p1_place, aI cy q_p1_hour 8 v_p1_hour, aI cy q_p1_sort 8 v_p1_sort, aI cy q_p1_many 8 v_p1_many] s.heap.size)) (hr : meth.sig.returnType = none) (hlk : meth.locks = false) (n : Nat) (ih : Z_Finds_copy (V p l e rm_Finds_copy s m args below meth c (EQ below args s rm_Finds_copy D [ob q_t 3 [.ref q_t_place, .ref q_t_hour, .ref q_t_sort, .ref q_t_many, .int v_t_size'], aI cy q_t_place 8 v_t_place', aI cy q_t_hour 8 v_t_hour', aI cy q_t_sort 8 v_t_sort', aI cy q_t_many 8 v_t_many', ob q_p1 3 [.ref q_p1_place, .ref q_p1_hour, .ref q_p1_sort, .ref q_p1_many, .int v_p1_size], aI cy q_p1_place 8 v_p1_place, aI cy q_p1_hour 8 v_p1_hour, aI cy q_p1_sort 8 v_p1_sort, aI cy q_p1_many 8 v_p1_many] none [ob q_t 3 [.ref q_t_place, .ref q_t_hour, .ref q_t_sort, .ref q_t_many, .int out.2.2.2.2], aI cy q_t_place 8 out.1, aI cy q_t_hour 8 out.2.1, aI cy q_t_sort 8 out.2.2.1, aI cy q_t_many 8 out.2.2.2.1, ob q_p1 3 [.ref q_p1_place, .ref q_p1_hour, .ref q_p1_sort, .ref q_p1_many, .int v_p1_size], aI cy q_p1_place 8 v_p1_place, aI cy q_p1_hour 8 v_p1_hour, aI cy q_p1_sort 8 v_p1_sort, aI cy q_p1_many 8 v_p1_many]) 3 D (va_A [ob q_t 3 [.ref q_t_place, .ref q_t_hour, .ref q_t_sort, .ref q_t_many, .int v_t_size'], aI cy q_t_place 8 v_t_place', aI cy q_t_hour 8 v_t_hour', aI cy q_t_sort 8 v_t_sort', aI cy q_t_many 8 v_t_many', ob q_p1 3 [.ref q_p1_place, .ref q_p1_hour, .ref q_p1_sort, .ref q_p1_many, .int v_p1_size], aI cy q_p1_place 8 v_p1_place, aI cy q_p1_hour 8 v_p1_hour, aI cy q_p1_sort 8 v_p1_sort, aI cy q_p1_many 8 v_p1_many] s.heap.size) 0 0) cy K n q_t q_t_place q_t_hour q_t_sort q_t_many q_p1 q_p1_place q_p1_hour q_p1_sort q_p1_many  v_p1_place v_p1_hour v_p1_sort v_p1_many v_p1_size out) : Z0_Finds_copy (V p l e rm_Finds_copy s m args below meth c (EQ below args s rm_Finds_copy D [ob q_t 3 [.ref q_t_place, .ref q_t_hour, .ref q_t_sort, .ref q_t_many, .int v_t_size'], aI cy q_t_place 8 v_t_place', aI cy q_t_hour 8 v_t_hour', aI cy q_t_sort 8 v_t_sort', aI cy q_t_many 8 v_t_many', ob q_p1 3 [.ref q_p1_place, .ref q_p1_hour, .ref q_p1_sort, .ref q_p1_many, .int v_p1_size], aI cy q_p1_place 8 v_p1_place, aI cy q_p1_hour 8 v_p1_hour, aI cy q_p1_sort 8 v_p1_sort, aI cy q_p1_many 8 v_p1_many] none [ob q_t 3 [.ref q_t_place, .ref q_t_hour, .ref q_t_sort, .ref q_t_many, .int out.2.2.2.2], aI cy q_t_place 8 out.1, aI cy q_t_hour 8 out.2.1, aI cy q_t_sort 8 out.2.2.1, aI cy q_t_many 8 out.2.2.2.1, ob q_p1 3 [.ref q_p1_place, .ref q_p1_hour, .ref q_p1_sort, .ref q_p1_many, .int v_p1_size], aI cy q_p1_place 8 v_p1_place, aI cy q_p1_hour 8 v_p1_hour, aI cy q_p1_sort 8 v_p1_sort, aI cy q_p1_many 8 v_p1_many]) 3 D (va_A [ob q_t 3 [.ref q_t_place, .ref q_t_hour, .ref q_t_sort, .ref q_t_many, .int v_t_size'], aI cy q_t_place 8 v_t_place', aI cy q_t_hour 8 v_t_hour', aI cy q_t_sort 8 v_t_sort', aI cy q_t_many 8 v_t_many', ob q_p1 3 [.ref q_p1_place, .ref q_p1_hour, .ref q_p1_sort, .ref q_p1_many, .int v_p1_size], aI cy q_p1_place 8 v_p1_place, aI cy q_p1_hour 8 v_p1_hour, aI cy q_p1_sort 8 v_p1_sort, aI cy q_p1_many 8 v_p1_many] s.heap.size) 0 0) cy K (n + 1) q_t q_t_place q_t_hour q_t_sort q_t_many q_p1 q_p1_place q_p1_hour q_p1_sort q_p1_many  v_p1_place v_p1_hour v_p1_sort v_p1_many v_p1_size out := by
  intro x2 v_t_place v_t_hour v_t_sort v_t_many v_t_size hf
  replace hf := hf
  refine v_iload_n C dX3_copy_7 2 rfl rfl ?_
  refine v_aload_n C dX3_copy_8 1 rfl rfl ?_
  refine v_get C fl_X3_24 5 rfl rfl dX3_copy_9 ?_
  refine v_icmp_ge (tgt := 56) C dX3_copy_12 (by decide) (fun c1 => ?_) (fun c1 => ?_)
  · replace hf := (if_pos c1).symm.trans hf
    obtain rfl := Option.some.inj hf
    exact v_vret C hr hlk dX3_copy_56 rfl rfl rfl rfl
  · replace hf := (if_neg c1).symm.trans hf
    refine v_iload_n C dX3_copy_15 2 rfl rfl ?_
    refine v_bipush (v := 8) C dX3_copy_16 (by decide) ?_
    refine v_icmp_ge (tgt := 56) C dX3_copy_18 (by decide) (fun c2 => ?_) (fun c2 => ?_)
    · replace hf := (if_pos c2).symm.trans hf
      obtain rfl := Option.some.inj hf
      exact v_vret C hr hlk dX3_copy_56 rfl rfl rfl rfl
    · replace hf := (if_neg c2).symm.trans hf
      refine v_aload_n C dX3_copy_21 0 rfl rfl ?_
      refine v_aload_n C dX3_copy_22 1 rfl rfl ?_
      refine v_get C fl_X3_9 5 rfl rfl dX3_copy_23 ?_
      refine v_iload_n C dX3_copy_26 2 rfl rfl ?_
      obtain ⟨g3, hf⟩ := gd_ hf
      refine v_iald C 6 rfl g3 dX3_copy_27 ?_
      refine v_aload_n C dX3_copy_28 1 rfl rfl ?_
      refine v_get C fl_X3_15 5 rfl rfl dX3_copy_29 ?_
      refine v_iload_n C dX3_copy_32 2 rfl rfl ?_
      obtain ⟨g4, hf⟩ := gd_ hf
      refine v_iald C 7 rfl g4 dX3_copy_33 ?_
      refine v_aload_n C dX3_copy_34 1 rfl rfl ?_
      refine v_get C fl_X3_18 5 rfl rfl dX3_copy_35 ?_
      refine v_iload_n C dX3_copy_38 2 rfl rfl ?_
      obtain ⟨g5, hf⟩ := gd_ hf
      refine v_iald C 8 rfl g5 dX3_copy_39 ?_
      refine v_aload_n C dX3_copy_40 1 rfl rfl ?_
      refine v_get C fl_X3_21 5 rfl rfl dX3_copy_41 ?_
      refine v_iload_n C dX3_copy_44 2 rfl rfl ?_
      obtain ⟨g6, hf⟩ := gd_ hf
      refine v_iald C 9 rfl g6 dX3_copy_45 ?_
      obtain ⟨o46, g7, hf⟩ := bd_ hf
      refine v_callV (As := [.int (v_p1_place x2.toNatClampNeg), .int (v_p1_hour x2.toNatClampNeg), .int (v_p1_sort x2.toNatClampNeg), .int (v_p1_many x2.toNatClampNeg)]) (wr := [ob q_p1 3 [.ref q_p1_place, .ref q_p1_hour, .ref q_p1_sort, .ref q_p1_many, .int v_p1_size], aI cy q_p1_place 8 v_p1_place, aI cy q_p1_hour 8 v_p1_hour, aI cy q_p1_sort 8 v_p1_sort, aI cy q_p1_many 8 v_p1_many]) (ws' := [ob q_p1 3 [.ref q_p1_place, .ref q_p1_hour, .ref q_p1_sort, .ref q_p1_many, .int v_p1_size], aI cy q_p1_place 8 v_p1_place, aI cy q_p1_hour 8 v_p1_hour, aI cy q_p1_sort 8 v_p1_sort, aI cy q_p1_many 8 v_p1_many, ob q_t 3 [.ref q_t_place, .ref q_t_hour, .ref q_t_sort, .ref q_t_many, .int o46.2.2.2.2.2], aI cy q_t_place 8 o46.2.1, aI cy q_t_hour 8 o46.2.2.1, aI cy q_t_sort 8 o46.2.2.2.1, aI cy q_t_many 8 o46.2.2.2.2.1]) (st := []) (stk' := [.int o46.1]) C (c_Finds_add l D cy K q_t q_t_place q_t_hour q_t_sort q_t_many  (v_p1_place x2.toNatClampNeg) (v_p1_hour x2.toNatClampNeg) (v_p1_sort x2.toNatClampNeg) (v_p1_many x2.toNatClampNeg) v_t_place v_t_hour v_t_sort v_t_many v_t_size o46 g7) lv_X3_32 rfl (by decide) rfl 0 rfl rfl rfl dX3_copy_46 [0, 1, 2, 3, 4] [5, 6, 7, 8, 9] (by decide) rfl rfl (by decide) (by decide) (Nat.le_of_ble_eq_true rfl) rfl rfl ?_
      refine v_pop C dX3_copy_49 rfl ?_
      refine v_iinc (v := x2 + 1) (lv' := [(2, .int (x2 + 1)), (0, .ref q_t), (1, .ref q_p1)]) C dX3_copy_50 2 rfl rfl (by decide) rfl ?_
      refine v_goto (tgt := 7) C dX3_copy_53 (by decide) ?_
      refine v_lv (lv' := [(0, .ref q_t), (1, .ref q_p1), (2, .int (x2 + 1))]) [1, 2, 0] rfl ?_
      refine v_ws (ws' := [ob q_t 3 [.ref q_t_place, .ref q_t_hour, .ref q_t_sort, .ref q_t_many, .int o46.2.2.2.2.2], aI cy q_t_place 8 o46.2.1, aI cy q_t_hour 8 o46.2.2.1, aI cy q_t_sort 8 o46.2.2.2.1, aI cy q_t_many 8 o46.2.2.2.2.1, ob q_p1 3 [.ref q_p1_place, .ref q_p1_hour, .ref q_p1_sort, .ref q_p1_many, .int v_p1_size], aI cy q_p1_place 8 v_p1_place, aI cy q_p1_hour 8 v_p1_hour, aI cy q_p1_sort 8 v_p1_sort, aI cy q_p1_many 8 v_p1_many]) [5, 6, 7, 8, 9, 0, 1, 2, 3, 4] (by decide) rfl ?_
      exact ih _ _ _ _ _ _ hf
theorem z_Finds_copy {p : Program} {l : Launch} {e : Env} {s : State} {m : MethodId} {args : Array Value} {below : List Frame} {meth : Method} {c : Code} {D : va_G} {cy : Nat → ClassId} {K : Nat} {q_t q_t_place q_t_hour q_t_sort q_t_many q_p1 q_p1_place q_p1_hour q_p1_sort q_p1_many : Nat} {v_p1_place : Nat → Int32} {v_p1_hour : Nat → Int32} {v_p1_sort : Nat → Int32} {v_p1_many : Nat → Int32} {v_p1_size : Int32} {v_t_place' : Nat → Int32} {v_t_hour' : Nat → Int32} {v_t_sort' : Nat → Int32} {v_t_many' : Nat → Int32} {v_t_size' : Int32} {out : (Nat → Int32) × (Nat → Int32) × (Nat → Int32) × (Nat → Int32) × Int32} (C : VC p s m args c cX3_copy RX3 3 D cy (va_A [ob q_t 3 [.ref q_t_place, .ref q_t_hour, .ref q_t_sort, .ref q_t_many, .int v_t_size'], aI cy q_t_place 8 v_t_place', aI cy q_t_hour 8 v_t_hour', aI cy q_t_sort 8 v_t_sort', aI cy q_t_many 8 v_t_many', ob q_p1 3 [.ref q_p1_place, .ref q_p1_hour, .ref q_p1_sort, .ref q_p1_many, .int v_p1_size], aI cy q_p1_place 8 v_p1_place, aI cy q_p1_hour 8 v_p1_hour, aI cy q_p1_sort 8 v_p1_sort, aI cy q_p1_many 8 v_p1_many] s.heap.size)) (hr : meth.sig.returnType = none) (hlk : meth.locks = false) (n : Nat) : Z_Finds_copy (V p l e rm_Finds_copy s m args below meth c (EQ below args s rm_Finds_copy D [ob q_t 3 [.ref q_t_place, .ref q_t_hour, .ref q_t_sort, .ref q_t_many, .int v_t_size'], aI cy q_t_place 8 v_t_place', aI cy q_t_hour 8 v_t_hour', aI cy q_t_sort 8 v_t_sort', aI cy q_t_many 8 v_t_many', ob q_p1 3 [.ref q_p1_place, .ref q_p1_hour, .ref q_p1_sort, .ref q_p1_many, .int v_p1_size], aI cy q_p1_place 8 v_p1_place, aI cy q_p1_hour 8 v_p1_hour, aI cy q_p1_sort 8 v_p1_sort, aI cy q_p1_many 8 v_p1_many] none [ob q_t 3 [.ref q_t_place, .ref q_t_hour, .ref q_t_sort, .ref q_t_many, .int out.2.2.2.2], aI cy q_t_place 8 out.1, aI cy q_t_hour 8 out.2.1, aI cy q_t_sort 8 out.2.2.1, aI cy q_t_many 8 out.2.2.2.1, ob q_p1 3 [.ref q_p1_place, .ref q_p1_hour, .ref q_p1_sort, .ref q_p1_many, .int v_p1_size], aI cy q_p1_place 8 v_p1_place, aI cy q_p1_hour 8 v_p1_hour, aI cy q_p1_sort 8 v_p1_sort, aI cy q_p1_many 8 v_p1_many]) 3 D (va_A [ob q_t 3 [.ref q_t_place, .ref q_t_hour, .ref q_t_sort, .ref q_t_many, .int v_t_size'], aI cy q_t_place 8 v_t_place', aI cy q_t_hour 8 v_t_hour', aI cy q_t_sort 8 v_t_sort', aI cy q_t_many 8 v_t_many', ob q_p1 3 [.ref q_p1_place, .ref q_p1_hour, .ref q_p1_sort, .ref q_p1_many, .int v_p1_size], aI cy q_p1_place 8 v_p1_place, aI cy q_p1_hour 8 v_p1_hour, aI cy q_p1_sort 8 v_p1_sort, aI cy q_p1_many 8 v_p1_many] s.heap.size) 0 0) cy K n q_t q_t_place q_t_hour q_t_sort q_t_many q_p1 q_p1_place q_p1_hour q_p1_sort q_p1_many  v_p1_place v_p1_hour v_p1_sort v_p1_many v_p1_size out := by
  induction n with
  | zero => exact fun _ _ _ _ _ _ h => nomatch h
  | succ n ih => exact z0_Finds_copy C hr hlk n ih
set_option maxHeartbeats 4000000 in
set_option maxRecDepth 20000 in
theorem c_Finds_copy (l : Launch) (D : va_G) (cy : Nat → ClassId) (K : Nat) (q_t q_t_place q_t_hour q_t_sort q_t_many q_p1 q_p1_place q_p1_hour q_p1_sort q_p1_many : Nat) (v_t_place : Nat → Int32) (v_t_hour : Nat → Int32) (v_t_sort : Nat → Int32) (v_t_many : Nat → Int32) (v_t_size : Int32) (v_p1_place : Nat → Int32) (v_p1_hour : Nat → Int32) (v_p1_sort : Nat → Int32) (v_p1_many : Nat → Int32) (v_p1_size : Int32) (out : (Nat → Int32) × (Nat → Int32) × (Nat → Int32) × (Nat → Int32) × Int32) (hf : sp_Finds_copy K v_t_place v_t_hour v_t_sort v_t_many v_t_size v_p1_place v_p1_hour v_p1_sort v_p1_many v_p1_size = some out) : Ct l yX3_copy cX3_copy 3 none rm_Finds_copy D cy [.ref q_t, .ref q_p1] [ob q_t 3 [.ref q_t_place, .ref q_t_hour, .ref q_t_sort, .ref q_t_many, .int v_t_size], aI cy q_t_place 8 v_t_place, aI cy q_t_hour 8 v_t_hour, aI cy q_t_sort 8 v_t_sort, aI cy q_t_many 8 v_t_many, ob q_p1 3 [.ref q_p1_place, .ref q_p1_hour, .ref q_p1_sort, .ref q_p1_many, .int v_p1_size], aI cy q_p1_place 8 v_p1_place, aI cy q_p1_hour 8 v_p1_hour, aI cy q_p1_sort 8 v_p1_sort, aI cy q_p1_many 8 v_p1_many] none [ob q_t 3 [.ref q_t_place, .ref q_t_hour, .ref q_t_sort, .ref q_t_many, .int out.2.2.2.2], aI cy q_t_place 8 out.1, aI cy q_t_hour 8 out.2.1, aI cy q_t_sort 8 out.2.2.1, aI cy q_t_many 8 out.2.2.2.1, ob q_p1 3 [.ref q_p1_place, .ref q_p1_hour, .ref q_p1_sort, .ref q_p1_many, .int v_p1_size], aI cy q_p1_place 8 v_p1_place, aI cy q_p1_hour 8 v_p1_hour, aI cy q_p1_sort 8 v_p1_sort, aI cy q_p1_many 8 v_p1_many] := by
  refine ct_of (by decide +kernel) (Nat.le_of_ble_eq_true rfl) (fun p e s m args below meth c C hr hlk hnm => ?_)
  unfold sp_Finds_copy at hf
  refine v_aload_n C dX3_copy_0 0 rfl rfl ?_
  refine v_iconst (v := 0) C dX3_copy_1 (by decide) ?_
  refine v_put (ws' := [ob q_t 3 [.ref q_t_place, .ref q_t_hour, .ref q_t_sort, .ref q_t_many, .int 0], aI cy q_t_place 8 v_t_place, aI cy q_t_hour 8 v_t_hour, aI cy q_t_sort 8 v_t_sort, aI cy q_t_many 8 v_t_many, ob q_p1 3 [.ref q_p1_place, .ref q_p1_hour, .ref q_p1_sort, .ref q_p1_many, .int v_p1_size], aI cy q_p1_place 8 v_p1_place, aI cy q_p1_hour 8 v_p1_hour, aI cy q_p1_sort 8 v_p1_sort, aI cy q_p1_many 8 v_p1_many]) C fp_X3_24 0 rfl rfl rfl (Nat.le_of_ble_eq_true rfl) rfl dX3_copy_2 ?_
  refine v_iconst (v := 0) C dX3_copy_5 (by decide) ?_
  refine v_istore_n (lv' := [(2, .int 0), (0, .ref q_t), (1, .ref q_p1)]) C dX3_copy_6 rfl (by decide) rfl ?_
  refine v_lv (lv' := [(0, .ref q_t), (1, .ref q_p1), (2, .int 0)]) [1, 2, 0] rfl ?_
  exact (z_Finds_copy C hr hlk K) _ _ _ _ _ _ hf

abbrev rm_Finds_lastHour : Room := { frames := 1, cells := 0, slots := 0, locals := 13 }
def f_Finds_lastHour (K : Nat) (v_t_hour : Nat → Int32) (v_t_size : Int32) : Nat → Nat → Int32 × Int32 → Option (Int32)
  | 0, _, _ => none
  | n + 1, 0, (x1, x2) =>
    if v_t_size ≤ x2 then
      some x1
    else
      if 8 ≤ x2 then
        some x1
      else
        if inb x2 8 then
          f_Finds_lastHour K v_t_hour v_t_size n 0 (if x1 < (v_t_hour x2.toNatClampNeg) then (v_t_hour x2.toNatClampNeg) else x1, x2 + 1)
        else none
  | _ + 1, _ + 1, _ => none
def sp_Finds_lastHour (K : Nat) (v_t_hour : Nat → Int32) (v_t_size : Int32) : Option (Int32) :=
  f_Finds_lastHour K v_t_hour v_t_size K 0 ((-1), 0)
def Z0_Finds_lastHour (Vf : va_W → Nat → List (Nat × Value) → List Value → Prop) (cy : Nat → ClassId) (K n : Nat) (q_t q_t_place q_t_hour q_t_sort q_t_many : Nat) (v_t_place : Nat → Int32) (v_t_hour : Nat → Int32) (v_t_sort : Nat → Int32) (v_t_many : Nat → Int32) (v_t_size : Int32) (out : Int32) : Prop := ∀ (x1 : Int32) (x2 : Int32), f_Finds_lastHour K v_t_hour v_t_size n 0 (x1, x2) = some out → Vf [ob q_t 3 [.ref q_t_place, .ref q_t_hour, .ref q_t_sort, .ref q_t_many, .int v_t_size], aI cy q_t_place 8 v_t_place, aI cy q_t_hour 8 v_t_hour, aI cy q_t_sort 8 v_t_sort, aI cy q_t_many 8 v_t_many] 4 [(0, .ref q_t), (1, .int x1), (2, .int x2)] []
def Z_Finds_lastHour (Vf : va_W → Nat → List (Nat × Value) → List Value → Prop) (cy : Nat → ClassId) (K n : Nat) (q_t q_t_place q_t_hour q_t_sort q_t_many : Nat) (v_t_place : Nat → Int32) (v_t_hour : Nat → Int32) (v_t_sort : Nat → Int32) (v_t_many : Nat → Int32) (v_t_size : Int32) (out : Int32) : Prop := Z0_Finds_lastHour Vf cy K n q_t q_t_place q_t_hour q_t_sort q_t_many  v_t_place v_t_hour v_t_sort v_t_many v_t_size out
set_option maxHeartbeats 4000000 in
set_option maxRecDepth 20000 in
theorem z0_Finds_lastHour {p : Program} {l : Launch} {e : Env} {s : State} {m : MethodId} {args : Array Value} {below : List Frame} {meth : Method} {c : Code} {D : va_G} {cy : Nat → ClassId} {K : Nat} {q_t q_t_place q_t_hour q_t_sort q_t_many : Nat} {v_t_place : Nat → Int32} {v_t_hour : Nat → Int32} {v_t_sort : Nat → Int32} {v_t_many : Nat → Int32} {v_t_size : Int32} {out : Int32} (C : VC p s m args c cX3_lastHour RX3 3 D cy (va_A [ob q_t 3 [.ref q_t_place, .ref q_t_hour, .ref q_t_sort, .ref q_t_many, .int v_t_size], aI cy q_t_place 8 v_t_place, aI cy q_t_hour 8 v_t_hour, aI cy q_t_sort 8 v_t_sort, aI cy q_t_many 8 v_t_many] s.heap.size)) (hr : meth.sig.returnType = (some .int)) (hlk : meth.locks = false) (n : Nat) (ih : Z_Finds_lastHour (V p l e rm_Finds_lastHour s m args below meth c (EQ below args s rm_Finds_lastHour D [ob q_t 3 [.ref q_t_place, .ref q_t_hour, .ref q_t_sort, .ref q_t_many, .int v_t_size], aI cy q_t_place 8 v_t_place, aI cy q_t_hour 8 v_t_hour, aI cy q_t_sort 8 v_t_sort, aI cy q_t_many 8 v_t_many] (some (.int out)) [ob q_t 3 [.ref q_t_place, .ref q_t_hour, .ref q_t_sort, .ref q_t_many, .int v_t_size], aI cy q_t_place 8 v_t_place, aI cy q_t_hour 8 v_t_hour, aI cy q_t_sort 8 v_t_sort, aI cy q_t_many 8 v_t_many]) 3 D (va_A [ob q_t 3 [.ref q_t_place, .ref q_t_hour, .ref q_t_sort, .ref q_t_many, .int v_t_size], aI cy q_t_place 8 v_t_place, aI cy q_t_hour 8 v_t_hour, aI cy q_t_sort 8 v_t_sort, aI cy q_t_many 8 v_t_many] s.heap.size) 0 0) cy K n q_t q_t_place q_t_hour q_t_sort q_t_many  v_t_place v_t_hour v_t_sort v_t_many v_t_size out) : Z0_Finds_lastHour (V p l e rm_Finds_lastHour s m args below meth c (EQ below args s rm_Finds_lastHour D [ob q_t 3 [.ref q_t_place, .ref q_t_hour, .ref q_t_sort, .ref q_t_many, .int v_t_size], aI cy q_t_place 8 v_t_place, aI cy q_t_hour 8 v_t_hour, aI cy q_t_sort 8 v_t_sort, aI cy q_t_many 8 v_t_many] (some (.int out)) [ob q_t 3 [.ref q_t_place, .ref q_t_hour, .ref q_t_sort, .ref q_t_many, .int v_t_size], aI cy q_t_place 8 v_t_place, aI cy q_t_hour 8 v_t_hour, aI cy q_t_sort 8 v_t_sort, aI cy q_t_many 8 v_t_many]) 3 D (va_A [ob q_t 3 [.ref q_t_place, .ref q_t_hour, .ref q_t_sort, .ref q_t_many, .int v_t_size], aI cy q_t_place 8 v_t_place, aI cy q_t_hour 8 v_t_hour, aI cy q_t_sort 8 v_t_sort, aI cy q_t_many 8 v_t_many] s.heap.size) 0 0) cy K (n + 1) q_t q_t_place q_t_hour q_t_sort q_t_many  v_t_place v_t_hour v_t_sort v_t_many v_t_size out := by
  intro x1 x2 hf
  replace hf := hf
  refine v_iload_n C dX3_lastHour_4 2 rfl rfl ?_
  refine v_aload_n C dX3_lastHour_5 0 rfl rfl ?_
  refine v_get C fl_X3_24 0 rfl rfl dX3_lastHour_6 ?_
  refine v_icmp_ge (tgt := 35) C dX3_lastHour_9 (by decide) (fun c1 => ?_) (fun c1 => ?_)
  · replace hf := (if_pos c1).symm.trans hf
    refine v_iload_n C dX3_lastHour_35 1 rfl rfl ?_
    obtain rfl := Option.some.inj hf
    exact v_iret C hr hlk dX3_lastHour_36 rfl rfl rfl rfl
  · replace hf := (if_neg c1).symm.trans hf
    refine v_iload_n C dX3_lastHour_12 2 rfl rfl ?_
    refine v_bipush (v := 8) C dX3_lastHour_13 (by decide) ?_
    refine v_icmp_ge (tgt := 35) C dX3_lastHour_15 (by decide) (fun c2 => ?_) (fun c2 => ?_)
    · replace hf := (if_pos c2).symm.trans hf
      refine v_iload_n C dX3_lastHour_35 1 rfl rfl ?_
      obtain rfl := Option.some.inj hf
      exact v_iret C hr hlk dX3_lastHour_36 rfl rfl rfl rfl
    · replace hf := (if_neg c2).symm.trans hf
      refine v_iload_n C dX3_lastHour_18 1 rfl rfl ?_
      refine v_aload_n C dX3_lastHour_19 0 rfl rfl ?_
      refine v_get C fl_X3_15 0 rfl rfl dX3_lastHour_20 ?_
      refine v_iload_n C dX3_lastHour_23 2 rfl rfl ?_
      obtain ⟨g3, hf⟩ := gd_ hf
      refine v_iald C 2 rfl g3 dX3_lastHour_24 ?_
      refine v_mmax C mm_X3_36 mg_max ⟨Nat.le_of_ble_eq_true rfl, Nat.le_of_ble_eq_true rfl, Nat.le_of_ble_eq_true rfl, Nat.le_of_ble_eq_true rfl⟩ dX3_lastHour_25 ?_
      refine v_istore_n (lv' := [(1, .int (if x1 < (v_t_hour x2.toNatClampNeg) then (v_t_hour x2.toNatClampNeg) else x1)), (0, .ref q_t), (2, .int x2)]) C dX3_lastHour_28 rfl (by decide) rfl ?_
      refine v_iinc (v := x2 + 1) (lv' := [(2, .int (x2 + 1)), (1, .int (if x1 < (v_t_hour x2.toNatClampNeg) then (v_t_hour x2.toNatClampNeg) else x1)), (0, .ref q_t)]) C dX3_lastHour_29 2 rfl rfl (by decide) rfl ?_
      refine v_goto (tgt := 4) C dX3_lastHour_32 (by decide) ?_
      refine v_lv (lv' := [(0, .ref q_t), (1, .int (if x1 < (v_t_hour x2.toNatClampNeg) then (v_t_hour x2.toNatClampNeg) else x1)), (2, .int (x2 + 1))]) [2, 1, 0] rfl ?_
      exact ih _ _ hf
theorem z_Finds_lastHour {p : Program} {l : Launch} {e : Env} {s : State} {m : MethodId} {args : Array Value} {below : List Frame} {meth : Method} {c : Code} {D : va_G} {cy : Nat → ClassId} {K : Nat} {q_t q_t_place q_t_hour q_t_sort q_t_many : Nat} {v_t_place : Nat → Int32} {v_t_hour : Nat → Int32} {v_t_sort : Nat → Int32} {v_t_many : Nat → Int32} {v_t_size : Int32} {out : Int32} (C : VC p s m args c cX3_lastHour RX3 3 D cy (va_A [ob q_t 3 [.ref q_t_place, .ref q_t_hour, .ref q_t_sort, .ref q_t_many, .int v_t_size], aI cy q_t_place 8 v_t_place, aI cy q_t_hour 8 v_t_hour, aI cy q_t_sort 8 v_t_sort, aI cy q_t_many 8 v_t_many] s.heap.size)) (hr : meth.sig.returnType = (some .int)) (hlk : meth.locks = false) (n : Nat) : Z_Finds_lastHour (V p l e rm_Finds_lastHour s m args below meth c (EQ below args s rm_Finds_lastHour D [ob q_t 3 [.ref q_t_place, .ref q_t_hour, .ref q_t_sort, .ref q_t_many, .int v_t_size], aI cy q_t_place 8 v_t_place, aI cy q_t_hour 8 v_t_hour, aI cy q_t_sort 8 v_t_sort, aI cy q_t_many 8 v_t_many] (some (.int out)) [ob q_t 3 [.ref q_t_place, .ref q_t_hour, .ref q_t_sort, .ref q_t_many, .int v_t_size], aI cy q_t_place 8 v_t_place, aI cy q_t_hour 8 v_t_hour, aI cy q_t_sort 8 v_t_sort, aI cy q_t_many 8 v_t_many]) 3 D (va_A [ob q_t 3 [.ref q_t_place, .ref q_t_hour, .ref q_t_sort, .ref q_t_many, .int v_t_size], aI cy q_t_place 8 v_t_place, aI cy q_t_hour 8 v_t_hour, aI cy q_t_sort 8 v_t_sort, aI cy q_t_many 8 v_t_many] s.heap.size) 0 0) cy K n q_t q_t_place q_t_hour q_t_sort q_t_many  v_t_place v_t_hour v_t_sort v_t_many v_t_size out := by
  induction n with
  | zero => exact fun _ _ h => nomatch h
  | succ n ih => exact z0_Finds_lastHour C hr hlk n ih
set_option maxHeartbeats 4000000 in
set_option maxRecDepth 20000 in
theorem c_Finds_lastHour (l : Launch) (D : va_G) (cy : Nat → ClassId) (K : Nat) (q_t q_t_place q_t_hour q_t_sort q_t_many : Nat) (v_t_place : Nat → Int32) (v_t_hour : Nat → Int32) (v_t_sort : Nat → Int32) (v_t_many : Nat → Int32) (v_t_size : Int32) (out : Int32) (hf : sp_Finds_lastHour K v_t_hour v_t_size = some out) : Ct l yX3_lastHour cX3_lastHour 3 (some .int) rm_Finds_lastHour D cy [.ref q_t] [ob q_t 3 [.ref q_t_place, .ref q_t_hour, .ref q_t_sort, .ref q_t_many, .int v_t_size], aI cy q_t_place 8 v_t_place, aI cy q_t_hour 8 v_t_hour, aI cy q_t_sort 8 v_t_sort, aI cy q_t_many 8 v_t_many] (some (.int out)) [ob q_t 3 [.ref q_t_place, .ref q_t_hour, .ref q_t_sort, .ref q_t_many, .int v_t_size], aI cy q_t_place 8 v_t_place, aI cy q_t_hour 8 v_t_hour, aI cy q_t_sort 8 v_t_sort, aI cy q_t_many 8 v_t_many] := by
  refine ct_of (by decide +kernel) (Nat.le_of_ble_eq_true rfl) (fun p e s m args below meth c C hr hlk hnm => ?_)
  unfold sp_Finds_lastHour at hf
  refine v_iconst (v := (-1)) C dX3_lastHour_0 (by decide) ?_
  refine v_istore_n (lv' := [(1, .int (-1)), (0, .ref q_t)]) C dX3_lastHour_1 rfl (by decide) rfl ?_
  refine v_iconst (v := 0) C dX3_lastHour_2 (by decide) ?_
  refine v_istore_n (lv' := [(2, .int 0), (1, .int (-1)), (0, .ref q_t)]) C dX3_lastHour_3 rfl (by decide) rfl ?_
  refine v_lv (lv' := [(0, .ref q_t), (1, .int (-1)), (2, .int 0)]) [2, 1, 0] rfl ?_
  exact (z_Finds_lastHour C hr hlk K) _ _ hf

abbrev rm_Finds_lookedAt : Room := { frames := 0, cells := 0, slots := 0, locals := 0 }
def f_Finds_lookedAt (K : Nat) (v_t_place : Nat → Int32) (v_t_hour : Nat → Int32) (v_t_sort : Nat → Int32) (v_t_size : Int32) : Nat → Nat → Int32 × Int32 × Int32 × Int32 → Option (Int32)
  | 0, _, _ => none
  | n + 1, 0, (x1, x2, x3, x4) =>
    if v_t_size ≤ x4 then
      some 0
    else
      if 8 ≤ x4 then
        some 0
      else
        if inb x4 8 then
          if (v_t_place x4.toNatClampNeg) = x1 then
            if inb x4 8 then
              if (v_t_hour x4.toNatClampNeg) = x2 then
                if inb x4 8 then
                  if ((x3 >>> ((v_t_sort x4.toNatClampNeg) &&& 31)) &&& 1) = 1 then
                    some 1
                  else
                    f_Finds_lookedAt K v_t_place v_t_hour v_t_sort v_t_size n 1 (x1, x2, x3, x4)
                else none
              else
                f_Finds_lookedAt K v_t_place v_t_hour v_t_sort v_t_size n 1 (x1, x2, x3, x4)
            else none
          else
            f_Finds_lookedAt K v_t_place v_t_hour v_t_sort v_t_size n 1 (x1, x2, x3, x4)
        else none
  | n + 1, 1, (x1, x2, x3, x4) =>
    f_Finds_lookedAt K v_t_place v_t_hour v_t_sort v_t_size n 0 (x1, x2, x3, x4 + 1)
  | _ + 1, _ + 2, _ => none
def sp_Finds_lookedAt (K : Nat) (p1 : Int32) (p2 : Int32) (p3 : Int32) (v_t_place : Nat → Int32) (v_t_hour : Nat → Int32) (v_t_sort : Nat → Int32) (v_t_size : Int32) : Option (Int32) :=
  f_Finds_lookedAt K v_t_place v_t_hour v_t_sort v_t_size K 0 (p1, p2, p3, 0)
def Z0_Finds_lookedAt (Vf : va_W → Nat → List (Nat × Value) → List Value → Prop) (cy : Nat → ClassId) (K n : Nat) (q_t q_t_place q_t_hour q_t_sort q_t_many : Nat) (v_t_place : Nat → Int32) (v_t_hour : Nat → Int32) (v_t_sort : Nat → Int32) (v_t_many : Nat → Int32) (v_t_size : Int32) (out : Int32) : Prop := ∀ (x1 : Int32) (x2 : Int32) (x3 : Int32) (x4 : Int32), f_Finds_lookedAt K v_t_place v_t_hour v_t_sort v_t_size n 0 (x1, x2, x3, x4) = some out → Vf [ob q_t 3 [.ref q_t_place, .ref q_t_hour, .ref q_t_sort, .ref q_t_many, .int v_t_size], aI cy q_t_place 8 v_t_place, aI cy q_t_hour 8 v_t_hour, aI cy q_t_sort 8 v_t_sort, aI cy q_t_many 8 v_t_many] 3 [(0, .ref q_t), (1, .int x1), (2, .int x2), (3, .int x3), (4, .int x4)] []
def Z1_Finds_lookedAt (Vf : va_W → Nat → List (Nat × Value) → List Value → Prop) (cy : Nat → ClassId) (K n : Nat) (q_t q_t_place q_t_hour q_t_sort q_t_many : Nat) (v_t_place : Nat → Int32) (v_t_hour : Nat → Int32) (v_t_sort : Nat → Int32) (v_t_many : Nat → Int32) (v_t_size : Int32) (out : Int32) : Prop := ∀ (x1 : Int32) (x2 : Int32) (x3 : Int32) (x4 : Int32), f_Finds_lookedAt K v_t_place v_t_hour v_t_sort v_t_size n 1 (x1, x2, x3, x4) = some out → Vf [ob q_t 3 [.ref q_t_place, .ref q_t_hour, .ref q_t_sort, .ref q_t_many, .int v_t_size], aI cy q_t_place 8 v_t_place, aI cy q_t_hour 8 v_t_hour, aI cy q_t_sort 8 v_t_sort, aI cy q_t_many 8 v_t_many] 58 [(0, .ref q_t), (1, .int x1), (2, .int x2), (3, .int x3), (4, .int x4)] []
def Z_Finds_lookedAt (Vf : va_W → Nat → List (Nat × Value) → List Value → Prop) (cy : Nat → ClassId) (K n : Nat) (q_t q_t_place q_t_hour q_t_sort q_t_many : Nat) (v_t_place : Nat → Int32) (v_t_hour : Nat → Int32) (v_t_sort : Nat → Int32) (v_t_many : Nat → Int32) (v_t_size : Int32) (out : Int32) : Prop := Z0_Finds_lookedAt Vf cy K n q_t q_t_place q_t_hour q_t_sort q_t_many  v_t_place v_t_hour v_t_sort v_t_many v_t_size out ∧ Z1_Finds_lookedAt Vf cy K n q_t q_t_place q_t_hour q_t_sort q_t_many  v_t_place v_t_hour v_t_sort v_t_many v_t_size out
set_option maxHeartbeats 4000000 in
set_option maxRecDepth 20000 in
theorem z0_Finds_lookedAt {p : Program} {l : Launch} {e : Env} {s : State} {m : MethodId} {args : Array Value} {below : List Frame} {meth : Method} {c : Code} {D : va_G} {cy : Nat → ClassId} {K : Nat} {q_t q_t_place q_t_hour q_t_sort q_t_many : Nat} {v_t_place : Nat → Int32} {v_t_hour : Nat → Int32} {v_t_sort : Nat → Int32} {v_t_many : Nat → Int32} {v_t_size : Int32} {out : Int32} (C : VC p s m args c cX3_lookedAt RX3 5 D cy (va_A [ob q_t 3 [.ref q_t_place, .ref q_t_hour, .ref q_t_sort, .ref q_t_many, .int v_t_size], aI cy q_t_place 8 v_t_place, aI cy q_t_hour 8 v_t_hour, aI cy q_t_sort 8 v_t_sort, aI cy q_t_many 8 v_t_many] s.heap.size)) (hr : meth.sig.returnType = (some .boolean)) (hlk : meth.locks = false) (n : Nat) (ih : Z_Finds_lookedAt (V p l e rm_Finds_lookedAt s m args below meth c (EQ below args s rm_Finds_lookedAt D [ob q_t 3 [.ref q_t_place, .ref q_t_hour, .ref q_t_sort, .ref q_t_many, .int v_t_size], aI cy q_t_place 8 v_t_place, aI cy q_t_hour 8 v_t_hour, aI cy q_t_sort 8 v_t_sort, aI cy q_t_many 8 v_t_many] (some (.int out)) [ob q_t 3 [.ref q_t_place, .ref q_t_hour, .ref q_t_sort, .ref q_t_many, .int v_t_size], aI cy q_t_place 8 v_t_place, aI cy q_t_hour 8 v_t_hour, aI cy q_t_sort 8 v_t_sort, aI cy q_t_many 8 v_t_many]) 5 D (va_A [ob q_t 3 [.ref q_t_place, .ref q_t_hour, .ref q_t_sort, .ref q_t_many, .int v_t_size], aI cy q_t_place 8 v_t_place, aI cy q_t_hour 8 v_t_hour, aI cy q_t_sort 8 v_t_sort, aI cy q_t_many 8 v_t_many] s.heap.size) 0 0) cy K n q_t q_t_place q_t_hour q_t_sort q_t_many  v_t_place v_t_hour v_t_sort v_t_many v_t_size out) : Z0_Finds_lookedAt (V p l e rm_Finds_lookedAt s m args below meth c (EQ below args s rm_Finds_lookedAt D [ob q_t 3 [.ref q_t_place, .ref q_t_hour, .ref q_t_sort, .ref q_t_many, .int v_t_size], aI cy q_t_place 8 v_t_place, aI cy q_t_hour 8 v_t_hour, aI cy q_t_sort 8 v_t_sort, aI cy q_t_many 8 v_t_many] (some (.int out)) [ob q_t 3 [.ref q_t_place, .ref q_t_hour, .ref q_t_sort, .ref q_t_many, .int v_t_size], aI cy q_t_place 8 v_t_place, aI cy q_t_hour 8 v_t_hour, aI cy q_t_sort 8 v_t_sort, aI cy q_t_many 8 v_t_many]) 5 D (va_A [ob q_t 3 [.ref q_t_place, .ref q_t_hour, .ref q_t_sort, .ref q_t_many, .int v_t_size], aI cy q_t_place 8 v_t_place, aI cy q_t_hour 8 v_t_hour, aI cy q_t_sort 8 v_t_sort, aI cy q_t_many 8 v_t_many] s.heap.size) 0 0) cy K (n + 1) q_t q_t_place q_t_hour q_t_sort q_t_many  v_t_place v_t_hour v_t_sort v_t_many v_t_size out := by
  intro x1 x2 x3 x4 hf
  replace hf := hf
  refine v_iload C dX3_lookedAt_3 4 rfl ?_
  refine v_aload_n C dX3_lookedAt_5 0 rfl rfl ?_
  refine v_get C fl_X3_24 0 rfl rfl dX3_lookedAt_6 ?_
  refine v_icmp_ge (tgt := 64) C dX3_lookedAt_9 (by decide) (fun c1 => ?_) (fun c1 => ?_)
  · replace hf := (if_pos c1).symm.trans hf
    refine v_iconst (v := 0) C dX3_lookedAt_64 (by decide) ?_
    obtain rfl := Option.some.inj hf
    exact v_zret C hr hlk rfl dX3_lookedAt_65 rfl rfl rfl rfl
  · replace hf := (if_neg c1).symm.trans hf
    refine v_iload C dX3_lookedAt_12 4 rfl ?_
    refine v_bipush (v := 8) C dX3_lookedAt_14 (by decide) ?_
    refine v_icmp_ge (tgt := 64) C dX3_lookedAt_16 (by decide) (fun c2 => ?_) (fun c2 => ?_)
    · replace hf := (if_pos c2).symm.trans hf
      refine v_iconst (v := 0) C dX3_lookedAt_64 (by decide) ?_
      obtain rfl := Option.some.inj hf
      exact v_zret C hr hlk rfl dX3_lookedAt_65 rfl rfl rfl rfl
    · replace hf := (if_neg c2).symm.trans hf
      refine v_aload_n C dX3_lookedAt_19 0 rfl rfl ?_
      refine v_get C fl_X3_9 0 rfl rfl dX3_lookedAt_20 ?_
      refine v_iload C dX3_lookedAt_23 4 rfl ?_
      obtain ⟨g3, hf⟩ := gd_ hf
      refine v_iald C 1 rfl g3 dX3_lookedAt_25 ?_
      refine v_iload_n C dX3_lookedAt_26 1 rfl rfl ?_
      refine v_icmp_ne (tgt := 58) C dX3_lookedAt_27 (by decide) (fun c4 => ?_) (fun c4 => ?_)
      · replace hf := (if_neg c4).symm.trans hf
        exact ih.2 _ _ _ _ hf
      · replace hf := (if_pos c4).symm.trans hf
        refine v_aload_n C dX3_lookedAt_30 0 rfl rfl ?_
        refine v_get C fl_X3_15 0 rfl rfl dX3_lookedAt_31 ?_
        refine v_iload C dX3_lookedAt_34 4 rfl ?_
        obtain ⟨g5, hf⟩ := gd_ hf
        refine v_iald C 2 rfl g5 dX3_lookedAt_36 ?_
        refine v_iload_n C dX3_lookedAt_37 2 rfl rfl ?_
        refine v_icmp_ne (tgt := 58) C dX3_lookedAt_38 (by decide) (fun c6 => ?_) (fun c6 => ?_)
        · replace hf := (if_neg c6).symm.trans hf
          exact ih.2 _ _ _ _ hf
        · replace hf := (if_pos c6).symm.trans hf
          refine v_iload_n C dX3_lookedAt_41 3 rfl rfl ?_
          refine v_aload_n C dX3_lookedAt_42 0 rfl rfl ?_
          refine v_get C fl_X3_18 0 rfl rfl dX3_lookedAt_43 ?_
          refine v_iload C dX3_lookedAt_46 4 rfl ?_
          obtain ⟨g7, hf⟩ := gd_ hf
          refine v_iald C 3 rfl g7 dX3_lookedAt_48 ?_
          refine v_ishr C dX3_lookedAt_49 ?_
          refine v_iconst (v := 1) C dX3_lookedAt_50 (by decide) ?_
          refine v_iand C dX3_lookedAt_51 ?_
          refine v_iconst (v := 1) C dX3_lookedAt_52 (by decide) ?_
          refine v_icmp_ne (tgt := 58) C dX3_lookedAt_53 (by decide) (fun c8 => ?_) (fun c8 => ?_)
          · replace hf := (if_neg c8).symm.trans hf
            exact ih.2 _ _ _ _ hf
          · replace hf := (if_pos c8).symm.trans hf
            refine v_iconst (v := 1) C dX3_lookedAt_56 (by decide) ?_
            obtain rfl := Option.some.inj hf
            exact v_zret C hr hlk rfl dX3_lookedAt_57 rfl rfl rfl rfl
set_option maxHeartbeats 4000000 in
set_option maxRecDepth 20000 in
theorem z1_Finds_lookedAt {p : Program} {l : Launch} {e : Env} {s : State} {m : MethodId} {args : Array Value} {below : List Frame} {meth : Method} {c : Code} {D : va_G} {cy : Nat → ClassId} {K : Nat} {q_t q_t_place q_t_hour q_t_sort q_t_many : Nat} {v_t_place : Nat → Int32} {v_t_hour : Nat → Int32} {v_t_sort : Nat → Int32} {v_t_many : Nat → Int32} {v_t_size : Int32} {out : Int32} (C : VC p s m args c cX3_lookedAt RX3 5 D cy (va_A [ob q_t 3 [.ref q_t_place, .ref q_t_hour, .ref q_t_sort, .ref q_t_many, .int v_t_size], aI cy q_t_place 8 v_t_place, aI cy q_t_hour 8 v_t_hour, aI cy q_t_sort 8 v_t_sort, aI cy q_t_many 8 v_t_many] s.heap.size)) (hr : meth.sig.returnType = (some .boolean)) (hlk : meth.locks = false) (n : Nat) (ih : Z_Finds_lookedAt (V p l e rm_Finds_lookedAt s m args below meth c (EQ below args s rm_Finds_lookedAt D [ob q_t 3 [.ref q_t_place, .ref q_t_hour, .ref q_t_sort, .ref q_t_many, .int v_t_size], aI cy q_t_place 8 v_t_place, aI cy q_t_hour 8 v_t_hour, aI cy q_t_sort 8 v_t_sort, aI cy q_t_many 8 v_t_many] (some (.int out)) [ob q_t 3 [.ref q_t_place, .ref q_t_hour, .ref q_t_sort, .ref q_t_many, .int v_t_size], aI cy q_t_place 8 v_t_place, aI cy q_t_hour 8 v_t_hour, aI cy q_t_sort 8 v_t_sort, aI cy q_t_many 8 v_t_many]) 5 D (va_A [ob q_t 3 [.ref q_t_place, .ref q_t_hour, .ref q_t_sort, .ref q_t_many, .int v_t_size], aI cy q_t_place 8 v_t_place, aI cy q_t_hour 8 v_t_hour, aI cy q_t_sort 8 v_t_sort, aI cy q_t_many 8 v_t_many] s.heap.size) 0 0) cy K n q_t q_t_place q_t_hour q_t_sort q_t_many  v_t_place v_t_hour v_t_sort v_t_many v_t_size out) : Z1_Finds_lookedAt (V p l e rm_Finds_lookedAt s m args below meth c (EQ below args s rm_Finds_lookedAt D [ob q_t 3 [.ref q_t_place, .ref q_t_hour, .ref q_t_sort, .ref q_t_many, .int v_t_size], aI cy q_t_place 8 v_t_place, aI cy q_t_hour 8 v_t_hour, aI cy q_t_sort 8 v_t_sort, aI cy q_t_many 8 v_t_many] (some (.int out)) [ob q_t 3 [.ref q_t_place, .ref q_t_hour, .ref q_t_sort, .ref q_t_many, .int v_t_size], aI cy q_t_place 8 v_t_place, aI cy q_t_hour 8 v_t_hour, aI cy q_t_sort 8 v_t_sort, aI cy q_t_many 8 v_t_many]) 5 D (va_A [ob q_t 3 [.ref q_t_place, .ref q_t_hour, .ref q_t_sort, .ref q_t_many, .int v_t_size], aI cy q_t_place 8 v_t_place, aI cy q_t_hour 8 v_t_hour, aI cy q_t_sort 8 v_t_sort, aI cy q_t_many 8 v_t_many] s.heap.size) 0 0) cy K (n + 1) q_t q_t_place q_t_hour q_t_sort q_t_many  v_t_place v_t_hour v_t_sort v_t_many v_t_size out := by
  intro x1 x2 x3 x4 hf
  replace hf := hf
  refine v_iinc (v := x4 + 1) (lv' := [(4, .int (x4 + 1)), (0, .ref q_t), (1, .int x1), (2, .int x2), (3, .int x3)]) C dX3_lookedAt_58 4 rfl rfl (by decide) rfl ?_
  refine v_goto (tgt := 3) C dX3_lookedAt_61 (by decide) ?_
  refine v_lv (lv' := [(0, .ref q_t), (1, .int x1), (2, .int x2), (3, .int x3), (4, .int (x4 + 1))]) [1, 2, 3, 4, 0] rfl ?_
  exact ih.1 _ _ _ _ hf
theorem z_Finds_lookedAt {p : Program} {l : Launch} {e : Env} {s : State} {m : MethodId} {args : Array Value} {below : List Frame} {meth : Method} {c : Code} {D : va_G} {cy : Nat → ClassId} {K : Nat} {q_t q_t_place q_t_hour q_t_sort q_t_many : Nat} {v_t_place : Nat → Int32} {v_t_hour : Nat → Int32} {v_t_sort : Nat → Int32} {v_t_many : Nat → Int32} {v_t_size : Int32} {out : Int32} (C : VC p s m args c cX3_lookedAt RX3 5 D cy (va_A [ob q_t 3 [.ref q_t_place, .ref q_t_hour, .ref q_t_sort, .ref q_t_many, .int v_t_size], aI cy q_t_place 8 v_t_place, aI cy q_t_hour 8 v_t_hour, aI cy q_t_sort 8 v_t_sort, aI cy q_t_many 8 v_t_many] s.heap.size)) (hr : meth.sig.returnType = (some .boolean)) (hlk : meth.locks = false) (n : Nat) : Z_Finds_lookedAt (V p l e rm_Finds_lookedAt s m args below meth c (EQ below args s rm_Finds_lookedAt D [ob q_t 3 [.ref q_t_place, .ref q_t_hour, .ref q_t_sort, .ref q_t_many, .int v_t_size], aI cy q_t_place 8 v_t_place, aI cy q_t_hour 8 v_t_hour, aI cy q_t_sort 8 v_t_sort, aI cy q_t_many 8 v_t_many] (some (.int out)) [ob q_t 3 [.ref q_t_place, .ref q_t_hour, .ref q_t_sort, .ref q_t_many, .int v_t_size], aI cy q_t_place 8 v_t_place, aI cy q_t_hour 8 v_t_hour, aI cy q_t_sort 8 v_t_sort, aI cy q_t_many 8 v_t_many]) 5 D (va_A [ob q_t 3 [.ref q_t_place, .ref q_t_hour, .ref q_t_sort, .ref q_t_many, .int v_t_size], aI cy q_t_place 8 v_t_place, aI cy q_t_hour 8 v_t_hour, aI cy q_t_sort 8 v_t_sort, aI cy q_t_many 8 v_t_many] s.heap.size) 0 0) cy K n q_t q_t_place q_t_hour q_t_sort q_t_many  v_t_place v_t_hour v_t_sort v_t_many v_t_size out := by
  induction n with
  | zero => exact ⟨(fun _ _ _ _ h => nomatch h), (fun _ _ _ _ h => nomatch h)⟩
  | succ n ih => exact ⟨z0_Finds_lookedAt C hr hlk n ih, z1_Finds_lookedAt C hr hlk n ih⟩
set_option maxHeartbeats 4000000 in
set_option maxRecDepth 20000 in
theorem c_Finds_lookedAt (l : Launch) (D : va_G) (cy : Nat → ClassId) (K : Nat) (q_t q_t_place q_t_hour q_t_sort q_t_many : Nat) (p1 : Int32) (p2 : Int32) (p3 : Int32) (v_t_place : Nat → Int32) (v_t_hour : Nat → Int32) (v_t_sort : Nat → Int32) (v_t_many : Nat → Int32) (v_t_size : Int32) (out : Int32) (hf : sp_Finds_lookedAt K p1 p2 p3 v_t_place v_t_hour v_t_sort v_t_size = some out) : Ct l yX3_lookedAt cX3_lookedAt 5 (some .boolean) rm_Finds_lookedAt D cy [.ref q_t, .int p1, .int p2, .int p3] [ob q_t 3 [.ref q_t_place, .ref q_t_hour, .ref q_t_sort, .ref q_t_many, .int v_t_size], aI cy q_t_place 8 v_t_place, aI cy q_t_hour 8 v_t_hour, aI cy q_t_sort 8 v_t_sort, aI cy q_t_many 8 v_t_many] (some (.int out)) [ob q_t 3 [.ref q_t_place, .ref q_t_hour, .ref q_t_sort, .ref q_t_many, .int v_t_size], aI cy q_t_place 8 v_t_place, aI cy q_t_hour 8 v_t_hour, aI cy q_t_sort 8 v_t_sort, aI cy q_t_many 8 v_t_many] := by
  refine ct_of (by decide +kernel) (Nat.le_of_ble_eq_true rfl) (fun p e s m args below meth c C hr hlk hnm => ?_)
  unfold sp_Finds_lookedAt at hf
  refine v_iconst (v := 0) C dX3_lookedAt_0 (by decide) ?_
  refine v_istore (lv' := [(4, .int 0), (0, .ref q_t), (1, .int p1), (2, .int p2), (3, .int p3)]) C dX3_lookedAt_1 (by decide) rfl ?_
  refine v_lv (lv' := [(0, .ref q_t), (1, .int p1), (2, .int p2), (3, .int p3), (4, .int 0)]) [1, 2, 3, 4, 0] rfl ?_
  exact (z_Finds_lookedAt C hr hlk K).1 _ _ _ _ hf

abbrev rm_Shops_add : Room := { frames := 1, cells := 0, slots := 0, locals := 21 }
def sp_Shops_add (K : Nat) (p1 : Int32) (p2 : Int32) (p3 : Int32) (v_t_sort : Nat → Int32) (v_t_sold : Nat → Int32) (v_t_all : Nat → Int32) (v_t_size : Int32) : Option (Int32 × (Nat → Int32) × (Nat → Int32) × (Nat → Int32) × Int32) :=
  (sp_within K v_t_size 12).bind fun o6 =>
    if o6 = 0 then
      some ((-1), v_t_sort, v_t_sold, v_t_all, v_t_size)
    else
      if inb v_t_size 12 then
        if inb v_t_size 12 then
          if inb v_t_size 12 then
            some (v_t_size + 1, upd v_t_sort v_t_size.toNatClampNeg p1, upd v_t_sold v_t_size.toNatClampNeg p2, upd v_t_all v_t_size.toNatClampNeg p3, v_t_size + 1)
          else none
        else none
      else none
set_option maxHeartbeats 4000000 in
set_option maxRecDepth 20000 in
theorem c_Shops_add (l : Launch) (D : va_G) (cy : Nat → ClassId) (K : Nat) (q_t q_t_sort q_t_sold q_t_all : Nat) (p1 : Int32) (p2 : Int32) (p3 : Int32) (v_t_sort : Nat → Int32) (v_t_sold : Nat → Int32) (v_t_all : Nat → Int32) (v_t_size : Int32) (out : Int32 × (Nat → Int32) × (Nat → Int32) × (Nat → Int32) × Int32) (hf : sp_Shops_add K p1 p2 p3 v_t_sort v_t_sold v_t_all v_t_size = some out) : Ct l yX8_add cX8_add 4 (some .int) rm_Shops_add D cy [.ref q_t, .int p1, .int p2, .int p3] [ob q_t 8 [.ref q_t_sort, .ref q_t_sold, .ref q_t_all, .int v_t_size], aI cy q_t_sort 12 v_t_sort, aI cy q_t_sold 12 v_t_sold, aI cy q_t_all 12 v_t_all] (some (.int out.1)) [ob q_t 8 [.ref q_t_sort, .ref q_t_sold, .ref q_t_all, .int out.2.2.2.2], aI cy q_t_sort 12 out.2.1, aI cy q_t_sold 12 out.2.2.1, aI cy q_t_all 12 out.2.2.2.1] := by
  refine ct_of (by decide +kernel) (Nat.le_of_ble_eq_true rfl) (fun p e s m args below meth c C hr hlk hnm => ?_)
  unfold sp_Shops_add at hf
  refine v_aload_n C dX8_add_0 0 rfl rfl ?_
  refine v_get C fl_X8_21 0 rfl rfl dX8_add_1 ?_
  refine v_bipush (v := 12) C dX8_add_4 (by decide) ?_
  obtain ⟨o6, g1, hf⟩ := bd_ hf
  refine v_callN0 (As := [.int v_t_size, .int 12]) (st := []) (stk' := [.int o6]) C (c_within l D cy K   v_t_size 12 o6 g1) ln_X8_25 rfl (by decide) rfl dX8_add_6 (Nat.le_of_ble_eq_true rfl) rfl ?_
  refine v_if_ne (tgt := 14) C dX8_add_9 (by decide) (fun c2 => ?_) (fun c2 => ?_)
  · replace hf := (if_neg c2).symm.trans hf
    refine v_aload_n C dX8_add_14 0 rfl rfl ?_
    refine v_get C fl_X8_9 0 rfl rfl dX8_add_15 ?_
    refine v_aload_n C dX8_add_18 0 rfl rfl ?_
    refine v_get C fl_X8_21 0 rfl rfl dX8_add_19 ?_
    refine v_iload_n C dX8_add_22 1 rfl rfl ?_
    obtain ⟨g3, hf⟩ := gd_ hf
    refine v_iast (ws' := [ob q_t 8 [.ref q_t_sort, .ref q_t_sold, .ref q_t_all, .int v_t_size], aI cy q_t_sort 12 (upd v_t_sort v_t_size.toNatClampNeg p1), aI cy q_t_sold 12 v_t_sold, aI cy q_t_all 12 v_t_all]) C 1 rfl g3 rfl dX8_add_23 ?_
    refine v_aload_n C dX8_add_24 0 rfl rfl ?_
    refine v_get C fl_X8_15 0 rfl rfl dX8_add_25 ?_
    refine v_aload_n C dX8_add_28 0 rfl rfl ?_
    refine v_get C fl_X8_21 0 rfl rfl dX8_add_29 ?_
    refine v_iload_n C dX8_add_32 2 rfl rfl ?_
    obtain ⟨g4, hf⟩ := gd_ hf
    refine v_iast (ws' := [ob q_t 8 [.ref q_t_sort, .ref q_t_sold, .ref q_t_all, .int v_t_size], aI cy q_t_sort 12 (upd v_t_sort v_t_size.toNatClampNeg p1), aI cy q_t_sold 12 (upd v_t_sold v_t_size.toNatClampNeg p2), aI cy q_t_all 12 v_t_all]) C 2 rfl g4 rfl dX8_add_33 ?_
    refine v_aload_n C dX8_add_34 0 rfl rfl ?_
    refine v_get C fl_X8_18 0 rfl rfl dX8_add_35 ?_
    refine v_aload_n C dX8_add_38 0 rfl rfl ?_
    refine v_get C fl_X8_21 0 rfl rfl dX8_add_39 ?_
    refine v_iload_n C dX8_add_42 3 rfl rfl ?_
    obtain ⟨g5, hf⟩ := gd_ hf
    refine v_iast (ws' := [ob q_t 8 [.ref q_t_sort, .ref q_t_sold, .ref q_t_all, .int v_t_size], aI cy q_t_sort 12 (upd v_t_sort v_t_size.toNatClampNeg p1), aI cy q_t_sold 12 (upd v_t_sold v_t_size.toNatClampNeg p2), aI cy q_t_all 12 (upd v_t_all v_t_size.toNatClampNeg p3)]) C 3 rfl g5 rfl dX8_add_43 ?_
    refine v_aload_n C dX8_add_44 0 rfl rfl ?_
    refine v_dup C dX8_add_45 rfl ?_
    refine v_get C fl_X8_21 0 rfl rfl dX8_add_46 ?_
    refine v_iconst (v := 1) C dX8_add_49 (by decide) ?_
    refine v_iadd C dX8_add_50 ?_
    refine v_put (ws' := [ob q_t 8 [.ref q_t_sort, .ref q_t_sold, .ref q_t_all, .int (v_t_size + 1)], aI cy q_t_sort 12 (upd v_t_sort v_t_size.toNatClampNeg p1), aI cy q_t_sold 12 (upd v_t_sold v_t_size.toNatClampNeg p2), aI cy q_t_all 12 (upd v_t_all v_t_size.toNatClampNeg p3)]) C fp_X8_21 0 rfl rfl rfl (Nat.le_of_ble_eq_true rfl) rfl dX8_add_51 ?_
    refine v_aload_n C dX8_add_54 0 rfl rfl ?_
    refine v_get C fl_X8_21 0 rfl rfl dX8_add_55 ?_
    obtain rfl := Option.some.inj hf
    exact v_iret C hr hlk dX8_add_58 rfl rfl rfl rfl
  · replace hf := (if_pos c2).symm.trans hf
    refine v_iconst (v := (-1)) C dX8_add_12 (by decide) ?_
    obtain rfl := Option.some.inj hf
    exact v_iret C hr hlk dX8_add_13 rfl rfl rfl rfl

abbrev rm_Shops_copy : Room := { frames := 2, cells := 0, slots := 0, locals := 44 }
def f_Shops_copy (K : Nat) (v_p1_sort : Nat → Int32) (v_p1_sold : Nat → Int32) (v_p1_all : Nat → Int32) (v_p1_size : Int32) : Nat → Nat → Int32 × (Nat → Int32) × (Nat → Int32) × (Nat → Int32) × Int32 → Option ((Nat → Int32) × (Nat → Int32) × (Nat → Int32) × Int32)
  | 0, _, _ => none
  | n + 1, 0, (x2, v_t_sort, v_t_sold, v_t_all, v_t_size) =>
    if v_p1_size ≤ x2 then
      some (v_t_sort, v_t_sold, v_t_all, v_t_size)
    else
      if 12 ≤ x2 then
        some (v_t_sort, v_t_sold, v_t_all, v_t_size)
      else
        if inb x2 12 then
          if inb x2 12 then
            if inb x2 12 then
              (sp_Shops_add K (v_p1_sort x2.toNatClampNeg) (v_p1_sold x2.toNatClampNeg) (v_p1_all x2.toNatClampNeg) v_t_sort v_t_sold v_t_all v_t_size).bind fun o40 =>
                f_Shops_copy K v_p1_sort v_p1_sold v_p1_all v_p1_size n 0 (x2 + 1, o40.2.1, o40.2.2.1, o40.2.2.2.1, o40.2.2.2.2)
            else none
          else none
        else none
  | _ + 1, _ + 1, _ => none
def sp_Shops_copy (K : Nat) (v_t_sort : Nat → Int32) (v_t_sold : Nat → Int32) (v_t_all : Nat → Int32) (v_t_size : Int32) (v_p1_sort : Nat → Int32) (v_p1_sold : Nat → Int32) (v_p1_all : Nat → Int32) (v_p1_size : Int32) : Option ((Nat → Int32) × (Nat → Int32) × (Nat → Int32) × Int32) :=
  f_Shops_copy K v_p1_sort v_p1_sold v_p1_all v_p1_size K 0 (0, v_t_sort, v_t_sold, v_t_all, 0)
def Z0_Shops_copy (Vf : va_W → Nat → List (Nat × Value) → List Value → Prop) (cy : Nat → ClassId) (K n : Nat) (q_t q_t_sort q_t_sold q_t_all q_p1 q_p1_sort q_p1_sold q_p1_all : Nat) (v_p1_sort : Nat → Int32) (v_p1_sold : Nat → Int32) (v_p1_all : Nat → Int32) (v_p1_size : Int32) (out : (Nat → Int32) × (Nat → Int32) × (Nat → Int32) × Int32) : Prop := ∀ (x2 : Int32) (v_t_sort : Nat → Int32) (v_t_sold : Nat → Int32) (v_t_all : Nat → Int32) (v_t_size : Int32), f_Shops_copy K v_p1_sort v_p1_sold v_p1_all v_p1_size n 0 (x2, v_t_sort, v_t_sold, v_t_all, v_t_size) = some out → Vf [ob q_t 8 [.ref q_t_sort, .ref q_t_sold, .ref q_t_all, .int v_t_size], aI cy q_t_sort 12 v_t_sort, aI cy q_t_sold 12 v_t_sold, aI cy q_t_all 12 v_t_all, ob q_p1 8 [.ref q_p1_sort, .ref q_p1_sold, .ref q_p1_all, .int v_p1_size], aI cy q_p1_sort 12 v_p1_sort, aI cy q_p1_sold 12 v_p1_sold, aI cy q_p1_all 12 v_p1_all] 7 [(0, .ref q_t), (1, .ref q_p1), (2, .int x2)] []
def Z_Shops_copy (Vf : va_W → Nat → List (Nat × Value) → List Value → Prop) (cy : Nat → ClassId) (K n : Nat) (q_t q_t_sort q_t_sold q_t_all q_p1 q_p1_sort q_p1_sold q_p1_all : Nat) (v_p1_sort : Nat → Int32) (v_p1_sold : Nat → Int32) (v_p1_all : Nat → Int32) (v_p1_size : Int32) (out : (Nat → Int32) × (Nat → Int32) × (Nat → Int32) × Int32) : Prop := Z0_Shops_copy Vf cy K n q_t q_t_sort q_t_sold q_t_all q_p1 q_p1_sort q_p1_sold q_p1_all  v_p1_sort v_p1_sold v_p1_all v_p1_size out
set_option maxHeartbeats 4000000 in
set_option maxRecDepth 20000 in
theorem z0_Shops_copy {p : Program} {l : Launch} {e : Env} {s : State} {m : MethodId} {args : Array Value} {below : List Frame} {meth : Method} {c : Code} {D : va_G} {cy : Nat → ClassId} {K : Nat} {q_t q_t_sort q_t_sold q_t_all q_p1 q_p1_sort q_p1_sold q_p1_all : Nat} {v_p1_sort : Nat → Int32} {v_p1_sold : Nat → Int32} {v_p1_all : Nat → Int32} {v_p1_size : Int32} {v_t_sort' : Nat → Int32} {v_t_sold' : Nat → Int32} {v_t_all' : Nat → Int32} {v_t_size' : Int32} {out : (Nat → Int32) × (Nat → Int32) × (Nat → Int32) × Int32} (C : VC p s m args c cX8_copy RX8 3 D cy (va_A [ob q_t 8 [.ref q_t_sort, .ref q_t_sold, .ref q_t_all, .int v_t_size'], aI cy q_t_sort 12 v_t_sort', aI cy q_t_sold 12 v_t_sold', aI cy q_t_all 12 v_t_all', ob q_p1 8 [.ref q_p1_sort, .ref q_p1_sold, .ref q_p1_all, .int v_p1_size], aI cy q_p1_sort 12 v_p1_sort, aI cy q_p1_sold 12 v_p1_sold, aI cy q_p1_all 12 v_p1_all] s.heap.size)) (hr : meth.sig.returnType = none) (hlk : meth.locks = false) (n : Nat) (ih : Z_Shops_copy (V p l e rm_Shops_copy s m args below meth c (EQ below args s rm_Shops_copy D [ob q_t 8 [.ref q_t_sort, .ref q_t_sold, .ref q_t_all, .int v_t_size'], aI cy q_t_sort 12 v_t_sort', aI cy q_t_sold 12 v_t_sold', aI cy q_t_all 12 v_t_all', ob q_p1 8 [.ref q_p1_sort, .ref q_p1_sold, .ref q_p1_all, .int v_p1_size], aI cy q_p1_sort 12 v_p1_sort, aI cy q_p1_sold 12 v_p1_sold, aI cy q_p1_all 12 v_p1_all] none [ob q_t 8 [.ref q_t_sort, .ref q_t_sold, .ref q_t_all, .int out.2.2.2], aI cy q_t_sort 12 out.1, aI cy q_t_sold 12 out.2.1, aI cy q_t_all 12 out.2.2.1, ob q_p1 8 [.ref q_p1_sort, .ref q_p1_sold, .ref q_p1_all, .int v_p1_size], aI cy q_p1_sort 12 v_p1_sort, aI cy q_p1_sold 12 v_p1_sold, aI cy q_p1_all 12 v_p1_all]) 3 D (va_A [ob q_t 8 [.ref q_t_sort, .ref q_t_sold, .ref q_t_all, .int v_t_size'], aI cy q_t_sort 12 v_t_sort', aI cy q_t_sold 12 v_t_sold', aI cy q_t_all 12 v_t_all', ob q_p1 8 [.ref q_p1_sort, .ref q_p1_sold, .ref q_p1_all, .int v_p1_size], aI cy q_p1_sort 12 v_p1_sort, aI cy q_p1_sold 12 v_p1_sold, aI cy q_p1_all 12 v_p1_all] s.heap.size) 0 0) cy K n q_t q_t_sort q_t_sold q_t_all q_p1 q_p1_sort q_p1_sold q_p1_all  v_p1_sort v_p1_sold v_p1_all v_p1_size out) : Z0_Shops_copy (V p l e rm_Shops_copy s m args below meth c (EQ below args s rm_Shops_copy D [ob q_t 8 [.ref q_t_sort, .ref q_t_sold, .ref q_t_all, .int v_t_size'], aI cy q_t_sort 12 v_t_sort', aI cy q_t_sold 12 v_t_sold', aI cy q_t_all 12 v_t_all', ob q_p1 8 [.ref q_p1_sort, .ref q_p1_sold, .ref q_p1_all, .int v_p1_size], aI cy q_p1_sort 12 v_p1_sort, aI cy q_p1_sold 12 v_p1_sold, aI cy q_p1_all 12 v_p1_all] none [ob q_t 8 [.ref q_t_sort, .ref q_t_sold, .ref q_t_all, .int out.2.2.2], aI cy q_t_sort 12 out.1, aI cy q_t_sold 12 out.2.1, aI cy q_t_all 12 out.2.2.1, ob q_p1 8 [.ref q_p1_sort, .ref q_p1_sold, .ref q_p1_all, .int v_p1_size], aI cy q_p1_sort 12 v_p1_sort, aI cy q_p1_sold 12 v_p1_sold, aI cy q_p1_all 12 v_p1_all]) 3 D (va_A [ob q_t 8 [.ref q_t_sort, .ref q_t_sold, .ref q_t_all, .int v_t_size'], aI cy q_t_sort 12 v_t_sort', aI cy q_t_sold 12 v_t_sold', aI cy q_t_all 12 v_t_all', ob q_p1 8 [.ref q_p1_sort, .ref q_p1_sold, .ref q_p1_all, .int v_p1_size], aI cy q_p1_sort 12 v_p1_sort, aI cy q_p1_sold 12 v_p1_sold, aI cy q_p1_all 12 v_p1_all] s.heap.size) 0 0) cy K (n + 1) q_t q_t_sort q_t_sold q_t_all q_p1 q_p1_sort q_p1_sold q_p1_all  v_p1_sort v_p1_sold v_p1_all v_p1_size out := by
  intro x2 v_t_sort v_t_sold v_t_all v_t_size hf
  replace hf := hf
  refine v_iload_n C dX8_copy_7 2 rfl rfl ?_
  refine v_aload_n C dX8_copy_8 1 rfl rfl ?_
  refine v_get C fl_X8_21 4 rfl rfl dX8_copy_9 ?_
  refine v_icmp_ge (tgt := 50) C dX8_copy_12 (by decide) (fun c1 => ?_) (fun c1 => ?_)
  · replace hf := (if_pos c1).symm.trans hf
    obtain rfl := Option.some.inj hf
    exact v_vret C hr hlk dX8_copy_50 rfl rfl rfl rfl
  · replace hf := (if_neg c1).symm.trans hf
    refine v_iload_n C dX8_copy_15 2 rfl rfl ?_
    refine v_bipush (v := 12) C dX8_copy_16 (by decide) ?_
    refine v_icmp_ge (tgt := 50) C dX8_copy_18 (by decide) (fun c2 => ?_) (fun c2 => ?_)
    · replace hf := (if_pos c2).symm.trans hf
      obtain rfl := Option.some.inj hf
      exact v_vret C hr hlk dX8_copy_50 rfl rfl rfl rfl
    · replace hf := (if_neg c2).symm.trans hf
      refine v_aload_n C dX8_copy_21 0 rfl rfl ?_
      refine v_aload_n C dX8_copy_22 1 rfl rfl ?_
      refine v_get C fl_X8_9 4 rfl rfl dX8_copy_23 ?_
      refine v_iload_n C dX8_copy_26 2 rfl rfl ?_
      obtain ⟨g3, hf⟩ := gd_ hf
      refine v_iald C 5 rfl g3 dX8_copy_27 ?_
      refine v_aload_n C dX8_copy_28 1 rfl rfl ?_
      refine v_get C fl_X8_15 4 rfl rfl dX8_copy_29 ?_
      refine v_iload_n C dX8_copy_32 2 rfl rfl ?_
      obtain ⟨g4, hf⟩ := gd_ hf
      refine v_iald C 6 rfl g4 dX8_copy_33 ?_
      refine v_aload_n C dX8_copy_34 1 rfl rfl ?_
      refine v_get C fl_X8_18 4 rfl rfl dX8_copy_35 ?_
      refine v_iload_n C dX8_copy_38 2 rfl rfl ?_
      obtain ⟨g5, hf⟩ := gd_ hf
      refine v_iald C 7 rfl g5 dX8_copy_39 ?_
      obtain ⟨o40, g6, hf⟩ := bd_ hf
      refine v_callV (As := [.int (v_p1_sort x2.toNatClampNeg), .int (v_p1_sold x2.toNatClampNeg), .int (v_p1_all x2.toNatClampNeg)]) (wr := [ob q_p1 8 [.ref q_p1_sort, .ref q_p1_sold, .ref q_p1_all, .int v_p1_size], aI cy q_p1_sort 12 v_p1_sort, aI cy q_p1_sold 12 v_p1_sold, aI cy q_p1_all 12 v_p1_all]) (ws' := [ob q_p1 8 [.ref q_p1_sort, .ref q_p1_sold, .ref q_p1_all, .int v_p1_size], aI cy q_p1_sort 12 v_p1_sort, aI cy q_p1_sold 12 v_p1_sold, aI cy q_p1_all 12 v_p1_all, ob q_t 8 [.ref q_t_sort, .ref q_t_sold, .ref q_t_all, .int o40.2.2.2.2], aI cy q_t_sort 12 o40.2.1, aI cy q_t_sold 12 o40.2.2.1, aI cy q_t_all 12 o40.2.2.2.1]) (st := []) (stk' := [.int o40.1]) C (c_Shops_add l D cy K q_t q_t_sort q_t_sold q_t_all  (v_p1_sort x2.toNatClampNeg) (v_p1_sold x2.toNatClampNeg) (v_p1_all x2.toNatClampNeg) v_t_sort v_t_sold v_t_all v_t_size o40 g6) lv_X8_29 rfl (by decide) rfl 0 rfl rfl rfl dX8_copy_40 [0, 1, 2, 3] [4, 5, 6, 7] (by decide) rfl rfl (by decide) (by decide) (Nat.le_of_ble_eq_true rfl) rfl rfl ?_
      refine v_pop C dX8_copy_43 rfl ?_
      refine v_iinc (v := x2 + 1) (lv' := [(2, .int (x2 + 1)), (0, .ref q_t), (1, .ref q_p1)]) C dX8_copy_44 2 rfl rfl (by decide) rfl ?_
      refine v_goto (tgt := 7) C dX8_copy_47 (by decide) ?_
      refine v_lv (lv' := [(0, .ref q_t), (1, .ref q_p1), (2, .int (x2 + 1))]) [1, 2, 0] rfl ?_
      refine v_ws (ws' := [ob q_t 8 [.ref q_t_sort, .ref q_t_sold, .ref q_t_all, .int o40.2.2.2.2], aI cy q_t_sort 12 o40.2.1, aI cy q_t_sold 12 o40.2.2.1, aI cy q_t_all 12 o40.2.2.2.1, ob q_p1 8 [.ref q_p1_sort, .ref q_p1_sold, .ref q_p1_all, .int v_p1_size], aI cy q_p1_sort 12 v_p1_sort, aI cy q_p1_sold 12 v_p1_sold, aI cy q_p1_all 12 v_p1_all]) [4, 5, 6, 7, 0, 1, 2, 3] (by decide) rfl ?_
      exact ih _ _ _ _ _ hf
theorem z_Shops_copy {p : Program} {l : Launch} {e : Env} {s : State} {m : MethodId} {args : Array Value} {below : List Frame} {meth : Method} {c : Code} {D : va_G} {cy : Nat → ClassId} {K : Nat} {q_t q_t_sort q_t_sold q_t_all q_p1 q_p1_sort q_p1_sold q_p1_all : Nat} {v_p1_sort : Nat → Int32} {v_p1_sold : Nat → Int32} {v_p1_all : Nat → Int32} {v_p1_size : Int32} {v_t_sort' : Nat → Int32} {v_t_sold' : Nat → Int32} {v_t_all' : Nat → Int32} {v_t_size' : Int32} {out : (Nat → Int32) × (Nat → Int32) × (Nat → Int32) × Int32} (C : VC p s m args c cX8_copy RX8 3 D cy (va_A [ob q_t 8 [.ref q_t_sort, .ref q_t_sold, .ref q_t_all, .int v_t_size'], aI cy q_t_sort 12 v_t_sort', aI cy q_t_sold 12 v_t_sold', aI cy q_t_all 12 v_t_all', ob q_p1 8 [.ref q_p1_sort, .ref q_p1_sold, .ref q_p1_all, .int v_p1_size], aI cy q_p1_sort 12 v_p1_sort, aI cy q_p1_sold 12 v_p1_sold, aI cy q_p1_all 12 v_p1_all] s.heap.size)) (hr : meth.sig.returnType = none) (hlk : meth.locks = false) (n : Nat) : Z_Shops_copy (V p l e rm_Shops_copy s m args below meth c (EQ below args s rm_Shops_copy D [ob q_t 8 [.ref q_t_sort, .ref q_t_sold, .ref q_t_all, .int v_t_size'], aI cy q_t_sort 12 v_t_sort', aI cy q_t_sold 12 v_t_sold', aI cy q_t_all 12 v_t_all', ob q_p1 8 [.ref q_p1_sort, .ref q_p1_sold, .ref q_p1_all, .int v_p1_size], aI cy q_p1_sort 12 v_p1_sort, aI cy q_p1_sold 12 v_p1_sold, aI cy q_p1_all 12 v_p1_all] none [ob q_t 8 [.ref q_t_sort, .ref q_t_sold, .ref q_t_all, .int out.2.2.2], aI cy q_t_sort 12 out.1, aI cy q_t_sold 12 out.2.1, aI cy q_t_all 12 out.2.2.1, ob q_p1 8 [.ref q_p1_sort, .ref q_p1_sold, .ref q_p1_all, .int v_p1_size], aI cy q_p1_sort 12 v_p1_sort, aI cy q_p1_sold 12 v_p1_sold, aI cy q_p1_all 12 v_p1_all]) 3 D (va_A [ob q_t 8 [.ref q_t_sort, .ref q_t_sold, .ref q_t_all, .int v_t_size'], aI cy q_t_sort 12 v_t_sort', aI cy q_t_sold 12 v_t_sold', aI cy q_t_all 12 v_t_all', ob q_p1 8 [.ref q_p1_sort, .ref q_p1_sold, .ref q_p1_all, .int v_p1_size], aI cy q_p1_sort 12 v_p1_sort, aI cy q_p1_sold 12 v_p1_sold, aI cy q_p1_all 12 v_p1_all] s.heap.size) 0 0) cy K n q_t q_t_sort q_t_sold q_t_all q_p1 q_p1_sort q_p1_sold q_p1_all  v_p1_sort v_p1_sold v_p1_all v_p1_size out := by
  induction n with
  | zero => exact fun _ _ _ _ _ h => nomatch h
  | succ n ih => exact z0_Shops_copy C hr hlk n ih
set_option maxHeartbeats 4000000 in
set_option maxRecDepth 20000 in
theorem c_Shops_copy (l : Launch) (D : va_G) (cy : Nat → ClassId) (K : Nat) (q_t q_t_sort q_t_sold q_t_all q_p1 q_p1_sort q_p1_sold q_p1_all : Nat) (v_t_sort : Nat → Int32) (v_t_sold : Nat → Int32) (v_t_all : Nat → Int32) (v_t_size : Int32) (v_p1_sort : Nat → Int32) (v_p1_sold : Nat → Int32) (v_p1_all : Nat → Int32) (v_p1_size : Int32) (out : (Nat → Int32) × (Nat → Int32) × (Nat → Int32) × Int32) (hf : sp_Shops_copy K v_t_sort v_t_sold v_t_all v_t_size v_p1_sort v_p1_sold v_p1_all v_p1_size = some out) : Ct l yX8_copy cX8_copy 3 none rm_Shops_copy D cy [.ref q_t, .ref q_p1] [ob q_t 8 [.ref q_t_sort, .ref q_t_sold, .ref q_t_all, .int v_t_size], aI cy q_t_sort 12 v_t_sort, aI cy q_t_sold 12 v_t_sold, aI cy q_t_all 12 v_t_all, ob q_p1 8 [.ref q_p1_sort, .ref q_p1_sold, .ref q_p1_all, .int v_p1_size], aI cy q_p1_sort 12 v_p1_sort, aI cy q_p1_sold 12 v_p1_sold, aI cy q_p1_all 12 v_p1_all] none [ob q_t 8 [.ref q_t_sort, .ref q_t_sold, .ref q_t_all, .int out.2.2.2], aI cy q_t_sort 12 out.1, aI cy q_t_sold 12 out.2.1, aI cy q_t_all 12 out.2.2.1, ob q_p1 8 [.ref q_p1_sort, .ref q_p1_sold, .ref q_p1_all, .int v_p1_size], aI cy q_p1_sort 12 v_p1_sort, aI cy q_p1_sold 12 v_p1_sold, aI cy q_p1_all 12 v_p1_all] := by
  refine ct_of (by decide +kernel) (Nat.le_of_ble_eq_true rfl) (fun p e s m args below meth c C hr hlk hnm => ?_)
  unfold sp_Shops_copy at hf
  refine v_aload_n C dX8_copy_0 0 rfl rfl ?_
  refine v_iconst (v := 0) C dX8_copy_1 (by decide) ?_
  refine v_put (ws' := [ob q_t 8 [.ref q_t_sort, .ref q_t_sold, .ref q_t_all, .int 0], aI cy q_t_sort 12 v_t_sort, aI cy q_t_sold 12 v_t_sold, aI cy q_t_all 12 v_t_all, ob q_p1 8 [.ref q_p1_sort, .ref q_p1_sold, .ref q_p1_all, .int v_p1_size], aI cy q_p1_sort 12 v_p1_sort, aI cy q_p1_sold 12 v_p1_sold, aI cy q_p1_all 12 v_p1_all]) C fp_X8_21 0 rfl rfl rfl (Nat.le_of_ble_eq_true rfl) rfl dX8_copy_2 ?_
  refine v_iconst (v := 0) C dX8_copy_5 (by decide) ?_
  refine v_istore_n (lv' := [(2, .int 0), (0, .ref q_t), (1, .ref q_p1)]) C dX8_copy_6 rfl (by decide) rfl ?_
  refine v_lv (lv' := [(0, .ref q_t), (1, .ref q_p1), (2, .int 0)]) [1, 2, 0] rfl ?_
  exact (z_Shops_copy C hr hlk K) _ _ _ _ _ hf

abbrev rm_Shops_thousandths : Room := { frames := 0, cells := 0, slots := 0, locals := 0 }
def sp_Shops_thousandths (K : Nat) (p0 : Int64) (p1 : Int64) : Option (Int32) :=
  if (lg_cmp p1 0) ≤ 0 then
    some (-1)
  else
    if ¬ p1 = 0 then
      some (((1000 * p0) / p1).toInt32)
    else none
set_option maxHeartbeats 4000000 in
set_option maxRecDepth 20000 in
theorem c_Shops_thousandths (l : Launch) (D : va_G) (cy : Nat → ClassId) (K : Nat) (p0 : Int64) (p1 : Int64) (out : Int32) (hf : sp_Shops_thousandths K p0 p1 = some out) : Ct l yX8_thousandths cX8_thousandths 4 (some .int) rm_Shops_thousandths D cy [.long p0, .long p1] [] (some (.int out)) [] := by
  refine ct_of (by decide +kernel) (Nat.le_of_ble_eq_true rfl) (fun p e s m args below meth c C hr hlk hnm => ?_)
  unfold sp_Shops_thousandths at hf
  refine v_lload_n C dX8_thousandths_0 1 rfl rfl ?_
  refine v_lconst (v := 0) C dX8_thousandths_1 (by decide) ?_
  refine v_lcmp C dX8_thousandths_2 ?_
  refine v_if_le (tgt := 17) C dX8_thousandths_3 (by decide) (fun c1 => ?_) (fun c1 => ?_)
  · replace hf := (if_pos c1).symm.trans hf
    refine v_iconst (v := (-1)) C dX8_thousandths_17 (by decide) ?_
    obtain rfl := Option.some.inj hf
    exact v_iret C hr hlk dX8_thousandths_18 rfl rfl rfl rfl
  · replace hf := (if_neg c1).symm.trans hf
    refine v_ldc2 C kc_X8_46 dX8_thousandths_6 ?_
    refine v_lload_n C dX8_thousandths_9 0 rfl rfl ?_
    refine v_lmul C dX8_thousandths_10 ?_
    refine v_lload_n C dX8_thousandths_11 1 rfl rfl ?_
    obtain ⟨g2, hf⟩ := gd_ hf
    refine v_ldiv C dX8_thousandths_12 g2 ?_
    refine v_l2i C dX8_thousandths_13 ?_
    refine v_goto (tgt := 18) C dX8_thousandths_14 (by decide) ?_
    obtain rfl := Option.some.inj hf
    exact v_iret C hr hlk dX8_thousandths_18 rfl rfl rfl rfl

abbrev rm_Shops_rareInAll : Room := { frames := 1, cells := 0, slots := 0, locals := 23 }
def f_Shops_rareInAll (K : Nat) (v_t_sort : Nat → Int32) (v_t_sold : Nat → Int32) (v_t_all : Nat → Int32) (v_t_size : Int32) : Nat → Nat → Int32 × Int64 × Int64 × Int32 → Option (Int32)
  | 0, _, _ => none
  | n + 1, 0, (x1, z2, z4, x6) =>
    if v_t_size ≤ x6 then
      f_Shops_rareInAll K v_t_sort v_t_sold v_t_all v_t_size n 2 (0, z2, z4, 0)
    else
      if 12 ≤ x6 then
        f_Shops_rareInAll K v_t_sort v_t_sold v_t_all v_t_size n 2 (0, z2, z4, 0)
      else
        if inb x6 12 then
          if (v_t_sort x6.toNatClampNeg) = x1 then
            if inb x6 12 then
              if inb x6 12 then
                f_Shops_rareInAll K v_t_sort v_t_sold v_t_all v_t_size n 1 (x1, z2 + ((v_t_sold x6.toNatClampNeg).toInt64), z4 + ((v_t_all x6.toNatClampNeg).toInt64), x6)
              else none
            else none
          else
            f_Shops_rareInAll K v_t_sort v_t_sold v_t_all v_t_size n 1 (x1, z2, z4, x6)
        else none
  | n + 1, 1, (x1, z2, z4, x6) =>
    f_Shops_rareInAll K v_t_sort v_t_sold v_t_all v_t_size n 0 (x1, z2, z4, x6 + 1)
  | n + 1, 2, (x1, z2, z4, x6) =>
    (sp_Shops_thousandths K z2 z4).bind fun o68 =>
      some o68
  | _ + 1, _ + 3, _ => none
def sp_Shops_rareInAll (K : Nat) (p1 : Int32) (v_t_sort : Nat → Int32) (v_t_sold : Nat → Int32) (v_t_all : Nat → Int32) (v_t_size : Int32) : Option (Int32) :=
  f_Shops_rareInAll K v_t_sort v_t_sold v_t_all v_t_size K 0 (p1, 0, 0, 0)
def Z0_Shops_rareInAll (Vf : va_W → Nat → List (Nat × Value) → List Value → Prop) (cy : Nat → ClassId) (K n : Nat) (q_t q_t_sort q_t_sold q_t_all : Nat) (v_t_sort : Nat → Int32) (v_t_sold : Nat → Int32) (v_t_all : Nat → Int32) (v_t_size : Int32) (out : Int32) : Prop := ∀ (x1 : Int32) (z2 : Int64) (z4 : Int64) (x6 : Int32), f_Shops_rareInAll K v_t_sort v_t_sold v_t_all v_t_size n 0 (x1, z2, z4, x6) = some out → Vf [ob q_t 8 [.ref q_t_sort, .ref q_t_sold, .ref q_t_all, .int v_t_size], aI cy q_t_sort 12 v_t_sort, aI cy q_t_sold 12 v_t_sold, aI cy q_t_all 12 v_t_all] 8 [(0, .ref q_t), (1, .int x1), (2, .long z2), (4, .long z4), (6, .int x6)] []
def Z1_Shops_rareInAll (Vf : va_W → Nat → List (Nat × Value) → List Value → Prop) (cy : Nat → ClassId) (K n : Nat) (q_t q_t_sort q_t_sold q_t_all : Nat) (v_t_sort : Nat → Int32) (v_t_sold : Nat → Int32) (v_t_all : Nat → Int32) (v_t_size : Int32) (out : Int32) : Prop := ∀ (x1 : Int32) (z2 : Int64) (z4 : Int64) (x6 : Int32), f_Shops_rareInAll K v_t_sort v_t_sold v_t_all v_t_size n 1 (x1, z2, z4, x6) = some out → Vf [ob q_t 8 [.ref q_t_sort, .ref q_t_sold, .ref q_t_all, .int v_t_size], aI cy q_t_sort 12 v_t_sort, aI cy q_t_sold 12 v_t_sold, aI cy q_t_all 12 v_t_all] 59 [(0, .ref q_t), (1, .int x1), (2, .long z2), (4, .long z4), (6, .int x6)] []
def Z2_Shops_rareInAll (Vf : va_W → Nat → List (Nat × Value) → List Value → Prop) (cy : Nat → ClassId) (K n : Nat) (q_t q_t_sort q_t_sold q_t_all : Nat) (v_t_sort : Nat → Int32) (v_t_sold : Nat → Int32) (v_t_all : Nat → Int32) (v_t_size : Int32) (out : Int32) : Prop := ∀ (x1 : Int32) (z2 : Int64) (z4 : Int64) (x6 : Int32), f_Shops_rareInAll K v_t_sort v_t_sold v_t_all v_t_size n 2 (x1, z2, z4, x6) = some out → Vf [ob q_t 8 [.ref q_t_sort, .ref q_t_sold, .ref q_t_all, .int v_t_size], aI cy q_t_sort 12 v_t_sort, aI cy q_t_sold 12 v_t_sold, aI cy q_t_all 12 v_t_all] 65 [(2, .long z2), (4, .long z4)] []
def Z_Shops_rareInAll (Vf : va_W → Nat → List (Nat × Value) → List Value → Prop) (cy : Nat → ClassId) (K n : Nat) (q_t q_t_sort q_t_sold q_t_all : Nat) (v_t_sort : Nat → Int32) (v_t_sold : Nat → Int32) (v_t_all : Nat → Int32) (v_t_size : Int32) (out : Int32) : Prop := Z0_Shops_rareInAll Vf cy K n q_t q_t_sort q_t_sold q_t_all  v_t_sort v_t_sold v_t_all v_t_size out ∧ Z1_Shops_rareInAll Vf cy K n q_t q_t_sort q_t_sold q_t_all  v_t_sort v_t_sold v_t_all v_t_size out ∧ Z2_Shops_rareInAll Vf cy K n q_t q_t_sort q_t_sold q_t_all  v_t_sort v_t_sold v_t_all v_t_size out
set_option maxHeartbeats 4000000 in
set_option maxRecDepth 20000 in
theorem z0_Shops_rareInAll {p : Program} {l : Launch} {e : Env} {s : State} {m : MethodId} {args : Array Value} {below : List Frame} {meth : Method} {c : Code} {D : va_G} {cy : Nat → ClassId} {K : Nat} {q_t q_t_sort q_t_sold q_t_all : Nat} {v_t_sort : Nat → Int32} {v_t_sold : Nat → Int32} {v_t_all : Nat → Int32} {v_t_size : Int32} {out : Int32} (C : VC p s m args c cX8_rareInAll RX8 7 D cy (va_A [ob q_t 8 [.ref q_t_sort, .ref q_t_sold, .ref q_t_all, .int v_t_size], aI cy q_t_sort 12 v_t_sort, aI cy q_t_sold 12 v_t_sold, aI cy q_t_all 12 v_t_all] s.heap.size)) (hr : meth.sig.returnType = (some .int)) (hlk : meth.locks = false) (n : Nat) (ih : Z_Shops_rareInAll (V p l e rm_Shops_rareInAll s m args below meth c (EQ below args s rm_Shops_rareInAll D [ob q_t 8 [.ref q_t_sort, .ref q_t_sold, .ref q_t_all, .int v_t_size], aI cy q_t_sort 12 v_t_sort, aI cy q_t_sold 12 v_t_sold, aI cy q_t_all 12 v_t_all] (some (.int out)) [ob q_t 8 [.ref q_t_sort, .ref q_t_sold, .ref q_t_all, .int v_t_size], aI cy q_t_sort 12 v_t_sort, aI cy q_t_sold 12 v_t_sold, aI cy q_t_all 12 v_t_all]) 7 D (va_A [ob q_t 8 [.ref q_t_sort, .ref q_t_sold, .ref q_t_all, .int v_t_size], aI cy q_t_sort 12 v_t_sort, aI cy q_t_sold 12 v_t_sold, aI cy q_t_all 12 v_t_all] s.heap.size) 0 0) cy K n q_t q_t_sort q_t_sold q_t_all  v_t_sort v_t_sold v_t_all v_t_size out) : Z0_Shops_rareInAll (V p l e rm_Shops_rareInAll s m args below meth c (EQ below args s rm_Shops_rareInAll D [ob q_t 8 [.ref q_t_sort, .ref q_t_sold, .ref q_t_all, .int v_t_size], aI cy q_t_sort 12 v_t_sort, aI cy q_t_sold 12 v_t_sold, aI cy q_t_all 12 v_t_all] (some (.int out)) [ob q_t 8 [.ref q_t_sort, .ref q_t_sold, .ref q_t_all, .int v_t_size], aI cy q_t_sort 12 v_t_sort, aI cy q_t_sold 12 v_t_sold, aI cy q_t_all 12 v_t_all]) 7 D (va_A [ob q_t 8 [.ref q_t_sort, .ref q_t_sold, .ref q_t_all, .int v_t_size], aI cy q_t_sort 12 v_t_sort, aI cy q_t_sold 12 v_t_sold, aI cy q_t_all 12 v_t_all] s.heap.size) 0 0) cy K (n + 1) q_t q_t_sort q_t_sold q_t_all  v_t_sort v_t_sold v_t_all v_t_size out := by
  intro x1 z2 z4 x6 hf
  replace hf := hf
  refine v_iload C dX8_rareInAll_8 4 rfl ?_
  refine v_aload_n C dX8_rareInAll_10 0 rfl rfl ?_
  refine v_get C fl_X8_21 0 rfl rfl dX8_rareInAll_11 ?_
  refine v_icmp_ge (tgt := 65) C dX8_rareInAll_14 (by decide) (fun c1 => ?_) (fun c1 => ?_)
  · replace hf := (if_pos c1).symm.trans hf
    refine v_lv (lv' := [(2, .long z2), (4, .long z4)]) [2, 3] rfl ?_
    exact ih.2.2 _ _ _ _ hf
  · replace hf := (if_neg c1).symm.trans hf
    refine v_iload C dX8_rareInAll_17 4 rfl ?_
    refine v_bipush (v := 12) C dX8_rareInAll_19 (by decide) ?_
    refine v_icmp_ge (tgt := 65) C dX8_rareInAll_21 (by decide) (fun c2 => ?_) (fun c2 => ?_)
    · replace hf := (if_pos c2).symm.trans hf
      refine v_lv (lv' := [(2, .long z2), (4, .long z4)]) [2, 3] rfl ?_
      exact ih.2.2 _ _ _ _ hf
    · replace hf := (if_neg c2).symm.trans hf
      refine v_aload_n C dX8_rareInAll_24 0 rfl rfl ?_
      refine v_get C fl_X8_9 0 rfl rfl dX8_rareInAll_25 ?_
      refine v_iload C dX8_rareInAll_28 4 rfl ?_
      obtain ⟨g3, hf⟩ := gd_ hf
      refine v_iald C 1 rfl g3 dX8_rareInAll_30 ?_
      refine v_iload_n C dX8_rareInAll_31 1 rfl rfl ?_
      refine v_icmp_ne (tgt := 59) C dX8_rareInAll_32 (by decide) (fun c4 => ?_) (fun c4 => ?_)
      · replace hf := (if_neg c4).symm.trans hf
        exact ih.2.1 _ _ _ _ hf
      · replace hf := (if_pos c4).symm.trans hf
        refine v_lload_n C dX8_rareInAll_35 2 rfl rfl ?_
        refine v_aload_n C dX8_rareInAll_36 0 rfl rfl ?_
        refine v_get C fl_X8_15 0 rfl rfl dX8_rareInAll_37 ?_
        refine v_iload C dX8_rareInAll_40 4 rfl ?_
        obtain ⟨g5, hf⟩ := gd_ hf
        refine v_iald C 2 rfl g5 dX8_rareInAll_42 ?_
        refine v_i2l C dX8_rareInAll_43 ?_
        refine v_ladd C dX8_rareInAll_44 ?_
        refine v_lstore_n (lv' := [(2, .long (z2 + ((v_t_sold x6.toNatClampNeg).toInt64))), (0, .ref q_t), (1, .int x1), (4, .long z4), (6, .int x6)]) C dX8_rareInAll_45 rfl (by decide) rfl ?_
        refine v_lload C dX8_rareInAll_46 3 rfl ?_
        refine v_aload_n C dX8_rareInAll_48 1 rfl rfl ?_
        refine v_get C fl_X8_18 0 rfl rfl dX8_rareInAll_49 ?_
        refine v_iload C dX8_rareInAll_52 4 rfl ?_
        obtain ⟨g6, hf⟩ := gd_ hf
        refine v_iald C 3 rfl g6 dX8_rareInAll_54 ?_
        refine v_i2l C dX8_rareInAll_55 ?_
        refine v_ladd C dX8_rareInAll_56 ?_
        refine v_lstore (lv' := [(4, .long (z4 + ((v_t_all x6.toNatClampNeg).toInt64))), (2, .long (z2 + ((v_t_sold x6.toNatClampNeg).toInt64))), (0, .ref q_t), (1, .int x1), (6, .int x6)]) C dX8_rareInAll_57 (by decide) rfl ?_
        refine v_lv (lv' := [(0, .ref q_t), (1, .int x1), (2, .long (z2 + ((v_t_sold x6.toNatClampNeg).toInt64))), (4, .long (z4 + ((v_t_all x6.toNatClampNeg).toInt64))), (6, .int x6)]) [2, 3, 1, 0, 4] rfl ?_
        exact ih.2.1 _ _ _ _ hf
set_option maxHeartbeats 4000000 in
set_option maxRecDepth 20000 in
theorem z1_Shops_rareInAll {p : Program} {l : Launch} {e : Env} {s : State} {m : MethodId} {args : Array Value} {below : List Frame} {meth : Method} {c : Code} {D : va_G} {cy : Nat → ClassId} {K : Nat} {q_t q_t_sort q_t_sold q_t_all : Nat} {v_t_sort : Nat → Int32} {v_t_sold : Nat → Int32} {v_t_all : Nat → Int32} {v_t_size : Int32} {out : Int32} (C : VC p s m args c cX8_rareInAll RX8 7 D cy (va_A [ob q_t 8 [.ref q_t_sort, .ref q_t_sold, .ref q_t_all, .int v_t_size], aI cy q_t_sort 12 v_t_sort, aI cy q_t_sold 12 v_t_sold, aI cy q_t_all 12 v_t_all] s.heap.size)) (hr : meth.sig.returnType = (some .int)) (hlk : meth.locks = false) (n : Nat) (ih : Z_Shops_rareInAll (V p l e rm_Shops_rareInAll s m args below meth c (EQ below args s rm_Shops_rareInAll D [ob q_t 8 [.ref q_t_sort, .ref q_t_sold, .ref q_t_all, .int v_t_size], aI cy q_t_sort 12 v_t_sort, aI cy q_t_sold 12 v_t_sold, aI cy q_t_all 12 v_t_all] (some (.int out)) [ob q_t 8 [.ref q_t_sort, .ref q_t_sold, .ref q_t_all, .int v_t_size], aI cy q_t_sort 12 v_t_sort, aI cy q_t_sold 12 v_t_sold, aI cy q_t_all 12 v_t_all]) 7 D (va_A [ob q_t 8 [.ref q_t_sort, .ref q_t_sold, .ref q_t_all, .int v_t_size], aI cy q_t_sort 12 v_t_sort, aI cy q_t_sold 12 v_t_sold, aI cy q_t_all 12 v_t_all] s.heap.size) 0 0) cy K n q_t q_t_sort q_t_sold q_t_all  v_t_sort v_t_sold v_t_all v_t_size out) : Z1_Shops_rareInAll (V p l e rm_Shops_rareInAll s m args below meth c (EQ below args s rm_Shops_rareInAll D [ob q_t 8 [.ref q_t_sort, .ref q_t_sold, .ref q_t_all, .int v_t_size], aI cy q_t_sort 12 v_t_sort, aI cy q_t_sold 12 v_t_sold, aI cy q_t_all 12 v_t_all] (some (.int out)) [ob q_t 8 [.ref q_t_sort, .ref q_t_sold, .ref q_t_all, .int v_t_size], aI cy q_t_sort 12 v_t_sort, aI cy q_t_sold 12 v_t_sold, aI cy q_t_all 12 v_t_all]) 7 D (va_A [ob q_t 8 [.ref q_t_sort, .ref q_t_sold, .ref q_t_all, .int v_t_size], aI cy q_t_sort 12 v_t_sort, aI cy q_t_sold 12 v_t_sold, aI cy q_t_all 12 v_t_all] s.heap.size) 0 0) cy K (n + 1) q_t q_t_sort q_t_sold q_t_all  v_t_sort v_t_sold v_t_all v_t_size out := by
  intro x1 z2 z4 x6 hf
  replace hf := hf
  refine v_iinc (v := x6 + 1) (lv' := [(6, .int (x6 + 1)), (0, .ref q_t), (1, .int x1), (2, .long z2), (4, .long z4)]) C dX8_rareInAll_59 4 rfl rfl (by decide) rfl ?_
  refine v_goto (tgt := 8) C dX8_rareInAll_62 (by decide) ?_
  refine v_lv (lv' := [(0, .ref q_t), (1, .int x1), (2, .long z2), (4, .long z4), (6, .int (x6 + 1))]) [1, 2, 3, 4, 0] rfl ?_
  exact ih.1 _ _ _ _ hf
set_option maxHeartbeats 4000000 in
set_option maxRecDepth 20000 in
theorem z2_Shops_rareInAll {p : Program} {l : Launch} {e : Env} {s : State} {m : MethodId} {args : Array Value} {below : List Frame} {meth : Method} {c : Code} {D : va_G} {cy : Nat → ClassId} {K : Nat} {q_t q_t_sort q_t_sold q_t_all : Nat} {v_t_sort : Nat → Int32} {v_t_sold : Nat → Int32} {v_t_all : Nat → Int32} {v_t_size : Int32} {out : Int32} (C : VC p s m args c cX8_rareInAll RX8 7 D cy (va_A [ob q_t 8 [.ref q_t_sort, .ref q_t_sold, .ref q_t_all, .int v_t_size], aI cy q_t_sort 12 v_t_sort, aI cy q_t_sold 12 v_t_sold, aI cy q_t_all 12 v_t_all] s.heap.size)) (hr : meth.sig.returnType = (some .int)) (hlk : meth.locks = false) (n : Nat) (ih : Z_Shops_rareInAll (V p l e rm_Shops_rareInAll s m args below meth c (EQ below args s rm_Shops_rareInAll D [ob q_t 8 [.ref q_t_sort, .ref q_t_sold, .ref q_t_all, .int v_t_size], aI cy q_t_sort 12 v_t_sort, aI cy q_t_sold 12 v_t_sold, aI cy q_t_all 12 v_t_all] (some (.int out)) [ob q_t 8 [.ref q_t_sort, .ref q_t_sold, .ref q_t_all, .int v_t_size], aI cy q_t_sort 12 v_t_sort, aI cy q_t_sold 12 v_t_sold, aI cy q_t_all 12 v_t_all]) 7 D (va_A [ob q_t 8 [.ref q_t_sort, .ref q_t_sold, .ref q_t_all, .int v_t_size], aI cy q_t_sort 12 v_t_sort, aI cy q_t_sold 12 v_t_sold, aI cy q_t_all 12 v_t_all] s.heap.size) 0 0) cy K n q_t q_t_sort q_t_sold q_t_all  v_t_sort v_t_sold v_t_all v_t_size out) : Z2_Shops_rareInAll (V p l e rm_Shops_rareInAll s m args below meth c (EQ below args s rm_Shops_rareInAll D [ob q_t 8 [.ref q_t_sort, .ref q_t_sold, .ref q_t_all, .int v_t_size], aI cy q_t_sort 12 v_t_sort, aI cy q_t_sold 12 v_t_sold, aI cy q_t_all 12 v_t_all] (some (.int out)) [ob q_t 8 [.ref q_t_sort, .ref q_t_sold, .ref q_t_all, .int v_t_size], aI cy q_t_sort 12 v_t_sort, aI cy q_t_sold 12 v_t_sold, aI cy q_t_all 12 v_t_all]) 7 D (va_A [ob q_t 8 [.ref q_t_sort, .ref q_t_sold, .ref q_t_all, .int v_t_size], aI cy q_t_sort 12 v_t_sort, aI cy q_t_sold 12 v_t_sold, aI cy q_t_all 12 v_t_all] s.heap.size) 0 0) cy K (n + 1) q_t q_t_sort q_t_sold q_t_all  v_t_sort v_t_sold v_t_all v_t_size out := by
  intro x1 z2 z4 x6 hf
  replace hf := hf
  refine v_lload_n C dX8_rareInAll_65 0 rfl rfl ?_
  refine v_lload C dX8_rareInAll_66 1 rfl ?_
  obtain ⟨o68, g1, hf⟩ := bd_ hf
  refine v_callS0 (As := [.long z2, .long z4]) (st := []) (stk' := [.int o68]) C (c_Shops_thousandths l D cy K   z2 z4 o68 g1) ls_X8_33 rfl (by decide) rfl dX8_rareInAll_68 (Nat.le_of_ble_eq_true rfl) rfl ?_
  obtain rfl := Option.some.inj hf
  exact v_iret C hr hlk dX8_rareInAll_71 rfl rfl rfl rfl
theorem z_Shops_rareInAll {p : Program} {l : Launch} {e : Env} {s : State} {m : MethodId} {args : Array Value} {below : List Frame} {meth : Method} {c : Code} {D : va_G} {cy : Nat → ClassId} {K : Nat} {q_t q_t_sort q_t_sold q_t_all : Nat} {v_t_sort : Nat → Int32} {v_t_sold : Nat → Int32} {v_t_all : Nat → Int32} {v_t_size : Int32} {out : Int32} (C : VC p s m args c cX8_rareInAll RX8 7 D cy (va_A [ob q_t 8 [.ref q_t_sort, .ref q_t_sold, .ref q_t_all, .int v_t_size], aI cy q_t_sort 12 v_t_sort, aI cy q_t_sold 12 v_t_sold, aI cy q_t_all 12 v_t_all] s.heap.size)) (hr : meth.sig.returnType = (some .int)) (hlk : meth.locks = false) (n : Nat) : Z_Shops_rareInAll (V p l e rm_Shops_rareInAll s m args below meth c (EQ below args s rm_Shops_rareInAll D [ob q_t 8 [.ref q_t_sort, .ref q_t_sold, .ref q_t_all, .int v_t_size], aI cy q_t_sort 12 v_t_sort, aI cy q_t_sold 12 v_t_sold, aI cy q_t_all 12 v_t_all] (some (.int out)) [ob q_t 8 [.ref q_t_sort, .ref q_t_sold, .ref q_t_all, .int v_t_size], aI cy q_t_sort 12 v_t_sort, aI cy q_t_sold 12 v_t_sold, aI cy q_t_all 12 v_t_all]) 7 D (va_A [ob q_t 8 [.ref q_t_sort, .ref q_t_sold, .ref q_t_all, .int v_t_size], aI cy q_t_sort 12 v_t_sort, aI cy q_t_sold 12 v_t_sold, aI cy q_t_all 12 v_t_all] s.heap.size) 0 0) cy K n q_t q_t_sort q_t_sold q_t_all  v_t_sort v_t_sold v_t_all v_t_size out := by
  induction n with
  | zero => exact ⟨(fun _ _ _ _ h => nomatch h), (fun _ _ _ _ h => nomatch h), (fun _ _ _ _ h => nomatch h)⟩
  | succ n ih => exact ⟨z0_Shops_rareInAll C hr hlk n ih, z1_Shops_rareInAll C hr hlk n ih, z2_Shops_rareInAll C hr hlk n ih⟩
set_option maxHeartbeats 4000000 in
set_option maxRecDepth 20000 in
theorem c_Shops_rareInAll (l : Launch) (D : va_G) (cy : Nat → ClassId) (K : Nat) (q_t q_t_sort q_t_sold q_t_all : Nat) (p1 : Int32) (v_t_sort : Nat → Int32) (v_t_sold : Nat → Int32) (v_t_all : Nat → Int32) (v_t_size : Int32) (out : Int32) (hf : sp_Shops_rareInAll K p1 v_t_sort v_t_sold v_t_all v_t_size = some out) : Ct l yX8_rareInAll cX8_rareInAll 7 (some .int) rm_Shops_rareInAll D cy [.ref q_t, .int p1] [ob q_t 8 [.ref q_t_sort, .ref q_t_sold, .ref q_t_all, .int v_t_size], aI cy q_t_sort 12 v_t_sort, aI cy q_t_sold 12 v_t_sold, aI cy q_t_all 12 v_t_all] (some (.int out)) [ob q_t 8 [.ref q_t_sort, .ref q_t_sold, .ref q_t_all, .int v_t_size], aI cy q_t_sort 12 v_t_sort, aI cy q_t_sold 12 v_t_sold, aI cy q_t_all 12 v_t_all] := by
  refine ct_of (by decide +kernel) (Nat.le_of_ble_eq_true rfl) (fun p e s m args below meth c C hr hlk hnm => ?_)
  unfold sp_Shops_rareInAll at hf
  refine v_lconst (v := 0) C dX8_rareInAll_0 (by decide) ?_
  refine v_lstore_n (lv' := [(2, .long 0), (0, .ref q_t), (1, .int p1)]) C dX8_rareInAll_1 rfl (by decide) rfl ?_
  refine v_lconst (v := 0) C dX8_rareInAll_2 (by decide) ?_
  refine v_lstore (lv' := [(4, .long 0), (2, .long 0), (0, .ref q_t), (1, .int p1)]) C dX8_rareInAll_3 (by decide) rfl ?_
  refine v_iconst (v := 0) C dX8_rareInAll_5 (by decide) ?_
  refine v_istore (lv' := [(6, .int 0), (4, .long 0), (2, .long 0), (0, .ref q_t), (1, .int p1)]) C dX8_rareInAll_6 (by decide) rfl ?_
  refine v_lv (lv' := [(0, .ref q_t), (1, .int p1), (2, .long 0), (4, .long 0), (6, .int 0)]) [3, 4, 2, 1, 0] rfl ?_
  exact (z_Shops_rareInAll C hr hlk K).1 _ _ _ _ hf

abbrev rm_Shops_rareAtLeast : Room := { frames := 1, cells := 0, slots := 0, locals := 23 }
def f_Shops_rareAtLeast (K : Nat) (v_t_sort : Nat → Int32) (v_t_sold : Nat → Int32) (v_t_all : Nat → Int32) (v_t_size : Int32) : Nat → Nat → Int32 × Int32 × Int32 × Int32 → Option (Int32)
  | 0, _, _ => none
  | n + 1, 0, (x1, x2, x3, y0) =>
    if v_t_size ≤ x3 then
      some x2
    else
      if 12 ≤ x3 then
        some x2
      else
        if inb x3 12 then
          if (v_t_sort x3.toNatClampNeg) = x1 then
            if inb x3 12 then
              if inb x3 12 then
                (sp_Shops_thousandths K ((v_t_sold x3.toNatClampNeg).toInt64) ((v_t_all x3.toNatClampNeg).toInt64)).bind fun o42 =>
                  if x2 = (-1) then
                    f_Shops_rareAtLeast K v_t_sort v_t_sold v_t_all v_t_size n 1 (x1, 0, x3, o42)
                  else
                    f_Shops_rareAtLeast K v_t_sort v_t_sold v_t_all v_t_size n 1 (x1, 0, x3, if o42 < x2 then o42 else x2)
              else none
            else none
          else
            f_Shops_rareAtLeast K v_t_sort v_t_sold v_t_all v_t_size n 2 (x1, x2, x3, 0)
        else none
  | n + 1, 1, (x1, x2, x3, y0) =>
    f_Shops_rareAtLeast K v_t_sort v_t_sold v_t_all v_t_size n 2 (x1, y0, x3, 0)
  | n + 1, 2, (x1, x2, x3, y0) =>
    f_Shops_rareAtLeast K v_t_sort v_t_sold v_t_all v_t_size n 0 (x1, x2, x3 + 1, 0)
  | _ + 1, _ + 3, _ => none
def sp_Shops_rareAtLeast (K : Nat) (p1 : Int32) (v_t_sort : Nat → Int32) (v_t_sold : Nat → Int32) (v_t_all : Nat → Int32) (v_t_size : Int32) : Option (Int32) :=
  f_Shops_rareAtLeast K v_t_sort v_t_sold v_t_all v_t_size K 0 (p1, (-1), 0, 0)
def Z0_Shops_rareAtLeast (Vf : va_W → Nat → List (Nat × Value) → List Value → Prop) (cy : Nat → ClassId) (K n : Nat) (q_t q_t_sort q_t_sold q_t_all : Nat) (v_t_sort : Nat → Int32) (v_t_sold : Nat → Int32) (v_t_all : Nat → Int32) (v_t_size : Int32) (out : Int32) : Prop := ∀ (x1 : Int32) (x2 : Int32) (x3 : Int32) (y0 : Int32), f_Shops_rareAtLeast K v_t_sort v_t_sold v_t_all v_t_size n 0 (x1, x2, x3, y0) = some out → Vf [ob q_t 8 [.ref q_t_sort, .ref q_t_sold, .ref q_t_all, .int v_t_size], aI cy q_t_sort 12 v_t_sort, aI cy q_t_sold 12 v_t_sold, aI cy q_t_all 12 v_t_all] 4 [(0, .ref q_t), (1, .int x1), (2, .int x2), (3, .int x3)] []
def Z1_Shops_rareAtLeast (Vf : va_W → Nat → List (Nat × Value) → List Value → Prop) (cy : Nat → ClassId) (K n : Nat) (q_t q_t_sort q_t_sold q_t_all : Nat) (v_t_sort : Nat → Int32) (v_t_sold : Nat → Int32) (v_t_all : Nat → Int32) (v_t_size : Int32) (out : Int32) : Prop := ∀ (x1 : Int32) (x2 : Int32) (x3 : Int32) (y0 : Int32), f_Shops_rareAtLeast K v_t_sort v_t_sold v_t_all v_t_size n 1 (x1, x2, x3, y0) = some out → Vf [ob q_t 8 [.ref q_t_sort, .ref q_t_sold, .ref q_t_all, .int v_t_size], aI cy q_t_sort 12 v_t_sort, aI cy q_t_sold 12 v_t_sold, aI cy q_t_all 12 v_t_all] 63 [(0, .ref q_t), (1, .int x1), (3, .int x3)] [.int y0]
def Z2_Shops_rareAtLeast (Vf : va_W → Nat → List (Nat × Value) → List Value → Prop) (cy : Nat → ClassId) (K n : Nat) (q_t q_t_sort q_t_sold q_t_all : Nat) (v_t_sort : Nat → Int32) (v_t_sold : Nat → Int32) (v_t_all : Nat → Int32) (v_t_size : Int32) (out : Int32) : Prop := ∀ (x1 : Int32) (x2 : Int32) (x3 : Int32) (y0 : Int32), f_Shops_rareAtLeast K v_t_sort v_t_sold v_t_all v_t_size n 2 (x1, x2, x3, y0) = some out → Vf [ob q_t 8 [.ref q_t_sort, .ref q_t_sold, .ref q_t_all, .int v_t_size], aI cy q_t_sort 12 v_t_sort, aI cy q_t_sold 12 v_t_sold, aI cy q_t_all 12 v_t_all] 64 [(0, .ref q_t), (1, .int x1), (2, .int x2), (3, .int x3)] []
def Z_Shops_rareAtLeast (Vf : va_W → Nat → List (Nat × Value) → List Value → Prop) (cy : Nat → ClassId) (K n : Nat) (q_t q_t_sort q_t_sold q_t_all : Nat) (v_t_sort : Nat → Int32) (v_t_sold : Nat → Int32) (v_t_all : Nat → Int32) (v_t_size : Int32) (out : Int32) : Prop := Z0_Shops_rareAtLeast Vf cy K n q_t q_t_sort q_t_sold q_t_all  v_t_sort v_t_sold v_t_all v_t_size out ∧ Z1_Shops_rareAtLeast Vf cy K n q_t q_t_sort q_t_sold q_t_all  v_t_sort v_t_sold v_t_all v_t_size out ∧ Z2_Shops_rareAtLeast Vf cy K n q_t q_t_sort q_t_sold q_t_all  v_t_sort v_t_sold v_t_all v_t_size out
set_option maxHeartbeats 4000000 in
set_option maxRecDepth 20000 in
theorem z0_Shops_rareAtLeast {p : Program} {l : Launch} {e : Env} {s : State} {m : MethodId} {args : Array Value} {below : List Frame} {meth : Method} {c : Code} {D : va_G} {cy : Nat → ClassId} {K : Nat} {q_t q_t_sort q_t_sold q_t_all : Nat} {v_t_sort : Nat → Int32} {v_t_sold : Nat → Int32} {v_t_all : Nat → Int32} {v_t_size : Int32} {out : Int32} (C : VC p s m args c cX8_rareAtLeast RX8 5 D cy (va_A [ob q_t 8 [.ref q_t_sort, .ref q_t_sold, .ref q_t_all, .int v_t_size], aI cy q_t_sort 12 v_t_sort, aI cy q_t_sold 12 v_t_sold, aI cy q_t_all 12 v_t_all] s.heap.size)) (hr : meth.sig.returnType = (some .int)) (hlk : meth.locks = false) (n : Nat) (ih : Z_Shops_rareAtLeast (V p l e rm_Shops_rareAtLeast s m args below meth c (EQ below args s rm_Shops_rareAtLeast D [ob q_t 8 [.ref q_t_sort, .ref q_t_sold, .ref q_t_all, .int v_t_size], aI cy q_t_sort 12 v_t_sort, aI cy q_t_sold 12 v_t_sold, aI cy q_t_all 12 v_t_all] (some (.int out)) [ob q_t 8 [.ref q_t_sort, .ref q_t_sold, .ref q_t_all, .int v_t_size], aI cy q_t_sort 12 v_t_sort, aI cy q_t_sold 12 v_t_sold, aI cy q_t_all 12 v_t_all]) 5 D (va_A [ob q_t 8 [.ref q_t_sort, .ref q_t_sold, .ref q_t_all, .int v_t_size], aI cy q_t_sort 12 v_t_sort, aI cy q_t_sold 12 v_t_sold, aI cy q_t_all 12 v_t_all] s.heap.size) 0 0) cy K n q_t q_t_sort q_t_sold q_t_all  v_t_sort v_t_sold v_t_all v_t_size out) : Z0_Shops_rareAtLeast (V p l e rm_Shops_rareAtLeast s m args below meth c (EQ below args s rm_Shops_rareAtLeast D [ob q_t 8 [.ref q_t_sort, .ref q_t_sold, .ref q_t_all, .int v_t_size], aI cy q_t_sort 12 v_t_sort, aI cy q_t_sold 12 v_t_sold, aI cy q_t_all 12 v_t_all] (some (.int out)) [ob q_t 8 [.ref q_t_sort, .ref q_t_sold, .ref q_t_all, .int v_t_size], aI cy q_t_sort 12 v_t_sort, aI cy q_t_sold 12 v_t_sold, aI cy q_t_all 12 v_t_all]) 5 D (va_A [ob q_t 8 [.ref q_t_sort, .ref q_t_sold, .ref q_t_all, .int v_t_size], aI cy q_t_sort 12 v_t_sort, aI cy q_t_sold 12 v_t_sold, aI cy q_t_all 12 v_t_all] s.heap.size) 0 0) cy K (n + 1) q_t q_t_sort q_t_sold q_t_all  v_t_sort v_t_sold v_t_all v_t_size out := by
  intro x1 x2 x3 y0 hf
  replace hf := hf
  refine v_iload_n C dX8_rareAtLeast_4 3 rfl rfl ?_
  refine v_aload_n C dX8_rareAtLeast_5 0 rfl rfl ?_
  refine v_get C fl_X8_21 0 rfl rfl dX8_rareAtLeast_6 ?_
  refine v_icmp_ge (tgt := 70) C dX8_rareAtLeast_9 (by decide) (fun c1 => ?_) (fun c1 => ?_)
  · replace hf := (if_pos c1).symm.trans hf
    refine v_iload_n C dX8_rareAtLeast_70 2 rfl rfl ?_
    obtain rfl := Option.some.inj hf
    exact v_iret C hr hlk dX8_rareAtLeast_71 rfl rfl rfl rfl
  · replace hf := (if_neg c1).symm.trans hf
    refine v_iload_n C dX8_rareAtLeast_12 3 rfl rfl ?_
    refine v_bipush (v := 12) C dX8_rareAtLeast_13 (by decide) ?_
    refine v_icmp_ge (tgt := 70) C dX8_rareAtLeast_15 (by decide) (fun c2 => ?_) (fun c2 => ?_)
    · replace hf := (if_pos c2).symm.trans hf
      refine v_iload_n C dX8_rareAtLeast_70 2 rfl rfl ?_
      obtain rfl := Option.some.inj hf
      exact v_iret C hr hlk dX8_rareAtLeast_71 rfl rfl rfl rfl
    · replace hf := (if_neg c2).symm.trans hf
      refine v_aload_n C dX8_rareAtLeast_18 0 rfl rfl ?_
      refine v_get C fl_X8_9 0 rfl rfl dX8_rareAtLeast_19 ?_
      refine v_iload_n C dX8_rareAtLeast_22 3 rfl rfl ?_
      obtain ⟨g3, hf⟩ := gd_ hf
      refine v_iald C 1 rfl g3 dX8_rareAtLeast_23 ?_
      refine v_iload_n C dX8_rareAtLeast_24 1 rfl rfl ?_
      refine v_icmp_ne (tgt := 64) C dX8_rareAtLeast_25 (by decide) (fun c4 => ?_) (fun c4 => ?_)
      · replace hf := (if_neg c4).symm.trans hf
        exact ih.2.2 _ _ _ _ hf
      · replace hf := (if_pos c4).symm.trans hf
        refine v_aload_n C dX8_rareAtLeast_28 0 rfl rfl ?_
        refine v_get C fl_X8_15 0 rfl rfl dX8_rareAtLeast_29 ?_
        refine v_iload_n C dX8_rareAtLeast_32 3 rfl rfl ?_
        obtain ⟨g5, hf⟩ := gd_ hf
        refine v_iald C 2 rfl g5 dX8_rareAtLeast_33 ?_
        refine v_i2l C dX8_rareAtLeast_34 ?_
        refine v_aload_n C dX8_rareAtLeast_35 0 rfl rfl ?_
        refine v_get C fl_X8_18 0 rfl rfl dX8_rareAtLeast_36 ?_
        refine v_iload_n C dX8_rareAtLeast_39 3 rfl rfl ?_
        obtain ⟨g6, hf⟩ := gd_ hf
        refine v_iald C 3 rfl g6 dX8_rareAtLeast_40 ?_
        refine v_i2l C dX8_rareAtLeast_41 ?_
        obtain ⟨o42, g7, hf⟩ := bd_ hf
        refine v_callS0 (As := [.long ((v_t_sold x3.toNatClampNeg).toInt64), .long ((v_t_all x3.toNatClampNeg).toInt64)]) (st := []) (stk' := [.int o42]) C (c_Shops_thousandths l D cy K   ((v_t_sold x3.toNatClampNeg).toInt64) ((v_t_all x3.toNatClampNeg).toInt64) o42 g7) ls_X8_33 rfl (by decide) rfl dX8_rareAtLeast_42 (Nat.le_of_ble_eq_true rfl) rfl ?_
        refine v_istore (lv' := [(4, .int o42), (0, .ref q_t), (1, .int x1), (2, .int x2), (3, .int x3)]) C dX8_rareAtLeast_45 (by decide) rfl ?_
        refine v_iload_n C dX8_rareAtLeast_47 3 rfl rfl ?_
        refine v_iconst (v := (-1)) C dX8_rareAtLeast_48 (by decide) ?_
        refine v_icmp_ne (tgt := 57) C dX8_rareAtLeast_49 (by decide) (fun c8 => ?_) (fun c8 => ?_)
        · replace hf := (if_neg c8).symm.trans hf
          refine v_iload_n C dX8_rareAtLeast_57 3 rfl rfl ?_
          refine v_iload C dX8_rareAtLeast_58 0 rfl ?_
          refine v_mmin C mm_X8_37 mg_min ⟨Nat.le_of_ble_eq_true rfl, Nat.le_of_ble_eq_true rfl, Nat.le_of_ble_eq_true rfl, Nat.le_of_ble_eq_true rfl⟩ dX8_rareAtLeast_60 ?_
          refine v_lv (lv' := [(0, .ref q_t), (1, .int x1), (3, .int x3)]) [1, 2, 4] rfl ?_
          exact ih.2.1 _ _ _ _ hf
        · replace hf := (if_pos c8).symm.trans hf
          refine v_iload C dX8_rareAtLeast_52 0 rfl ?_
          refine v_goto (tgt := 63) C dX8_rareAtLeast_54 (by decide) ?_
          refine v_lv (lv' := [(0, .ref q_t), (1, .int x1), (3, .int x3)]) [1, 2, 4] rfl ?_
          exact ih.2.1 _ _ _ _ hf
set_option maxHeartbeats 4000000 in
set_option maxRecDepth 20000 in
theorem z1_Shops_rareAtLeast {p : Program} {l : Launch} {e : Env} {s : State} {m : MethodId} {args : Array Value} {below : List Frame} {meth : Method} {c : Code} {D : va_G} {cy : Nat → ClassId} {K : Nat} {q_t q_t_sort q_t_sold q_t_all : Nat} {v_t_sort : Nat → Int32} {v_t_sold : Nat → Int32} {v_t_all : Nat → Int32} {v_t_size : Int32} {out : Int32} (C : VC p s m args c cX8_rareAtLeast RX8 5 D cy (va_A [ob q_t 8 [.ref q_t_sort, .ref q_t_sold, .ref q_t_all, .int v_t_size], aI cy q_t_sort 12 v_t_sort, aI cy q_t_sold 12 v_t_sold, aI cy q_t_all 12 v_t_all] s.heap.size)) (hr : meth.sig.returnType = (some .int)) (hlk : meth.locks = false) (n : Nat) (ih : Z_Shops_rareAtLeast (V p l e rm_Shops_rareAtLeast s m args below meth c (EQ below args s rm_Shops_rareAtLeast D [ob q_t 8 [.ref q_t_sort, .ref q_t_sold, .ref q_t_all, .int v_t_size], aI cy q_t_sort 12 v_t_sort, aI cy q_t_sold 12 v_t_sold, aI cy q_t_all 12 v_t_all] (some (.int out)) [ob q_t 8 [.ref q_t_sort, .ref q_t_sold, .ref q_t_all, .int v_t_size], aI cy q_t_sort 12 v_t_sort, aI cy q_t_sold 12 v_t_sold, aI cy q_t_all 12 v_t_all]) 5 D (va_A [ob q_t 8 [.ref q_t_sort, .ref q_t_sold, .ref q_t_all, .int v_t_size], aI cy q_t_sort 12 v_t_sort, aI cy q_t_sold 12 v_t_sold, aI cy q_t_all 12 v_t_all] s.heap.size) 0 0) cy K n q_t q_t_sort q_t_sold q_t_all  v_t_sort v_t_sold v_t_all v_t_size out) : Z1_Shops_rareAtLeast (V p l e rm_Shops_rareAtLeast s m args below meth c (EQ below args s rm_Shops_rareAtLeast D [ob q_t 8 [.ref q_t_sort, .ref q_t_sold, .ref q_t_all, .int v_t_size], aI cy q_t_sort 12 v_t_sort, aI cy q_t_sold 12 v_t_sold, aI cy q_t_all 12 v_t_all] (some (.int out)) [ob q_t 8 [.ref q_t_sort, .ref q_t_sold, .ref q_t_all, .int v_t_size], aI cy q_t_sort 12 v_t_sort, aI cy q_t_sold 12 v_t_sold, aI cy q_t_all 12 v_t_all]) 5 D (va_A [ob q_t 8 [.ref q_t_sort, .ref q_t_sold, .ref q_t_all, .int v_t_size], aI cy q_t_sort 12 v_t_sort, aI cy q_t_sold 12 v_t_sold, aI cy q_t_all 12 v_t_all] s.heap.size) 0 0) cy K (n + 1) q_t q_t_sort q_t_sold q_t_all  v_t_sort v_t_sold v_t_all v_t_size out := by
  intro x1 x2 x3 y0 hf
  replace hf := hf
  refine v_istore_n (lv' := [(2, .int y0), (0, .ref q_t), (1, .int x1), (3, .int x3)]) C dX8_rareAtLeast_63 rfl (by decide) rfl ?_
  refine v_lv (lv' := [(0, .ref q_t), (1, .int x1), (2, .int y0), (3, .int x3)]) [1, 2, 0, 3] rfl ?_
  exact ih.2.2 _ _ _ _ hf
set_option maxHeartbeats 4000000 in
set_option maxRecDepth 20000 in
theorem z2_Shops_rareAtLeast {p : Program} {l : Launch} {e : Env} {s : State} {m : MethodId} {args : Array Value} {below : List Frame} {meth : Method} {c : Code} {D : va_G} {cy : Nat → ClassId} {K : Nat} {q_t q_t_sort q_t_sold q_t_all : Nat} {v_t_sort : Nat → Int32} {v_t_sold : Nat → Int32} {v_t_all : Nat → Int32} {v_t_size : Int32} {out : Int32} (C : VC p s m args c cX8_rareAtLeast RX8 5 D cy (va_A [ob q_t 8 [.ref q_t_sort, .ref q_t_sold, .ref q_t_all, .int v_t_size], aI cy q_t_sort 12 v_t_sort, aI cy q_t_sold 12 v_t_sold, aI cy q_t_all 12 v_t_all] s.heap.size)) (hr : meth.sig.returnType = (some .int)) (hlk : meth.locks = false) (n : Nat) (ih : Z_Shops_rareAtLeast (V p l e rm_Shops_rareAtLeast s m args below meth c (EQ below args s rm_Shops_rareAtLeast D [ob q_t 8 [.ref q_t_sort, .ref q_t_sold, .ref q_t_all, .int v_t_size], aI cy q_t_sort 12 v_t_sort, aI cy q_t_sold 12 v_t_sold, aI cy q_t_all 12 v_t_all] (some (.int out)) [ob q_t 8 [.ref q_t_sort, .ref q_t_sold, .ref q_t_all, .int v_t_size], aI cy q_t_sort 12 v_t_sort, aI cy q_t_sold 12 v_t_sold, aI cy q_t_all 12 v_t_all]) 5 D (va_A [ob q_t 8 [.ref q_t_sort, .ref q_t_sold, .ref q_t_all, .int v_t_size], aI cy q_t_sort 12 v_t_sort, aI cy q_t_sold 12 v_t_sold, aI cy q_t_all 12 v_t_all] s.heap.size) 0 0) cy K n q_t q_t_sort q_t_sold q_t_all  v_t_sort v_t_sold v_t_all v_t_size out) : Z2_Shops_rareAtLeast (V p l e rm_Shops_rareAtLeast s m args below meth c (EQ below args s rm_Shops_rareAtLeast D [ob q_t 8 [.ref q_t_sort, .ref q_t_sold, .ref q_t_all, .int v_t_size], aI cy q_t_sort 12 v_t_sort, aI cy q_t_sold 12 v_t_sold, aI cy q_t_all 12 v_t_all] (some (.int out)) [ob q_t 8 [.ref q_t_sort, .ref q_t_sold, .ref q_t_all, .int v_t_size], aI cy q_t_sort 12 v_t_sort, aI cy q_t_sold 12 v_t_sold, aI cy q_t_all 12 v_t_all]) 5 D (va_A [ob q_t 8 [.ref q_t_sort, .ref q_t_sold, .ref q_t_all, .int v_t_size], aI cy q_t_sort 12 v_t_sort, aI cy q_t_sold 12 v_t_sold, aI cy q_t_all 12 v_t_all] s.heap.size) 0 0) cy K (n + 1) q_t q_t_sort q_t_sold q_t_all  v_t_sort v_t_sold v_t_all v_t_size out := by
  intro x1 x2 x3 y0 hf
  replace hf := hf
  refine v_iinc (v := x3 + 1) (lv' := [(3, .int (x3 + 1)), (0, .ref q_t), (1, .int x1), (2, .int x2)]) C dX8_rareAtLeast_64 3 rfl rfl (by decide) rfl ?_
  refine v_goto (tgt := 4) C dX8_rareAtLeast_67 (by decide) ?_
  refine v_lv (lv' := [(0, .ref q_t), (1, .int x1), (2, .int x2), (3, .int (x3 + 1))]) [1, 2, 3, 0] rfl ?_
  exact ih.1 _ _ _ _ hf
theorem z_Shops_rareAtLeast {p : Program} {l : Launch} {e : Env} {s : State} {m : MethodId} {args : Array Value} {below : List Frame} {meth : Method} {c : Code} {D : va_G} {cy : Nat → ClassId} {K : Nat} {q_t q_t_sort q_t_sold q_t_all : Nat} {v_t_sort : Nat → Int32} {v_t_sold : Nat → Int32} {v_t_all : Nat → Int32} {v_t_size : Int32} {out : Int32} (C : VC p s m args c cX8_rareAtLeast RX8 5 D cy (va_A [ob q_t 8 [.ref q_t_sort, .ref q_t_sold, .ref q_t_all, .int v_t_size], aI cy q_t_sort 12 v_t_sort, aI cy q_t_sold 12 v_t_sold, aI cy q_t_all 12 v_t_all] s.heap.size)) (hr : meth.sig.returnType = (some .int)) (hlk : meth.locks = false) (n : Nat) : Z_Shops_rareAtLeast (V p l e rm_Shops_rareAtLeast s m args below meth c (EQ below args s rm_Shops_rareAtLeast D [ob q_t 8 [.ref q_t_sort, .ref q_t_sold, .ref q_t_all, .int v_t_size], aI cy q_t_sort 12 v_t_sort, aI cy q_t_sold 12 v_t_sold, aI cy q_t_all 12 v_t_all] (some (.int out)) [ob q_t 8 [.ref q_t_sort, .ref q_t_sold, .ref q_t_all, .int v_t_size], aI cy q_t_sort 12 v_t_sort, aI cy q_t_sold 12 v_t_sold, aI cy q_t_all 12 v_t_all]) 5 D (va_A [ob q_t 8 [.ref q_t_sort, .ref q_t_sold, .ref q_t_all, .int v_t_size], aI cy q_t_sort 12 v_t_sort, aI cy q_t_sold 12 v_t_sold, aI cy q_t_all 12 v_t_all] s.heap.size) 0 0) cy K n q_t q_t_sort q_t_sold q_t_all  v_t_sort v_t_sold v_t_all v_t_size out := by
  induction n with
  | zero => exact ⟨(fun _ _ _ _ h => nomatch h), (fun _ _ _ _ h => nomatch h), (fun _ _ _ _ h => nomatch h)⟩
  | succ n ih => exact ⟨z0_Shops_rareAtLeast C hr hlk n ih, z1_Shops_rareAtLeast C hr hlk n ih, z2_Shops_rareAtLeast C hr hlk n ih⟩
set_option maxHeartbeats 4000000 in
set_option maxRecDepth 20000 in
theorem c_Shops_rareAtLeast (l : Launch) (D : va_G) (cy : Nat → ClassId) (K : Nat) (q_t q_t_sort q_t_sold q_t_all : Nat) (p1 : Int32) (v_t_sort : Nat → Int32) (v_t_sold : Nat → Int32) (v_t_all : Nat → Int32) (v_t_size : Int32) (out : Int32) (hf : sp_Shops_rareAtLeast K p1 v_t_sort v_t_sold v_t_all v_t_size = some out) : Ct l yX8_rareAtLeast cX8_rareAtLeast 5 (some .int) rm_Shops_rareAtLeast D cy [.ref q_t, .int p1] [ob q_t 8 [.ref q_t_sort, .ref q_t_sold, .ref q_t_all, .int v_t_size], aI cy q_t_sort 12 v_t_sort, aI cy q_t_sold 12 v_t_sold, aI cy q_t_all 12 v_t_all] (some (.int out)) [ob q_t 8 [.ref q_t_sort, .ref q_t_sold, .ref q_t_all, .int v_t_size], aI cy q_t_sort 12 v_t_sort, aI cy q_t_sold 12 v_t_sold, aI cy q_t_all 12 v_t_all] := by
  refine ct_of (by decide +kernel) (Nat.le_of_ble_eq_true rfl) (fun p e s m args below meth c C hr hlk hnm => ?_)
  unfold sp_Shops_rareAtLeast at hf
  refine v_iconst (v := (-1)) C dX8_rareAtLeast_0 (by decide) ?_
  refine v_istore_n (lv' := [(2, .int (-1)), (0, .ref q_t), (1, .int p1)]) C dX8_rareAtLeast_1 rfl (by decide) rfl ?_
  refine v_iconst (v := 0) C dX8_rareAtLeast_2 (by decide) ?_
  refine v_istore_n (lv' := [(3, .int 0), (2, .int (-1)), (0, .ref q_t), (1, .int p1)]) C dX8_rareAtLeast_3 rfl (by decide) rfl ?_
  refine v_lv (lv' := [(0, .ref q_t), (1, .int p1), (2, .int (-1)), (3, .int 0)]) [2, 3, 1, 0] rfl ?_
  exact (z_Shops_rareAtLeast C hr hlk K).1 _ _ _ _ hf

abbrev rm_Shops_rareAtMost : Room := { frames := 1, cells := 0, slots := 0, locals := 23 }
def f_Shops_rareAtMost (K : Nat) (v_t_sort : Nat → Int32) (v_t_sold : Nat → Int32) (v_t_all : Nat → Int32) (v_t_size : Int32) : Nat → Nat → Int32 × Int32 × Int32 → Option (Int32)
  | 0, _, _ => none
  | n + 1, 0, (x1, x2, x3) =>
    if v_t_size ≤ x3 then
      some x2
    else
      if 12 ≤ x3 then
        some x2
      else
        if inb x3 12 then
          if (v_t_sort x3.toNatClampNeg) = x1 then
            if inb x3 12 then
              if inb x3 12 then
                (sp_Shops_thousandths K ((v_t_sold x3.toNatClampNeg).toInt64) ((v_t_all x3.toNatClampNeg).toInt64)).bind fun o43 =>
                  f_Shops_rareAtMost K v_t_sort v_t_sold v_t_all v_t_size n 1 (x1, if x2 < o43 then o43 else x2, x3)
              else none
            else none
          else
            f_Shops_rareAtMost K v_t_sort v_t_sold v_t_all v_t_size n 1 (x1, x2, x3)
        else none
  | n + 1, 1, (x1, x2, x3) =>
    f_Shops_rareAtMost K v_t_sort v_t_sold v_t_all v_t_size n 0 (x1, x2, x3 + 1)
  | _ + 1, _ + 2, _ => none
def sp_Shops_rareAtMost (K : Nat) (p1 : Int32) (v_t_sort : Nat → Int32) (v_t_sold : Nat → Int32) (v_t_all : Nat → Int32) (v_t_size : Int32) : Option (Int32) :=
  f_Shops_rareAtMost K v_t_sort v_t_sold v_t_all v_t_size K 0 (p1, (-1), 0)
def Z0_Shops_rareAtMost (Vf : va_W → Nat → List (Nat × Value) → List Value → Prop) (cy : Nat → ClassId) (K n : Nat) (q_t q_t_sort q_t_sold q_t_all : Nat) (v_t_sort : Nat → Int32) (v_t_sold : Nat → Int32) (v_t_all : Nat → Int32) (v_t_size : Int32) (out : Int32) : Prop := ∀ (x1 : Int32) (x2 : Int32) (x3 : Int32), f_Shops_rareAtMost K v_t_sort v_t_sold v_t_all v_t_size n 0 (x1, x2, x3) = some out → Vf [ob q_t 8 [.ref q_t_sort, .ref q_t_sold, .ref q_t_all, .int v_t_size], aI cy q_t_sort 12 v_t_sort, aI cy q_t_sold 12 v_t_sold, aI cy q_t_all 12 v_t_all] 4 [(0, .ref q_t), (1, .int x1), (2, .int x2), (3, .int x3)] []
def Z1_Shops_rareAtMost (Vf : va_W → Nat → List (Nat × Value) → List Value → Prop) (cy : Nat → ClassId) (K n : Nat) (q_t q_t_sort q_t_sold q_t_all : Nat) (v_t_sort : Nat → Int32) (v_t_sold : Nat → Int32) (v_t_all : Nat → Int32) (v_t_size : Int32) (out : Int32) : Prop := ∀ (x1 : Int32) (x2 : Int32) (x3 : Int32), f_Shops_rareAtMost K v_t_sort v_t_sold v_t_all v_t_size n 1 (x1, x2, x3) = some out → Vf [ob q_t 8 [.ref q_t_sort, .ref q_t_sold, .ref q_t_all, .int v_t_size], aI cy q_t_sort 12 v_t_sort, aI cy q_t_sold 12 v_t_sold, aI cy q_t_all 12 v_t_all] 50 [(0, .ref q_t), (1, .int x1), (2, .int x2), (3, .int x3)] []
def Z_Shops_rareAtMost (Vf : va_W → Nat → List (Nat × Value) → List Value → Prop) (cy : Nat → ClassId) (K n : Nat) (q_t q_t_sort q_t_sold q_t_all : Nat) (v_t_sort : Nat → Int32) (v_t_sold : Nat → Int32) (v_t_all : Nat → Int32) (v_t_size : Int32) (out : Int32) : Prop := Z0_Shops_rareAtMost Vf cy K n q_t q_t_sort q_t_sold q_t_all  v_t_sort v_t_sold v_t_all v_t_size out ∧ Z1_Shops_rareAtMost Vf cy K n q_t q_t_sort q_t_sold q_t_all  v_t_sort v_t_sold v_t_all v_t_size out
set_option maxHeartbeats 4000000 in
set_option maxRecDepth 20000 in
theorem z0_Shops_rareAtMost {p : Program} {l : Launch} {e : Env} {s : State} {m : MethodId} {args : Array Value} {below : List Frame} {meth : Method} {c : Code} {D : va_G} {cy : Nat → ClassId} {K : Nat} {q_t q_t_sort q_t_sold q_t_all : Nat} {v_t_sort : Nat → Int32} {v_t_sold : Nat → Int32} {v_t_all : Nat → Int32} {v_t_size : Int32} {out : Int32} (C : VC p s m args c cX8_rareAtMost RX8 4 D cy (va_A [ob q_t 8 [.ref q_t_sort, .ref q_t_sold, .ref q_t_all, .int v_t_size], aI cy q_t_sort 12 v_t_sort, aI cy q_t_sold 12 v_t_sold, aI cy q_t_all 12 v_t_all] s.heap.size)) (hr : meth.sig.returnType = (some .int)) (hlk : meth.locks = false) (n : Nat) (ih : Z_Shops_rareAtMost (V p l e rm_Shops_rareAtMost s m args below meth c (EQ below args s rm_Shops_rareAtMost D [ob q_t 8 [.ref q_t_sort, .ref q_t_sold, .ref q_t_all, .int v_t_size], aI cy q_t_sort 12 v_t_sort, aI cy q_t_sold 12 v_t_sold, aI cy q_t_all 12 v_t_all] (some (.int out)) [ob q_t 8 [.ref q_t_sort, .ref q_t_sold, .ref q_t_all, .int v_t_size], aI cy q_t_sort 12 v_t_sort, aI cy q_t_sold 12 v_t_sold, aI cy q_t_all 12 v_t_all]) 4 D (va_A [ob q_t 8 [.ref q_t_sort, .ref q_t_sold, .ref q_t_all, .int v_t_size], aI cy q_t_sort 12 v_t_sort, aI cy q_t_sold 12 v_t_sold, aI cy q_t_all 12 v_t_all] s.heap.size) 0 0) cy K n q_t q_t_sort q_t_sold q_t_all  v_t_sort v_t_sold v_t_all v_t_size out) : Z0_Shops_rareAtMost (V p l e rm_Shops_rareAtMost s m args below meth c (EQ below args s rm_Shops_rareAtMost D [ob q_t 8 [.ref q_t_sort, .ref q_t_sold, .ref q_t_all, .int v_t_size], aI cy q_t_sort 12 v_t_sort, aI cy q_t_sold 12 v_t_sold, aI cy q_t_all 12 v_t_all] (some (.int out)) [ob q_t 8 [.ref q_t_sort, .ref q_t_sold, .ref q_t_all, .int v_t_size], aI cy q_t_sort 12 v_t_sort, aI cy q_t_sold 12 v_t_sold, aI cy q_t_all 12 v_t_all]) 4 D (va_A [ob q_t 8 [.ref q_t_sort, .ref q_t_sold, .ref q_t_all, .int v_t_size], aI cy q_t_sort 12 v_t_sort, aI cy q_t_sold 12 v_t_sold, aI cy q_t_all 12 v_t_all] s.heap.size) 0 0) cy K (n + 1) q_t q_t_sort q_t_sold q_t_all  v_t_sort v_t_sold v_t_all v_t_size out := by
  intro x1 x2 x3 hf
  replace hf := hf
  refine v_iload_n C dX8_rareAtMost_4 3 rfl rfl ?_
  refine v_aload_n C dX8_rareAtMost_5 0 rfl rfl ?_
  refine v_get C fl_X8_21 0 rfl rfl dX8_rareAtMost_6 ?_
  refine v_icmp_ge (tgt := 56) C dX8_rareAtMost_9 (by decide) (fun c1 => ?_) (fun c1 => ?_)
  · replace hf := (if_pos c1).symm.trans hf
    refine v_iload_n C dX8_rareAtMost_56 2 rfl rfl ?_
    obtain rfl := Option.some.inj hf
    exact v_iret C hr hlk dX8_rareAtMost_57 rfl rfl rfl rfl
  · replace hf := (if_neg c1).symm.trans hf
    refine v_iload_n C dX8_rareAtMost_12 3 rfl rfl ?_
    refine v_bipush (v := 12) C dX8_rareAtMost_13 (by decide) ?_
    refine v_icmp_ge (tgt := 56) C dX8_rareAtMost_15 (by decide) (fun c2 => ?_) (fun c2 => ?_)
    · replace hf := (if_pos c2).symm.trans hf
      refine v_iload_n C dX8_rareAtMost_56 2 rfl rfl ?_
      obtain rfl := Option.some.inj hf
      exact v_iret C hr hlk dX8_rareAtMost_57 rfl rfl rfl rfl
    · replace hf := (if_neg c2).symm.trans hf
      refine v_aload_n C dX8_rareAtMost_18 0 rfl rfl ?_
      refine v_get C fl_X8_9 0 rfl rfl dX8_rareAtMost_19 ?_
      refine v_iload_n C dX8_rareAtMost_22 3 rfl rfl ?_
      obtain ⟨g3, hf⟩ := gd_ hf
      refine v_iald C 1 rfl g3 dX8_rareAtMost_23 ?_
      refine v_iload_n C dX8_rareAtMost_24 1 rfl rfl ?_
      refine v_icmp_ne (tgt := 50) C dX8_rareAtMost_25 (by decide) (fun c4 => ?_) (fun c4 => ?_)
      · replace hf := (if_neg c4).symm.trans hf
        exact ih.2 _ _ _ hf
      · replace hf := (if_pos c4).symm.trans hf
        refine v_iload_n C dX8_rareAtMost_28 2 rfl rfl ?_
        refine v_aload_n C dX8_rareAtMost_29 0 rfl rfl ?_
        refine v_get C fl_X8_15 0 rfl rfl dX8_rareAtMost_30 ?_
        refine v_iload_n C dX8_rareAtMost_33 3 rfl rfl ?_
        obtain ⟨g5, hf⟩ := gd_ hf
        refine v_iald C 2 rfl g5 dX8_rareAtMost_34 ?_
        refine v_i2l C dX8_rareAtMost_35 ?_
        refine v_aload_n C dX8_rareAtMost_36 0 rfl rfl ?_
        refine v_get C fl_X8_18 0 rfl rfl dX8_rareAtMost_37 ?_
        refine v_iload_n C dX8_rareAtMost_40 3 rfl rfl ?_
        obtain ⟨g6, hf⟩ := gd_ hf
        refine v_iald C 3 rfl g6 dX8_rareAtMost_41 ?_
        refine v_i2l C dX8_rareAtMost_42 ?_
        obtain ⟨o43, g7, hf⟩ := bd_ hf
        refine v_callS0 (As := [.long ((v_t_sold x3.toNatClampNeg).toInt64), .long ((v_t_all x3.toNatClampNeg).toInt64)]) (st := [.int x2]) (stk' := [.int o43, .int x2]) C (c_Shops_thousandths l D cy K   ((v_t_sold x3.toNatClampNeg).toInt64) ((v_t_all x3.toNatClampNeg).toInt64) o43 g7) ls_X8_33 rfl (by decide) rfl dX8_rareAtMost_43 (Nat.le_of_ble_eq_true rfl) rfl ?_
        refine v_mmax C mm_X8_43 mg_max ⟨Nat.le_of_ble_eq_true rfl, Nat.le_of_ble_eq_true rfl, Nat.le_of_ble_eq_true rfl, Nat.le_of_ble_eq_true rfl⟩ dX8_rareAtMost_46 ?_
        refine v_istore_n (lv' := [(2, .int (if x2 < o43 then o43 else x2)), (0, .ref q_t), (1, .int x1), (3, .int x3)]) C dX8_rareAtMost_49 rfl (by decide) rfl ?_
        refine v_lv (lv' := [(0, .ref q_t), (1, .int x1), (2, .int (if x2 < o43 then o43 else x2)), (3, .int x3)]) [1, 2, 0, 3] rfl ?_
        exact ih.2 _ _ _ hf
set_option maxHeartbeats 4000000 in
set_option maxRecDepth 20000 in
theorem z1_Shops_rareAtMost {p : Program} {l : Launch} {e : Env} {s : State} {m : MethodId} {args : Array Value} {below : List Frame} {meth : Method} {c : Code} {D : va_G} {cy : Nat → ClassId} {K : Nat} {q_t q_t_sort q_t_sold q_t_all : Nat} {v_t_sort : Nat → Int32} {v_t_sold : Nat → Int32} {v_t_all : Nat → Int32} {v_t_size : Int32} {out : Int32} (C : VC p s m args c cX8_rareAtMost RX8 4 D cy (va_A [ob q_t 8 [.ref q_t_sort, .ref q_t_sold, .ref q_t_all, .int v_t_size], aI cy q_t_sort 12 v_t_sort, aI cy q_t_sold 12 v_t_sold, aI cy q_t_all 12 v_t_all] s.heap.size)) (hr : meth.sig.returnType = (some .int)) (hlk : meth.locks = false) (n : Nat) (ih : Z_Shops_rareAtMost (V p l e rm_Shops_rareAtMost s m args below meth c (EQ below args s rm_Shops_rareAtMost D [ob q_t 8 [.ref q_t_sort, .ref q_t_sold, .ref q_t_all, .int v_t_size], aI cy q_t_sort 12 v_t_sort, aI cy q_t_sold 12 v_t_sold, aI cy q_t_all 12 v_t_all] (some (.int out)) [ob q_t 8 [.ref q_t_sort, .ref q_t_sold, .ref q_t_all, .int v_t_size], aI cy q_t_sort 12 v_t_sort, aI cy q_t_sold 12 v_t_sold, aI cy q_t_all 12 v_t_all]) 4 D (va_A [ob q_t 8 [.ref q_t_sort, .ref q_t_sold, .ref q_t_all, .int v_t_size], aI cy q_t_sort 12 v_t_sort, aI cy q_t_sold 12 v_t_sold, aI cy q_t_all 12 v_t_all] s.heap.size) 0 0) cy K n q_t q_t_sort q_t_sold q_t_all  v_t_sort v_t_sold v_t_all v_t_size out) : Z1_Shops_rareAtMost (V p l e rm_Shops_rareAtMost s m args below meth c (EQ below args s rm_Shops_rareAtMost D [ob q_t 8 [.ref q_t_sort, .ref q_t_sold, .ref q_t_all, .int v_t_size], aI cy q_t_sort 12 v_t_sort, aI cy q_t_sold 12 v_t_sold, aI cy q_t_all 12 v_t_all] (some (.int out)) [ob q_t 8 [.ref q_t_sort, .ref q_t_sold, .ref q_t_all, .int v_t_size], aI cy q_t_sort 12 v_t_sort, aI cy q_t_sold 12 v_t_sold, aI cy q_t_all 12 v_t_all]) 4 D (va_A [ob q_t 8 [.ref q_t_sort, .ref q_t_sold, .ref q_t_all, .int v_t_size], aI cy q_t_sort 12 v_t_sort, aI cy q_t_sold 12 v_t_sold, aI cy q_t_all 12 v_t_all] s.heap.size) 0 0) cy K (n + 1) q_t q_t_sort q_t_sold q_t_all  v_t_sort v_t_sold v_t_all v_t_size out := by
  intro x1 x2 x3 hf
  replace hf := hf
  refine v_iinc (v := x3 + 1) (lv' := [(3, .int (x3 + 1)), (0, .ref q_t), (1, .int x1), (2, .int x2)]) C dX8_rareAtMost_50 3 rfl rfl (by decide) rfl ?_
  refine v_goto (tgt := 4) C dX8_rareAtMost_53 (by decide) ?_
  refine v_lv (lv' := [(0, .ref q_t), (1, .int x1), (2, .int x2), (3, .int (x3 + 1))]) [1, 2, 3, 0] rfl ?_
  exact ih.1 _ _ _ hf
theorem z_Shops_rareAtMost {p : Program} {l : Launch} {e : Env} {s : State} {m : MethodId} {args : Array Value} {below : List Frame} {meth : Method} {c : Code} {D : va_G} {cy : Nat → ClassId} {K : Nat} {q_t q_t_sort q_t_sold q_t_all : Nat} {v_t_sort : Nat → Int32} {v_t_sold : Nat → Int32} {v_t_all : Nat → Int32} {v_t_size : Int32} {out : Int32} (C : VC p s m args c cX8_rareAtMost RX8 4 D cy (va_A [ob q_t 8 [.ref q_t_sort, .ref q_t_sold, .ref q_t_all, .int v_t_size], aI cy q_t_sort 12 v_t_sort, aI cy q_t_sold 12 v_t_sold, aI cy q_t_all 12 v_t_all] s.heap.size)) (hr : meth.sig.returnType = (some .int)) (hlk : meth.locks = false) (n : Nat) : Z_Shops_rareAtMost (V p l e rm_Shops_rareAtMost s m args below meth c (EQ below args s rm_Shops_rareAtMost D [ob q_t 8 [.ref q_t_sort, .ref q_t_sold, .ref q_t_all, .int v_t_size], aI cy q_t_sort 12 v_t_sort, aI cy q_t_sold 12 v_t_sold, aI cy q_t_all 12 v_t_all] (some (.int out)) [ob q_t 8 [.ref q_t_sort, .ref q_t_sold, .ref q_t_all, .int v_t_size], aI cy q_t_sort 12 v_t_sort, aI cy q_t_sold 12 v_t_sold, aI cy q_t_all 12 v_t_all]) 4 D (va_A [ob q_t 8 [.ref q_t_sort, .ref q_t_sold, .ref q_t_all, .int v_t_size], aI cy q_t_sort 12 v_t_sort, aI cy q_t_sold 12 v_t_sold, aI cy q_t_all 12 v_t_all] s.heap.size) 0 0) cy K n q_t q_t_sort q_t_sold q_t_all  v_t_sort v_t_sold v_t_all v_t_size out := by
  induction n with
  | zero => exact ⟨(fun _ _ _ h => nomatch h), (fun _ _ _ h => nomatch h)⟩
  | succ n ih => exact ⟨z0_Shops_rareAtMost C hr hlk n ih, z1_Shops_rareAtMost C hr hlk n ih⟩
set_option maxHeartbeats 4000000 in
set_option maxRecDepth 20000 in
theorem c_Shops_rareAtMost (l : Launch) (D : va_G) (cy : Nat → ClassId) (K : Nat) (q_t q_t_sort q_t_sold q_t_all : Nat) (p1 : Int32) (v_t_sort : Nat → Int32) (v_t_sold : Nat → Int32) (v_t_all : Nat → Int32) (v_t_size : Int32) (out : Int32) (hf : sp_Shops_rareAtMost K p1 v_t_sort v_t_sold v_t_all v_t_size = some out) : Ct l yX8_rareAtMost cX8_rareAtMost 4 (some .int) rm_Shops_rareAtMost D cy [.ref q_t, .int p1] [ob q_t 8 [.ref q_t_sort, .ref q_t_sold, .ref q_t_all, .int v_t_size], aI cy q_t_sort 12 v_t_sort, aI cy q_t_sold 12 v_t_sold, aI cy q_t_all 12 v_t_all] (some (.int out)) [ob q_t 8 [.ref q_t_sort, .ref q_t_sold, .ref q_t_all, .int v_t_size], aI cy q_t_sort 12 v_t_sort, aI cy q_t_sold 12 v_t_sold, aI cy q_t_all 12 v_t_all] := by
  refine ct_of (by decide +kernel) (Nat.le_of_ble_eq_true rfl) (fun p e s m args below meth c C hr hlk hnm => ?_)
  unfold sp_Shops_rareAtMost at hf
  refine v_iconst (v := (-1)) C dX8_rareAtMost_0 (by decide) ?_
  refine v_istore_n (lv' := [(2, .int (-1)), (0, .ref q_t), (1, .int p1)]) C dX8_rareAtMost_1 rfl (by decide) rfl ?_
  refine v_iconst (v := 0) C dX8_rareAtMost_2 (by decide) ?_
  refine v_istore_n (lv' := [(3, .int 0), (2, .int (-1)), (0, .ref q_t), (1, .int p1)]) C dX8_rareAtMost_3 rfl (by decide) rfl ?_
  refine v_lv (lv' := [(0, .ref q_t), (1, .int p1), (2, .int (-1)), (3, .int 0)]) [2, 3, 1, 0] rfl ?_
  exact (z_Shops_rareAtMost C hr hlk K).1 _ _ _ hf

abbrev rm_Evidence_copy : Room := { frames := 3, cells := 0, slots := 0, locals := 67 }
def sp_Evidence_copy (K : Nat) (v_t_finds_place : Nat → Int32) (v_t_finds_hour : Nat → Int32) (v_t_finds_sort : Nat → Int32) (v_t_finds_many : Nat → Int32) (v_t_finds_size : Int32) (v_t_seats_sorts : Nat → Int32) (v_t_seats_size : Int32) (v_t_shops_sort : Nat → Int32) (v_t_shops_sold : Nat → Int32) (v_t_shops_all : Nat → Int32) (v_t_shops_size : Int32) (v_p1_finds_place : Nat → Int32) (v_p1_finds_hour : Nat → Int32) (v_p1_finds_sort : Nat → Int32) (v_p1_finds_many : Nat → Int32) (v_p1_finds_size : Int32) (v_p1_seats_sorts : Nat → Int32) (v_p1_seats_size : Int32) (v_p1_shops_sort : Nat → Int32) (v_p1_shops_sold : Nat → Int32) (v_p1_shops_all : Nat → Int32) (v_p1_shops_size : Int32) : Option ((Nat → Int32) × (Nat → Int32) × (Nat → Int32) × (Nat → Int32) × Int32 × (Nat → Int32) × Int32 × (Nat → Int32) × (Nat → Int32) × (Nat → Int32) × Int32) :=
  (sp_Finds_copy K v_t_finds_place v_t_finds_hour v_t_finds_sort v_t_finds_many v_t_finds_size v_p1_finds_place v_p1_finds_hour v_p1_finds_sort v_p1_finds_many v_p1_finds_size).bind fun o8 =>
    (sp_Seats_copy K v_t_seats_sorts v_t_seats_size v_p1_seats_sorts v_p1_seats_size).bind fun o19 =>
      (sp_Shops_copy K v_t_shops_sort v_t_shops_sold v_t_shops_all v_t_shops_size v_p1_shops_sort v_p1_shops_sold v_p1_shops_all v_p1_shops_size).bind fun o30 =>
        some (o8.1, o8.2.1, o8.2.2.1, o8.2.2.2.1, o8.2.2.2.2, o19.1, o19.2, o30.1, o30.2.1, o30.2.2.1, o30.2.2.2)
set_option maxHeartbeats 4000000 in
set_option maxRecDepth 20000 in
theorem c_Evidence_copy (l : Launch) (D : va_G) (cy : Nat → ClassId) (K : Nat) (q_t q_t_finds q_t_finds_place q_t_finds_hour q_t_finds_sort q_t_finds_many q_t_seats q_t_seats_sorts q_t_shops q_t_shops_sort q_t_shops_sold q_t_shops_all q_p1 q_p1_finds q_p1_finds_place q_p1_finds_hour q_p1_finds_sort q_p1_finds_many q_p1_seats q_p1_seats_sorts q_p1_shops q_p1_shops_sort q_p1_shops_sold q_p1_shops_all : Nat) (v_t_finds_place : Nat → Int32) (v_t_finds_hour : Nat → Int32) (v_t_finds_sort : Nat → Int32) (v_t_finds_many : Nat → Int32) (v_t_finds_size : Int32) (v_t_seats_sorts : Nat → Int32) (v_t_seats_size : Int32) (v_t_shops_sort : Nat → Int32) (v_t_shops_sold : Nat → Int32) (v_t_shops_all : Nat → Int32) (v_t_shops_size : Int32) (v_p1_finds_place : Nat → Int32) (v_p1_finds_hour : Nat → Int32) (v_p1_finds_sort : Nat → Int32) (v_p1_finds_many : Nat → Int32) (v_p1_finds_size : Int32) (v_p1_seats_sorts : Nat → Int32) (v_p1_seats_size : Int32) (v_p1_shops_sort : Nat → Int32) (v_p1_shops_sold : Nat → Int32) (v_p1_shops_all : Nat → Int32) (v_p1_shops_size : Int32) (out : (Nat → Int32) × (Nat → Int32) × (Nat → Int32) × (Nat → Int32) × Int32 × (Nat → Int32) × Int32 × (Nat → Int32) × (Nat → Int32) × (Nat → Int32) × Int32) (hf : sp_Evidence_copy K v_t_finds_place v_t_finds_hour v_t_finds_sort v_t_finds_many v_t_finds_size v_t_seats_sorts v_t_seats_size v_t_shops_sort v_t_shops_sold v_t_shops_all v_t_shops_size v_p1_finds_place v_p1_finds_hour v_p1_finds_sort v_p1_finds_many v_p1_finds_size v_p1_seats_sorts v_p1_seats_size v_p1_shops_sort v_p1_shops_sold v_p1_shops_all v_p1_shops_size = some out) : Ct l yX2_copy cX2_copy 2 none rm_Evidence_copy D cy [.ref q_t, .ref q_p1] [ob q_t 2 [.ref q_t_finds, .ref q_t_seats, .ref q_t_shops], ob q_t_finds 3 [.ref q_t_finds_place, .ref q_t_finds_hour, .ref q_t_finds_sort, .ref q_t_finds_many, .int v_t_finds_size], aI cy q_t_finds_place 8 v_t_finds_place, aI cy q_t_finds_hour 8 v_t_finds_hour, aI cy q_t_finds_sort 8 v_t_finds_sort, aI cy q_t_finds_many 8 v_t_finds_many, ob q_t_seats 7 [.ref q_t_seats_sorts, .int v_t_seats_size], aI cy q_t_seats_sorts 40 v_t_seats_sorts, ob q_t_shops 8 [.ref q_t_shops_sort, .ref q_t_shops_sold, .ref q_t_shops_all, .int v_t_shops_size], aI cy q_t_shops_sort 12 v_t_shops_sort, aI cy q_t_shops_sold 12 v_t_shops_sold, aI cy q_t_shops_all 12 v_t_shops_all, ob q_p1 2 [.ref q_p1_finds, .ref q_p1_seats, .ref q_p1_shops], ob q_p1_finds 3 [.ref q_p1_finds_place, .ref q_p1_finds_hour, .ref q_p1_finds_sort, .ref q_p1_finds_many, .int v_p1_finds_size], aI cy q_p1_finds_place 8 v_p1_finds_place, aI cy q_p1_finds_hour 8 v_p1_finds_hour, aI cy q_p1_finds_sort 8 v_p1_finds_sort, aI cy q_p1_finds_many 8 v_p1_finds_many, ob q_p1_seats 7 [.ref q_p1_seats_sorts, .int v_p1_seats_size], aI cy q_p1_seats_sorts 40 v_p1_seats_sorts, ob q_p1_shops 8 [.ref q_p1_shops_sort, .ref q_p1_shops_sold, .ref q_p1_shops_all, .int v_p1_shops_size], aI cy q_p1_shops_sort 12 v_p1_shops_sort, aI cy q_p1_shops_sold 12 v_p1_shops_sold, aI cy q_p1_shops_all 12 v_p1_shops_all] none [ob q_t 2 [.ref q_t_finds, .ref q_t_seats, .ref q_t_shops], ob q_t_finds 3 [.ref q_t_finds_place, .ref q_t_finds_hour, .ref q_t_finds_sort, .ref q_t_finds_many, .int out.2.2.2.2.1], aI cy q_t_finds_place 8 out.1, aI cy q_t_finds_hour 8 out.2.1, aI cy q_t_finds_sort 8 out.2.2.1, aI cy q_t_finds_many 8 out.2.2.2.1, ob q_t_seats 7 [.ref q_t_seats_sorts, .int out.2.2.2.2.2.2.1], aI cy q_t_seats_sorts 40 out.2.2.2.2.2.1, ob q_t_shops 8 [.ref q_t_shops_sort, .ref q_t_shops_sold, .ref q_t_shops_all, .int out.2.2.2.2.2.2.2.2.2.2], aI cy q_t_shops_sort 12 out.2.2.2.2.2.2.2.1, aI cy q_t_shops_sold 12 out.2.2.2.2.2.2.2.2.1, aI cy q_t_shops_all 12 out.2.2.2.2.2.2.2.2.2.1, ob q_p1 2 [.ref q_p1_finds, .ref q_p1_seats, .ref q_p1_shops], ob q_p1_finds 3 [.ref q_p1_finds_place, .ref q_p1_finds_hour, .ref q_p1_finds_sort, .ref q_p1_finds_many, .int v_p1_finds_size], aI cy q_p1_finds_place 8 v_p1_finds_place, aI cy q_p1_finds_hour 8 v_p1_finds_hour, aI cy q_p1_finds_sort 8 v_p1_finds_sort, aI cy q_p1_finds_many 8 v_p1_finds_many, ob q_p1_seats 7 [.ref q_p1_seats_sorts, .int v_p1_seats_size], aI cy q_p1_seats_sorts 40 v_p1_seats_sorts, ob q_p1_shops 8 [.ref q_p1_shops_sort, .ref q_p1_shops_sold, .ref q_p1_shops_all, .int v_p1_shops_size], aI cy q_p1_shops_sort 12 v_p1_shops_sort, aI cy q_p1_shops_sold 12 v_p1_shops_sold, aI cy q_p1_shops_all 12 v_p1_shops_all] := by
  refine ct_of (by decide +kernel) (Nat.le_of_ble_eq_true rfl) (fun p e s m args below meth c C hr hlk hnm => ?_)
  unfold sp_Evidence_copy at hf
  refine v_aload_n C dX2_copy_0 0 rfl rfl ?_
  refine v_get C fl_X2_10 0 rfl rfl dX2_copy_1 ?_
  refine v_aload_n C dX2_copy_4 1 rfl rfl ?_
  refine v_get C fl_X2_10 12 rfl rfl dX2_copy_5 ?_
  obtain ⟨o8, g1, hf⟩ := bd_ hf
  refine v_callV (As := [.ref q_p1_finds]) (wr := [ob q_t 2 [.ref q_t_finds, .ref q_t_seats, .ref q_t_shops], ob q_t_seats 7 [.ref q_t_seats_sorts, .int v_t_seats_size], aI cy q_t_seats_sorts 40 v_t_seats_sorts, ob q_t_shops 8 [.ref q_t_shops_sort, .ref q_t_shops_sold, .ref q_t_shops_all, .int v_t_shops_size], aI cy q_t_shops_sort 12 v_t_shops_sort, aI cy q_t_shops_sold 12 v_t_shops_sold, aI cy q_t_shops_all 12 v_t_shops_all, ob q_p1 2 [.ref q_p1_finds, .ref q_p1_seats, .ref q_p1_shops], ob q_p1_seats 7 [.ref q_p1_seats_sorts, .int v_p1_seats_size], aI cy q_p1_seats_sorts 40 v_p1_seats_sorts, ob q_p1_shops 8 [.ref q_p1_shops_sort, .ref q_p1_shops_sold, .ref q_p1_shops_all, .int v_p1_shops_size], aI cy q_p1_shops_sort 12 v_p1_shops_sort, aI cy q_p1_shops_sold 12 v_p1_shops_sold, aI cy q_p1_shops_all 12 v_p1_shops_all]) (ws' := [ob q_t 2 [.ref q_t_finds, .ref q_t_seats, .ref q_t_shops], ob q_t_seats 7 [.ref q_t_seats_sorts, .int v_t_seats_size], aI cy q_t_seats_sorts 40 v_t_seats_sorts, ob q_t_shops 8 [.ref q_t_shops_sort, .ref q_t_shops_sold, .ref q_t_shops_all, .int v_t_shops_size], aI cy q_t_shops_sort 12 v_t_shops_sort, aI cy q_t_shops_sold 12 v_t_shops_sold, aI cy q_t_shops_all 12 v_t_shops_all, ob q_p1 2 [.ref q_p1_finds, .ref q_p1_seats, .ref q_p1_shops], ob q_p1_seats 7 [.ref q_p1_seats_sorts, .int v_p1_seats_size], aI cy q_p1_seats_sorts 40 v_p1_seats_sorts, ob q_p1_shops 8 [.ref q_p1_shops_sort, .ref q_p1_shops_sold, .ref q_p1_shops_all, .int v_p1_shops_size], aI cy q_p1_shops_sort 12 v_p1_shops_sort, aI cy q_p1_shops_sold 12 v_p1_shops_sold, aI cy q_p1_shops_all 12 v_p1_shops_all, ob q_t_finds 3 [.ref q_t_finds_place, .ref q_t_finds_hour, .ref q_t_finds_sort, .ref q_t_finds_many, .int o8.2.2.2.2], aI cy q_t_finds_place 8 o8.1, aI cy q_t_finds_hour 8 o8.2.1, aI cy q_t_finds_sort 8 o8.2.2.1, aI cy q_t_finds_many 8 o8.2.2.2.1, ob q_p1_finds 3 [.ref q_p1_finds_place, .ref q_p1_finds_hour, .ref q_p1_finds_sort, .ref q_p1_finds_many, .int v_p1_finds_size], aI cy q_p1_finds_place 8 v_p1_finds_place, aI cy q_p1_finds_hour 8 v_p1_finds_hour, aI cy q_p1_finds_sort 8 v_p1_finds_sort, aI cy q_p1_finds_many 8 v_p1_finds_many]) (st := []) (stk' := []) C (c_Finds_copy l D cy K q_t_finds q_t_finds_place q_t_finds_hour q_t_finds_sort q_t_finds_many q_p1_finds q_p1_finds_place q_p1_finds_hour q_p1_finds_sort q_p1_finds_many  v_t_finds_place v_t_finds_hour v_t_finds_sort v_t_finds_many v_t_finds_size v_p1_finds_place v_p1_finds_hour v_p1_finds_sort v_p1_finds_many v_p1_finds_size o8 g1) lv_X2_30 rfl (by decide) rfl 1 rfl rfl rfl dX2_copy_8 [1, 2, 3, 4, 5, 13, 14, 15, 16, 17] [0, 6, 7, 8, 9, 10, 11, 12, 18, 19, 20, 21, 22, 23] (by decide) rfl rfl (by decide) (by decide) (Nat.le_of_ble_eq_true rfl) rfl rfl ?_
  refine v_aload_n C dX2_copy_11 0 rfl rfl ?_
  refine v_get C fl_X2_19 0 rfl rfl dX2_copy_12 ?_
  refine v_aload_n C dX2_copy_15 1 rfl rfl ?_
  refine v_get C fl_X2_19 7 rfl rfl dX2_copy_16 ?_
  obtain ⟨o19, g2, hf⟩ := bd_ hf
  refine v_callV (As := [.ref q_p1_seats]) (wr := [ob q_t 2 [.ref q_t_finds, .ref q_t_seats, .ref q_t_shops], ob q_t_shops 8 [.ref q_t_shops_sort, .ref q_t_shops_sold, .ref q_t_shops_all, .int v_t_shops_size], aI cy q_t_shops_sort 12 v_t_shops_sort, aI cy q_t_shops_sold 12 v_t_shops_sold, aI cy q_t_shops_all 12 v_t_shops_all, ob q_p1 2 [.ref q_p1_finds, .ref q_p1_seats, .ref q_p1_shops], ob q_p1_shops 8 [.ref q_p1_shops_sort, .ref q_p1_shops_sold, .ref q_p1_shops_all, .int v_p1_shops_size], aI cy q_p1_shops_sort 12 v_p1_shops_sort, aI cy q_p1_shops_sold 12 v_p1_shops_sold, aI cy q_p1_shops_all 12 v_p1_shops_all, ob q_t_finds 3 [.ref q_t_finds_place, .ref q_t_finds_hour, .ref q_t_finds_sort, .ref q_t_finds_many, .int o8.2.2.2.2], aI cy q_t_finds_place 8 o8.1, aI cy q_t_finds_hour 8 o8.2.1, aI cy q_t_finds_sort 8 o8.2.2.1, aI cy q_t_finds_many 8 o8.2.2.2.1, ob q_p1_finds 3 [.ref q_p1_finds_place, .ref q_p1_finds_hour, .ref q_p1_finds_sort, .ref q_p1_finds_many, .int v_p1_finds_size], aI cy q_p1_finds_place 8 v_p1_finds_place, aI cy q_p1_finds_hour 8 v_p1_finds_hour, aI cy q_p1_finds_sort 8 v_p1_finds_sort, aI cy q_p1_finds_many 8 v_p1_finds_many]) (ws' := [ob q_t 2 [.ref q_t_finds, .ref q_t_seats, .ref q_t_shops], ob q_t_shops 8 [.ref q_t_shops_sort, .ref q_t_shops_sold, .ref q_t_shops_all, .int v_t_shops_size], aI cy q_t_shops_sort 12 v_t_shops_sort, aI cy q_t_shops_sold 12 v_t_shops_sold, aI cy q_t_shops_all 12 v_t_shops_all, ob q_p1 2 [.ref q_p1_finds, .ref q_p1_seats, .ref q_p1_shops], ob q_p1_shops 8 [.ref q_p1_shops_sort, .ref q_p1_shops_sold, .ref q_p1_shops_all, .int v_p1_shops_size], aI cy q_p1_shops_sort 12 v_p1_shops_sort, aI cy q_p1_shops_sold 12 v_p1_shops_sold, aI cy q_p1_shops_all 12 v_p1_shops_all, ob q_t_finds 3 [.ref q_t_finds_place, .ref q_t_finds_hour, .ref q_t_finds_sort, .ref q_t_finds_many, .int o8.2.2.2.2], aI cy q_t_finds_place 8 o8.1, aI cy q_t_finds_hour 8 o8.2.1, aI cy q_t_finds_sort 8 o8.2.2.1, aI cy q_t_finds_many 8 o8.2.2.2.1, ob q_p1_finds 3 [.ref q_p1_finds_place, .ref q_p1_finds_hour, .ref q_p1_finds_sort, .ref q_p1_finds_many, .int v_p1_finds_size], aI cy q_p1_finds_place 8 v_p1_finds_place, aI cy q_p1_finds_hour 8 v_p1_finds_hour, aI cy q_p1_finds_sort 8 v_p1_finds_sort, aI cy q_p1_finds_many 8 v_p1_finds_many, ob q_t_seats 7 [.ref q_t_seats_sorts, .int o19.2], aI cy q_t_seats_sorts 40 o19.1, ob q_p1_seats 7 [.ref q_p1_seats_sorts, .int v_p1_seats_size], aI cy q_p1_seats_sorts 40 v_p1_seats_sorts]) (st := []) (stk' := []) C (c_Seats_copy l D cy K q_t_seats q_t_seats_sorts q_p1_seats q_p1_seats_sorts  v_t_seats_sorts v_t_seats_size v_p1_seats_sorts v_p1_seats_size o19 g2) lv_X2_34 rfl (by decide) rfl 1 rfl rfl rfl dX2_copy_19 [1, 2, 8, 9] [0, 3, 4, 5, 6, 7, 10, 11, 12, 13, 14, 15, 16, 17, 18, 19, 20, 21, 22, 23] (by decide) rfl rfl (by decide) (by decide) (Nat.le_of_ble_eq_true rfl) rfl rfl ?_
  refine v_aload_n C dX2_copy_22 0 rfl rfl ?_
  refine v_get C fl_X2_26 0 rfl rfl dX2_copy_23 ?_
  refine v_aload_n C dX2_copy_26 1 rfl rfl ?_
  refine v_get C fl_X2_26 5 rfl rfl dX2_copy_27 ?_
  obtain ⟨o30, g3, hf⟩ := bd_ hf
  refine v_callV (As := [.ref q_p1_shops]) (wr := [ob q_t 2 [.ref q_t_finds, .ref q_t_seats, .ref q_t_shops], ob q_p1 2 [.ref q_p1_finds, .ref q_p1_seats, .ref q_p1_shops], ob q_t_finds 3 [.ref q_t_finds_place, .ref q_t_finds_hour, .ref q_t_finds_sort, .ref q_t_finds_many, .int o8.2.2.2.2], aI cy q_t_finds_place 8 o8.1, aI cy q_t_finds_hour 8 o8.2.1, aI cy q_t_finds_sort 8 o8.2.2.1, aI cy q_t_finds_many 8 o8.2.2.2.1, ob q_p1_finds 3 [.ref q_p1_finds_place, .ref q_p1_finds_hour, .ref q_p1_finds_sort, .ref q_p1_finds_many, .int v_p1_finds_size], aI cy q_p1_finds_place 8 v_p1_finds_place, aI cy q_p1_finds_hour 8 v_p1_finds_hour, aI cy q_p1_finds_sort 8 v_p1_finds_sort, aI cy q_p1_finds_many 8 v_p1_finds_many, ob q_t_seats 7 [.ref q_t_seats_sorts, .int o19.2], aI cy q_t_seats_sorts 40 o19.1, ob q_p1_seats 7 [.ref q_p1_seats_sorts, .int v_p1_seats_size], aI cy q_p1_seats_sorts 40 v_p1_seats_sorts]) (ws' := [ob q_t 2 [.ref q_t_finds, .ref q_t_seats, .ref q_t_shops], ob q_p1 2 [.ref q_p1_finds, .ref q_p1_seats, .ref q_p1_shops], ob q_t_finds 3 [.ref q_t_finds_place, .ref q_t_finds_hour, .ref q_t_finds_sort, .ref q_t_finds_many, .int o8.2.2.2.2], aI cy q_t_finds_place 8 o8.1, aI cy q_t_finds_hour 8 o8.2.1, aI cy q_t_finds_sort 8 o8.2.2.1, aI cy q_t_finds_many 8 o8.2.2.2.1, ob q_p1_finds 3 [.ref q_p1_finds_place, .ref q_p1_finds_hour, .ref q_p1_finds_sort, .ref q_p1_finds_many, .int v_p1_finds_size], aI cy q_p1_finds_place 8 v_p1_finds_place, aI cy q_p1_finds_hour 8 v_p1_finds_hour, aI cy q_p1_finds_sort 8 v_p1_finds_sort, aI cy q_p1_finds_many 8 v_p1_finds_many, ob q_t_seats 7 [.ref q_t_seats_sorts, .int o19.2], aI cy q_t_seats_sorts 40 o19.1, ob q_p1_seats 7 [.ref q_p1_seats_sorts, .int v_p1_seats_size], aI cy q_p1_seats_sorts 40 v_p1_seats_sorts, ob q_t_shops 8 [.ref q_t_shops_sort, .ref q_t_shops_sold, .ref q_t_shops_all, .int o30.2.2.2], aI cy q_t_shops_sort 12 o30.1, aI cy q_t_shops_sold 12 o30.2.1, aI cy q_t_shops_all 12 o30.2.2.1, ob q_p1_shops 8 [.ref q_p1_shops_sort, .ref q_p1_shops_sold, .ref q_p1_shops_all, .int v_p1_shops_size], aI cy q_p1_shops_sort 12 v_p1_shops_sort, aI cy q_p1_shops_sold 12 v_p1_shops_sold, aI cy q_p1_shops_all 12 v_p1_shops_all]) (st := []) (stk' := []) C (c_Shops_copy l D cy K q_t_shops q_t_shops_sort q_t_shops_sold q_t_shops_all q_p1_shops q_p1_shops_sort q_p1_shops_sold q_p1_shops_all  v_t_shops_sort v_t_shops_sold v_t_shops_all v_t_shops_size v_p1_shops_sort v_p1_shops_sold v_p1_shops_all v_p1_shops_size o30 g3) lv_X2_37 rfl (by decide) rfl 1 rfl rfl rfl dX2_copy_30 [1, 2, 3, 4, 6, 7, 8, 9] [0, 5, 10, 11, 12, 13, 14, 15, 16, 17, 18, 19, 20, 21, 22, 23] (by decide) rfl rfl (by decide) (by decide) (Nat.le_of_ble_eq_true rfl) rfl rfl ?_
  refine v_ws (ws' := [ob q_t 2 [.ref q_t_finds, .ref q_t_seats, .ref q_t_shops], ob q_t_finds 3 [.ref q_t_finds_place, .ref q_t_finds_hour, .ref q_t_finds_sort, .ref q_t_finds_many, .int o8.2.2.2.2], aI cy q_t_finds_place 8 o8.1, aI cy q_t_finds_hour 8 o8.2.1, aI cy q_t_finds_sort 8 o8.2.2.1, aI cy q_t_finds_many 8 o8.2.2.2.1, ob q_t_seats 7 [.ref q_t_seats_sorts, .int o19.2], aI cy q_t_seats_sorts 40 o19.1, ob q_t_shops 8 [.ref q_t_shops_sort, .ref q_t_shops_sold, .ref q_t_shops_all, .int o30.2.2.2], aI cy q_t_shops_sort 12 o30.1, aI cy q_t_shops_sold 12 o30.2.1, aI cy q_t_shops_all 12 o30.2.2.1, ob q_p1 2 [.ref q_p1_finds, .ref q_p1_seats, .ref q_p1_shops], ob q_p1_finds 3 [.ref q_p1_finds_place, .ref q_p1_finds_hour, .ref q_p1_finds_sort, .ref q_p1_finds_many, .int v_p1_finds_size], aI cy q_p1_finds_place 8 v_p1_finds_place, aI cy q_p1_finds_hour 8 v_p1_finds_hour, aI cy q_p1_finds_sort 8 v_p1_finds_sort, aI cy q_p1_finds_many 8 v_p1_finds_many, ob q_p1_seats 7 [.ref q_p1_seats_sorts, .int v_p1_seats_size], aI cy q_p1_seats_sorts 40 v_p1_seats_sorts, ob q_p1_shops 8 [.ref q_p1_shops_sort, .ref q_p1_shops_sold, .ref q_p1_shops_all, .int v_p1_shops_size], aI cy q_p1_shops_sort 12 v_p1_shops_sort, aI cy q_p1_shops_sold 12 v_p1_shops_sold, aI cy q_p1_shops_all 12 v_p1_shops_all]) [0, 2, 3, 4, 5, 6, 12, 13, 16, 17, 18, 19, 1, 7, 8, 9, 10, 11, 14, 15, 20, 21, 22, 23] (by decide) rfl ?_
  obtain rfl := Option.some.inj hf
  exact v_vret C hr hlk dX2_copy_33 rfl rfl rfl rfl
