abbrev rm_Story_add : Room := { frames := 1, cells := 0, slots := 0, locals := 21 }
def sp_Story_add (K : Nat) (p1 : Int32) (p2 : Int32) (p3 : Int32) (p4 : Int32) (v_t_kind : Nat → Int32) (v_t_one : Nat → Int32) (v_t_two : Nat → Int32) (v_t_hour : Nat → Int32) (v_t_size : Int32) : Option ((Nat → Int32) × (Nat → Int32) × (Nat → Int32) × (Nat → Int32) × Int32) :=
  (sp_within K v_t_size 21).bind fun o6 =>
    if o6 = 0 then
      some (v_t_kind, v_t_one, v_t_two, v_t_hour, v_t_size)
    else
      if inb v_t_size 21 then
        if inb v_t_size 21 then
          if inb v_t_size 21 then
            if inb v_t_size 21 then
              some (upd v_t_kind v_t_size.toNatClampNeg p1, upd v_t_one v_t_size.toNatClampNeg p2, upd v_t_two v_t_size.toNatClampNeg p3, upd v_t_hour v_t_size.toNatClampNeg p4, v_t_size + 1)
            else none
          else none
        else none
      else none
set_option maxHeartbeats 4000000 in
set_option maxRecDepth 20000 in
theorem c_Story_add (l : Launch) (D : va_G) (cy : Nat → ClassId) (K : Nat) (q_t q_t_kind q_t_one q_t_two q_t_hour : Nat) (p1 : Int32) (p2 : Int32) (p3 : Int32) (p4 : Int32) (v_t_kind : Nat → Int32) (v_t_one : Nat → Int32) (v_t_two : Nat → Int32) (v_t_hour : Nat → Int32) (v_t_size : Int32) (out : (Nat → Int32) × (Nat → Int32) × (Nat → Int32) × (Nat → Int32) × Int32) (hf : sp_Story_add K p1 p2 p3 p4 v_t_kind v_t_one v_t_two v_t_hour v_t_size = some out) : Ct l yX9_add cX9_add 5 none rm_Story_add D cy [.ref q_t, .int p1, .int p2, .int p3, .int p4] [ob q_t 9 [.ref q_t_kind, .ref q_t_one, .ref q_t_two, .ref q_t_hour, .int v_t_size], aI cy q_t_kind 21 v_t_kind, aI cy q_t_one 21 v_t_one, aI cy q_t_two 21 v_t_two, aI cy q_t_hour 21 v_t_hour] none [ob q_t 9 [.ref q_t_kind, .ref q_t_one, .ref q_t_two, .ref q_t_hour, .int out.2.2.2.2], aI cy q_t_kind 21 out.1, aI cy q_t_one 21 out.2.1, aI cy q_t_two 21 out.2.2.1, aI cy q_t_hour 21 out.2.2.2.1] := by
  refine ct_of (by decide +kernel) (Nat.le_of_ble_eq_true rfl) (fun p e s m args below meth c C hr hlk hnm => ?_)
  unfold sp_Story_add at hf
  refine v_aload_n C dX9_add_0 0 rfl rfl ?_
  refine v_get C fl_X9_24 0 rfl rfl dX9_add_1 ?_
  refine v_bipush (v := 21) C dX9_add_4 (by decide) ?_
  obtain ⟨o6, g1, hf⟩ := bd_ hf
  refine v_callN0 (As := [.int v_t_size, .int 21]) (st := []) (stk' := [.int o6]) C (c_within l D cy K   v_t_size 21 o6 g1) ln_X9_28 rfl (by decide) rfl dX9_add_6 (Nat.le_of_ble_eq_true rfl) rfl ?_
  refine v_if_eq (tgt := 63) C dX9_add_9 (by decide) (fun c2 => ?_) (fun c2 => ?_)
  · replace hf := (if_pos c2).symm.trans hf
    obtain rfl := Option.some.inj hf
    exact v_vret C hr hlk dX9_add_63 rfl rfl rfl rfl
  · replace hf := (if_neg c2).symm.trans hf
    refine v_aload_n C dX9_add_12 0 rfl rfl ?_
    refine v_get C fl_X9_9 0 rfl rfl dX9_add_13 ?_
    refine v_aload_n C dX9_add_16 0 rfl rfl ?_
    refine v_get C fl_X9_24 0 rfl rfl dX9_add_17 ?_
    refine v_iload_n C dX9_add_20 1 rfl rfl ?_
    obtain ⟨g3, hf⟩ := gd_ hf
    refine v_iast (ws' := [ob q_t 9 [.ref q_t_kind, .ref q_t_one, .ref q_t_two, .ref q_t_hour, .int v_t_size], aI cy q_t_kind 21 (upd v_t_kind v_t_size.toNatClampNeg p1), aI cy q_t_one 21 v_t_one, aI cy q_t_two 21 v_t_two, aI cy q_t_hour 21 v_t_hour]) C 1 rfl g3 rfl dX9_add_21 ?_
    refine v_aload_n C dX9_add_22 0 rfl rfl ?_
    refine v_get C fl_X9_15 0 rfl rfl dX9_add_23 ?_
    refine v_aload_n C dX9_add_26 0 rfl rfl ?_
    refine v_get C fl_X9_24 0 rfl rfl dX9_add_27 ?_
    refine v_iload_n C dX9_add_30 2 rfl rfl ?_
    obtain ⟨g4, hf⟩ := gd_ hf
    refine v_iast (ws' := [ob q_t 9 [.ref q_t_kind, .ref q_t_one, .ref q_t_two, .ref q_t_hour, .int v_t_size], aI cy q_t_kind 21 (upd v_t_kind v_t_size.toNatClampNeg p1), aI cy q_t_one 21 (upd v_t_one v_t_size.toNatClampNeg p2), aI cy q_t_two 21 v_t_two, aI cy q_t_hour 21 v_t_hour]) C 2 rfl g4 rfl dX9_add_31 ?_
    refine v_aload_n C dX9_add_32 0 rfl rfl ?_
    refine v_get C fl_X9_18 0 rfl rfl dX9_add_33 ?_
    refine v_aload_n C dX9_add_36 0 rfl rfl ?_
    refine v_get C fl_X9_24 0 rfl rfl dX9_add_37 ?_
    refine v_iload_n C dX9_add_40 3 rfl rfl ?_
    obtain ⟨g5, hf⟩ := gd_ hf
    refine v_iast (ws' := [ob q_t 9 [.ref q_t_kind, .ref q_t_one, .ref q_t_two, .ref q_t_hour, .int v_t_size], aI cy q_t_kind 21 (upd v_t_kind v_t_size.toNatClampNeg p1), aI cy q_t_one 21 (upd v_t_one v_t_size.toNatClampNeg p2), aI cy q_t_two 21 (upd v_t_two v_t_size.toNatClampNeg p3), aI cy q_t_hour 21 v_t_hour]) C 3 rfl g5 rfl dX9_add_41 ?_
    refine v_aload_n C dX9_add_42 0 rfl rfl ?_
    refine v_get C fl_X9_21 0 rfl rfl dX9_add_43 ?_
    refine v_aload_n C dX9_add_46 0 rfl rfl ?_
    refine v_get C fl_X9_24 0 rfl rfl dX9_add_47 ?_
    refine v_iload C dX9_add_50 4 rfl ?_
    obtain ⟨g6, hf⟩ := gd_ hf
    refine v_iast (ws' := [ob q_t 9 [.ref q_t_kind, .ref q_t_one, .ref q_t_two, .ref q_t_hour, .int v_t_size], aI cy q_t_kind 21 (upd v_t_kind v_t_size.toNatClampNeg p1), aI cy q_t_one 21 (upd v_t_one v_t_size.toNatClampNeg p2), aI cy q_t_two 21 (upd v_t_two v_t_size.toNatClampNeg p3), aI cy q_t_hour 21 (upd v_t_hour v_t_size.toNatClampNeg p4)]) C 4 rfl g6 rfl dX9_add_52 ?_
    refine v_aload_n C dX9_add_53 0 rfl rfl ?_
    refine v_dup C dX9_add_54 rfl ?_
    refine v_get C fl_X9_24 0 rfl rfl dX9_add_55 ?_
    refine v_iconst (v := 1) C dX9_add_58 (by decide) ?_
    refine v_iadd C dX9_add_59 ?_
    refine v_put (ws' := [ob q_t 9 [.ref q_t_kind, .ref q_t_one, .ref q_t_two, .ref q_t_hour, .int (v_t_size + 1)], aI cy q_t_kind 21 (upd v_t_kind v_t_size.toNatClampNeg p1), aI cy q_t_one 21 (upd v_t_one v_t_size.toNatClampNeg p2), aI cy q_t_two 21 (upd v_t_two v_t_size.toNatClampNeg p3), aI cy q_t_hour 21 (upd v_t_hour v_t_size.toNatClampNeg p4)]) C fp_X9_24 0 rfl rfl rfl (Nat.le_of_ble_eq_true rfl) rfl dX9_add_60 ?_
    obtain rfl := Option.some.inj hf
    exact v_vret C hr hlk dX9_add_63 rfl rfl rfl rfl

abbrev rm_Story_addFrom : Room := { frames := 2, cells := 0, slots := 0, locals := 45 }
def sp_Story_addFrom (K : Nat) (p2 : Int32) (v_t_kind : Nat → Int32) (v_t_one : Nat → Int32) (v_t_two : Nat → Int32) (v_t_hour : Nat → Int32) (v_t_size : Int32) (v_p1_kind : Nat → Int32) (v_p1_one : Nat → Int32) (v_p1_two : Nat → Int32) (v_p1_hour : Nat → Int32) (v_p1_size : Int32) : Option ((Nat → Int32) × (Nat → Int32) × (Nat → Int32) × (Nat → Int32) × Int32) :=
  (sp_within K p2 v_p1_size).bind fun o5 =>
    if o5 = 0 then
      some (v_t_kind, v_t_one, v_t_two, v_t_hour, v_t_size)
    else
      (sp_within K p2 21).bind fun o14 =>
        if o14 = 0 then
          some (v_t_kind, v_t_one, v_t_two, v_t_hour, v_t_size)
        else
          if inb p2 21 then
            if inb p2 21 then
              if inb p2 21 then
                if inb p2 21 then
                  (sp_Story_add K (v_p1_kind p2.toNatClampNeg) (v_p1_one p2.toNatClampNeg) (v_p1_two p2.toNatClampNeg) (v_p1_hour p2.toNatClampNeg) v_t_kind v_t_one v_t_two v_t_hour v_t_size).bind fun o45 =>
                    some (o45.1, o45.2.1, o45.2.2.1, o45.2.2.2.1, o45.2.2.2.2)
                else none
              else none
            else none
          else none
set_option maxHeartbeats 4000000 in
set_option maxRecDepth 20000 in
theorem c_Story_addFrom (l : Launch) (D : va_G) (cy : Nat → ClassId) (K : Nat) (q_t q_t_kind q_t_one q_t_two q_t_hour q_p1 q_p1_kind q_p1_one q_p1_two q_p1_hour : Nat) (p2 : Int32) (v_t_kind : Nat → Int32) (v_t_one : Nat → Int32) (v_t_two : Nat → Int32) (v_t_hour : Nat → Int32) (v_t_size : Int32) (v_p1_kind : Nat → Int32) (v_p1_one : Nat → Int32) (v_p1_two : Nat → Int32) (v_p1_hour : Nat → Int32) (v_p1_size : Int32) (out : (Nat → Int32) × (Nat → Int32) × (Nat → Int32) × (Nat → Int32) × Int32) (hf : sp_Story_addFrom K p2 v_t_kind v_t_one v_t_two v_t_hour v_t_size v_p1_kind v_p1_one v_p1_two v_p1_hour v_p1_size = some out) : Ct l yX9_addFrom cX9_addFrom 3 none rm_Story_addFrom D cy [.ref q_t, .ref q_p1, .int p2] [ob q_t 9 [.ref q_t_kind, .ref q_t_one, .ref q_t_two, .ref q_t_hour, .int v_t_size], aI cy q_t_kind 21 v_t_kind, aI cy q_t_one 21 v_t_one, aI cy q_t_two 21 v_t_two, aI cy q_t_hour 21 v_t_hour, ob q_p1 9 [.ref q_p1_kind, .ref q_p1_one, .ref q_p1_two, .ref q_p1_hour, .int v_p1_size], aI cy q_p1_kind 21 v_p1_kind, aI cy q_p1_one 21 v_p1_one, aI cy q_p1_two 21 v_p1_two, aI cy q_p1_hour 21 v_p1_hour] none [ob q_t 9 [.ref q_t_kind, .ref q_t_one, .ref q_t_two, .ref q_t_hour, .int out.2.2.2.2], aI cy q_t_kind 21 out.1, aI cy q_t_one 21 out.2.1, aI cy q_t_two 21 out.2.2.1, aI cy q_t_hour 21 out.2.2.2.1, ob q_p1 9 [.ref q_p1_kind, .ref q_p1_one, .ref q_p1_two, .ref q_p1_hour, .int v_p1_size], aI cy q_p1_kind 21 v_p1_kind, aI cy q_p1_one 21 v_p1_one, aI cy q_p1_two 21 v_p1_two, aI cy q_p1_hour 21 v_p1_hour] := by
  refine ct_of (by decide +kernel) (Nat.le_of_ble_eq_true rfl) (fun p e s m args below meth c C hr hlk hnm => ?_)
  unfold sp_Story_addFrom at hf
  refine v_iload_n C dX9_addFrom_0 2 rfl rfl ?_
  refine v_aload_n C dX9_addFrom_1 1 rfl rfl ?_
  refine v_get C fl_X9_24 5 rfl rfl dX9_addFrom_2 ?_
  obtain ⟨o5, g1, hf⟩ := bd_ hf
  refine v_callN0 (As := [.int p2, .int v_p1_size]) (st := []) (stk' := [.int o5]) C (c_within l D cy K   p2 v_p1_size o5 g1) ln_X9_28 rfl (by decide) rfl dX9_addFrom_5 (Nat.le_of_ble_eq_true rfl) rfl ?_
  refine v_if_eq (tgt := 48) C dX9_addFrom_8 (by decide) (fun c2 => ?_) (fun c2 => ?_)
  · replace hf := (if_pos c2).symm.trans hf
    obtain rfl := Option.some.inj hf
    exact v_vret C hr hlk dX9_addFrom_48 rfl rfl rfl rfl
  · replace hf := (if_neg c2).symm.trans hf
    refine v_iload_n C dX9_addFrom_11 2 rfl rfl ?_
    refine v_bipush (v := 21) C dX9_addFrom_12 (by decide) ?_
    obtain ⟨o14, g3, hf⟩ := bd_ hf
    refine v_callN0 (As := [.int p2, .int 21]) (st := []) (stk' := [.int o14]) C (c_within l D cy K   p2 21 o14 g3) ln_X9_28 rfl (by decide) rfl dX9_addFrom_14 (Nat.le_of_ble_eq_true rfl) rfl ?_
    refine v_if_eq (tgt := 48) C dX9_addFrom_17 (by decide) (fun c4 => ?_) (fun c4 => ?_)
    · replace hf := (if_pos c4).symm.trans hf
      obtain rfl := Option.some.inj hf
      exact v_vret C hr hlk dX9_addFrom_48 rfl rfl rfl rfl
    · replace hf := (if_neg c4).symm.trans hf
      refine v_aload_n C dX9_addFrom_20 0 rfl rfl ?_
      refine v_aload_n C dX9_addFrom_21 1 rfl rfl ?_
      refine v_get C fl_X9_9 5 rfl rfl dX9_addFrom_22 ?_
      refine v_iload_n C dX9_addFrom_25 2 rfl rfl ?_
      obtain ⟨g5, hf⟩ := gd_ hf
      refine v_iald C 6 rfl g5 dX9_addFrom_26 ?_
      refine v_aload_n C dX9_addFrom_27 1 rfl rfl ?_
      refine v_get C fl_X9_15 5 rfl rfl dX9_addFrom_28 ?_
      refine v_iload_n C dX9_addFrom_31 2 rfl rfl ?_
      obtain ⟨g6, hf⟩ := gd_ hf
      refine v_iald C 7 rfl g6 dX9_addFrom_32 ?_
      refine v_aload_n C dX9_addFrom_33 1 rfl rfl ?_
      refine v_get C fl_X9_18 5 rfl rfl dX9_addFrom_34 ?_
      refine v_iload_n C dX9_addFrom_37 2 rfl rfl ?_
      obtain ⟨g7, hf⟩ := gd_ hf
      refine v_iald C 8 rfl g7 dX9_addFrom_38 ?_
      refine v_aload_n C dX9_addFrom_39 1 rfl rfl ?_
      refine v_get C fl_X9_21 5 rfl rfl dX9_addFrom_40 ?_
      refine v_iload_n C dX9_addFrom_43 2 rfl rfl ?_
      obtain ⟨g8, hf⟩ := gd_ hf
      refine v_iald C 9 rfl g8 dX9_addFrom_44 ?_
      obtain ⟨o45, g9, hf⟩ := bd_ hf
      refine v_callV (As := [.int (v_p1_kind p2.toNatClampNeg), .int (v_p1_one p2.toNatClampNeg), .int (v_p1_two p2.toNatClampNeg), .int (v_p1_hour p2.toNatClampNeg)]) (wr := [ob q_p1 9 [.ref q_p1_kind, .ref q_p1_one, .ref q_p1_two, .ref q_p1_hour, .int v_p1_size], aI cy q_p1_kind 21 v_p1_kind, aI cy q_p1_one 21 v_p1_one, aI cy q_p1_two 21 v_p1_two, aI cy q_p1_hour 21 v_p1_hour]) (ws' := [ob q_p1 9 [.ref q_p1_kind, .ref q_p1_one, .ref q_p1_two, .ref q_p1_hour, .int v_p1_size], aI cy q_p1_kind 21 v_p1_kind, aI cy q_p1_one 21 v_p1_one, aI cy q_p1_two 21 v_p1_two, aI cy q_p1_hour 21 v_p1_hour, ob q_t 9 [.ref q_t_kind, .ref q_t_one, .ref q_t_two, .ref q_t_hour, .int o45.2.2.2.2], aI cy q_t_kind 21 o45.1, aI cy q_t_one 21 o45.2.1, aI cy q_t_two 21 o45.2.2.1, aI cy q_t_hour 21 o45.2.2.2.1]) (st := []) (stk' := []) C (c_Story_add l D cy K q_t q_t_kind q_t_one q_t_two q_t_hour  (v_p1_kind p2.toNatClampNeg) (v_p1_one p2.toNatClampNeg) (v_p1_two p2.toNatClampNeg) (v_p1_hour p2.toNatClampNeg) v_t_kind v_t_one v_t_two v_t_hour v_t_size o45 g9) lv_X9_32 rfl (by decide) rfl 0 rfl rfl rfl dX9_addFrom_45 [0, 1, 2, 3, 4] [5, 6, 7, 8, 9] (by decide) rfl rfl (by decide) (by decide) (Nat.le_of_ble_eq_true rfl) rfl rfl ?_
      refine v_ws (ws' := [ob q_t 9 [.ref q_t_kind, .ref q_t_one, .ref q_t_two, .ref q_t_hour, .int o45.2.2.2.2], aI cy q_t_kind 21 o45.1, aI cy q_t_one 21 o45.2.1, aI cy q_t_two 21 o45.2.2.1, aI cy q_t_hour 21 o45.2.2.2.1, ob q_p1 9 [.ref q_p1_kind, .ref q_p1_one, .ref q_p1_two, .ref q_p1_hour, .int v_p1_size], aI cy q_p1_kind 21 v_p1_kind, aI cy q_p1_one 21 v_p1_one, aI cy q_p1_two 21 v_p1_two, aI cy q_p1_hour 21 v_p1_hour]) [5, 6, 7, 8, 9, 0, 1, 2, 3, 4] (by decide) rfl ?_
      obtain rfl := Option.some.inj hf
      exact v_vret C hr hlk dX9_addFrom_48 rfl rfl rfl rfl

abbrev rm_Story_copyWithout : Room := { frames := 3, cells := 0, slots := 0, locals := 67 }
def f_Story_copyWithout (K : Nat) (v_p1_kind : Nat → Int32) (v_p1_one : Nat → Int32) (v_p1_two : Nat → Int32) (v_p1_hour : Nat → Int32) (v_p1_size : Int32) : Nat → Nat → Int32 × Int32 × (Nat → Int32) × (Nat → Int32) × (Nat → Int32) × (Nat → Int32) × Int32 → Option ((Nat → Int32) × (Nat → Int32) × (Nat → Int32) × (Nat → Int32) × Int32)
  | 0, _, _ => none
  | n + 1, 0, (x2, x3, v_t_kind, v_t_one, v_t_two, v_t_hour, v_t_size) =>
    if v_p1_size ≤ x3 then
      some (v_t_kind, v_t_one, v_t_two, v_t_hour, v_t_size)
    else
      if x3 = x2 then
        f_Story_copyWithout K v_p1_kind v_p1_one v_p1_two v_p1_hour v_p1_size n 1 (x2, x3, v_t_kind, v_t_one, v_t_two, v_t_hour, v_t_size)
      else
        (sp_Story_addFrom K x3 v_t_kind v_t_one v_t_two v_t_hour v_t_size v_p1_kind v_p1_one v_p1_two v_p1_hour v_p1_size).bind fun o23 =>
          f_Story_copyWithout K v_p1_kind v_p1_one v_p1_two v_p1_hour v_p1_size n 1 (x2, x3, o23.1, o23.2.1, o23.2.2.1, o23.2.2.2.1, o23.2.2.2.2)
  | n + 1, 1, (x2, x3, v_t_kind, v_t_one, v_t_two, v_t_hour, v_t_size) =>
    f_Story_copyWithout K v_p1_kind v_p1_one v_p1_two v_p1_hour v_p1_size n 0 (x2, x3 + 1, v_t_kind, v_t_one, v_t_two, v_t_hour, v_t_size)
  | _ + 1, _ + 2, _ => none
def sp_Story_copyWithout (K : Nat) (p2 : Int32) (v_t_kind : Nat → Int32) (v_t_one : Nat → Int32) (v_t_two : Nat → Int32) (v_t_hour : Nat → Int32) (v_t_size : Int32) (v_p1_kind : Nat → Int32) (v_p1_one : Nat → Int32) (v_p1_two : Nat → Int32) (v_p1_hour : Nat → Int32) (v_p1_size : Int32) : Option ((Nat → Int32) × (Nat → Int32) × (Nat → Int32) × (Nat → Int32) × Int32) :=
  f_Story_copyWithout K v_p1_kind v_p1_one v_p1_two v_p1_hour v_p1_size K 0 (p2, 0, v_t_kind, v_t_one, v_t_two, v_t_hour, 0)
def Z0_Story_copyWithout (Vf : va_W → Nat → List (Nat × Value) → List Value → Prop) (cy : Nat → ClassId) (K n : Nat) (q_t q_t_kind q_t_one q_t_two q_t_hour q_p1 q_p1_kind q_p1_one q_p1_two q_p1_hour : Nat) (v_p1_kind : Nat → Int32) (v_p1_one : Nat → Int32) (v_p1_two : Nat → Int32) (v_p1_hour : Nat → Int32) (v_p1_size : Int32) (out : (Nat → Int32) × (Nat → Int32) × (Nat → Int32) × (Nat → Int32) × Int32) : Prop := ∀ (x2 : Int32) (x3 : Int32) (v_t_kind : Nat → Int32) (v_t_one : Nat → Int32) (v_t_two : Nat → Int32) (v_t_hour : Nat → Int32) (v_t_size : Int32), f_Story_copyWithout K v_p1_kind v_p1_one v_p1_two v_p1_hour v_p1_size n 0 (x2, x3, v_t_kind, v_t_one, v_t_two, v_t_hour, v_t_size) = some out → Vf [ob q_t 9 [.ref q_t_kind, .ref q_t_one, .ref q_t_two, .ref q_t_hour, .int v_t_size], aI cy q_t_kind 21 v_t_kind, aI cy q_t_one 21 v_t_one, aI cy q_t_two 21 v_t_two, aI cy q_t_hour 21 v_t_hour, ob q_p1 9 [.ref q_p1_kind, .ref q_p1_one, .ref q_p1_two, .ref q_p1_hour, .int v_p1_size], aI cy q_p1_kind 21 v_p1_kind, aI cy q_p1_one 21 v_p1_one, aI cy q_p1_two 21 v_p1_two, aI cy q_p1_hour 21 v_p1_hour] 7 [(0, .ref q_t), (1, .ref q_p1), (2, .int x2), (3, .int x3)] []
def Z1_Story_copyWithout (Vf : va_W → Nat → List (Nat × Value) → List Value → Prop) (cy : Nat → ClassId) (K n : Nat) (q_t q_t_kind q_t_one q_t_two q_t_hour q_p1 q_p1_kind q_p1_one q_p1_two q_p1_hour : Nat) (v_p1_kind : Nat → Int32) (v_p1_one : Nat → Int32) (v_p1_two : Nat → Int32) (v_p1_hour : Nat → Int32) (v_p1_size : Int32) (out : (Nat → Int32) × (Nat → Int32) × (Nat → Int32) × (Nat → Int32) × Int32) : Prop := ∀ (x2 : Int32) (x3 : Int32) (v_t_kind : Nat → Int32) (v_t_one : Nat → Int32) (v_t_two : Nat → Int32) (v_t_hour : Nat → Int32) (v_t_size : Int32), f_Story_copyWithout K v_p1_kind v_p1_one v_p1_two v_p1_hour v_p1_size n 1 (x2, x3, v_t_kind, v_t_one, v_t_two, v_t_hour, v_t_size) = some out → Vf [ob q_t 9 [.ref q_t_kind, .ref q_t_one, .ref q_t_two, .ref q_t_hour, .int v_t_size], aI cy q_t_kind 21 v_t_kind, aI cy q_t_one 21 v_t_one, aI cy q_t_two 21 v_t_two, aI cy q_t_hour 21 v_t_hour, ob q_p1 9 [.ref q_p1_kind, .ref q_p1_one, .ref q_p1_two, .ref q_p1_hour, .int v_p1_size], aI cy q_p1_kind 21 v_p1_kind, aI cy q_p1_one 21 v_p1_one, aI cy q_p1_two 21 v_p1_two, aI cy q_p1_hour 21 v_p1_hour] 26 [(0, .ref q_t), (1, .ref q_p1), (2, .int x2), (3, .int x3)] []
def Z_Story_copyWithout (Vf : va_W → Nat → List (Nat × Value) → List Value → Prop) (cy : Nat → ClassId) (K n : Nat) (q_t q_t_kind q_t_one q_t_two q_t_hour q_p1 q_p1_kind q_p1_one q_p1_two q_p1_hour : Nat) (v_p1_kind : Nat → Int32) (v_p1_one : Nat → Int32) (v_p1_two : Nat → Int32) (v_p1_hour : Nat → Int32) (v_p1_size : Int32) (out : (Nat → Int32) × (Nat → Int32) × (Nat → Int32) × (Nat → Int32) × Int32) : Prop := Z0_Story_copyWithout Vf cy K n q_t q_t_kind q_t_one q_t_two q_t_hour q_p1 q_p1_kind q_p1_one q_p1_two q_p1_hour  v_p1_kind v_p1_one v_p1_two v_p1_hour v_p1_size out ∧ Z1_Story_copyWithout Vf cy K n q_t q_t_kind q_t_one q_t_two q_t_hour q_p1 q_p1_kind q_p1_one q_p1_two q_p1_hour  v_p1_kind v_p1_one v_p1_two v_p1_hour v_p1_size out
set_option maxHeartbeats 4000000 in
set_option maxRecDepth 20000 in
theorem z0_Story_copyWithout {p : Program} {l : Launch} {e : Env} {s : State} {m : MethodId} {args : Array Value} {below : List Frame} {meth : Method} {c : Code} {D : va_G} {cy : Nat → ClassId} {K : Nat} {q_t q_t_kind q_t_one q_t_two q_t_hour q_p1 q_p1_kind q_p1_one q_p1_two q_p1_hour : Nat} {v_p1_kind : Nat → Int32} {v_p1_one : Nat → Int32} {v_p1_two : Nat → Int32} {v_p1_hour : Nat → Int32} {v_p1_size : Int32} {v_t_kind' : Nat → Int32} {v_t_one' : Nat → Int32} {v_t_two' : Nat → Int32} {v_t_hour' : Nat → Int32} {v_t_size' : Int32} {out : (Nat → Int32) × (Nat → Int32) × (Nat → Int32) × (Nat → Int32) × Int32} (C : VC p s m args c cX9_copyWithout RX9 4 D cy (va_A [ob q_t 9 [.ref q_t_kind, .ref q_t_one, .ref q_t_two, .ref q_t_hour, .int v_t_size'], aI cy q_t_kind 21 v_t_kind', aI cy q_t_one 21 v_t_one', aI cy q_t_two 21 v_t_two', aI cy q_t_hour 21 v_t_hour', ob q_p1 9 [.ref q_p1_kind, .ref q_p1_one, .ref q_p1_two, .ref q_p1_hour, .int v_p1_size], aI cy q_p1_kind 21 v_p1_kind, aI cy q_p1_one 21 v_p1_one, aI cy q_p1_two 21 v_p1_two, aI cy q_p1_hour 21 v_p1_hour] s.heap.size)) (hr : meth.sig.returnType = none) (hlk : meth.locks = false) (n : Nat) (ih : Z_Story_copyWithout (V p l e rm_Story_copyWithout s m args below meth c (EQ below args s rm_Story_copyWithout D [ob q_t 9 [.ref q_t_kind, .ref q_t_one, .ref q_t_two, .ref q_t_hour, .int v_t_size'], aI cy q_t_kind 21 v_t_kind', aI cy q_t_one 21 v_t_one', aI cy q_t_two 21 v_t_two', aI cy q_t_hour 21 v_t_hour', ob q_p1 9 [.ref q_p1_kind, .ref q_p1_one, .ref q_p1_two, .ref q_p1_hour, .int v_p1_size], aI cy q_p1_kind 21 v_p1_kind, aI cy q_p1_one 21 v_p1_one, aI cy q_p1_two 21 v_p1_two, aI cy q_p1_hour 21 v_p1_hour] none [ob q_t 9 [.ref q_t_kind, .ref q_t_one, .ref q_t_two, .ref q_t_hour, .int out.2.2.2.2], aI cy q_t_kind 21 out.1, aI cy q_t_one 21 out.2.1, aI cy q_t_two 21 out.2.2.1, aI cy q_t_hour 21 out.2.2.2.1, ob q_p1 9 [.ref q_p1_kind, .ref q_p1_one, .ref q_p1_two, .ref q_p1_hour, .int v_p1_size], aI cy q_p1_kind 21 v_p1_kind, aI cy q_p1_one 21 v_p1_one, aI cy q_p1_two 21 v_p1_two, aI cy q_p1_hour 21 v_p1_hour]) 4 D (va_A [ob q_t 9 [.ref q_t_kind, .ref q_t_one, .ref q_t_two, .ref q_t_hour, .int v_t_size'], aI cy q_t_kind 21 v_t_kind', aI cy q_t_one 21 v_t_one', aI cy q_t_two 21 v_t_two', aI cy q_t_hour 21 v_t_hour', ob q_p1 9 [.ref q_p1_kind, .ref q_p1_one, .ref q_p1_two, .ref q_p1_hour, .int v_p1_size], aI cy q_p1_kind 21 v_p1_kind, aI cy q_p1_one 21 v_p1_one, aI cy q_p1_two 21 v_p1_two, aI cy q_p1_hour 21 v_p1_hour] s.heap.size) 0 0) cy K n q_t q_t_kind q_t_one q_t_two q_t_hour q_p1 q_p1_kind q_p1_one q_p1_two q_p1_hour  v_p1_kind v_p1_one v_p1_two v_p1_hour v_p1_size out) : Z0_Story_copyWithout (V p l e rm_Story_copyWithout s m args below meth c (EQ below args s rm_Story_copyWithout D [ob q_t 9 [.ref q_t_kind, .ref q_t_one, .ref q_t_two, .ref q_t_hour, .int v_t_size'], aI cy q_t_kind 21 v_t_kind', aI cy q_t_one 21 v_t_one', aI cy q_t_two 21 v_t_two', aI cy q_t_hour 21 v_t_hour', ob q_p1 9 [.ref q_p1_kind, .ref q_p1_one, .ref q_p1_two, .ref q_p1_hour, .int v_p1_size], aI cy q_p1_kind 21 v_p1_kind, aI cy q_p1_one 21 v_p1_one, aI cy q_p1_two 21 v_p1_two, aI cy q_p1_hour 21 v_p1_hour] none [ob q_t 9 [.ref q_t_kind, .ref q_t_one, .ref q_t_two, .ref q_t_hour, .int out.2.2.2.2], aI cy q_t_kind 21 out.1, aI cy q_t_one 21 out.2.1, aI cy q_t_two 21 out.2.2.1, aI cy q_t_hour 21 out.2.2.2.1, ob q_p1 9 [.ref q_p1_kind, .ref q_p1_one, .ref q_p1_two, .ref q_p1_hour, .int v_p1_size], aI cy q_p1_kind 21 v_p1_kind, aI cy q_p1_one 21 v_p1_one, aI cy q_p1_two 21 v_p1_two, aI cy q_p1_hour 21 v_p1_hour]) 4 D (va_A [ob q_t 9 [.ref q_t_kind, .ref q_t_one, .ref q_t_two, .ref q_t_hour, .int v_t_size'], aI cy q_t_kind 21 v_t_kind', aI cy q_t_one 21 v_t_one', aI cy q_t_two 21 v_t_two', aI cy q_t_hour 21 v_t_hour', ob q_p1 9 [.ref q_p1_kind, .ref q_p1_one, .ref q_p1_two, .ref q_p1_hour, .int v_p1_size], aI cy q_p1_kind 21 v_p1_kind, aI cy q_p1_one 21 v_p1_one, aI cy q_p1_two 21 v_p1_two, aI cy q_p1_hour 21 v_p1_hour] s.heap.size) 0 0) cy K (n + 1) q_t q_t_kind q_t_one q_t_two q_t_hour q_p1 q_p1_kind q_p1_one q_p1_two q_p1_hour  v_p1_kind v_p1_one v_p1_two v_p1_hour v_p1_size out := by
  intro x2 x3 v_t_kind v_t_one v_t_two v_t_hour v_t_size hf
  replace hf := hf
  refine v_iload_n C dX9_copyWithout_7 3 rfl rfl ?_
  refine v_aload_n C dX9_copyWithout_8 1 rfl rfl ?_
  refine v_get C fl_X9_24 5 rfl rfl dX9_copyWithout_9 ?_
  refine v_icmp_ge (tgt := 32) C dX9_copyWithout_12 (by decide) (fun c1 => ?_) (fun c1 => ?_)
  · replace hf := (if_pos c1).symm.trans hf
    obtain rfl := Option.some.inj hf
    exact v_vret C hr hlk dX9_copyWithout_32 rfl rfl rfl rfl
  · replace hf := (if_neg c1).symm.trans hf
    refine v_iload_n C dX9_copyWithout_15 3 rfl rfl ?_
    refine v_iload_n C dX9_copyWithout_16 2 rfl rfl ?_
    refine v_icmp_eq (tgt := 26) C dX9_copyWithout_17 (by decide) (fun c2 => ?_) (fun c2 => ?_)
    · replace hf := (if_pos c2).symm.trans hf
      exact ih.2 _ _ _ _ _ _ _ hf
    · replace hf := (if_neg c2).symm.trans hf
      refine v_aload_n C dX9_copyWithout_20 0 rfl rfl ?_
      refine v_aload_n C dX9_copyWithout_21 1 rfl rfl ?_
      refine v_iload_n C dX9_copyWithout_22 3 rfl rfl ?_
      obtain ⟨o23, g3, hf⟩ := bd_ hf
      refine v_callV (As := [.ref q_p1, .int x3]) (wr := []) (ws' := [ob q_t 9 [.ref q_t_kind, .ref q_t_one, .ref q_t_two, .ref q_t_hour, .int o23.2.2.2.2], aI cy q_t_kind 21 o23.1, aI cy q_t_one 21 o23.2.1, aI cy q_t_two 21 o23.2.2.1, aI cy q_t_hour 21 o23.2.2.2.1, ob q_p1 9 [.ref q_p1_kind, .ref q_p1_one, .ref q_p1_two, .ref q_p1_hour, .int v_p1_size], aI cy q_p1_kind 21 v_p1_kind, aI cy q_p1_one 21 v_p1_one, aI cy q_p1_two 21 v_p1_two, aI cy q_p1_hour 21 v_p1_hour]) (st := []) (stk' := []) C (c_Story_addFrom l D cy K q_t q_t_kind q_t_one q_t_two q_t_hour q_p1 q_p1_kind q_p1_one q_p1_two q_p1_hour  x3 v_t_kind v_t_one v_t_two v_t_hour v_t_size v_p1_kind v_p1_one v_p1_two v_p1_hour v_p1_size o23 g3) lv_X9_36 rfl (by decide) rfl 0 rfl rfl rfl dX9_copyWithout_23 [0, 1, 2, 3, 4, 5, 6, 7, 8, 9] [] (by decide) rfl rfl (by decide) (by decide) (Nat.le_of_ble_eq_true rfl) rfl rfl ?_
      exact ih.2 _ _ _ _ _ _ _ hf
set_option maxHeartbeats 4000000 in
set_option maxRecDepth 20000 in
theorem z1_Story_copyWithout {p : Program} {l : Launch} {e : Env} {s : State} {m : MethodId} {args : Array Value} {below : List Frame} {meth : Method} {c : Code} {D : va_G} {cy : Nat → ClassId} {K : Nat} {q_t q_t_kind q_t_one q_t_two q_t_hour q_p1 q_p1_kind q_p1_one q_p1_two q_p1_hour : Nat} {v_p1_kind : Nat → Int32} {v_p1_one : Nat → Int32} {v_p1_two : Nat → Int32} {v_p1_hour : Nat → Int32} {v_p1_size : Int32} {v_t_kind' : Nat → Int32} {v_t_one' : Nat → Int32} {v_t_two' : Nat → Int32} {v_t_hour' : Nat → Int32} {v_t_size' : Int32} {out : (Nat → Int32) × (Nat → Int32) × (Nat → Int32) × (Nat → Int32) × Int32} (C : VC p s m args c cX9_copyWithout RX9 4 D cy (va_A [ob q_t 9 [.ref q_t_kind, .ref q_t_one, .ref q_t_two, .ref q_t_hour, .int v_t_size'], aI cy q_t_kind 21 v_t_kind', aI cy q_t_one 21 v_t_one', aI cy q_t_two 21 v_t_two', aI cy q_t_hour 21 v_t_hour', ob q_p1 9 [.ref q_p1_kind, .ref q_p1_one, .ref q_p1_two, .ref q_p1_hour, .int v_p1_size], aI cy q_p1_kind 21 v_p1_kind, aI cy q_p1_one 21 v_p1_one, aI cy q_p1_two 21 v_p1_two, aI cy q_p1_hour 21 v_p1_hour] s.heap.size)) (hr : meth.sig.returnType = none) (hlk : meth.locks = false) (n : Nat) (ih : Z_Story_copyWithout (V p l e rm_Story_copyWithout s m args below meth c (EQ below args s rm_Story_copyWithout D [ob q_t 9 [.ref q_t_kind, .ref q_t_one, .ref q_t_two, .ref q_t_hour, .int v_t_size'], aI cy q_t_kind 21 v_t_kind', aI cy q_t_one 21 v_t_one', aI cy q_t_two 21 v_t_two', aI cy q_t_hour 21 v_t_hour', ob q_p1 9 [.ref q_p1_kind, .ref q_p1_one, .ref q_p1_two, .ref q_p1_hour, .int v_p1_size], aI cy q_p1_kind 21 v_p1_kind, aI cy q_p1_one 21 v_p1_one, aI cy q_p1_two 21 v_p1_two, aI cy q_p1_hour 21 v_p1_hour] none [ob q_t 9 [.ref q_t_kind, .ref q_t_one, .ref q_t_two, .ref q_t_hour, .int out.2.2.2.2], aI cy q_t_kind 21 out.1, aI cy q_t_one 21 out.2.1, aI cy q_t_two 21 out.2.2.1, aI cy q_t_hour 21 out.2.2.2.1, ob q_p1 9 [.ref q_p1_kind, .ref q_p1_one, .ref q_p1_two, .ref q_p1_hour, .int v_p1_size], aI cy q_p1_kind 21 v_p1_kind, aI cy q_p1_one 21 v_p1_one, aI cy q_p1_two 21 v_p1_two, aI cy q_p1_hour 21 v_p1_hour]) 4 D (va_A [ob q_t 9 [.ref q_t_kind, .ref q_t_one, .ref q_t_two, .ref q_t_hour, .int v_t_size'], aI cy q_t_kind 21 v_t_kind', aI cy q_t_one 21 v_t_one', aI cy q_t_two 21 v_t_two', aI cy q_t_hour 21 v_t_hour', ob q_p1 9 [.ref q_p1_kind, .ref q_p1_one, .ref q_p1_two, .ref q_p1_hour, .int v_p1_size], aI cy q_p1_kind 21 v_p1_kind, aI cy q_p1_one 21 v_p1_one, aI cy q_p1_two 21 v_p1_two, aI cy q_p1_hour 21 v_p1_hour] s.heap.size) 0 0) cy K n q_t q_t_kind q_t_one q_t_two q_t_hour q_p1 q_p1_kind q_p1_one q_p1_two q_p1_hour  v_p1_kind v_p1_one v_p1_two v_p1_hour v_p1_size out) : Z1_Story_copyWithout (V p l e rm_Story_copyWithout s m args below meth c (EQ below args s rm_Story_copyWithout D [ob q_t 9 [.ref q_t_kind, .ref q_t_one, .ref q_t_two, .ref q_t_hour, .int v_t_size'], aI cy q_t_kind 21 v_t_kind', aI cy q_t_one 21 v_t_one', aI cy q_t_two 21 v_t_two', aI cy q_t_hour 21 v_t_hour', ob q_p1 9 [.ref q_p1_kind, .ref q_p1_one, .ref q_p1_two, .ref q_p1_hour, .int v_p1_size], aI cy q_p1_kind 21 v_p1_kind, aI cy q_p1_one 21 v_p1_one, aI cy q_p1_two 21 v_p1_two, aI cy q_p1_hour 21 v_p1_hour] none [ob q_t 9 [.ref q_t_kind, .ref q_t_one, .ref q_t_two, .ref q_t_hour, .int out.2.2.2.2], aI cy q_t_kind 21 out.1, aI cy q_t_one 21 out.2.1, aI cy q_t_two 21 out.2.2.1, aI cy q_t_hour 21 out.2.2.2.1, ob q_p1 9 [.ref q_p1_kind, .ref q_p1_one, .ref q_p1_two, .ref q_p1_hour, .int v_p1_size], aI cy q_p1_kind 21 v_p1_kind, aI cy q_p1_one 21 v_p1_one, aI cy q_p1_two 21 v_p1_two, aI cy q_p1_hour 21 v_p1_hour]) 4 D (va_A [ob q_t 9 [.ref q_t_kind, .ref q_t_one, .ref q_t_two, .ref q_t_hour, .int v_t_size'], aI cy q_t_kind 21 v_t_kind', aI cy q_t_one 21 v_t_one', aI cy q_t_two 21 v_t_two', aI cy q_t_hour 21 v_t_hour', ob q_p1 9 [.ref q_p1_kind, .ref q_p1_one, .ref q_p1_two, .ref q_p1_hour, .int v_p1_size], aI cy q_p1_kind 21 v_p1_kind, aI cy q_p1_one 21 v_p1_one, aI cy q_p1_two 21 v_p1_two, aI cy q_p1_hour 21 v_p1_hour] s.heap.size) 0 0) cy K (n + 1) q_t q_t_kind q_t_one q_t_two q_t_hour q_p1 q_p1_kind q_p1_one q_p1_two q_p1_hour  v_p1_kind v_p1_one v_p1_two v_p1_hour v_p1_size out := by
  intro x2 x3 v_t_kind v_t_one v_t_two v_t_hour v_t_size hf
  replace hf := hf
  refine v_iinc (v := x3 + 1) (lv' := [(3, .int (x3 + 1)), (0, .ref q_t), (1, .ref q_p1), (2, .int x2)]) C dX9_copyWithout_26 3 rfl rfl (by decide) rfl ?_
  refine v_goto (tgt := 7) C dX9_copyWithout_29 (by decide) ?_
  refine v_lv (lv' := [(0, .ref q_t), (1, .ref q_p1), (2, .int x2), (3, .int (x3 + 1))]) [1, 2, 3, 0] rfl ?_
  exact ih.1 _ _ _ _ _ _ _ hf
theorem z_Story_copyWithout {p : Program} {l : Launch} {e : Env} {s : State} {m : MethodId} {args : Array Value} {below : List Frame} {meth : Method} {c : Code} {D : va_G} {cy : Nat → ClassId} {K : Nat} {q_t q_t_kind q_t_one q_t_two q_t_hour q_p1 q_p1_kind q_p1_one q_p1_two q_p1_hour : Nat} {v_p1_kind : Nat → Int32} {v_p1_one : Nat → Int32} {v_p1_two : Nat → Int32} {v_p1_hour : Nat → Int32} {v_p1_size : Int32} {v_t_kind' : Nat → Int32} {v_t_one' : Nat → Int32} {v_t_two' : Nat → Int32} {v_t_hour' : Nat → Int32} {v_t_size' : Int32} {out : (Nat → Int32) × (Nat → Int32) × (Nat → Int32) × (Nat → Int32) × Int32} (C : VC p s m args c cX9_copyWithout RX9 4 D cy (va_A [ob q_t 9 [.ref q_t_kind, .ref q_t_one, .ref q_t_two, .ref q_t_hour, .int v_t_size'], aI cy q_t_kind 21 v_t_kind', aI cy q_t_one 21 v_t_one', aI cy q_t_two 21 v_t_two', aI cy q_t_hour 21 v_t_hour', ob q_p1 9 [.ref q_p1_kind, .ref q_p1_one, .ref q_p1_two, .ref q_p1_hour, .int v_p1_size], aI cy q_p1_kind 21 v_p1_kind, aI cy q_p1_one 21 v_p1_one, aI cy q_p1_two 21 v_p1_two, aI cy q_p1_hour 21 v_p1_hour] s.heap.size)) (hr : meth.sig.returnType = none) (hlk : meth.locks = false) (n : Nat) : Z_Story_copyWithout (V p l e rm_Story_copyWithout s m args below meth c (EQ below args s rm_Story_copyWithout D [ob q_t 9 [.ref q_t_kind, .ref q_t_one, .ref q_t_two, .ref q_t_hour, .int v_t_size'], aI cy q_t_kind 21 v_t_kind', aI cy q_t_one 21 v_t_one', aI cy q_t_two 21 v_t_two', aI cy q_t_hour 21 v_t_hour', ob q_p1 9 [.ref q_p1_kind, .ref q_p1_one, .ref q_p1_two, .ref q_p1_hour, .int v_p1_size], aI cy q_p1_kind 21 v_p1_kind, aI cy q_p1_one 21 v_p1_one, aI cy q_p1_two 21 v_p1_two, aI cy q_p1_hour 21 v_p1_hour] none [ob q_t 9 [.ref q_t_kind, .ref q_t_one, .ref q_t_two, .ref q_t_hour, .int out.2.2.2.2], aI cy q_t_kind 21 out.1, aI cy q_t_one 21 out.2.1, aI cy q_t_two 21 out.2.2.1, aI cy q_t_hour 21 out.2.2.2.1, ob q_p1 9 [.ref q_p1_kind, .ref q_p1_one, .ref q_p1_two, .ref q_p1_hour, .int v_p1_size], aI cy q_p1_kind 21 v_p1_kind, aI cy q_p1_one 21 v_p1_one, aI cy q_p1_two 21 v_p1_two, aI cy q_p1_hour 21 v_p1_hour]) 4 D (va_A [ob q_t 9 [.ref q_t_kind, .ref q_t_one, .ref q_t_two, .ref q_t_hour, .int v_t_size'], aI cy q_t_kind 21 v_t_kind', aI cy q_t_one 21 v_t_one', aI cy q_t_two 21 v_t_two', aI cy q_t_hour 21 v_t_hour', ob q_p1 9 [.ref q_p1_kind, .ref q_p1_one, .ref q_p1_two, .ref q_p1_hour, .int v_p1_size], aI cy q_p1_kind 21 v_p1_kind, aI cy q_p1_one 21 v_p1_one, aI cy q_p1_two 21 v_p1_two, aI cy q_p1_hour 21 v_p1_hour] s.heap.size) 0 0) cy K n q_t q_t_kind q_t_one q_t_two q_t_hour q_p1 q_p1_kind q_p1_one q_p1_two q_p1_hour  v_p1_kind v_p1_one v_p1_two v_p1_hour v_p1_size out := by
  induction n with
  | zero => exact ⟨(fun _ _ _ _ _ _ _ h => nomatch h), (fun _ _ _ _ _ _ _ h => nomatch h)⟩
  | succ n ih => exact ⟨z0_Story_copyWithout C hr hlk n ih, z1_Story_copyWithout C hr hlk n ih⟩
set_option maxHeartbeats 4000000 in
set_option maxRecDepth 20000 in
theorem c_Story_copyWithout (l : Launch) (D : va_G) (cy : Nat → ClassId) (K : Nat) (q_t q_t_kind q_t_one q_t_two q_t_hour q_p1 q_p1_kind q_p1_one q_p1_two q_p1_hour : Nat) (p2 : Int32) (v_t_kind : Nat → Int32) (v_t_one : Nat → Int32) (v_t_two : Nat → Int32) (v_t_hour : Nat → Int32) (v_t_size : Int32) (v_p1_kind : Nat → Int32) (v_p1_one : Nat → Int32) (v_p1_two : Nat → Int32) (v_p1_hour : Nat → Int32) (v_p1_size : Int32) (out : (Nat → Int32) × (Nat → Int32) × (Nat → Int32) × (Nat → Int32) × Int32) (hf : sp_Story_copyWithout K p2 v_t_kind v_t_one v_t_two v_t_hour v_t_size v_p1_kind v_p1_one v_p1_two v_p1_hour v_p1_size = some out) : Ct l yX9_copyWithout cX9_copyWithout 4 none rm_Story_copyWithout D cy [.ref q_t, .ref q_p1, .int p2] [ob q_t 9 [.ref q_t_kind, .ref q_t_one, .ref q_t_two, .ref q_t_hour, .int v_t_size], aI cy q_t_kind 21 v_t_kind, aI cy q_t_one 21 v_t_one, aI cy q_t_two 21 v_t_two, aI cy q_t_hour 21 v_t_hour, ob q_p1 9 [.ref q_p1_kind, .ref q_p1_one, .ref q_p1_two, .ref q_p1_hour, .int v_p1_size], aI cy q_p1_kind 21 v_p1_kind, aI cy q_p1_one 21 v_p1_one, aI cy q_p1_two 21 v_p1_two, aI cy q_p1_hour 21 v_p1_hour] none [ob q_t 9 [.ref q_t_kind, .ref q_t_one, .ref q_t_two, .ref q_t_hour, .int out.2.2.2.2], aI cy q_t_kind 21 out.1, aI cy q_t_one 21 out.2.1, aI cy q_t_two 21 out.2.2.1, aI cy q_t_hour 21 out.2.2.2.1, ob q_p1 9 [.ref q_p1_kind, .ref q_p1_one, .ref q_p1_two, .ref q_p1_hour, .int v_p1_size], aI cy q_p1_kind 21 v_p1_kind, aI cy q_p1_one 21 v_p1_one, aI cy q_p1_two 21 v_p1_two, aI cy q_p1_hour 21 v_p1_hour] := by
  refine ct_of (by decide +kernel) (Nat.le_of_ble_eq_true rfl) (fun p e s m args below meth c C hr hlk hnm => ?_)
  unfold sp_Story_copyWithout at hf
  refine v_aload_n C dX9_copyWithout_0 0 rfl rfl ?_
  refine v_iconst (v := 0) C dX9_copyWithout_1 (by decide) ?_
  refine v_put (ws' := [ob q_t 9 [.ref q_t_kind, .ref q_t_one, .ref q_t_two, .ref q_t_hour, .int 0], aI cy q_t_kind 21 v_t_kind, aI cy q_t_one 21 v_t_one, aI cy q_t_two 21 v_t_two, aI cy q_t_hour 21 v_t_hour, ob q_p1 9 [.ref q_p1_kind, .ref q_p1_one, .ref q_p1_two, .ref q_p1_hour, .int v_p1_size], aI cy q_p1_kind 21 v_p1_kind, aI cy q_p1_one 21 v_p1_one, aI cy q_p1_two 21 v_p1_two, aI cy q_p1_hour 21 v_p1_hour]) C fp_X9_24 0 rfl rfl rfl (Nat.le_of_ble_eq_true rfl) rfl dX9_copyWithout_2 ?_
  refine v_iconst (v := 0) C dX9_copyWithout_5 (by decide) ?_
  refine v_istore_n (lv' := [(3, .int 0), (0, .ref q_t), (1, .ref q_p1), (2, .int p2)]) C dX9_copyWithout_6 rfl (by decide) rfl ?_
  refine v_lv (lv' := [(0, .ref q_t), (1, .ref q_p1), (2, .int p2), (3, .int 0)]) [1, 2, 3, 0] rfl ?_
  exact (z_Story_copyWithout C hr hlk K).1 _ _ _ _ _ _ _ hf

abbrev rm_Story_touches : Room := { frames := 1, cells := 0, slots := 0, locals := 21 }
def f_Story_touches (K : Nat) (v_t_one : Nat → Int32) (v_t_two : Nat → Int32) : Nat → Nat → Int32 × Int32 × Int32 → Option (Int32)
  | 0, _, _ => none
  | n + 1, 0, (x1, x2, x3) =>
    if inb x1 21 then
      if (v_t_one x1.toNatClampNeg) = x3 then
        if inb x1 21 then
          if (v_t_two x1.toNatClampNeg) = x2 then
            f_Story_touches K v_t_one v_t_two n 1 (0, 0, 0)
          else
            some 0
        else none
      else
        some 0
    else none
  | n + 1, 1, (x1, x2, x3) =>
    some 1
  | _ + 1, _ + 2, _ => none
def sp_Story_touches (K : Nat) (p1 : Int32) (p2 : Int32) (p3 : Int32) (v_t_one : Nat → Int32) (v_t_two : Nat → Int32) (v_t_size : Int32) : Option (Int32) :=
  (sp_within K p1 v_t_size).bind fun o5 =>
    if o5 = 0 then
      some 0
    else
      (sp_within K p1 21).bind fun o14 =>
        if o14 = 0 then
          some 0
        else
          if inb p1 21 then
            if (v_t_one p1.toNatClampNeg) = p2 then
              if inb p1 21 then
                if (v_t_two p1.toNatClampNeg) = p3 then
                  f_Story_touches K v_t_one v_t_two K 1 (0, 0, 0)
                else
                  f_Story_touches K v_t_one v_t_two K 0 (p1, p2, p3)
              else none
            else
              f_Story_touches K v_t_one v_t_two K 0 (p1, p2, p3)
          else none
def Z0_Story_touches (Vf : va_W → Nat → List (Nat × Value) → List Value → Prop) (cy : Nat → ClassId) (K n : Nat) (q_t q_t_kind q_t_one q_t_two q_t_hour : Nat) (v_t_kind : Nat → Int32) (v_t_one : Nat → Int32) (v_t_two : Nat → Int32) (v_t_hour : Nat → Int32) (v_t_size : Int32) (out : Int32) : Prop := ∀ (x1 : Int32) (x2 : Int32) (x3 : Int32), f_Story_touches K v_t_one v_t_two n 0 (x1, x2, x3) = some out → Vf [ob q_t 9 [.ref q_t_kind, .ref q_t_one, .ref q_t_two, .ref q_t_hour, .int v_t_size], aI cy q_t_kind 21 v_t_kind, aI cy q_t_one 21 v_t_one, aI cy q_t_two 21 v_t_two, aI cy q_t_hour 21 v_t_hour] 42 [(0, .ref q_t), (1, .int x1), (2, .int x2), (3, .int x3)] []
def Z1_Story_touches (Vf : va_W → Nat → List (Nat × Value) → List Value → Prop) (cy : Nat → ClassId) (K n : Nat) (q_t q_t_kind q_t_one q_t_two q_t_hour : Nat) (v_t_kind : Nat → Int32) (v_t_one : Nat → Int32) (v_t_two : Nat → Int32) (v_t_hour : Nat → Int32) (v_t_size : Int32) (out : Int32) : Prop := ∀ (x1 : Int32) (x2 : Int32) (x3 : Int32), f_Story_touches K v_t_one v_t_two n 1 (x1, x2, x3) = some out → Vf [ob q_t 9 [.ref q_t_kind, .ref q_t_one, .ref q_t_two, .ref q_t_hour, .int v_t_size], aI cy q_t_kind 21 v_t_kind, aI cy q_t_one 21 v_t_one, aI cy q_t_two 21 v_t_two, aI cy q_t_hour 21 v_t_hour] 62 [] []
def Z_Story_touches (Vf : va_W → Nat → List (Nat × Value) → List Value → Prop) (cy : Nat → ClassId) (K n : Nat) (q_t q_t_kind q_t_one q_t_two q_t_hour : Nat) (v_t_kind : Nat → Int32) (v_t_one : Nat → Int32) (v_t_two : Nat → Int32) (v_t_hour : Nat → Int32) (v_t_size : Int32) (out : Int32) : Prop := Z0_Story_touches Vf cy K n q_t q_t_kind q_t_one q_t_two q_t_hour  v_t_kind v_t_one v_t_two v_t_hour v_t_size out ∧ Z1_Story_touches Vf cy K n q_t q_t_kind q_t_one q_t_two q_t_hour  v_t_kind v_t_one v_t_two v_t_hour v_t_size out
set_option maxHeartbeats 4000000 in
set_option maxRecDepth 20000 in
theorem z0_Story_touches {p : Program} {l : Launch} {e : Env} {s : State} {m : MethodId} {args : Array Value} {below : List Frame} {meth : Method} {c : Code} {D : va_G} {cy : Nat → ClassId} {K : Nat} {q_t q_t_kind q_t_one q_t_two q_t_hour : Nat} {v_t_kind : Nat → Int32} {v_t_one : Nat → Int32} {v_t_two : Nat → Int32} {v_t_hour : Nat → Int32} {v_t_size : Int32} {out : Int32} (C : VC p s m args c cX9_touches RX9 4 D cy (va_A [ob q_t 9 [.ref q_t_kind, .ref q_t_one, .ref q_t_two, .ref q_t_hour, .int v_t_size], aI cy q_t_kind 21 v_t_kind, aI cy q_t_one 21 v_t_one, aI cy q_t_two 21 v_t_two, aI cy q_t_hour 21 v_t_hour] s.heap.size)) (hr : meth.sig.returnType = (some .boolean)) (hlk : meth.locks = false) (n : Nat) (ih : Z_Story_touches (V p l e rm_Story_touches s m args below meth c (EQ below args s rm_Story_touches D [ob q_t 9 [.ref q_t_kind, .ref q_t_one, .ref q_t_two, .ref q_t_hour, .int v_t_size], aI cy q_t_kind 21 v_t_kind, aI cy q_t_one 21 v_t_one, aI cy q_t_two 21 v_t_two, aI cy q_t_hour 21 v_t_hour] (some (.int out)) [ob q_t 9 [.ref q_t_kind, .ref q_t_one, .ref q_t_two, .ref q_t_hour, .int v_t_size], aI cy q_t_kind 21 v_t_kind, aI cy q_t_one 21 v_t_one, aI cy q_t_two 21 v_t_two, aI cy q_t_hour 21 v_t_hour]) 4 D (va_A [ob q_t 9 [.ref q_t_kind, .ref q_t_one, .ref q_t_two, .ref q_t_hour, .int v_t_size], aI cy q_t_kind 21 v_t_kind, aI cy q_t_one 21 v_t_one, aI cy q_t_two 21 v_t_two, aI cy q_t_hour 21 v_t_hour] s.heap.size) 0 0) cy K n q_t q_t_kind q_t_one q_t_two q_t_hour  v_t_kind v_t_one v_t_two v_t_hour v_t_size out) : Z0_Story_touches (V p l e rm_Story_touches s m args below meth c (EQ below args s rm_Story_touches D [ob q_t 9 [.ref q_t_kind, .ref q_t_one, .ref q_t_two, .ref q_t_hour, .int v_t_size], aI cy q_t_kind 21 v_t_kind, aI cy q_t_one 21 v_t_one, aI cy q_t_two 21 v_t_two, aI cy q_t_hour 21 v_t_hour] (some (.int out)) [ob q_t 9 [.ref q_t_kind, .ref q_t_one, .ref q_t_two, .ref q_t_hour, .int v_t_size], aI cy q_t_kind 21 v_t_kind, aI cy q_t_one 21 v_t_one, aI cy q_t_two 21 v_t_two, aI cy q_t_hour 21 v_t_hour]) 4 D (va_A [ob q_t 9 [.ref q_t_kind, .ref q_t_one, .ref q_t_two, .ref q_t_hour, .int v_t_size], aI cy q_t_kind 21 v_t_kind, aI cy q_t_one 21 v_t_one, aI cy q_t_two 21 v_t_two, aI cy q_t_hour 21 v_t_hour] s.heap.size) 0 0) cy K (n + 1) q_t q_t_kind q_t_one q_t_two q_t_hour  v_t_kind v_t_one v_t_two v_t_hour v_t_size out := by
  intro x1 x2 x3 hf
  replace hf := hf
  refine v_aload_n C dX9_touches_42 0 rfl rfl ?_
  refine v_get C fl_X9_15 0 rfl rfl dX9_touches_43 ?_
  refine v_iload_n C dX9_touches_46 1 rfl rfl ?_
  obtain ⟨g1, hf⟩ := gd_ hf
  refine v_iald C 2 rfl g1 dX9_touches_47 ?_
  refine v_iload_n C dX9_touches_48 3 rfl rfl ?_
  refine v_icmp_ne (tgt := 66) C dX9_touches_49 (by decide) (fun c2 => ?_) (fun c2 => ?_)
  · replace hf := (if_neg c2).symm.trans hf
    refine v_iconst (v := 0) C dX9_touches_66 (by decide) ?_
    obtain rfl := Option.some.inj hf
    exact v_zret C hr hlk rfl dX9_touches_67 rfl rfl rfl rfl
  · replace hf := (if_pos c2).symm.trans hf
    refine v_aload_n C dX9_touches_52 0 rfl rfl ?_
    refine v_get C fl_X9_18 0 rfl rfl dX9_touches_53 ?_
    refine v_iload_n C dX9_touches_56 1 rfl rfl ?_
    obtain ⟨g3, hf⟩ := gd_ hf
    refine v_iald C 3 rfl g3 dX9_touches_57 ?_
    refine v_iload_n C dX9_touches_58 2 rfl rfl ?_
    refine v_icmp_ne (tgt := 66) C dX9_touches_59 (by decide) (fun c4 => ?_) (fun c4 => ?_)
    · replace hf := (if_neg c4).symm.trans hf
      refine v_iconst (v := 0) C dX9_touches_66 (by decide) ?_
      obtain rfl := Option.some.inj hf
      exact v_zret C hr hlk rfl dX9_touches_67 rfl rfl rfl rfl
    · replace hf := (if_pos c4).symm.trans hf
      refine v_lv (lv' := []) [] rfl ?_
      exact ih.2 _ _ _ hf
set_option maxHeartbeats 4000000 in
set_option maxRecDepth 20000 in
theorem z1_Story_touches {p : Program} {l : Launch} {e : Env} {s : State} {m : MethodId} {args : Array Value} {below : List Frame} {meth : Method} {c : Code} {D : va_G} {cy : Nat → ClassId} {K : Nat} {q_t q_t_kind q_t_one q_t_two q_t_hour : Nat} {v_t_kind : Nat → Int32} {v_t_one : Nat → Int32} {v_t_two : Nat → Int32} {v_t_hour : Nat → Int32} {v_t_size : Int32} {out : Int32} (C : VC p s m args c cX9_touches RX9 4 D cy (va_A [ob q_t 9 [.ref q_t_kind, .ref q_t_one, .ref q_t_two, .ref q_t_hour, .int v_t_size], aI cy q_t_kind 21 v_t_kind, aI cy q_t_one 21 v_t_one, aI cy q_t_two 21 v_t_two, aI cy q_t_hour 21 v_t_hour] s.heap.size)) (hr : meth.sig.returnType = (some .boolean)) (hlk : meth.locks = false) (n : Nat) (ih : Z_Story_touches (V p l e rm_Story_touches s m args below meth c (EQ below args s rm_Story_touches D [ob q_t 9 [.ref q_t_kind, .ref q_t_one, .ref q_t_two, .ref q_t_hour, .int v_t_size], aI cy q_t_kind 21 v_t_kind, aI cy q_t_one 21 v_t_one, aI cy q_t_two 21 v_t_two, aI cy q_t_hour 21 v_t_hour] (some (.int out)) [ob q_t 9 [.ref q_t_kind, .ref q_t_one, .ref q_t_two, .ref q_t_hour, .int v_t_size], aI cy q_t_kind 21 v_t_kind, aI cy q_t_one 21 v_t_one, aI cy q_t_two 21 v_t_two, aI cy q_t_hour 21 v_t_hour]) 4 D (va_A [ob q_t 9 [.ref q_t_kind, .ref q_t_one, .ref q_t_two, .ref q_t_hour, .int v_t_size], aI cy q_t_kind 21 v_t_kind, aI cy q_t_one 21 v_t_one, aI cy q_t_two 21 v_t_two, aI cy q_t_hour 21 v_t_hour] s.heap.size) 0 0) cy K n q_t q_t_kind q_t_one q_t_two q_t_hour  v_t_kind v_t_one v_t_two v_t_hour v_t_size out) : Z1_Story_touches (V p l e rm_Story_touches s m args below meth c (EQ below args s rm_Story_touches D [ob q_t 9 [.ref q_t_kind, .ref q_t_one, .ref q_t_two, .ref q_t_hour, .int v_t_size], aI cy q_t_kind 21 v_t_kind, aI cy q_t_one 21 v_t_one, aI cy q_t_two 21 v_t_two, aI cy q_t_hour 21 v_t_hour] (some (.int out)) [ob q_t 9 [.ref q_t_kind, .ref q_t_one, .ref q_t_two, .ref q_t_hour, .int v_t_size], aI cy q_t_kind 21 v_t_kind, aI cy q_t_one 21 v_t_one, aI cy q_t_two 21 v_t_two, aI cy q_t_hour 21 v_t_hour]) 4 D (va_A [ob q_t 9 [.ref q_t_kind, .ref q_t_one, .ref q_t_two, .ref q_t_hour, .int v_t_size], aI cy q_t_kind 21 v_t_kind, aI cy q_t_one 21 v_t_one, aI cy q_t_two 21 v_t_two, aI cy q_t_hour 21 v_t_hour] s.heap.size) 0 0) cy K (n + 1) q_t q_t_kind q_t_one q_t_two q_t_hour  v_t_kind v_t_one v_t_two v_t_hour v_t_size out := by
  intro x1 x2 x3 hf
  replace hf := hf
  refine v_iconst (v := 1) C dX9_touches_62 (by decide) ?_
  refine v_goto (tgt := 67) C dX9_touches_63 (by decide) ?_
  obtain rfl := Option.some.inj hf
  exact v_zret C hr hlk rfl dX9_touches_67 rfl rfl rfl rfl
theorem z_Story_touches {p : Program} {l : Launch} {e : Env} {s : State} {m : MethodId} {args : Array Value} {below : List Frame} {meth : Method} {c : Code} {D : va_G} {cy : Nat → ClassId} {K : Nat} {q_t q_t_kind q_t_one q_t_two q_t_hour : Nat} {v_t_kind : Nat → Int32} {v_t_one : Nat → Int32} {v_t_two : Nat → Int32} {v_t_hour : Nat → Int32} {v_t_size : Int32} {out : Int32} (C : VC p s m args c cX9_touches RX9 4 D cy (va_A [ob q_t 9 [.ref q_t_kind, .ref q_t_one, .ref q_t_two, .ref q_t_hour, .int v_t_size], aI cy q_t_kind 21 v_t_kind, aI cy q_t_one 21 v_t_one, aI cy q_t_two 21 v_t_two, aI cy q_t_hour 21 v_t_hour] s.heap.size)) (hr : meth.sig.returnType = (some .boolean)) (hlk : meth.locks = false) (n : Nat) : Z_Story_touches (V p l e rm_Story_touches s m args below meth c (EQ below args s rm_Story_touches D [ob q_t 9 [.ref q_t_kind, .ref q_t_one, .ref q_t_two, .ref q_t_hour, .int v_t_size], aI cy q_t_kind 21 v_t_kind, aI cy q_t_one 21 v_t_one, aI cy q_t_two 21 v_t_two, aI cy q_t_hour 21 v_t_hour] (some (.int out)) [ob q_t 9 [.ref q_t_kind, .ref q_t_one, .ref q_t_two, .ref q_t_hour, .int v_t_size], aI cy q_t_kind 21 v_t_kind, aI cy q_t_one 21 v_t_one, aI cy q_t_two 21 v_t_two, aI cy q_t_hour 21 v_t_hour]) 4 D (va_A [ob q_t 9 [.ref q_t_kind, .ref q_t_one, .ref q_t_two, .ref q_t_hour, .int v_t_size], aI cy q_t_kind 21 v_t_kind, aI cy q_t_one 21 v_t_one, aI cy q_t_two 21 v_t_two, aI cy q_t_hour 21 v_t_hour] s.heap.size) 0 0) cy K n q_t q_t_kind q_t_one q_t_two q_t_hour  v_t_kind v_t_one v_t_two v_t_hour v_t_size out := by
  induction n with
  | zero => exact ⟨(fun _ _ _ h => nomatch h), (fun _ _ _ h => nomatch h)⟩
  | succ n ih => exact ⟨z0_Story_touches C hr hlk n ih, z1_Story_touches C hr hlk n ih⟩
set_option maxHeartbeats 4000000 in
set_option maxRecDepth 20000 in
theorem c_Story_touches (l : Launch) (D : va_G) (cy : Nat → ClassId) (K : Nat) (q_t q_t_kind q_t_one q_t_two q_t_hour : Nat) (p1 : Int32) (p2 : Int32) (p3 : Int32) (v_t_kind : Nat → Int32) (v_t_one : Nat → Int32) (v_t_two : Nat → Int32) (v_t_hour : Nat → Int32) (v_t_size : Int32) (out : Int32) (hf : sp_Story_touches K p1 p2 p3 v_t_one v_t_two v_t_size = some out) : Ct l yX9_touches cX9_touches 4 (some .boolean) rm_Story_touches D cy [.ref q_t, .int p1, .int p2, .int p3] [ob q_t 9 [.ref q_t_kind, .ref q_t_one, .ref q_t_two, .ref q_t_hour, .int v_t_size], aI cy q_t_kind 21 v_t_kind, aI cy q_t_one 21 v_t_one, aI cy q_t_two 21 v_t_two, aI cy q_t_hour 21 v_t_hour] (some (.int out)) [ob q_t 9 [.ref q_t_kind, .ref q_t_one, .ref q_t_two, .ref q_t_hour, .int v_t_size], aI cy q_t_kind 21 v_t_kind, aI cy q_t_one 21 v_t_one, aI cy q_t_two 21 v_t_two, aI cy q_t_hour 21 v_t_hour] := by
  refine ct_of (by decide +kernel) (Nat.le_of_ble_eq_true rfl) (fun p e s m args below meth c C hr hlk hnm => ?_)
  unfold sp_Story_touches at hf
  refine v_iload_n C dX9_touches_0 1 rfl rfl ?_
  refine v_aload_n C dX9_touches_1 0 rfl rfl ?_
  refine v_get C fl_X9_24 0 rfl rfl dX9_touches_2 ?_
  obtain ⟨o5, g1, hf⟩ := bd_ hf
  refine v_callN0 (As := [.int p1, .int v_t_size]) (st := []) (stk' := [.int o5]) C (c_within l D cy K   p1 v_t_size o5 g1) ln_X9_28 rfl (by decide) rfl dX9_touches_5 (Nat.le_of_ble_eq_true rfl) rfl ?_
  refine v_if_eq (tgt := 20) C dX9_touches_8 (by decide) (fun c2 => ?_) (fun c2 => ?_)
  · replace hf := (if_pos c2).symm.trans hf
    refine v_iconst (v := 0) C dX9_touches_20 (by decide) ?_
    obtain rfl := Option.some.inj hf
    exact v_zret C hr hlk rfl dX9_touches_21 rfl rfl rfl rfl
  · replace hf := (if_neg c2).symm.trans hf
    refine v_iload_n C dX9_touches_11 1 rfl rfl ?_
    refine v_bipush (v := 21) C dX9_touches_12 (by decide) ?_
    obtain ⟨o14, g3, hf⟩ := bd_ hf
    refine v_callN0 (As := [.int p1, .int 21]) (st := []) (stk' := [.int o14]) C (c_within l D cy K   p1 21 o14 g3) ln_X9_28 rfl (by decide) rfl dX9_touches_14 (Nat.le_of_ble_eq_true rfl) rfl ?_
    refine v_if_ne (tgt := 22) C dX9_touches_17 (by decide) (fun c4 => ?_) (fun c4 => ?_)
    · replace hf := (if_neg c4).symm.trans hf
      refine v_aload_n C dX9_touches_22 0 rfl rfl ?_
      refine v_get C fl_X9_15 0 rfl rfl dX9_touches_23 ?_
      refine v_iload_n C dX9_touches_26 1 rfl rfl ?_
      obtain ⟨g5, hf⟩ := gd_ hf
      refine v_iald C 2 rfl g5 dX9_touches_27 ?_
      refine v_iload_n C dX9_touches_28 2 rfl rfl ?_
      refine v_icmp_ne (tgt := 42) C dX9_touches_29 (by decide) (fun c6 => ?_) (fun c6 => ?_)
      · replace hf := (if_neg c6).symm.trans hf
        exact (z_Story_touches C hr hlk K).1 _ _ _ hf
      · replace hf := (if_pos c6).symm.trans hf
        refine v_aload_n C dX9_touches_32 0 rfl rfl ?_
        refine v_get C fl_X9_18 0 rfl rfl dX9_touches_33 ?_
        refine v_iload_n C dX9_touches_36 1 rfl rfl ?_
        obtain ⟨g7, hf⟩ := gd_ hf
        refine v_iald C 3 rfl g7 dX9_touches_37 ?_
        refine v_iload_n C dX9_touches_38 3 rfl rfl ?_
        refine v_icmp_eq (tgt := 62) C dX9_touches_39 (by decide) (fun c8 => ?_) (fun c8 => ?_)
        · replace hf := (if_pos c8).symm.trans hf
          refine v_lv (lv' := []) [] rfl ?_
          exact (z_Story_touches C hr hlk K).2 _ _ _ hf
        · replace hf := (if_neg c8).symm.trans hf
          exact (z_Story_touches C hr hlk K).1 _ _ _ hf
    · replace hf := (if_pos c4).symm.trans hf
      refine v_iconst (v := 0) C dX9_touches_20 (by decide) ?_
      obtain rfl := Option.some.inj hf
      exact v_zret C hr hlk rfl dX9_touches_21 rfl rfl rfl rfl

abbrev rm_Story_copyByWay : Room := { frames := 3, cells := 0, slots := 0, locals := 67 }
def f_Story_copyByWay (K : Nat) (v_p1_kind : Nat → Int32) (v_p1_one : Nat → Int32) (v_p1_two : Nat → Int32) (v_p1_hour : Nat → Int32) (v_p1_size : Int32) : Nat → Nat → Int32 × Int32 × Int32 × Int32 × (Nat → Int32) × (Nat → Int32) × (Nat → Int32) × (Nat → Int32) × Int32 → Option ((Nat → Int32) × (Nat → Int32) × (Nat → Int32) × (Nat → Int32) × Int32)
  | 0, _, _ => none
  | n + 1, 0, (x2, x3, x4, x5, v_t_kind, v_t_one, v_t_two, v_t_hour, v_t_size) =>
    if v_p1_size ≤ x5 then
      some (v_t_kind, v_t_one, v_t_two, v_t_hour, v_t_size)
    else
      if 21 ≤ x5 then
        some (v_t_kind, v_t_one, v_t_two, v_t_hour, v_t_size)
      else
        if inb x5 21 then
          if (v_p1_kind x5.toNatClampNeg) = 2 then
            (sp_Story_touches K x5 x4 x2 v_p1_one v_p1_two v_p1_size).bind fun o41 =>
              if o41 = 0 then
                (sp_Story_touches K x5 x4 x3 v_p1_one v_p1_two v_p1_size).bind fun o53 =>
                  if o53 = 0 then
                    f_Story_copyByWay K v_p1_kind v_p1_one v_p1_two v_p1_hour v_p1_size n 2 (x2, x3, x4, x5, v_t_kind, v_t_one, v_t_two, v_t_hour, v_t_size)
                  else
                    f_Story_copyByWay K v_p1_kind v_p1_one v_p1_two v_p1_hour v_p1_size n 1 (x2, x3, x4, x5, v_t_kind, v_t_one, v_t_two, v_t_hour, v_t_size)
              else
                f_Story_copyByWay K v_p1_kind v_p1_one v_p1_two v_p1_hour v_p1_size n 1 (x2, x3, x4, x5, v_t_kind, v_t_one, v_t_two, v_t_hour, v_t_size)
          else
            f_Story_copyByWay K v_p1_kind v_p1_one v_p1_two v_p1_hour v_p1_size n 1 (x2, x3, x4, x5, v_t_kind, v_t_one, v_t_two, v_t_hour, v_t_size)
        else none
  | n + 1, 1, (x2, x3, x4, x5, v_t_kind, v_t_one, v_t_two, v_t_hour, v_t_size) =>
    (sp_Story_addFrom K x5 v_t_kind v_t_one v_t_two v_t_hour v_t_size v_p1_kind v_p1_one v_p1_two v_p1_hour v_p1_size).bind fun o63 =>
      f_Story_copyByWay K v_p1_kind v_p1_one v_p1_two v_p1_hour v_p1_size n 2 (x2, x3, x4, x5, o63.1, o63.2.1, o63.2.2.1, o63.2.2.2.1, o63.2.2.2.2)
  | n + 1, 2, (x2, x3, x4, x5, v_t_kind, v_t_one, v_t_two, v_t_hour, v_t_size) =>
    f_Story_copyByWay K v_p1_kind v_p1_one v_p1_two v_p1_hour v_p1_size n 0 (x2, x3, x4, x5 + 1, v_t_kind, v_t_one, v_t_two, v_t_hour, v_t_size)
  | _ + 1, _ + 3, _ => none
def sp_Story_copyByWay (K : Nat) (p2 : Int32) (p3 : Int32) (p4 : Int32) (v_t_kind : Nat → Int32) (v_t_one : Nat → Int32) (v_t_two : Nat → Int32) (v_t_hour : Nat → Int32) (v_t_size : Int32) (v_p1_kind : Nat → Int32) (v_p1_one : Nat → Int32) (v_p1_two : Nat → Int32) (v_p1_hour : Nat → Int32) (v_p1_size : Int32) : Option ((Nat → Int32) × (Nat → Int32) × (Nat → Int32) × (Nat → Int32) × Int32) :=
  f_Story_copyByWay K v_p1_kind v_p1_one v_p1_two v_p1_hour v_p1_size K 0 (p2, p3, p4, 0, v_t_kind, v_t_one, v_t_two, v_t_hour, 0)
def Z0_Story_copyByWay (Vf : va_W → Nat → List (Nat × Value) → List Value → Prop) (cy : Nat → ClassId) (K n : Nat) (q_t q_t_kind q_t_one q_t_two q_t_hour q_p1 q_p1_kind q_p1_one q_p1_two q_p1_hour : Nat) (v_p1_kind : Nat → Int32) (v_p1_one : Nat → Int32) (v_p1_two : Nat → Int32) (v_p1_hour : Nat → Int32) (v_p1_size : Int32) (out : (Nat → Int32) × (Nat → Int32) × (Nat → Int32) × (Nat → Int32) × Int32) : Prop := ∀ (x2 : Int32) (x3 : Int32) (x4 : Int32) (x5 : Int32) (v_t_kind : Nat → Int32) (v_t_one : Nat → Int32) (v_t_two : Nat → Int32) (v_t_hour : Nat → Int32) (v_t_size : Int32), f_Story_copyByWay K v_p1_kind v_p1_one v_p1_two v_p1_hour v_p1_size n 0 (x2, x3, x4, x5, v_t_kind, v_t_one, v_t_two, v_t_hour, v_t_size) = some out → Vf [ob q_t 9 [.ref q_t_kind, .ref q_t_one, .ref q_t_two, .ref q_t_hour, .int v_t_size], aI cy q_t_kind 21 v_t_kind, aI cy q_t_one 21 v_t_one, aI cy q_t_two 21 v_t_two, aI cy q_t_hour 21 v_t_hour, ob q_p1 9 [.ref q_p1_kind, .ref q_p1_one, .ref q_p1_two, .ref q_p1_hour, .int v_p1_size], aI cy q_p1_kind 21 v_p1_kind, aI cy q_p1_one 21 v_p1_one, aI cy q_p1_two 21 v_p1_two, aI cy q_p1_hour 21 v_p1_hour] 8 [(0, .ref q_t), (1, .ref q_p1), (2, .int x2), (3, .int x3), (4, .int x4), (5, .int x5)] []
def Z1_Story_copyByWay (Vf : va_W → Nat → List (Nat × Value) → List Value → Prop) (cy : Nat → ClassId) (K n : Nat) (q_t q_t_kind q_t_one q_t_two q_t_hour q_p1 q_p1_kind q_p1_one q_p1_two q_p1_hour : Nat) (v_p1_kind : Nat → Int32) (v_p1_one : Nat → Int32) (v_p1_two : Nat → Int32) (v_p1_hour : Nat → Int32) (v_p1_size : Int32) (out : (Nat → Int32) × (Nat → Int32) × (Nat → Int32) × (Nat → Int32) × Int32) : Prop := ∀ (x2 : Int32) (x3 : Int32) (x4 : Int32) (x5 : Int32) (v_t_kind : Nat → Int32) (v_t_one : Nat → Int32) (v_t_two : Nat → Int32) (v_t_hour : Nat → Int32) (v_t_size : Int32), f_Story_copyByWay K v_p1_kind v_p1_one v_p1_two v_p1_hour v_p1_size n 1 (x2, x3, x4, x5, v_t_kind, v_t_one, v_t_two, v_t_hour, v_t_size) = some out → Vf [ob q_t 9 [.ref q_t_kind, .ref q_t_one, .ref q_t_two, .ref q_t_hour, .int v_t_size], aI cy q_t_kind 21 v_t_kind, aI cy q_t_one 21 v_t_one, aI cy q_t_two 21 v_t_two, aI cy q_t_hour 21 v_t_hour, ob q_p1 9 [.ref q_p1_kind, .ref q_p1_one, .ref q_p1_two, .ref q_p1_hour, .int v_p1_size], aI cy q_p1_kind 21 v_p1_kind, aI cy q_p1_one 21 v_p1_one, aI cy q_p1_two 21 v_p1_two, aI cy q_p1_hour 21 v_p1_hour] 59 [(0, .ref q_t), (1, .ref q_p1), (2, .int x2), (3, .int x3), (4, .int x4), (5, .int x5)] []
def Z2_Story_copyByWay (Vf : va_W → Nat → List (Nat × Value) → List Value → Prop) (cy : Nat → ClassId) (K n : Nat) (q_t q_t_kind q_t_one q_t_two q_t_hour q_p1 q_p1_kind q_p1_one q_p1_two q_p1_hour : Nat) (v_p1_kind : Nat → Int32) (v_p1_one : Nat → Int32) (v_p1_two : Nat → Int32) (v_p1_hour : Nat → Int32) (v_p1_size : Int32) (out : (Nat → Int32) × (Nat → Int32) × (Nat → Int32) × (Nat → Int32) × Int32) : Prop := ∀ (x2 : Int32) (x3 : Int32) (x4 : Int32) (x5 : Int32) (v_t_kind : Nat → Int32) (v_t_one : Nat → Int32) (v_t_two : Nat → Int32) (v_t_hour : Nat → Int32) (v_t_size : Int32), f_Story_copyByWay K v_p1_kind v_p1_one v_p1_two v_p1_hour v_p1_size n 2 (x2, x3, x4, x5, v_t_kind, v_t_one, v_t_two, v_t_hour, v_t_size) = some out → Vf [ob q_t 9 [.ref q_t_kind, .ref q_t_one, .ref q_t_two, .ref q_t_hour, .int v_t_size], aI cy q_t_kind 21 v_t_kind, aI cy q_t_one 21 v_t_one, aI cy q_t_two 21 v_t_two, aI cy q_t_hour 21 v_t_hour, ob q_p1 9 [.ref q_p1_kind, .ref q_p1_one, .ref q_p1_two, .ref q_p1_hour, .int v_p1_size], aI cy q_p1_kind 21 v_p1_kind, aI cy q_p1_one 21 v_p1_one, aI cy q_p1_two 21 v_p1_two, aI cy q_p1_hour 21 v_p1_hour] 66 [(0, .ref q_t), (1, .ref q_p1), (2, .int x2), (3, .int x3), (4, .int x4), (5, .int x5)] []
def Z_Story_copyByWay (Vf : va_W → Nat → List (Nat × Value) → List Value → Prop) (cy : Nat → ClassId) (K n : Nat) (q_t q_t_kind q_t_one q_t_two q_t_hour q_p1 q_p1_kind q_p1_one q_p1_two q_p1_hour : Nat) (v_p1_kind : Nat → Int32) (v_p1_one : Nat → Int32) (v_p1_two : Nat → Int32) (v_p1_hour : Nat → Int32) (v_p1_size : Int32) (out : (Nat → Int32) × (Nat → Int32) × (Nat → Int32) × (Nat → Int32) × Int32) : Prop := Z0_Story_copyByWay Vf cy K n q_t q_t_kind q_t_one q_t_two q_t_hour q_p1 q_p1_kind q_p1_one q_p1_two q_p1_hour  v_p1_kind v_p1_one v_p1_two v_p1_hour v_p1_size out ∧ Z1_Story_copyByWay Vf cy K n q_t q_t_kind q_t_one q_t_two q_t_hour q_p1 q_p1_kind q_p1_one q_p1_two q_p1_hour  v_p1_kind v_p1_one v_p1_two v_p1_hour v_p1_size out ∧ Z2_Story_copyByWay Vf cy K n q_t q_t_kind q_t_one q_t_two q_t_hour q_p1 q_p1_kind q_p1_one q_p1_two q_p1_hour  v_p1_kind v_p1_one v_p1_two v_p1_hour v_p1_size out
set_option maxHeartbeats 4000000 in
set_option maxRecDepth 20000 in
theorem z0_Story_copyByWay {p : Program} {l : Launch} {e : Env} {s : State} {m : MethodId} {args : Array Value} {below : List Frame} {meth : Method} {c : Code} {D : va_G} {cy : Nat → ClassId} {K : Nat} {q_t q_t_kind q_t_one q_t_two q_t_hour q_p1 q_p1_kind q_p1_one q_p1_two q_p1_hour : Nat} {v_p1_kind : Nat → Int32} {v_p1_one : Nat → Int32} {v_p1_two : Nat → Int32} {v_p1_hour : Nat → Int32} {v_p1_size : Int32} {v_t_kind' : Nat → Int32} {v_t_one' : Nat → Int32} {v_t_two' : Nat → Int32} {v_t_hour' : Nat → Int32} {v_t_size' : Int32} {out : (Nat → Int32) × (Nat → Int32) × (Nat → Int32) × (Nat → Int32) × Int32} (C : VC p s m args c cX9_copyByWay RX9 6 D cy (va_A [ob q_t 9 [.ref q_t_kind, .ref q_t_one, .ref q_t_two, .ref q_t_hour, .int v_t_size'], aI cy q_t_kind 21 v_t_kind', aI cy q_t_one 21 v_t_one', aI cy q_t_two 21 v_t_two', aI cy q_t_hour 21 v_t_hour', ob q_p1 9 [.ref q_p1_kind, .ref q_p1_one, .ref q_p1_two, .ref q_p1_hour, .int v_p1_size], aI cy q_p1_kind 21 v_p1_kind, aI cy q_p1_one 21 v_p1_one, aI cy q_p1_two 21 v_p1_two, aI cy q_p1_hour 21 v_p1_hour] s.heap.size)) (hr : meth.sig.returnType = none) (hlk : meth.locks = false) (n : Nat) (ih : Z_Story_copyByWay (V p l e rm_Story_copyByWay s m args below meth c (EQ below args s rm_Story_copyByWay D [ob q_t 9 [.ref q_t_kind, .ref q_t_one, .ref q_t_two, .ref q_t_hour, .int v_t_size'], aI cy q_t_kind 21 v_t_kind', aI cy q_t_one 21 v_t_one', aI cy q_t_two 21 v_t_two', aI cy q_t_hour 21 v_t_hour', ob q_p1 9 [.ref q_p1_kind, .ref q_p1_one, .ref q_p1_two, .ref q_p1_hour, .int v_p1_size], aI cy q_p1_kind 21 v_p1_kind, aI cy q_p1_one 21 v_p1_one, aI cy q_p1_two 21 v_p1_two, aI cy q_p1_hour 21 v_p1_hour] none [ob q_t 9 [.ref q_t_kind, .ref q_t_one, .ref q_t_two, .ref q_t_hour, .int out.2.2.2.2], aI cy q_t_kind 21 out.1, aI cy q_t_one 21 out.2.1, aI cy q_t_two 21 out.2.2.1, aI cy q_t_hour 21 out.2.2.2.1, ob q_p1 9 [.ref q_p1_kind, .ref q_p1_one, .ref q_p1_two, .ref q_p1_hour, .int v_p1_size], aI cy q_p1_kind 21 v_p1_kind, aI cy q_p1_one 21 v_p1_one, aI cy q_p1_two 21 v_p1_two, aI cy q_p1_hour 21 v_p1_hour]) 6 D (va_A [ob q_t 9 [.ref q_t_kind, .ref q_t_one, .ref q_t_two, .ref q_t_hour, .int v_t_size'], aI cy q_t_kind 21 v_t_kind', aI cy q_t_one 21 v_t_one', aI cy q_t_two 21 v_t_two', aI cy q_t_hour 21 v_t_hour', ob q_p1 9 [.ref q_p1_kind, .ref q_p1_one, .ref q_p1_two, .ref q_p1_hour, .int v_p1_size], aI cy q_p1_kind 21 v_p1_kind, aI cy q_p1_one 21 v_p1_one, aI cy q_p1_two 21 v_p1_two, aI cy q_p1_hour 21 v_p1_hour] s.heap.size) 0 0) cy K n q_t q_t_kind q_t_one q_t_two q_t_hour q_p1 q_p1_kind q_p1_one q_p1_two q_p1_hour  v_p1_kind v_p1_one v_p1_two v_p1_hour v_p1_size out) : Z0_Story_copyByWay (V p l e rm_Story_copyByWay s m args below meth c (EQ below args s rm_Story_copyByWay D [ob q_t 9 [.ref q_t_kind, .ref q_t_one, .ref q_t_two, .ref q_t_hour, .int v_t_size'], aI cy q_t_kind 21 v_t_kind', aI cy q_t_one 21 v_t_one', aI cy q_t_two 21 v_t_two', aI cy q_t_hour 21 v_t_hour', ob q_p1 9 [.ref q_p1_kind, .ref q_p1_one, .ref q_p1_two, .ref q_p1_hour, .int v_p1_size], aI cy q_p1_kind 21 v_p1_kind, aI cy q_p1_one 21 v_p1_one, aI cy q_p1_two 21 v_p1_two, aI cy q_p1_hour 21 v_p1_hour] none [ob q_t 9 [.ref q_t_kind, .ref q_t_one, .ref q_t_two, .ref q_t_hour, .int out.2.2.2.2], aI cy q_t_kind 21 out.1, aI cy q_t_one 21 out.2.1, aI cy q_t_two 21 out.2.2.1, aI cy q_t_hour 21 out.2.2.2.1, ob q_p1 9 [.ref q_p1_kind, .ref q_p1_one, .ref q_p1_two, .ref q_p1_hour, .int v_p1_size], aI cy q_p1_kind 21 v_p1_kind, aI cy q_p1_one 21 v_p1_one, aI cy q_p1_two 21 v_p1_two, aI cy q_p1_hour 21 v_p1_hour]) 6 D (va_A [ob q_t 9 [.ref q_t_kind, .ref q_t_one, .ref q_t_two, .ref q_t_hour, .int v_t_size'], aI cy q_t_kind 21 v_t_kind', aI cy q_t_one 21 v_t_one', aI cy q_t_two 21 v_t_two', aI cy q_t_hour 21 v_t_hour', ob q_p1 9 [.ref q_p1_kind, .ref q_p1_one, .ref q_p1_two, .ref q_p1_hour, .int v_p1_size], aI cy q_p1_kind 21 v_p1_kind, aI cy q_p1_one 21 v_p1_one, aI cy q_p1_two 21 v_p1_two, aI cy q_p1_hour 21 v_p1_hour] s.heap.size) 0 0) cy K (n + 1) q_t q_t_kind q_t_one q_t_two q_t_hour q_p1 q_p1_kind q_p1_one q_p1_two q_p1_hour  v_p1_kind v_p1_one v_p1_two v_p1_hour v_p1_size out := by
  intro x2 x3 x4 x5 v_t_kind v_t_one v_t_two v_t_hour v_t_size hf
  replace hf := hf
  refine v_iload C dX9_copyByWay_8 5 rfl ?_
  refine v_aload_n C dX9_copyByWay_10 1 rfl rfl ?_
  refine v_get C fl_X9_24 5 rfl rfl dX9_copyByWay_11 ?_
  refine v_icmp_ge (tgt := 72) C dX9_copyByWay_14 (by decide) (fun c1 => ?_) (fun c1 => ?_)
  · replace hf := (if_pos c1).symm.trans hf
    obtain rfl := Option.some.inj hf
    exact v_vret C hr hlk dX9_copyByWay_72 rfl rfl rfl rfl
  · replace hf := (if_neg c1).symm.trans hf
    refine v_iload C dX9_copyByWay_17 5 rfl ?_
    refine v_bipush (v := 21) C dX9_copyByWay_19 (by decide) ?_
    refine v_icmp_ge (tgt := 72) C dX9_copyByWay_21 (by decide) (fun c2 => ?_) (fun c2 => ?_)
    · replace hf := (if_pos c2).symm.trans hf
      obtain rfl := Option.some.inj hf
      exact v_vret C hr hlk dX9_copyByWay_72 rfl rfl rfl rfl
    · replace hf := (if_neg c2).symm.trans hf
      refine v_aload_n C dX9_copyByWay_24 1 rfl rfl ?_
      refine v_get C fl_X9_9 5 rfl rfl dX9_copyByWay_25 ?_
      refine v_iload C dX9_copyByWay_28 5 rfl ?_
      obtain ⟨g3, hf⟩ := gd_ hf
      refine v_iald C 6 rfl g3 dX9_copyByWay_30 ?_
      refine v_iconst (v := 2) C dX9_copyByWay_31 (by decide) ?_
      refine v_icmp_ne (tgt := 59) C dX9_copyByWay_32 (by decide) (fun c4 => ?_) (fun c4 => ?_)
      · replace hf := (if_neg c4).symm.trans hf
        exact ih.2.1 _ _ _ _ _ _ _ _ _ hf
      · replace hf := (if_pos c4).symm.trans hf
        refine v_aload_n C dX9_copyByWay_35 1 rfl rfl ?_
        refine v_iload C dX9_copyByWay_36 5 rfl ?_
        refine v_iload C dX9_copyByWay_38 4 rfl ?_
        refine v_iload_n C dX9_copyByWay_40 2 rfl rfl ?_
        obtain ⟨o41, g5, hf⟩ := bd_ hf
        refine v_callV (As := [.int x5, .int x4, .int x2]) (wr := [ob q_t 9 [.ref q_t_kind, .ref q_t_one, .ref q_t_two, .ref q_t_hour, .int v_t_size], aI cy q_t_kind 21 v_t_kind, aI cy q_t_one 21 v_t_one, aI cy q_t_two 21 v_t_two, aI cy q_t_hour 21 v_t_hour]) (ws' := [ob q_t 9 [.ref q_t_kind, .ref q_t_one, .ref q_t_two, .ref q_t_hour, .int v_t_size], aI cy q_t_kind 21 v_t_kind, aI cy q_t_one 21 v_t_one, aI cy q_t_two 21 v_t_two, aI cy q_t_hour 21 v_t_hour, ob q_p1 9 [.ref q_p1_kind, .ref q_p1_one, .ref q_p1_two, .ref q_p1_hour, .int v_p1_size], aI cy q_p1_kind 21 v_p1_kind, aI cy q_p1_one 21 v_p1_one, aI cy q_p1_two 21 v_p1_two, aI cy q_p1_hour 21 v_p1_hour]) (st := []) (stk' := [.int o41]) C (c_Story_touches l D cy K q_p1 q_p1_kind q_p1_one q_p1_two q_p1_hour  x5 x4 x2 v_p1_kind v_p1_one v_p1_two v_p1_hour v_p1_size o41 g5) lv_X9_40 rfl (by decide) rfl 5 rfl rfl rfl dX9_copyByWay_41 [5, 6, 7, 8, 9] [0, 1, 2, 3, 4] (by decide) rfl rfl (by decide) (by decide) (Nat.le_of_ble_eq_true rfl) rfl rfl ?_
        refine v_if_ne (tgt := 59) C dX9_copyByWay_44 (by decide) (fun c6 => ?_) (fun c6 => ?_)
        · replace hf := (if_neg c6).symm.trans hf
          exact ih.2.1 _ _ _ _ _ _ _ _ _ hf
        · replace hf := (if_pos c6).symm.trans hf
          refine v_aload_n C dX9_copyByWay_47 1 rfl rfl ?_
          refine v_iload C dX9_copyByWay_48 5 rfl ?_
          refine v_iload C dX9_copyByWay_50 4 rfl ?_
          refine v_iload_n C dX9_copyByWay_52 3 rfl rfl ?_
          obtain ⟨o53, g7, hf⟩ := bd_ hf
          refine v_callV (As := [.int x5, .int x4, .int x3]) (wr := [ob q_t 9 [.ref q_t_kind, .ref q_t_one, .ref q_t_two, .ref q_t_hour, .int v_t_size], aI cy q_t_kind 21 v_t_kind, aI cy q_t_one 21 v_t_one, aI cy q_t_two 21 v_t_two, aI cy q_t_hour 21 v_t_hour]) (ws' := [ob q_t 9 [.ref q_t_kind, .ref q_t_one, .ref q_t_two, .ref q_t_hour, .int v_t_size], aI cy q_t_kind 21 v_t_kind, aI cy q_t_one 21 v_t_one, aI cy q_t_two 21 v_t_two, aI cy q_t_hour 21 v_t_hour, ob q_p1 9 [.ref q_p1_kind, .ref q_p1_one, .ref q_p1_two, .ref q_p1_hour, .int v_p1_size], aI cy q_p1_kind 21 v_p1_kind, aI cy q_p1_one 21 v_p1_one, aI cy q_p1_two 21 v_p1_two, aI cy q_p1_hour 21 v_p1_hour]) (st := []) (stk' := [.int o53]) C (c_Story_touches l D cy K q_p1 q_p1_kind q_p1_one q_p1_two q_p1_hour  x5 x4 x3 v_p1_kind v_p1_one v_p1_two v_p1_hour v_p1_size o53 g7) lv_X9_40 rfl (by decide) rfl 5 rfl rfl rfl dX9_copyByWay_53 [5, 6, 7, 8, 9] [0, 1, 2, 3, 4] (by decide) rfl rfl (by decide) (by decide) (Nat.le_of_ble_eq_true rfl) rfl rfl ?_
          refine v_if_eq (tgt := 66) C dX9_copyByWay_56 (by decide) (fun c8 => ?_) (fun c8 => ?_)
          · replace hf := (if_pos c8).symm.trans hf
            exact ih.2.2 _ _ _ _ _ _ _ _ _ hf
          · replace hf := (if_neg c8).symm.trans hf
            exact ih.2.1 _ _ _ _ _ _ _ _ _ hf
set_option maxHeartbeats 4000000 in
set_option maxRecDepth 20000 in
theorem z1_Story_copyByWay {p : Program} {l : Launch} {e : Env} {s : State} {m : MethodId} {args : Array Value} {below : List Frame} {meth : Method} {c : Code} {D : va_G} {cy : Nat → ClassId} {K : Nat} {q_t q_t_kind q_t_one q_t_two q_t_hour q_p1 q_p1_kind q_p1_one q_p1_two q_p1_hour : Nat} {v_p1_kind : Nat → Int32} {v_p1_one : Nat → Int32} {v_p1_two : Nat → Int32} {v_p1_hour : Nat → Int32} {v_p1_size : Int32} {v_t_kind' : Nat → Int32} {v_t_one' : Nat → Int32} {v_t_two' : Nat → Int32} {v_t_hour' : Nat → Int32} {v_t_size' : Int32} {out : (Nat → Int32) × (Nat → Int32) × (Nat → Int32) × (Nat → Int32) × Int32} (C : VC p s m args c cX9_copyByWay RX9 6 D cy (va_A [ob q_t 9 [.ref q_t_kind, .ref q_t_one, .ref q_t_two, .ref q_t_hour, .int v_t_size'], aI cy q_t_kind 21 v_t_kind', aI cy q_t_one 21 v_t_one', aI cy q_t_two 21 v_t_two', aI cy q_t_hour 21 v_t_hour', ob q_p1 9 [.ref q_p1_kind, .ref q_p1_one, .ref q_p1_two, .ref q_p1_hour, .int v_p1_size], aI cy q_p1_kind 21 v_p1_kind, aI cy q_p1_one 21 v_p1_one, aI cy q_p1_two 21 v_p1_two, aI cy q_p1_hour 21 v_p1_hour] s.heap.size)) (hr : meth.sig.returnType = none) (hlk : meth.locks = false) (n : Nat) (ih : Z_Story_copyByWay (V p l e rm_Story_copyByWay s m args below meth c (EQ below args s rm_Story_copyByWay D [ob q_t 9 [.ref q_t_kind, .ref q_t_one, .ref q_t_two, .ref q_t_hour, .int v_t_size'], aI cy q_t_kind 21 v_t_kind', aI cy q_t_one 21 v_t_one', aI cy q_t_two 21 v_t_two', aI cy q_t_hour 21 v_t_hour', ob q_p1 9 [.ref q_p1_kind, .ref q_p1_one, .ref q_p1_two, .ref q_p1_hour, .int v_p1_size], aI cy q_p1_kind 21 v_p1_kind, aI cy q_p1_one 21 v_p1_one, aI cy q_p1_two 21 v_p1_two, aI cy q_p1_hour 21 v_p1_hour] none [ob q_t 9 [.ref q_t_kind, .ref q_t_one, .ref q_t_two, .ref q_t_hour, .int out.2.2.2.2], aI cy q_t_kind 21 out.1, aI cy q_t_one 21 out.2.1, aI cy q_t_two 21 out.2.2.1, aI cy q_t_hour 21 out.2.2.2.1, ob q_p1 9 [.ref q_p1_kind, .ref q_p1_one, .ref q_p1_two, .ref q_p1_hour, .int v_p1_size], aI cy q_p1_kind 21 v_p1_kind, aI cy q_p1_one 21 v_p1_one, aI cy q_p1_two 21 v_p1_two, aI cy q_p1_hour 21 v_p1_hour]) 6 D (va_A [ob q_t 9 [.ref q_t_kind, .ref q_t_one, .ref q_t_two, .ref q_t_hour, .int v_t_size'], aI cy q_t_kind 21 v_t_kind', aI cy q_t_one 21 v_t_one', aI cy q_t_two 21 v_t_two', aI cy q_t_hour 21 v_t_hour', ob q_p1 9 [.ref q_p1_kind, .ref q_p1_one, .ref q_p1_two, .ref q_p1_hour, .int v_p1_size], aI cy q_p1_kind 21 v_p1_kind, aI cy q_p1_one 21 v_p1_one, aI cy q_p1_two 21 v_p1_two, aI cy q_p1_hour 21 v_p1_hour] s.heap.size) 0 0) cy K n q_t q_t_kind q_t_one q_t_two q_t_hour q_p1 q_p1_kind q_p1_one q_p1_two q_p1_hour  v_p1_kind v_p1_one v_p1_two v_p1_hour v_p1_size out) : Z1_Story_copyByWay (V p l e rm_Story_copyByWay s m args below meth c (EQ below args s rm_Story_copyByWay D [ob q_t 9 [.ref q_t_kind, .ref q_t_one, .ref q_t_two, .ref q_t_hour, .int v_t_size'], aI cy q_t_kind 21 v_t_kind', aI cy q_t_one 21 v_t_one', aI cy q_t_two 21 v_t_two', aI cy q_t_hour 21 v_t_hour', ob q_p1 9 [.ref q_p1_kind, .ref q_p1_one, .ref q_p1_two, .ref q_p1_hour, .int v_p1_size], aI cy q_p1_kind 21 v_p1_kind, aI cy q_p1_one 21 v_p1_one, aI cy q_p1_two 21 v_p1_two, aI cy q_p1_hour 21 v_p1_hour] none [ob q_t 9 [.ref q_t_kind, .ref q_t_one, .ref q_t_two, .ref q_t_hour, .int out.2.2.2.2], aI cy q_t_kind 21 out.1, aI cy q_t_one 21 out.2.1, aI cy q_t_two 21 out.2.2.1, aI cy q_t_hour 21 out.2.2.2.1, ob q_p1 9 [.ref q_p1_kind, .ref q_p1_one, .ref q_p1_two, .ref q_p1_hour, .int v_p1_size], aI cy q_p1_kind 21 v_p1_kind, aI cy q_p1_one 21 v_p1_one, aI cy q_p1_two 21 v_p1_two, aI cy q_p1_hour 21 v_p1_hour]) 6 D (va_A [ob q_t 9 [.ref q_t_kind, .ref q_t_one, .ref q_t_two, .ref q_t_hour, .int v_t_size'], aI cy q_t_kind 21 v_t_kind', aI cy q_t_one 21 v_t_one', aI cy q_t_two 21 v_t_two', aI cy q_t_hour 21 v_t_hour', ob q_p1 9 [.ref q_p1_kind, .ref q_p1_one, .ref q_p1_two, .ref q_p1_hour, .int v_p1_size], aI cy q_p1_kind 21 v_p1_kind, aI cy q_p1_one 21 v_p1_one, aI cy q_p1_two 21 v_p1_two, aI cy q_p1_hour 21 v_p1_hour] s.heap.size) 0 0) cy K (n + 1) q_t q_t_kind q_t_one q_t_two q_t_hour q_p1 q_p1_kind q_p1_one q_p1_two q_p1_hour  v_p1_kind v_p1_one v_p1_two v_p1_hour v_p1_size out := by
  intro x2 x3 x4 x5 v_t_kind v_t_one v_t_two v_t_hour v_t_size hf
  replace hf := hf
  refine v_aload_n C dX9_copyByWay_59 0 rfl rfl ?_
  refine v_aload_n C dX9_copyByWay_60 1 rfl rfl ?_
  refine v_iload C dX9_copyByWay_61 5 rfl ?_
  obtain ⟨o63, g1, hf⟩ := bd_ hf
  refine v_callV (As := [.ref q_p1, .int x5]) (wr := []) (ws' := [ob q_t 9 [.ref q_t_kind, .ref q_t_one, .ref q_t_two, .ref q_t_hour, .int o63.2.2.2.2], aI cy q_t_kind 21 o63.1, aI cy q_t_one 21 o63.2.1, aI cy q_t_two 21 o63.2.2.1, aI cy q_t_hour 21 o63.2.2.2.1, ob q_p1 9 [.ref q_p1_kind, .ref q_p1_one, .ref q_p1_two, .ref q_p1_hour, .int v_p1_size], aI cy q_p1_kind 21 v_p1_kind, aI cy q_p1_one 21 v_p1_one, aI cy q_p1_two 21 v_p1_two, aI cy q_p1_hour 21 v_p1_hour]) (st := []) (stk' := []) C (c_Story_addFrom l D cy K q_t q_t_kind q_t_one q_t_two q_t_hour q_p1 q_p1_kind q_p1_one q_p1_two q_p1_hour  x5 v_t_kind v_t_one v_t_two v_t_hour v_t_size v_p1_kind v_p1_one v_p1_two v_p1_hour v_p1_size o63 g1) lv_X9_36 rfl (by decide) rfl 0 rfl rfl rfl dX9_copyByWay_63 [0, 1, 2, 3, 4, 5, 6, 7, 8, 9] [] (by decide) rfl rfl (by decide) (by decide) (Nat.le_of_ble_eq_true rfl) rfl rfl ?_
  exact ih.2.2 _ _ _ _ _ _ _ _ _ hf
set_option maxHeartbeats 4000000 in
set_option maxRecDepth 20000 in
theorem z2_Story_copyByWay {p : Program} {l : Launch} {e : Env} {s : State} {m : MethodId} {args : Array Value} {below : List Frame} {meth : Method} {c : Code} {D : va_G} {cy : Nat → ClassId} {K : Nat} {q_t q_t_kind q_t_one q_t_two q_t_hour q_p1 q_p1_kind q_p1_one q_p1_two q_p1_hour : Nat} {v_p1_kind : Nat → Int32} {v_p1_one : Nat → Int32} {v_p1_two : Nat → Int32} {v_p1_hour : Nat → Int32} {v_p1_size : Int32} {v_t_kind' : Nat → Int32} {v_t_one' : Nat → Int32} {v_t_two' : Nat → Int32} {v_t_hour' : Nat → Int32} {v_t_size' : Int32} {out : (Nat → Int32) × (Nat → Int32) × (Nat → Int32) × (Nat → Int32) × Int32} (C : VC p s m args c cX9_copyByWay RX9 6 D cy (va_A [ob q_t 9 [.ref q_t_kind, .ref q_t_one, .ref q_t_two, .ref q_t_hour, .int v_t_size'], aI cy q_t_kind 21 v_t_kind', aI cy q_t_one 21 v_t_one', aI cy q_t_two 21 v_t_two', aI cy q_t_hour 21 v_t_hour', ob q_p1 9 [.ref q_p1_kind, .ref q_p1_one, .ref q_p1_two, .ref q_p1_hour, .int v_p1_size], aI cy q_p1_kind 21 v_p1_kind, aI cy q_p1_one 21 v_p1_one, aI cy q_p1_two 21 v_p1_two, aI cy q_p1_hour 21 v_p1_hour] s.heap.size)) (hr : meth.sig.returnType = none) (hlk : meth.locks = false) (n : Nat) (ih : Z_Story_copyByWay (V p l e rm_Story_copyByWay s m args below meth c (EQ below args s rm_Story_copyByWay D [ob q_t 9 [.ref q_t_kind, .ref q_t_one, .ref q_t_two, .ref q_t_hour, .int v_t_size'], aI cy q_t_kind 21 v_t_kind', aI cy q_t_one 21 v_t_one', aI cy q_t_two 21 v_t_two', aI cy q_t_hour 21 v_t_hour', ob q_p1 9 [.ref q_p1_kind, .ref q_p1_one, .ref q_p1_two, .ref q_p1_hour, .int v_p1_size], aI cy q_p1_kind 21 v_p1_kind, aI cy q_p1_one 21 v_p1_one, aI cy q_p1_two 21 v_p1_two, aI cy q_p1_hour 21 v_p1_hour] none [ob q_t 9 [.ref q_t_kind, .ref q_t_one, .ref q_t_two, .ref q_t_hour, .int out.2.2.2.2], aI cy q_t_kind 21 out.1, aI cy q_t_one 21 out.2.1, aI cy q_t_two 21 out.2.2.1, aI cy q_t_hour 21 out.2.2.2.1, ob q_p1 9 [.ref q_p1_kind, .ref q_p1_one, .ref q_p1_two, .ref q_p1_hour, .int v_p1_size], aI cy q_p1_kind 21 v_p1_kind, aI cy q_p1_one 21 v_p1_one, aI cy q_p1_two 21 v_p1_two, aI cy q_p1_hour 21 v_p1_hour]) 6 D (va_A [ob q_t 9 [.ref q_t_kind, .ref q_t_one, .ref q_t_two, .ref q_t_hour, .int v_t_size'], aI cy q_t_kind 21 v_t_kind', aI cy q_t_one 21 v_t_one', aI cy q_t_two 21 v_t_two', aI cy q_t_hour 21 v_t_hour', ob q_p1 9 [.ref q_p1_kind, .ref q_p1_one, .ref q_p1_two, .ref q_p1_hour, .int v_p1_size], aI cy q_p1_kind 21 v_p1_kind, aI cy q_p1_one 21 v_p1_one, aI cy q_p1_two 21 v_p1_two, aI cy q_p1_hour 21 v_p1_hour] s.heap.size) 0 0) cy K n q_t q_t_kind q_t_one q_t_two q_t_hour q_p1 q_p1_kind q_p1_one q_p1_two q_p1_hour  v_p1_kind v_p1_one v_p1_two v_p1_hour v_p1_size out) : Z2_Story_copyByWay (V p l e rm_Story_copyByWay s m args below meth c (EQ below args s rm_Story_copyByWay D [ob q_t 9 [.ref q_t_kind, .ref q_t_one, .ref q_t_two, .ref q_t_hour, .int v_t_size'], aI cy q_t_kind 21 v_t_kind', aI cy q_t_one 21 v_t_one', aI cy q_t_two 21 v_t_two', aI cy q_t_hour 21 v_t_hour', ob q_p1 9 [.ref q_p1_kind, .ref q_p1_one, .ref q_p1_two, .ref q_p1_hour, .int v_p1_size], aI cy q_p1_kind 21 v_p1_kind, aI cy q_p1_one 21 v_p1_one, aI cy q_p1_two 21 v_p1_two, aI cy q_p1_hour 21 v_p1_hour] none [ob q_t 9 [.ref q_t_kind, .ref q_t_one, .ref q_t_two, .ref q_t_hour, .int out.2.2.2.2], aI cy q_t_kind 21 out.1, aI cy q_t_one 21 out.2.1, aI cy q_t_two 21 out.2.2.1, aI cy q_t_hour 21 out.2.2.2.1, ob q_p1 9 [.ref q_p1_kind, .ref q_p1_one, .ref q_p1_two, .ref q_p1_hour, .int v_p1_size], aI cy q_p1_kind 21 v_p1_kind, aI cy q_p1_one 21 v_p1_one, aI cy q_p1_two 21 v_p1_two, aI cy q_p1_hour 21 v_p1_hour]) 6 D (va_A [ob q_t 9 [.ref q_t_kind, .ref q_t_one, .ref q_t_two, .ref q_t_hour, .int v_t_size'], aI cy q_t_kind 21 v_t_kind', aI cy q_t_one 21 v_t_one', aI cy q_t_two 21 v_t_two', aI cy q_t_hour 21 v_t_hour', ob q_p1 9 [.ref q_p1_kind, .ref q_p1_one, .ref q_p1_two, .ref q_p1_hour, .int v_p1_size], aI cy q_p1_kind 21 v_p1_kind, aI cy q_p1_one 21 v_p1_one, aI cy q_p1_two 21 v_p1_two, aI cy q_p1_hour 21 v_p1_hour] s.heap.size) 0 0) cy K (n + 1) q_t q_t_kind q_t_one q_t_two q_t_hour q_p1 q_p1_kind q_p1_one q_p1_two q_p1_hour  v_p1_kind v_p1_one v_p1_two v_p1_hour v_p1_size out := by
  intro x2 x3 x4 x5 v_t_kind v_t_one v_t_two v_t_hour v_t_size hf
  replace hf := hf
  refine v_iinc (v := x5 + 1) (lv' := [(5, .int (x5 + 1)), (0, .ref q_t), (1, .ref q_p1), (2, .int x2), (3, .int x3), (4, .int x4)]) C dX9_copyByWay_66 5 rfl rfl (by decide) rfl ?_
  refine v_goto (tgt := 8) C dX9_copyByWay_69 (by decide) ?_
  refine v_lv (lv' := [(0, .ref q_t), (1, .ref q_p1), (2, .int x2), (3, .int x3), (4, .int x4), (5, .int (x5 + 1))]) [1, 2, 3, 4, 5, 0] rfl ?_
  exact ih.1 _ _ _ _ _ _ _ _ _ hf
theorem z_Story_copyByWay {p : Program} {l : Launch} {e : Env} {s : State} {m : MethodId} {args : Array Value} {below : List Frame} {meth : Method} {c : Code} {D : va_G} {cy : Nat → ClassId} {K : Nat} {q_t q_t_kind q_t_one q_t_two q_t_hour q_p1 q_p1_kind q_p1_one q_p1_two q_p1_hour : Nat} {v_p1_kind : Nat → Int32} {v_p1_one : Nat → Int32} {v_p1_two : Nat → Int32} {v_p1_hour : Nat → Int32} {v_p1_size : Int32} {v_t_kind' : Nat → Int32} {v_t_one' : Nat → Int32} {v_t_two' : Nat → Int32} {v_t_hour' : Nat → Int32} {v_t_size' : Int32} {out : (Nat → Int32) × (Nat → Int32) × (Nat → Int32) × (Nat → Int32) × Int32} (C : VC p s m args c cX9_copyByWay RX9 6 D cy (va_A [ob q_t 9 [.ref q_t_kind, .ref q_t_one, .ref q_t_two, .ref q_t_hour, .int v_t_size'], aI cy q_t_kind 21 v_t_kind', aI cy q_t_one 21 v_t_one', aI cy q_t_two 21 v_t_two', aI cy q_t_hour 21 v_t_hour', ob q_p1 9 [.ref q_p1_kind, .ref q_p1_one, .ref q_p1_two, .ref q_p1_hour, .int v_p1_size], aI cy q_p1_kind 21 v_p1_kind, aI cy q_p1_one 21 v_p1_one, aI cy q_p1_two 21 v_p1_two, aI cy q_p1_hour 21 v_p1_hour] s.heap.size)) (hr : meth.sig.returnType = none) (hlk : meth.locks = false) (n : Nat) : Z_Story_copyByWay (V p l e rm_Story_copyByWay s m args below meth c (EQ below args s rm_Story_copyByWay D [ob q_t 9 [.ref q_t_kind, .ref q_t_one, .ref q_t_two, .ref q_t_hour, .int v_t_size'], aI cy q_t_kind 21 v_t_kind', aI cy q_t_one 21 v_t_one', aI cy q_t_two 21 v_t_two', aI cy q_t_hour 21 v_t_hour', ob q_p1 9 [.ref q_p1_kind, .ref q_p1_one, .ref q_p1_two, .ref q_p1_hour, .int v_p1_size], aI cy q_p1_kind 21 v_p1_kind, aI cy q_p1_one 21 v_p1_one, aI cy q_p1_two 21 v_p1_two, aI cy q_p1_hour 21 v_p1_hour] none [ob q_t 9 [.ref q_t_kind, .ref q_t_one, .ref q_t_two, .ref q_t_hour, .int out.2.2.2.2], aI cy q_t_kind 21 out.1, aI cy q_t_one 21 out.2.1, aI cy q_t_two 21 out.2.2.1, aI cy q_t_hour 21 out.2.2.2.1, ob q_p1 9 [.ref q_p1_kind, .ref q_p1_one, .ref q_p1_two, .ref q_p1_hour, .int v_p1_size], aI cy q_p1_kind 21 v_p1_kind, aI cy q_p1_one 21 v_p1_one, aI cy q_p1_two 21 v_p1_two, aI cy q_p1_hour 21 v_p1_hour]) 6 D (va_A [ob q_t 9 [.ref q_t_kind, .ref q_t_one, .ref q_t_two, .ref q_t_hour, .int v_t_size'], aI cy q_t_kind 21 v_t_kind', aI cy q_t_one 21 v_t_one', aI cy q_t_two 21 v_t_two', aI cy q_t_hour 21 v_t_hour', ob q_p1 9 [.ref q_p1_kind, .ref q_p1_one, .ref q_p1_two, .ref q_p1_hour, .int v_p1_size], aI cy q_p1_kind 21 v_p1_kind, aI cy q_p1_one 21 v_p1_one, aI cy q_p1_two 21 v_p1_two, aI cy q_p1_hour 21 v_p1_hour] s.heap.size) 0 0) cy K n q_t q_t_kind q_t_one q_t_two q_t_hour q_p1 q_p1_kind q_p1_one q_p1_two q_p1_hour  v_p1_kind v_p1_one v_p1_two v_p1_hour v_p1_size out := by
  induction n with
  | zero => exact ⟨(fun _ _ _ _ _ _ _ _ _ h => nomatch h), (fun _ _ _ _ _ _ _ _ _ h => nomatch h), (fun _ _ _ _ _ _ _ _ _ h => nomatch h)⟩
  | succ n ih => exact ⟨z0_Story_copyByWay C hr hlk n ih, z1_Story_copyByWay C hr hlk n ih, z2_Story_copyByWay C hr hlk n ih⟩
set_option maxHeartbeats 4000000 in
set_option maxRecDepth 20000 in
theorem c_Story_copyByWay (l : Launch) (D : va_G) (cy : Nat → ClassId) (K : Nat) (q_t q_t_kind q_t_one q_t_two q_t_hour q_p1 q_p1_kind q_p1_one q_p1_two q_p1_hour : Nat) (p2 : Int32) (p3 : Int32) (p4 : Int32) (v_t_kind : Nat → Int32) (v_t_one : Nat → Int32) (v_t_two : Nat → Int32) (v_t_hour : Nat → Int32) (v_t_size : Int32) (v_p1_kind : Nat → Int32) (v_p1_one : Nat → Int32) (v_p1_two : Nat → Int32) (v_p1_hour : Nat → Int32) (v_p1_size : Int32) (out : (Nat → Int32) × (Nat → Int32) × (Nat → Int32) × (Nat → Int32) × Int32) (hf : sp_Story_copyByWay K p2 p3 p4 v_t_kind v_t_one v_t_two v_t_hour v_t_size v_p1_kind v_p1_one v_p1_two v_p1_hour v_p1_size = some out) : Ct l yX9_copyByWay cX9_copyByWay 6 none rm_Story_copyByWay D cy [.ref q_t, .ref q_p1, .int p2, .int p3, .int p4] [ob q_t 9 [.ref q_t_kind, .ref q_t_one, .ref q_t_two, .ref q_t_hour, .int v_t_size], aI cy q_t_kind 21 v_t_kind, aI cy q_t_one 21 v_t_one, aI cy q_t_two 21 v_t_two, aI cy q_t_hour 21 v_t_hour, ob q_p1 9 [.ref q_p1_kind, .ref q_p1_one, .ref q_p1_two, .ref q_p1_hour, .int v_p1_size], aI cy q_p1_kind 21 v_p1_kind, aI cy q_p1_one 21 v_p1_one, aI cy q_p1_two 21 v_p1_two, aI cy q_p1_hour 21 v_p1_hour] none [ob q_t 9 [.ref q_t_kind, .ref q_t_one, .ref q_t_two, .ref q_t_hour, .int out.2.2.2.2], aI cy q_t_kind 21 out.1, aI cy q_t_one 21 out.2.1, aI cy q_t_two 21 out.2.2.1, aI cy q_t_hour 21 out.2.2.2.1, ob q_p1 9 [.ref q_p1_kind, .ref q_p1_one, .ref q_p1_two, .ref q_p1_hour, .int v_p1_size], aI cy q_p1_kind 21 v_p1_kind, aI cy q_p1_one 21 v_p1_one, aI cy q_p1_two 21 v_p1_two, aI cy q_p1_hour 21 v_p1_hour] := by
  refine ct_of (by decide +kernel) (Nat.le_of_ble_eq_true rfl) (fun p e s m args below meth c C hr hlk hnm => ?_)
  unfold sp_Story_copyByWay at hf
  refine v_aload_n C dX9_copyByWay_0 0 rfl rfl ?_
  refine v_iconst (v := 0) C dX9_copyByWay_1 (by decide) ?_
  refine v_put (ws' := [ob q_t 9 [.ref q_t_kind, .ref q_t_one, .ref q_t_two, .ref q_t_hour, .int 0], aI cy q_t_kind 21 v_t_kind, aI cy q_t_one 21 v_t_one, aI cy q_t_two 21 v_t_two, aI cy q_t_hour 21 v_t_hour, ob q_p1 9 [.ref q_p1_kind, .ref q_p1_one, .ref q_p1_two, .ref q_p1_hour, .int v_p1_size], aI cy q_p1_kind 21 v_p1_kind, aI cy q_p1_one 21 v_p1_one, aI cy q_p1_two 21 v_p1_two, aI cy q_p1_hour 21 v_p1_hour]) C fp_X9_24 0 rfl rfl rfl (Nat.le_of_ble_eq_true rfl) rfl dX9_copyByWay_2 ?_
  refine v_iconst (v := 0) C dX9_copyByWay_5 (by decide) ?_
  refine v_istore (lv' := [(5, .int 0), (0, .ref q_t), (1, .ref q_p1), (2, .int p2), (3, .int p3), (4, .int p4)]) C dX9_copyByWay_6 (by decide) rfl ?_
  refine v_lv (lv' := [(0, .ref q_t), (1, .ref q_p1), (2, .int p2), (3, .int p3), (4, .int p4), (5, .int 0)]) [1, 2, 3, 4, 5, 0] rfl ?_
  exact (z_Story_copyByWay C hr hlk K).1 _ _ _ _ _ _ _ _ _ hf

abbrev rm_Story_eventsUntil : Room := { frames := 0, cells := 0, slots := 0, locals := 0 }
def f_Story_eventsUntil (K : Nat) (v_t_hour : Nat → Int32) (v_t_size : Int32) : Nat → Nat → Int32 × Int32 × Int32 → Option (Int32)
  | 0, _, _ => none
  | n + 1, 0, (x1, x2, x3) =>
    if v_t_size ≤ x3 then
      some x2
    else
      if 21 ≤ x3 then
        some x2
      else
        if inb x3 21 then
          if x1 < (v_t_hour x3.toNatClampNeg) then
            f_Story_eventsUntil K v_t_hour v_t_size n 1 (x1, x2, x3)
          else
            f_Story_eventsUntil K v_t_hour v_t_size n 1 (x1, x2 + 1, x3)
        else none
  | n + 1, 1, (x1, x2, x3) =>
    f_Story_eventsUntil K v_t_hour v_t_size n 0 (x1, x2, x3 + 1)
  | _ + 1, _ + 2, _ => none
def sp_Story_eventsUntil (K : Nat) (p1 : Int32) (v_t_hour : Nat → Int32) (v_t_size : Int32) : Option (Int32) :=
  f_Story_eventsUntil K v_t_hour v_t_size K 0 (p1, 0, 0)
def Z0_Story_eventsUntil (Vf : va_W → Nat → List (Nat × Value) → List Value → Prop) (cy : Nat → ClassId) (K n : Nat) (q_t q_t_kind q_t_one q_t_two q_t_hour : Nat) (v_t_kind : Nat → Int32) (v_t_one : Nat → Int32) (v_t_two : Nat → Int32) (v_t_hour : Nat → Int32) (v_t_size : Int32) (out : Int32) : Prop := ∀ (x1 : Int32) (x2 : Int32) (x3 : Int32), f_Story_eventsUntil K v_t_hour v_t_size n 0 (x1, x2, x3) = some out → Vf [ob q_t 9 [.ref q_t_kind, .ref q_t_one, .ref q_t_two, .ref q_t_hour, .int v_t_size], aI cy q_t_kind 21 v_t_kind, aI cy q_t_one 21 v_t_one, aI cy q_t_two 21 v_t_two, aI cy q_t_hour 21 v_t_hour] 4 [(0, .ref q_t), (1, .int x1), (2, .int x2), (3, .int x3)] []
def Z1_Story_eventsUntil (Vf : va_W → Nat → List (Nat × Value) → List Value → Prop) (cy : Nat → ClassId) (K n : Nat) (q_t q_t_kind q_t_one q_t_two q_t_hour : Nat) (v_t_kind : Nat → Int32) (v_t_one : Nat → Int32) (v_t_two : Nat → Int32) (v_t_hour : Nat → Int32) (v_t_size : Int32) (out : Int32) : Prop := ∀ (x1 : Int32) (x2 : Int32) (x3 : Int32), f_Story_eventsUntil K v_t_hour v_t_size n 1 (x1, x2, x3) = some out → Vf [ob q_t 9 [.ref q_t_kind, .ref q_t_one, .ref q_t_two, .ref q_t_hour, .int v_t_size], aI cy q_t_kind 21 v_t_kind, aI cy q_t_one 21 v_t_one, aI cy q_t_two 21 v_t_two, aI cy q_t_hour 21 v_t_hour] 31 [(0, .ref q_t), (1, .int x1), (2, .int x2), (3, .int x3)] []
def Z_Story_eventsUntil (Vf : va_W → Nat → List (Nat × Value) → List Value → Prop) (cy : Nat → ClassId) (K n : Nat) (q_t q_t_kind q_t_one q_t_two q_t_hour : Nat) (v_t_kind : Nat → Int32) (v_t_one : Nat → Int32) (v_t_two : Nat → Int32) (v_t_hour : Nat → Int32) (v_t_size : Int32) (out : Int32) : Prop := Z0_Story_eventsUntil Vf cy K n q_t q_t_kind q_t_one q_t_two q_t_hour  v_t_kind v_t_one v_t_two v_t_hour v_t_size out ∧ Z1_Story_eventsUntil Vf cy K n q_t q_t_kind q_t_one q_t_two q_t_hour  v_t_kind v_t_one v_t_two v_t_hour v_t_size out
set_option maxHeartbeats 4000000 in
set_option maxRecDepth 20000 in
theorem z0_Story_eventsUntil {p : Program} {l : Launch} {e : Env} {s : State} {m : MethodId} {args : Array Value} {below : List Frame} {meth : Method} {c : Code} {D : va_G} {cy : Nat → ClassId} {K : Nat} {q_t q_t_kind q_t_one q_t_two q_t_hour : Nat} {v_t_kind : Nat → Int32} {v_t_one : Nat → Int32} {v_t_two : Nat → Int32} {v_t_hour : Nat → Int32} {v_t_size : Int32} {out : Int32} (C : VC p s m args c cX9_eventsUntil RX9 4 D cy (va_A [ob q_t 9 [.ref q_t_kind, .ref q_t_one, .ref q_t_two, .ref q_t_hour, .int v_t_size], aI cy q_t_kind 21 v_t_kind, aI cy q_t_one 21 v_t_one, aI cy q_t_two 21 v_t_two, aI cy q_t_hour 21 v_t_hour] s.heap.size)) (hr : meth.sig.returnType = (some .int)) (hlk : meth.locks = false) (n : Nat) (ih : Z_Story_eventsUntil (V p l e rm_Story_eventsUntil s m args below meth c (EQ below args s rm_Story_eventsUntil D [ob q_t 9 [.ref q_t_kind, .ref q_t_one, .ref q_t_two, .ref q_t_hour, .int v_t_size], aI cy q_t_kind 21 v_t_kind, aI cy q_t_one 21 v_t_one, aI cy q_t_two 21 v_t_two, aI cy q_t_hour 21 v_t_hour] (some (.int out)) [ob q_t 9 [.ref q_t_kind, .ref q_t_one, .ref q_t_two, .ref q_t_hour, .int v_t_size], aI cy q_t_kind 21 v_t_kind, aI cy q_t_one 21 v_t_one, aI cy q_t_two 21 v_t_two, aI cy q_t_hour 21 v_t_hour]) 4 D (va_A [ob q_t 9 [.ref q_t_kind, .ref q_t_one, .ref q_t_two, .ref q_t_hour, .int v_t_size], aI cy q_t_kind 21 v_t_kind, aI cy q_t_one 21 v_t_one, aI cy q_t_two 21 v_t_two, aI cy q_t_hour 21 v_t_hour] s.heap.size) 0 0) cy K n q_t q_t_kind q_t_one q_t_two q_t_hour  v_t_kind v_t_one v_t_two v_t_hour v_t_size out) : Z0_Story_eventsUntil (V p l e rm_Story_eventsUntil s m args below meth c (EQ below args s rm_Story_eventsUntil D [ob q_t 9 [.ref q_t_kind, .ref q_t_one, .ref q_t_two, .ref q_t_hour, .int v_t_size], aI cy q_t_kind 21 v_t_kind, aI cy q_t_one 21 v_t_one, aI cy q_t_two 21 v_t_two, aI cy q_t_hour 21 v_t_hour] (some (.int out)) [ob q_t 9 [.ref q_t_kind, .ref q_t_one, .ref q_t_two, .ref q_t_hour, .int v_t_size], aI cy q_t_kind 21 v_t_kind, aI cy q_t_one 21 v_t_one, aI cy q_t_two 21 v_t_two, aI cy q_t_hour 21 v_t_hour]) 4 D (va_A [ob q_t 9 [.ref q_t_kind, .ref q_t_one, .ref q_t_two, .ref q_t_hour, .int v_t_size], aI cy q_t_kind 21 v_t_kind, aI cy q_t_one 21 v_t_one, aI cy q_t_two 21 v_t_two, aI cy q_t_hour 21 v_t_hour] s.heap.size) 0 0) cy K (n + 1) q_t q_t_kind q_t_one q_t_two q_t_hour  v_t_kind v_t_one v_t_two v_t_hour v_t_size out := by
  intro x1 x2 x3 hf
  replace hf := hf
  refine v_iload_n C dX9_eventsUntil_4 3 rfl rfl ?_
  refine v_aload_n C dX9_eventsUntil_5 0 rfl rfl ?_
  refine v_get C fl_X9_24 0 rfl rfl dX9_eventsUntil_6 ?_
  refine v_icmp_ge (tgt := 37) C dX9_eventsUntil_9 (by decide) (fun c1 => ?_) (fun c1 => ?_)
  · replace hf := (if_pos c1).symm.trans hf
    refine v_iload_n C dX9_eventsUntil_37 2 rfl rfl ?_
    obtain rfl := Option.some.inj hf
    exact v_iret C hr hlk dX9_eventsUntil_38 rfl rfl rfl rfl
  · replace hf := (if_neg c1).symm.trans hf
    refine v_iload_n C dX9_eventsUntil_12 3 rfl rfl ?_
    refine v_bipush (v := 21) C dX9_eventsUntil_13 (by decide) ?_
    refine v_icmp_ge (tgt := 37) C dX9_eventsUntil_15 (by decide) (fun c2 => ?_) (fun c2 => ?_)
    · replace hf := (if_pos c2).symm.trans hf
      refine v_iload_n C dX9_eventsUntil_37 2 rfl rfl ?_
      obtain rfl := Option.some.inj hf
      exact v_iret C hr hlk dX9_eventsUntil_38 rfl rfl rfl rfl
    · replace hf := (if_neg c2).symm.trans hf
      refine v_aload_n C dX9_eventsUntil_18 0 rfl rfl ?_
      refine v_get C fl_X9_21 0 rfl rfl dX9_eventsUntil_19 ?_
      refine v_iload_n C dX9_eventsUntil_22 3 rfl rfl ?_
      obtain ⟨g3, hf⟩ := gd_ hf
      refine v_iald C 4 rfl g3 dX9_eventsUntil_23 ?_
      refine v_iload_n C dX9_eventsUntil_24 1 rfl rfl ?_
      refine v_icmp_gt (tgt := 31) C dX9_eventsUntil_25 (by decide) (fun c4 => ?_) (fun c4 => ?_)
      · replace hf := (if_pos c4).symm.trans hf
        exact ih.2 _ _ _ hf
      · replace hf := (if_neg c4).symm.trans hf
        refine v_iinc (v := x2 + 1) (lv' := [(2, .int (x2 + 1)), (0, .ref q_t), (1, .int x1), (3, .int x3)]) C dX9_eventsUntil_28 2 rfl rfl (by decide) rfl ?_
        refine v_lv (lv' := [(0, .ref q_t), (1, .int x1), (2, .int (x2 + 1)), (3, .int x3)]) [1, 2, 0, 3] rfl ?_
        exact ih.2 _ _ _ hf
set_option maxHeartbeats 4000000 in
set_option maxRecDepth 20000 in
theorem z1_Story_eventsUntil {p : Program} {l : Launch} {e : Env} {s : State} {m : MethodId} {args : Array Value} {below : List Frame} {meth : Method} {c : Code} {D : va_G} {cy : Nat → ClassId} {K : Nat} {q_t q_t_kind q_t_one q_t_two q_t_hour : Nat} {v_t_kind : Nat → Int32} {v_t_one : Nat → Int32} {v_t_two : Nat → Int32} {v_t_hour : Nat → Int32} {v_t_size : Int32} {out : Int32} (C : VC p s m args c cX9_eventsUntil RX9 4 D cy (va_A [ob q_t 9 [.ref q_t_kind, .ref q_t_one, .ref q_t_two, .ref q_t_hour, .int v_t_size], aI cy q_t_kind 21 v_t_kind, aI cy q_t_one 21 v_t_one, aI cy q_t_two 21 v_t_two, aI cy q_t_hour 21 v_t_hour] s.heap.size)) (hr : meth.sig.returnType = (some .int)) (hlk : meth.locks = false) (n : Nat) (ih : Z_Story_eventsUntil (V p l e rm_Story_eventsUntil s m args below meth c (EQ below args s rm_Story_eventsUntil D [ob q_t 9 [.ref q_t_kind, .ref q_t_one, .ref q_t_two, .ref q_t_hour, .int v_t_size], aI cy q_t_kind 21 v_t_kind, aI cy q_t_one 21 v_t_one, aI cy q_t_two 21 v_t_two, aI cy q_t_hour 21 v_t_hour] (some (.int out)) [ob q_t 9 [.ref q_t_kind, .ref q_t_one, .ref q_t_two, .ref q_t_hour, .int v_t_size], aI cy q_t_kind 21 v_t_kind, aI cy q_t_one 21 v_t_one, aI cy q_t_two 21 v_t_two, aI cy q_t_hour 21 v_t_hour]) 4 D (va_A [ob q_t 9 [.ref q_t_kind, .ref q_t_one, .ref q_t_two, .ref q_t_hour, .int v_t_size], aI cy q_t_kind 21 v_t_kind, aI cy q_t_one 21 v_t_one, aI cy q_t_two 21 v_t_two, aI cy q_t_hour 21 v_t_hour] s.heap.size) 0 0) cy K n q_t q_t_kind q_t_one q_t_two q_t_hour  v_t_kind v_t_one v_t_two v_t_hour v_t_size out) : Z1_Story_eventsUntil (V p l e rm_Story_eventsUntil s m args below meth c (EQ below args s rm_Story_eventsUntil D [ob q_t 9 [.ref q_t_kind, .ref q_t_one, .ref q_t_two, .ref q_t_hour, .int v_t_size], aI cy q_t_kind 21 v_t_kind, aI cy q_t_one 21 v_t_one, aI cy q_t_two 21 v_t_two, aI cy q_t_hour 21 v_t_hour] (some (.int out)) [ob q_t 9 [.ref q_t_kind, .ref q_t_one, .ref q_t_two, .ref q_t_hour, .int v_t_size], aI cy q_t_kind 21 v_t_kind, aI cy q_t_one 21 v_t_one, aI cy q_t_two 21 v_t_two, aI cy q_t_hour 21 v_t_hour]) 4 D (va_A [ob q_t 9 [.ref q_t_kind, .ref q_t_one, .ref q_t_two, .ref q_t_hour, .int v_t_size], aI cy q_t_kind 21 v_t_kind, aI cy q_t_one 21 v_t_one, aI cy q_t_two 21 v_t_two, aI cy q_t_hour 21 v_t_hour] s.heap.size) 0 0) cy K (n + 1) q_t q_t_kind q_t_one q_t_two q_t_hour  v_t_kind v_t_one v_t_two v_t_hour v_t_size out := by
  intro x1 x2 x3 hf
  replace hf := hf
  refine v_iinc (v := x3 + 1) (lv' := [(3, .int (x3 + 1)), (0, .ref q_t), (1, .int x1), (2, .int x2)]) C dX9_eventsUntil_31 3 rfl rfl (by decide) rfl ?_
  refine v_goto (tgt := 4) C dX9_eventsUntil_34 (by decide) ?_
  refine v_lv (lv' := [(0, .ref q_t), (1, .int x1), (2, .int x2), (3, .int (x3 + 1))]) [1, 2, 3, 0] rfl ?_
  exact ih.1 _ _ _ hf
theorem z_Story_eventsUntil {p : Program} {l : Launch} {e : Env} {s : State} {m : MethodId} {args : Array Value} {below : List Frame} {meth : Method} {c : Code} {D : va_G} {cy : Nat → ClassId} {K : Nat} {q_t q_t_kind q_t_one q_t_two q_t_hour : Nat} {v_t_kind : Nat → Int32} {v_t_one : Nat → Int32} {v_t_two : Nat → Int32} {v_t_hour : Nat → Int32} {v_t_size : Int32} {out : Int32} (C : VC p s m args c cX9_eventsUntil RX9 4 D cy (va_A [ob q_t 9 [.ref q_t_kind, .ref q_t_one, .ref q_t_two, .ref q_t_hour, .int v_t_size], aI cy q_t_kind 21 v_t_kind, aI cy q_t_one 21 v_t_one, aI cy q_t_two 21 v_t_two, aI cy q_t_hour 21 v_t_hour] s.heap.size)) (hr : meth.sig.returnType = (some .int)) (hlk : meth.locks = false) (n : Nat) : Z_Story_eventsUntil (V p l e rm_Story_eventsUntil s m args below meth c (EQ below args s rm_Story_eventsUntil D [ob q_t 9 [.ref q_t_kind, .ref q_t_one, .ref q_t_two, .ref q_t_hour, .int v_t_size], aI cy q_t_kind 21 v_t_kind, aI cy q_t_one 21 v_t_one, aI cy q_t_two 21 v_t_two, aI cy q_t_hour 21 v_t_hour] (some (.int out)) [ob q_t 9 [.ref q_t_kind, .ref q_t_one, .ref q_t_two, .ref q_t_hour, .int v_t_size], aI cy q_t_kind 21 v_t_kind, aI cy q_t_one 21 v_t_one, aI cy q_t_two 21 v_t_two, aI cy q_t_hour 21 v_t_hour]) 4 D (va_A [ob q_t 9 [.ref q_t_kind, .ref q_t_one, .ref q_t_two, .ref q_t_hour, .int v_t_size], aI cy q_t_kind 21 v_t_kind, aI cy q_t_one 21 v_t_one, aI cy q_t_two 21 v_t_two, aI cy q_t_hour 21 v_t_hour] s.heap.size) 0 0) cy K n q_t q_t_kind q_t_one q_t_two q_t_hour  v_t_kind v_t_one v_t_two v_t_hour v_t_size out := by
  induction n with
  | zero => exact ⟨(fun _ _ _ h => nomatch h), (fun _ _ _ h => nomatch h)⟩
  | succ n ih => exact ⟨z0_Story_eventsUntil C hr hlk n ih, z1_Story_eventsUntil C hr hlk n ih⟩
set_option maxHeartbeats 4000000 in
set_option maxRecDepth 20000 in
theorem c_Story_eventsUntil (l : Launch) (D : va_G) (cy : Nat → ClassId) (K : Nat) (q_t q_t_kind q_t_one q_t_two q_t_hour : Nat) (p1 : Int32) (v_t_kind : Nat → Int32) (v_t_one : Nat → Int32) (v_t_two : Nat → Int32) (v_t_hour : Nat → Int32) (v_t_size : Int32) (out : Int32) (hf : sp_Story_eventsUntil K p1 v_t_hour v_t_size = some out) : Ct l yX9_eventsUntil cX9_eventsUntil 4 (some .int) rm_Story_eventsUntil D cy [.ref q_t, .int p1] [ob q_t 9 [.ref q_t_kind, .ref q_t_one, .ref q_t_two, .ref q_t_hour, .int v_t_size], aI cy q_t_kind 21 v_t_kind, aI cy q_t_one 21 v_t_one, aI cy q_t_two 21 v_t_two, aI cy q_t_hour 21 v_t_hour] (some (.int out)) [ob q_t 9 [.ref q_t_kind, .ref q_t_one, .ref q_t_two, .ref q_t_hour, .int v_t_size], aI cy q_t_kind 21 v_t_kind, aI cy q_t_one 21 v_t_one, aI cy q_t_two 21 v_t_two, aI cy q_t_hour 21 v_t_hour] := by
  refine ct_of (by decide +kernel) (Nat.le_of_ble_eq_true rfl) (fun p e s m args below meth c C hr hlk hnm => ?_)
  unfold sp_Story_eventsUntil at hf
  refine v_iconst (v := 0) C dX9_eventsUntil_0 (by decide) ?_
  refine v_istore_n (lv' := [(2, .int 0), (0, .ref q_t), (1, .int p1)]) C dX9_eventsUntil_1 rfl (by decide) rfl ?_
  refine v_iconst (v := 0) C dX9_eventsUntil_2 (by decide) ?_
  refine v_istore_n (lv' := [(3, .int 0), (2, .int 0), (0, .ref q_t), (1, .int p1)]) C dX9_eventsUntil_3 rfl (by decide) rfl ?_
  refine v_lv (lv' := [(0, .ref q_t), (1, .int p1), (2, .int 0), (3, .int 0)]) [2, 3, 1, 0] rfl ?_
  exact (z_Story_eventsUntil C hr hlk K).1 _ _ _ hf

abbrev rm_Story_copyWithTouch : Room := { frames := 3, cells := 0, slots := 0, locals := 67 }
def f_Story_copyWithTouch (K : Nat) (v_p1_kind : Nat → Int32) (v_p1_one : Nat → Int32) (v_p1_two : Nat → Int32) (v_p1_hour : Nat → Int32) (v_p1_size : Int32) : Nat → Nat → Int32 × Int32 × Int32 × Int32 × Int32 × (Nat → Int32) × (Nat → Int32) × (Nat → Int32) × (Nat → Int32) × Int32 → Option ((Nat → Int32) × (Nat → Int32) × (Nat → Int32) × (Nat → Int32) × Int32)
  | 0, _, _ => none
  | n + 1, 0, (x2, x3, x4, x5, x6, v_t_kind, v_t_one, v_t_two, v_t_hour, v_t_size) =>
    if x5 ≤ x6 then
      (sp_Story_add K 2 x2 x3 x4 v_t_kind v_t_one v_t_two v_t_hour v_t_size).bind fun o42 =>
        f_Story_copyWithTouch K v_p1_kind v_p1_one v_p1_two v_p1_hour v_p1_size n 1 (0, 0, 0, 0, x5, o42.1, o42.2.1, o42.2.2.1, o42.2.2.2.1, o42.2.2.2.2)
    else
      (sp_Story_addFrom K x6 v_t_kind v_t_one v_t_two v_t_hour v_t_size v_p1_kind v_p1_one v_p1_two v_p1_hour v_p1_size).bind fun o27 =>
        f_Story_copyWithTouch K v_p1_kind v_p1_one v_p1_two v_p1_hour v_p1_size n 0 (x2, x3, x4, x5, x6 + 1, o27.1, o27.2.1, o27.2.2.1, o27.2.2.2.1, o27.2.2.2.2)
  | n + 1, 1, (x2, x3, x4, x5, x6, v_t_kind, v_t_one, v_t_two, v_t_hour, v_t_size) =>
    if v_p1_size ≤ x6 then
      some (v_t_kind, v_t_one, v_t_two, v_t_hour, v_t_size)
    else
      (sp_Story_addFrom K x6 v_t_kind v_t_one v_t_two v_t_hour v_t_size v_p1_kind v_p1_one v_p1_two v_p1_hour v_p1_size).bind fun o62 =>
        f_Story_copyWithTouch K v_p1_kind v_p1_one v_p1_two v_p1_hour v_p1_size n 1 (0, 0, 0, 0, x6 + 1, o62.1, o62.2.1, o62.2.2.1, o62.2.2.2.1, o62.2.2.2.2)
  | _ + 1, _ + 2, _ => none
def sp_Story_copyWithTouch (K : Nat) (p2 : Int32) (p3 : Int32) (p4 : Int32) (v_t_kind : Nat → Int32) (v_t_one : Nat → Int32) (v_t_two : Nat → Int32) (v_t_hour : Nat → Int32) (v_t_size : Int32) (v_p1_kind : Nat → Int32) (v_p1_one : Nat → Int32) (v_p1_two : Nat → Int32) (v_p1_hour : Nat → Int32) (v_p1_size : Int32) : Option ((Nat → Int32) × (Nat → Int32) × (Nat → Int32) × (Nat → Int32) × Int32) :=
  (sp_Story_eventsUntil K p4 v_p1_hour v_p1_size).bind fun o3 =>
    f_Story_copyWithTouch K v_p1_kind v_p1_one v_p1_two v_p1_hour v_p1_size K 0 (p2, p3, p4, o3, 0, v_t_kind, v_t_one, v_t_two, v_t_hour, 0)
def Z0_Story_copyWithTouch (Vf : va_W → Nat → List (Nat × Value) → List Value → Prop) (cy : Nat → ClassId) (K n : Nat) (q_t q_t_kind q_t_one q_t_two q_t_hour q_p1 q_p1_kind q_p1_one q_p1_two q_p1_hour : Nat) (v_p1_kind : Nat → Int32) (v_p1_one : Nat → Int32) (v_p1_two : Nat → Int32) (v_p1_hour : Nat → Int32) (v_p1_size : Int32) (out : (Nat → Int32) × (Nat → Int32) × (Nat → Int32) × (Nat → Int32) × Int32) : Prop := ∀ (x2 : Int32) (x3 : Int32) (x4 : Int32) (x5 : Int32) (x6 : Int32) (v_t_kind : Nat → Int32) (v_t_one : Nat → Int32) (v_t_two : Nat → Int32) (v_t_hour : Nat → Int32) (v_t_size : Int32), f_Story_copyWithTouch K v_p1_kind v_p1_one v_p1_two v_p1_hour v_p1_size n 0 (x2, x3, x4, x5, x6, v_t_kind, v_t_one, v_t_two, v_t_hour, v_t_size) = some out → Vf [ob q_t 9 [.ref q_t_kind, .ref q_t_one, .ref q_t_two, .ref q_t_hour, .int v_t_size], aI cy q_t_kind 21 v_t_kind, aI cy q_t_one 21 v_t_one, aI cy q_t_two 21 v_t_two, aI cy q_t_hour 21 v_t_hour, ob q_p1 9 [.ref q_p1_kind, .ref q_p1_one, .ref q_p1_two, .ref q_p1_hour, .int v_p1_size], aI cy q_p1_kind 21 v_p1_kind, aI cy q_p1_one 21 v_p1_one, aI cy q_p1_two 21 v_p1_two, aI cy q_p1_hour 21 v_p1_hour] 16 [(0, .ref q_t), (1, .ref q_p1), (2, .int x2), (3, .int x3), (4, .int x4), (5, .int x5), (6, .int x6)] []
def Z1_Story_copyWithTouch (Vf : va_W → Nat → List (Nat × Value) → List Value → Prop) (cy : Nat → ClassId) (K n : Nat) (q_t q_t_kind q_t_one q_t_two q_t_hour q_p1 q_p1_kind q_p1_one q_p1_two q_p1_hour : Nat) (v_p1_kind : Nat → Int32) (v_p1_one : Nat → Int32) (v_p1_two : Nat → Int32) (v_p1_hour : Nat → Int32) (v_p1_size : Int32) (out : (Nat → Int32) × (Nat → Int32) × (Nat → Int32) × (Nat → Int32) × Int32) : Prop := ∀ (x2 : Int32) (x3 : Int32) (x4 : Int32) (x5 : Int32) (x6 : Int32) (v_t_kind : Nat → Int32) (v_t_one : Nat → Int32) (v_t_two : Nat → Int32) (v_t_hour : Nat → Int32) (v_t_size : Int32), f_Story_copyWithTouch K v_p1_kind v_p1_one v_p1_two v_p1_hour v_p1_size n 1 (x2, x3, x4, x5, x6, v_t_kind, v_t_one, v_t_two, v_t_hour, v_t_size) = some out → Vf [ob q_t 9 [.ref q_t_kind, .ref q_t_one, .ref q_t_two, .ref q_t_hour, .int v_t_size], aI cy q_t_kind 21 v_t_kind, aI cy q_t_one 21 v_t_one, aI cy q_t_two 21 v_t_two, aI cy q_t_hour 21 v_t_hour, ob q_p1 9 [.ref q_p1_kind, .ref q_p1_one, .ref q_p1_two, .ref q_p1_hour, .int v_p1_size], aI cy q_p1_kind 21 v_p1_kind, aI cy q_p1_one 21 v_p1_one, aI cy q_p1_two 21 v_p1_two, aI cy q_p1_hour 21 v_p1_hour] 49 [(0, .ref q_t), (1, .ref q_p1), (6, .int x6)] []
def Z_Story_copyWithTouch (Vf : va_W → Nat → List (Nat × Value) → List Value → Prop) (cy : Nat → ClassId) (K n : Nat) (q_t q_t_kind q_t_one q_t_two q_t_hour q_p1 q_p1_kind q_p1_one q_p1_two q_p1_hour : Nat) (v_p1_kind : Nat → Int32) (v_p1_one : Nat → Int32) (v_p1_two : Nat → Int32) (v_p1_hour : Nat → Int32) (v_p1_size : Int32) (out : (Nat → Int32) × (Nat → Int32) × (Nat → Int32) × (Nat → Int32) × Int32) : Prop := Z0_Story_copyWithTouch Vf cy K n q_t q_t_kind q_t_one q_t_two q_t_hour q_p1 q_p1_kind q_p1_one q_p1_two q_p1_hour  v_p1_kind v_p1_one v_p1_two v_p1_hour v_p1_size out ∧ Z1_Story_copyWithTouch Vf cy K n q_t q_t_kind q_t_one q_t_two q_t_hour q_p1 q_p1_kind q_p1_one q_p1_two q_p1_hour  v_p1_kind v_p1_one v_p1_two v_p1_hour v_p1_size out
set_option maxHeartbeats 4000000 in
set_option maxRecDepth 20000 in
theorem z0_Story_copyWithTouch {p : Program} {l : Launch} {e : Env} {s : State} {m : MethodId} {args : Array Value} {below : List Frame} {meth : Method} {c : Code} {D : va_G} {cy : Nat → ClassId} {K : Nat} {q_t q_t_kind q_t_one q_t_two q_t_hour q_p1 q_p1_kind q_p1_one q_p1_two q_p1_hour : Nat} {v_p1_kind : Nat → Int32} {v_p1_one : Nat → Int32} {v_p1_two : Nat → Int32} {v_p1_hour : Nat → Int32} {v_p1_size : Int32} {v_t_kind' : Nat → Int32} {v_t_one' : Nat → Int32} {v_t_two' : Nat → Int32} {v_t_hour' : Nat → Int32} {v_t_size' : Int32} {out : (Nat → Int32) × (Nat → Int32) × (Nat → Int32) × (Nat → Int32) × Int32} (C : VC p s m args c cX9_copyWithTouch RX9 7 D cy (va_A [ob q_t 9 [.ref q_t_kind, .ref q_t_one, .ref q_t_two, .ref q_t_hour, .int v_t_size'], aI cy q_t_kind 21 v_t_kind', aI cy q_t_one 21 v_t_one', aI cy q_t_two 21 v_t_two', aI cy q_t_hour 21 v_t_hour', ob q_p1 9 [.ref q_p1_kind, .ref q_p1_one, .ref q_p1_two, .ref q_p1_hour, .int v_p1_size], aI cy q_p1_kind 21 v_p1_kind, aI cy q_p1_one 21 v_p1_one, aI cy q_p1_two 21 v_p1_two, aI cy q_p1_hour 21 v_p1_hour] s.heap.size)) (hr : meth.sig.returnType = none) (hlk : meth.locks = false) (n : Nat) (ih : Z_Story_copyWithTouch (V p l e rm_Story_copyWithTouch s m args below meth c (EQ below args s rm_Story_copyWithTouch D [ob q_t 9 [.ref q_t_kind, .ref q_t_one, .ref q_t_two, .ref q_t_hour, .int v_t_size'], aI cy q_t_kind 21 v_t_kind', aI cy q_t_one 21 v_t_one', aI cy q_t_two 21 v_t_two', aI cy q_t_hour 21 v_t_hour', ob q_p1 9 [.ref q_p1_kind, .ref q_p1_one, .ref q_p1_two, .ref q_p1_hour, .int v_p1_size], aI cy q_p1_kind 21 v_p1_kind, aI cy q_p1_one 21 v_p1_one, aI cy q_p1_two 21 v_p1_two, aI cy q_p1_hour 21 v_p1_hour] none [ob q_t 9 [.ref q_t_kind, .ref q_t_one, .ref q_t_two, .ref q_t_hour, .int out.2.2.2.2], aI cy q_t_kind 21 out.1, aI cy q_t_one 21 out.2.1, aI cy q_t_two 21 out.2.2.1, aI cy q_t_hour 21 out.2.2.2.1, ob q_p1 9 [.ref q_p1_kind, .ref q_p1_one, .ref q_p1_two, .ref q_p1_hour, .int v_p1_size], aI cy q_p1_kind 21 v_p1_kind, aI cy q_p1_one 21 v_p1_one, aI cy q_p1_two 21 v_p1_two, aI cy q_p1_hour 21 v_p1_hour]) 7 D (va_A [ob q_t 9 [.ref q_t_kind, .ref q_t_one, .ref q_t_two, .ref q_t_hour, .int v_t_size'], aI cy q_t_kind 21 v_t_kind', aI cy q_t_one 21 v_t_one', aI cy q_t_two 21 v_t_two', aI cy q_t_hour 21 v_t_hour', ob q_p1 9 [.ref q_p1_kind, .ref q_p1_one, .ref q_p1_two, .ref q_p1_hour, .int v_p1_size], aI cy q_p1_kind 21 v_p1_kind, aI cy q_p1_one 21 v_p1_one, aI cy q_p1_two 21 v_p1_two, aI cy q_p1_hour 21 v_p1_hour] s.heap.size) 0 0) cy K n q_t q_t_kind q_t_one q_t_two q_t_hour q_p1 q_p1_kind q_p1_one q_p1_two q_p1_hour  v_p1_kind v_p1_one v_p1_two v_p1_hour v_p1_size out) : Z0_Story_copyWithTouch (V p l e rm_Story_copyWithTouch s m args below meth c (EQ below args s rm_Story_copyWithTouch D [ob q_t 9 [.ref q_t_kind, .ref q_t_one, .ref q_t_two, .ref q_t_hour, .int v_t_size'], aI cy q_t_kind 21 v_t_kind', aI cy q_t_one 21 v_t_one', aI cy q_t_two 21 v_t_two', aI cy q_t_hour 21 v_t_hour', ob q_p1 9 [.ref q_p1_kind, .ref q_p1_one, .ref q_p1_two, .ref q_p1_hour, .int v_p1_size], aI cy q_p1_kind 21 v_p1_kind, aI cy q_p1_one 21 v_p1_one, aI cy q_p1_two 21 v_p1_two, aI cy q_p1_hour 21 v_p1_hour] none [ob q_t 9 [.ref q_t_kind, .ref q_t_one, .ref q_t_two, .ref q_t_hour, .int out.2.2.2.2], aI cy q_t_kind 21 out.1, aI cy q_t_one 21 out.2.1, aI cy q_t_two 21 out.2.2.1, aI cy q_t_hour 21 out.2.2.2.1, ob q_p1 9 [.ref q_p1_kind, .ref q_p1_one, .ref q_p1_two, .ref q_p1_hour, .int v_p1_size], aI cy q_p1_kind 21 v_p1_kind, aI cy q_p1_one 21 v_p1_one, aI cy q_p1_two 21 v_p1_two, aI cy q_p1_hour 21 v_p1_hour]) 7 D (va_A [ob q_t 9 [.ref q_t_kind, .ref q_t_one, .ref q_t_two, .ref q_t_hour, .int v_t_size'], aI cy q_t_kind 21 v_t_kind', aI cy q_t_one 21 v_t_one', aI cy q_t_two 21 v_t_two', aI cy q_t_hour 21 v_t_hour', ob q_p1 9 [.ref q_p1_kind, .ref q_p1_one, .ref q_p1_two, .ref q_p1_hour, .int v_p1_size], aI cy q_p1_kind 21 v_p1_kind, aI cy q_p1_one 21 v_p1_one, aI cy q_p1_two 21 v_p1_two, aI cy q_p1_hour 21 v_p1_hour] s.heap.size) 0 0) cy K (n + 1) q_t q_t_kind q_t_one q_t_two q_t_hour q_p1 q_p1_kind q_p1_one q_p1_two q_p1_hour  v_p1_kind v_p1_one v_p1_two v_p1_hour v_p1_size out := by
  intro x2 x3 x4 x5 x6 v_t_kind v_t_one v_t_two v_t_hour v_t_size hf
  replace hf := hf
  refine v_iload C dX9_copyWithTouch_16 6 rfl ?_
  refine v_iload C dX9_copyWithTouch_18 5 rfl ?_
  refine v_icmp_ge (tgt := 36) C dX9_copyWithTouch_20 (by decide) (fun c1 => ?_) (fun c1 => ?_)
  · replace hf := (if_pos c1).symm.trans hf
    refine v_aload_n C dX9_copyWithTouch_36 0 rfl rfl ?_
    refine v_iconst (v := 2) C dX9_copyWithTouch_37 (by decide) ?_
    refine v_iload_n C dX9_copyWithTouch_38 2 rfl rfl ?_
    refine v_iload_n C dX9_copyWithTouch_39 3 rfl rfl ?_
    refine v_iload C dX9_copyWithTouch_40 4 rfl ?_
    obtain ⟨o42, g2, hf⟩ := bd_ hf
    refine v_callV (As := [.int 2, .int x2, .int x3, .int x4]) (wr := [ob q_p1 9 [.ref q_p1_kind, .ref q_p1_one, .ref q_p1_two, .ref q_p1_hour, .int v_p1_size], aI cy q_p1_kind 21 v_p1_kind, aI cy q_p1_one 21 v_p1_one, aI cy q_p1_two 21 v_p1_two, aI cy q_p1_hour 21 v_p1_hour]) (ws' := [ob q_p1 9 [.ref q_p1_kind, .ref q_p1_one, .ref q_p1_two, .ref q_p1_hour, .int v_p1_size], aI cy q_p1_kind 21 v_p1_kind, aI cy q_p1_one 21 v_p1_one, aI cy q_p1_two 21 v_p1_two, aI cy q_p1_hour 21 v_p1_hour, ob q_t 9 [.ref q_t_kind, .ref q_t_one, .ref q_t_two, .ref q_t_hour, .int o42.2.2.2.2], aI cy q_t_kind 21 o42.1, aI cy q_t_one 21 o42.2.1, aI cy q_t_two 21 o42.2.2.1, aI cy q_t_hour 21 o42.2.2.2.1]) (st := []) (stk' := []) C (c_Story_add l D cy K q_t q_t_kind q_t_one q_t_two q_t_hour  2 x2 x3 x4 v_t_kind v_t_one v_t_two v_t_hour v_t_size o42 g2) lv_X9_32 rfl (by decide) rfl 0 rfl rfl rfl dX9_copyWithTouch_42 [0, 1, 2, 3, 4] [5, 6, 7, 8, 9] (by decide) rfl rfl (by decide) (by decide) (Nat.le_of_ble_eq_true rfl) rfl rfl ?_
    refine v_iload C dX9_copyWithTouch_45 5 rfl ?_
    refine v_istore (lv' := [(6, .int x5), (0, .ref q_t), (1, .ref q_p1), (2, .int x2), (3, .int x3), (4, .int x4), (5, .int x5)]) C dX9_copyWithTouch_47 (by decide) rfl ?_
    refine v_lv (lv' := [(0, .ref q_t), (1, .ref q_p1), (6, .int x5)]) [1, 2, 0] rfl ?_
    refine v_ws (ws' := [ob q_t 9 [.ref q_t_kind, .ref q_t_one, .ref q_t_two, .ref q_t_hour, .int o42.2.2.2.2], aI cy q_t_kind 21 o42.1, aI cy q_t_one 21 o42.2.1, aI cy q_t_two 21 o42.2.2.1, aI cy q_t_hour 21 o42.2.2.2.1, ob q_p1 9 [.ref q_p1_kind, .ref q_p1_one, .ref q_p1_two, .ref q_p1_hour, .int v_p1_size], aI cy q_p1_kind 21 v_p1_kind, aI cy q_p1_one 21 v_p1_one, aI cy q_p1_two 21 v_p1_two, aI cy q_p1_hour 21 v_p1_hour]) [5, 6, 7, 8, 9, 0, 1, 2, 3, 4] (by decide) rfl ?_
    exact ih.2 _ _ _ _ _ _ _ _ _ _ hf
  · replace hf := (if_neg c1).symm.trans hf
    refine v_aload_n C dX9_copyWithTouch_23 0 rfl rfl ?_
    refine v_aload_n C dX9_copyWithTouch_24 1 rfl rfl ?_
    refine v_iload C dX9_copyWithTouch_25 6 rfl ?_
    obtain ⟨o27, g3, hf⟩ := bd_ hf
    refine v_callV (As := [.ref q_p1, .int x6]) (wr := []) (ws' := [ob q_t 9 [.ref q_t_kind, .ref q_t_one, .ref q_t_two, .ref q_t_hour, .int o27.2.2.2.2], aI cy q_t_kind 21 o27.1, aI cy q_t_one 21 o27.2.1, aI cy q_t_two 21 o27.2.2.1, aI cy q_t_hour 21 o27.2.2.2.1, ob q_p1 9 [.ref q_p1_kind, .ref q_p1_one, .ref q_p1_two, .ref q_p1_hour, .int v_p1_size], aI cy q_p1_kind 21 v_p1_kind, aI cy q_p1_one 21 v_p1_one, aI cy q_p1_two 21 v_p1_two, aI cy q_p1_hour 21 v_p1_hour]) (st := []) (stk' := []) C (c_Story_addFrom l D cy K q_t q_t_kind q_t_one q_t_two q_t_hour q_p1 q_p1_kind q_p1_one q_p1_two q_p1_hour  x6 v_t_kind v_t_one v_t_two v_t_hour v_t_size v_p1_kind v_p1_one v_p1_two v_p1_hour v_p1_size o27 g3) lv_X9_36 rfl (by decide) rfl 0 rfl rfl rfl dX9_copyWithTouch_27 [0, 1, 2, 3, 4, 5, 6, 7, 8, 9] [] (by decide) rfl rfl (by decide) (by decide) (Nat.le_of_ble_eq_true rfl) rfl rfl ?_
    refine v_iinc (v := x6 + 1) (lv' := [(6, .int (x6 + 1)), (0, .ref q_t), (1, .ref q_p1), (2, .int x2), (3, .int x3), (4, .int x4), (5, .int x5)]) C dX9_copyWithTouch_30 6 rfl rfl (by decide) rfl ?_
    refine v_goto (tgt := 16) C dX9_copyWithTouch_33 (by decide) ?_
    refine v_lv (lv' := [(0, .ref q_t), (1, .ref q_p1), (2, .int x2), (3, .int x3), (4, .int x4), (5, .int x5), (6, .int (x6 + 1))]) [1, 2, 3, 4, 5, 6, 0] rfl ?_
    exact ih.1 _ _ _ _ _ _ _ _ _ _ hf
set_option maxHeartbeats 4000000 in
set_option maxRecDepth 20000 in
theorem z1_Story_copyWithTouch {p : Program} {l : Launch} {e : Env} {s : State} {m : MethodId} {args : Array Value} {below : List Frame} {meth : Method} {c : Code} {D : va_G} {cy : Nat → ClassId} {K : Nat} {q_t q_t_kind q_t_one q_t_two q_t_hour q_p1 q_p1_kind q_p1_one q_p1_two q_p1_hour : Nat} {v_p1_kind : Nat → Int32} {v_p1_one : Nat → Int32} {v_p1_two : Nat → Int32} {v_p1_hour : Nat → Int32} {v_p1_size : Int32} {v_t_kind' : Nat → Int32} {v_t_one' : Nat → Int32} {v_t_two' : Nat → Int32} {v_t_hour' : Nat → Int32} {v_t_size' : Int32} {out : (Nat → Int32) × (Nat → Int32) × (Nat → Int32) × (Nat → Int32) × Int32} (C : VC p s m args c cX9_copyWithTouch RX9 7 D cy (va_A [ob q_t 9 [.ref q_t_kind, .ref q_t_one, .ref q_t_two, .ref q_t_hour, .int v_t_size'], aI cy q_t_kind 21 v_t_kind', aI cy q_t_one 21 v_t_one', aI cy q_t_two 21 v_t_two', aI cy q_t_hour 21 v_t_hour', ob q_p1 9 [.ref q_p1_kind, .ref q_p1_one, .ref q_p1_two, .ref q_p1_hour, .int v_p1_size], aI cy q_p1_kind 21 v_p1_kind, aI cy q_p1_one 21 v_p1_one, aI cy q_p1_two 21 v_p1_two, aI cy q_p1_hour 21 v_p1_hour] s.heap.size)) (hr : meth.sig.returnType = none) (hlk : meth.locks = false) (n : Nat) (ih : Z_Story_copyWithTouch (V p l e rm_Story_copyWithTouch s m args below meth c (EQ below args s rm_Story_copyWithTouch D [ob q_t 9 [.ref q_t_kind, .ref q_t_one, .ref q_t_two, .ref q_t_hour, .int v_t_size'], aI cy q_t_kind 21 v_t_kind', aI cy q_t_one 21 v_t_one', aI cy q_t_two 21 v_t_two', aI cy q_t_hour 21 v_t_hour', ob q_p1 9 [.ref q_p1_kind, .ref q_p1_one, .ref q_p1_two, .ref q_p1_hour, .int v_p1_size], aI cy q_p1_kind 21 v_p1_kind, aI cy q_p1_one 21 v_p1_one, aI cy q_p1_two 21 v_p1_two, aI cy q_p1_hour 21 v_p1_hour] none [ob q_t 9 [.ref q_t_kind, .ref q_t_one, .ref q_t_two, .ref q_t_hour, .int out.2.2.2.2], aI cy q_t_kind 21 out.1, aI cy q_t_one 21 out.2.1, aI cy q_t_two 21 out.2.2.1, aI cy q_t_hour 21 out.2.2.2.1, ob q_p1 9 [.ref q_p1_kind, .ref q_p1_one, .ref q_p1_two, .ref q_p1_hour, .int v_p1_size], aI cy q_p1_kind 21 v_p1_kind, aI cy q_p1_one 21 v_p1_one, aI cy q_p1_two 21 v_p1_two, aI cy q_p1_hour 21 v_p1_hour]) 7 D (va_A [ob q_t 9 [.ref q_t_kind, .ref q_t_one, .ref q_t_two, .ref q_t_hour, .int v_t_size'], aI cy q_t_kind 21 v_t_kind', aI cy q_t_one 21 v_t_one', aI cy q_t_two 21 v_t_two', aI cy q_t_hour 21 v_t_hour', ob q_p1 9 [.ref q_p1_kind, .ref q_p1_one, .ref q_p1_two, .ref q_p1_hour, .int v_p1_size], aI cy q_p1_kind 21 v_p1_kind, aI cy q_p1_one 21 v_p1_one, aI cy q_p1_two 21 v_p1_two, aI cy q_p1_hour 21 v_p1_hour] s.heap.size) 0 0) cy K n q_t q_t_kind q_t_one q_t_two q_t_hour q_p1 q_p1_kind q_p1_one q_p1_two q_p1_hour  v_p1_kind v_p1_one v_p1_two v_p1_hour v_p1_size out) : Z1_Story_copyWithTouch (V p l e rm_Story_copyWithTouch s m args below meth c (EQ below args s rm_Story_copyWithTouch D [ob q_t 9 [.ref q_t_kind, .ref q_t_one, .ref q_t_two, .ref q_t_hour, .int v_t_size'], aI cy q_t_kind 21 v_t_kind', aI cy q_t_one 21 v_t_one', aI cy q_t_two 21 v_t_two', aI cy q_t_hour 21 v_t_hour', ob q_p1 9 [.ref q_p1_kind, .ref q_p1_one, .ref q_p1_two, .ref q_p1_hour, .int v_p1_size], aI cy q_p1_kind 21 v_p1_kind, aI cy q_p1_one 21 v_p1_one, aI cy q_p1_two 21 v_p1_two, aI cy q_p1_hour 21 v_p1_hour] none [ob q_t 9 [.ref q_t_kind, .ref q_t_one, .ref q_t_two, .ref q_t_hour, .int out.2.2.2.2], aI cy q_t_kind 21 out.1, aI cy q_t_one 21 out.2.1, aI cy q_t_two 21 out.2.2.1, aI cy q_t_hour 21 out.2.2.2.1, ob q_p1 9 [.ref q_p1_kind, .ref q_p1_one, .ref q_p1_two, .ref q_p1_hour, .int v_p1_size], aI cy q_p1_kind 21 v_p1_kind, aI cy q_p1_one 21 v_p1_one, aI cy q_p1_two 21 v_p1_two, aI cy q_p1_hour 21 v_p1_hour]) 7 D (va_A [ob q_t 9 [.ref q_t_kind, .ref q_t_one, .ref q_t_two, .ref q_t_hour, .int v_t_size'], aI cy q_t_kind 21 v_t_kind', aI cy q_t_one 21 v_t_one', aI cy q_t_two 21 v_t_two', aI cy q_t_hour 21 v_t_hour', ob q_p1 9 [.ref q_p1_kind, .ref q_p1_one, .ref q_p1_two, .ref q_p1_hour, .int v_p1_size], aI cy q_p1_kind 21 v_p1_kind, aI cy q_p1_one 21 v_p1_one, aI cy q_p1_two 21 v_p1_two, aI cy q_p1_hour 21 v_p1_hour] s.heap.size) 0 0) cy K (n + 1) q_t q_t_kind q_t_one q_t_two q_t_hour q_p1 q_p1_kind q_p1_one q_p1_two q_p1_hour  v_p1_kind v_p1_one v_p1_two v_p1_hour v_p1_size out := by
  intro x2 x3 x4 x5 x6 v_t_kind v_t_one v_t_two v_t_hour v_t_size hf
  replace hf := hf
  refine v_iload C dX9_copyWithTouch_49 2 rfl ?_
  refine v_aload_n C dX9_copyWithTouch_51 1 rfl rfl ?_
  refine v_get C fl_X9_24 5 rfl rfl dX9_copyWithTouch_52 ?_
  refine v_icmp_ge (tgt := 71) C dX9_copyWithTouch_55 (by decide) (fun c1 => ?_) (fun c1 => ?_)
  · replace hf := (if_pos c1).symm.trans hf
    obtain rfl := Option.some.inj hf
    exact v_vret C hr hlk dX9_copyWithTouch_71 rfl rfl rfl rfl
  · replace hf := (if_neg c1).symm.trans hf
    refine v_aload_n C dX9_copyWithTouch_58 0 rfl rfl ?_
    refine v_aload_n C dX9_copyWithTouch_59 1 rfl rfl ?_
    refine v_iload C dX9_copyWithTouch_60 2 rfl ?_
    obtain ⟨o62, g2, hf⟩ := bd_ hf
    refine v_callV (As := [.ref q_p1, .int x6]) (wr := []) (ws' := [ob q_t 9 [.ref q_t_kind, .ref q_t_one, .ref q_t_two, .ref q_t_hour, .int o62.2.2.2.2], aI cy q_t_kind 21 o62.1, aI cy q_t_one 21 o62.2.1, aI cy q_t_two 21 o62.2.2.1, aI cy q_t_hour 21 o62.2.2.2.1, ob q_p1 9 [.ref q_p1_kind, .ref q_p1_one, .ref q_p1_two, .ref q_p1_hour, .int v_p1_size], aI cy q_p1_kind 21 v_p1_kind, aI cy q_p1_one 21 v_p1_one, aI cy q_p1_two 21 v_p1_two, aI cy q_p1_hour 21 v_p1_hour]) (st := []) (stk' := []) C (c_Story_addFrom l D cy K q_t q_t_kind q_t_one q_t_two q_t_hour q_p1 q_p1_kind q_p1_one q_p1_two q_p1_hour  x6 v_t_kind v_t_one v_t_two v_t_hour v_t_size v_p1_kind v_p1_one v_p1_two v_p1_hour v_p1_size o62 g2) lv_X9_36 rfl (by decide) rfl 0 rfl rfl rfl dX9_copyWithTouch_62 [0, 1, 2, 3, 4, 5, 6, 7, 8, 9] [] (by decide) rfl rfl (by decide) (by decide) (Nat.le_of_ble_eq_true rfl) rfl rfl ?_
    refine v_iinc (v := x6 + 1) (lv' := [(6, .int (x6 + 1)), (0, .ref q_t), (1, .ref q_p1)]) C dX9_copyWithTouch_65 2 rfl rfl (by decide) rfl ?_
    refine v_goto (tgt := 49) C dX9_copyWithTouch_68 (by decide) ?_
    refine v_lv (lv' := [(0, .ref q_t), (1, .ref q_p1), (6, .int (x6 + 1))]) [1, 2, 0] rfl ?_
    exact ih.2 _ _ _ _ _ _ _ _ _ _ hf
theorem z_Story_copyWithTouch {p : Program} {l : Launch} {e : Env} {s : State} {m : MethodId} {args : Array Value} {below : List Frame} {meth : Method} {c : Code} {D : va_G} {cy : Nat → ClassId} {K : Nat} {q_t q_t_kind q_t_one q_t_two q_t_hour q_p1 q_p1_kind q_p1_one q_p1_two q_p1_hour : Nat} {v_p1_kind : Nat → Int32} {v_p1_one : Nat → Int32} {v_p1_two : Nat → Int32} {v_p1_hour : Nat → Int32} {v_p1_size : Int32} {v_t_kind' : Nat → Int32} {v_t_one' : Nat → Int32} {v_t_two' : Nat → Int32} {v_t_hour' : Nat → Int32} {v_t_size' : Int32} {out : (Nat → Int32) × (Nat → Int32) × (Nat → Int32) × (Nat → Int32) × Int32} (C : VC p s m args c cX9_copyWithTouch RX9 7 D cy (va_A [ob q_t 9 [.ref q_t_kind, .ref q_t_one, .ref q_t_two, .ref q_t_hour, .int v_t_size'], aI cy q_t_kind 21 v_t_kind', aI cy q_t_one 21 v_t_one', aI cy q_t_two 21 v_t_two', aI cy q_t_hour 21 v_t_hour', ob q_p1 9 [.ref q_p1_kind, .ref q_p1_one, .ref q_p1_two, .ref q_p1_hour, .int v_p1_size], aI cy q_p1_kind 21 v_p1_kind, aI cy q_p1_one 21 v_p1_one, aI cy q_p1_two 21 v_p1_two, aI cy q_p1_hour 21 v_p1_hour] s.heap.size)) (hr : meth.sig.returnType = none) (hlk : meth.locks = false) (n : Nat) : Z_Story_copyWithTouch (V p l e rm_Story_copyWithTouch s m args below meth c (EQ below args s rm_Story_copyWithTouch D [ob q_t 9 [.ref q_t_kind, .ref q_t_one, .ref q_t_two, .ref q_t_hour, .int v_t_size'], aI cy q_t_kind 21 v_t_kind', aI cy q_t_one 21 v_t_one', aI cy q_t_two 21 v_t_two', aI cy q_t_hour 21 v_t_hour', ob q_p1 9 [.ref q_p1_kind, .ref q_p1_one, .ref q_p1_two, .ref q_p1_hour, .int v_p1_size], aI cy q_p1_kind 21 v_p1_kind, aI cy q_p1_one 21 v_p1_one, aI cy q_p1_two 21 v_p1_two, aI cy q_p1_hour 21 v_p1_hour] none [ob q_t 9 [.ref q_t_kind, .ref q_t_one, .ref q_t_two, .ref q_t_hour, .int out.2.2.2.2], aI cy q_t_kind 21 out.1, aI cy q_t_one 21 out.2.1, aI cy q_t_two 21 out.2.2.1, aI cy q_t_hour 21 out.2.2.2.1, ob q_p1 9 [.ref q_p1_kind, .ref q_p1_one, .ref q_p1_two, .ref q_p1_hour, .int v_p1_size], aI cy q_p1_kind 21 v_p1_kind, aI cy q_p1_one 21 v_p1_one, aI cy q_p1_two 21 v_p1_two, aI cy q_p1_hour 21 v_p1_hour]) 7 D (va_A [ob q_t 9 [.ref q_t_kind, .ref q_t_one, .ref q_t_two, .ref q_t_hour, .int v_t_size'], aI cy q_t_kind 21 v_t_kind', aI cy q_t_one 21 v_t_one', aI cy q_t_two 21 v_t_two', aI cy q_t_hour 21 v_t_hour', ob q_p1 9 [.ref q_p1_kind, .ref q_p1_one, .ref q_p1_two, .ref q_p1_hour, .int v_p1_size], aI cy q_p1_kind 21 v_p1_kind, aI cy q_p1_one 21 v_p1_one, aI cy q_p1_two 21 v_p1_two, aI cy q_p1_hour 21 v_p1_hour] s.heap.size) 0 0) cy K n q_t q_t_kind q_t_one q_t_two q_t_hour q_p1 q_p1_kind q_p1_one q_p1_two q_p1_hour  v_p1_kind v_p1_one v_p1_two v_p1_hour v_p1_size out := by
  induction n with
  | zero => exact ⟨(fun _ _ _ _ _ _ _ _ _ _ h => nomatch h), (fun _ _ _ _ _ _ _ _ _ _ h => nomatch h)⟩
  | succ n ih => exact ⟨z0_Story_copyWithTouch C hr hlk n ih, z1_Story_copyWithTouch C hr hlk n ih⟩
set_option maxHeartbeats 4000000 in
set_option maxRecDepth 20000 in
theorem c_Story_copyWithTouch (l : Launch) (D : va_G) (cy : Nat → ClassId) (K : Nat) (q_t q_t_kind q_t_one q_t_two q_t_hour q_p1 q_p1_kind q_p1_one q_p1_two q_p1_hour : Nat) (p2 : Int32) (p3 : Int32) (p4 : Int32) (v_t_kind : Nat → Int32) (v_t_one : Nat → Int32) (v_t_two : Nat → Int32) (v_t_hour : Nat → Int32) (v_t_size : Int32) (v_p1_kind : Nat → Int32) (v_p1_one : Nat → Int32) (v_p1_two : Nat → Int32) (v_p1_hour : Nat → Int32) (v_p1_size : Int32) (out : (Nat → Int32) × (Nat → Int32) × (Nat → Int32) × (Nat → Int32) × Int32) (hf : sp_Story_copyWithTouch K p2 p3 p4 v_t_kind v_t_one v_t_two v_t_hour v_t_size v_p1_kind v_p1_one v_p1_two v_p1_hour v_p1_size = some out) : Ct l yX9_copyWithTouch cX9_copyWithTouch 7 none rm_Story_copyWithTouch D cy [.ref q_t, .ref q_p1, .int p2, .int p3, .int p4] [ob q_t 9 [.ref q_t_kind, .ref q_t_one, .ref q_t_two, .ref q_t_hour, .int v_t_size], aI cy q_t_kind 21 v_t_kind, aI cy q_t_one 21 v_t_one, aI cy q_t_two 21 v_t_two, aI cy q_t_hour 21 v_t_hour, ob q_p1 9 [.ref q_p1_kind, .ref q_p1_one, .ref q_p1_two, .ref q_p1_hour, .int v_p1_size], aI cy q_p1_kind 21 v_p1_kind, aI cy q_p1_one 21 v_p1_one, aI cy q_p1_two 21 v_p1_two, aI cy q_p1_hour 21 v_p1_hour] none [ob q_t 9 [.ref q_t_kind, .ref q_t_one, .ref q_t_two, .ref q_t_hour, .int out.2.2.2.2], aI cy q_t_kind 21 out.1, aI cy q_t_one 21 out.2.1, aI cy q_t_two 21 out.2.2.1, aI cy q_t_hour 21 out.2.2.2.1, ob q_p1 9 [.ref q_p1_kind, .ref q_p1_one, .ref q_p1_two, .ref q_p1_hour, .int v_p1_size], aI cy q_p1_kind 21 v_p1_kind, aI cy q_p1_one 21 v_p1_one, aI cy q_p1_two 21 v_p1_two, aI cy q_p1_hour 21 v_p1_hour] := by
  refine ct_of (by decide +kernel) (Nat.le_of_ble_eq_true rfl) (fun p e s m args below meth c C hr hlk hnm => ?_)
  unfold sp_Story_copyWithTouch at hf
  refine v_aload_n C dX9_copyWithTouch_0 1 rfl rfl ?_
  refine v_iload C dX9_copyWithTouch_1 4 rfl ?_
  obtain ⟨o3, g1, hf⟩ := bd_ hf
  refine v_callV (As := [.int p4]) (wr := [ob q_t 9 [.ref q_t_kind, .ref q_t_one, .ref q_t_two, .ref q_t_hour, .int v_t_size], aI cy q_t_kind 21 v_t_kind, aI cy q_t_one 21 v_t_one, aI cy q_t_two 21 v_t_two, aI cy q_t_hour 21 v_t_hour]) (ws' := [ob q_t 9 [.ref q_t_kind, .ref q_t_one, .ref q_t_two, .ref q_t_hour, .int v_t_size], aI cy q_t_kind 21 v_t_kind, aI cy q_t_one 21 v_t_one, aI cy q_t_two 21 v_t_two, aI cy q_t_hour 21 v_t_hour, ob q_p1 9 [.ref q_p1_kind, .ref q_p1_one, .ref q_p1_two, .ref q_p1_hour, .int v_p1_size], aI cy q_p1_kind 21 v_p1_kind, aI cy q_p1_one 21 v_p1_one, aI cy q_p1_two 21 v_p1_two, aI cy q_p1_hour 21 v_p1_hour]) (st := []) (stk' := [.int o3]) C (c_Story_eventsUntil l D cy K q_p1 q_p1_kind q_p1_one q_p1_two q_p1_hour  p4 v_p1_kind v_p1_one v_p1_two v_p1_hour v_p1_size o3 g1) lv_X9_44 rfl (by decide) rfl 5 rfl rfl rfl dX9_copyWithTouch_3 [5, 6, 7, 8, 9] [0, 1, 2, 3, 4] (by decide) rfl rfl (by decide) (by decide) (Nat.le_of_ble_eq_true rfl) rfl rfl ?_
  refine v_istore (lv' := [(5, .int o3), (0, .ref q_t), (1, .ref q_p1), (2, .int p2), (3, .int p3), (4, .int p4)]) C dX9_copyWithTouch_6 (by decide) rfl ?_
  refine v_aload_n C dX9_copyWithTouch_8 1 rfl rfl ?_
  refine v_iconst (v := 0) C dX9_copyWithTouch_9 (by decide) ?_
  refine v_put (ws' := [ob q_t 9 [.ref q_t_kind, .ref q_t_one, .ref q_t_two, .ref q_t_hour, .int 0], aI cy q_t_kind 21 v_t_kind, aI cy q_t_one 21 v_t_one, aI cy q_t_two 21 v_t_two, aI cy q_t_hour 21 v_t_hour, ob q_p1 9 [.ref q_p1_kind, .ref q_p1_one, .ref q_p1_two, .ref q_p1_hour, .int v_p1_size], aI cy q_p1_kind 21 v_p1_kind, aI cy q_p1_one 21 v_p1_one, aI cy q_p1_two 21 v_p1_two, aI cy q_p1_hour 21 v_p1_hour]) C fp_X9_24 0 rfl rfl rfl (Nat.le_of_ble_eq_true rfl) rfl dX9_copyWithTouch_10 ?_
  refine v_iconst (v := 0) C dX9_copyWithTouch_13 (by decide) ?_
  refine v_istore (lv' := [(6, .int 0), (5, .int o3), (0, .ref q_t), (1, .ref q_p1), (2, .int p2), (3, .int p3), (4, .int p4)]) C dX9_copyWithTouch_14 (by decide) rfl ?_
  refine v_lv (lv' := [(0, .ref q_t), (1, .ref q_p1), (2, .int p2), (3, .int p3), (4, .int p4), (5, .int o3), (6, .int 0)]) [2, 3, 4, 5, 6, 1, 0] rfl ?_
  exact (z_Story_copyWithTouch C hr hlk K).1 _ _ _ _ _ _ _ _ _ _ hf

abbrev rm_Story_wornBehind : Room := { frames := 0, cells := 0, slots := 0, locals := 0 }
def f_Story_wornBehind (K : Nat) (v_t_kind : Nat → Int32) (v_t_one : Nat → Int32) (v_t_two : Nat → Int32) (v_t_size : Int32) : Nat → Nat → Int32 × Int32 × Int32 × Int32 → Option (Int32)
  | 0, _, _ => none
  | n + 1, 0, (x1, x2, x3, x4) =>
    if x2 ≤ x4 then
      some x3
    else
      if v_t_size ≤ x4 then
        some x3
      else
        if 21 ≤ x4 then
          some x3
        else
          if inb x4 21 then
            if (v_t_one x4.toNatClampNeg) = x1 then
              if inb x4 21 then
                if (v_t_kind x4.toNatClampNeg) = 0 then
                  if inb x4 21 then
                    f_Story_wornBehind K v_t_kind v_t_one v_t_two v_t_size n 2 (x1, x2, v_t_two x4.toNatClampNeg, x4)
                  else none
                else
                  f_Story_wornBehind K v_t_kind v_t_one v_t_two v_t_size n 1 (x1, x2, x3, x4)
              else none
            else
              f_Story_wornBehind K v_t_kind v_t_one v_t_two v_t_size n 1 (x1, x2, x3, x4)
          else none
  | n + 1, 1, (x1, x2, x3, x4) =>
    if inb x4 21 then
      if (v_t_one x4.toNatClampNeg) = x1 then
        if inb x4 21 then
          if (v_t_kind x4.toNatClampNeg) = 1 then
            f_Story_wornBehind K v_t_kind v_t_one v_t_two v_t_size n 2 (x1, x2, (-1), x4)
          else
            f_Story_wornBehind K v_t_kind v_t_one v_t_two v_t_size n 2 (x1, x2, x3, x4)
        else none
      else
        f_Story_wornBehind K v_t_kind v_t_one v_t_two v_t_size n 2 (x1, x2, x3, x4)
    else none
  | n + 1, 2, (x1, x2, x3, x4) =>
    f_Story_wornBehind K v_t_kind v_t_one v_t_two v_t_size n 0 (x1, x2, x3, x4 + 1)
  | _ + 1, _ + 3, _ => none
def sp_Story_wornBehind (K : Nat) (p1 : Int32) (p2 : Int32) (v_t_kind : Nat → Int32) (v_t_one : Nat → Int32) (v_t_two : Nat → Int32) (v_t_size : Int32) : Option (Int32) :=
  f_Story_wornBehind K v_t_kind v_t_one v_t_two v_t_size K 0 (p1, p2, (-1), 0)
def Z0_Story_wornBehind (Vf : va_W → Nat → List (Nat × Value) → List Value → Prop) (cy : Nat → ClassId) (K n : Nat) (q_t q_t_kind q_t_one q_t_two q_t_hour : Nat) (v_t_kind : Nat → Int32) (v_t_one : Nat → Int32) (v_t_two : Nat → Int32) (v_t_hour : Nat → Int32) (v_t_size : Int32) (out : Int32) : Prop := ∀ (x1 : Int32) (x2 : Int32) (x3 : Int32) (x4 : Int32), f_Story_wornBehind K v_t_kind v_t_one v_t_two v_t_size n 0 (x1, x2, x3, x4) = some out → Vf [ob q_t 9 [.ref q_t_kind, .ref q_t_one, .ref q_t_two, .ref q_t_hour, .int v_t_size], aI cy q_t_kind 21 v_t_kind, aI cy q_t_one 21 v_t_one, aI cy q_t_two 21 v_t_two, aI cy q_t_hour 21 v_t_hour] 5 [(0, .ref q_t), (1, .int x1), (2, .int x2), (3, .int x3), (4, .int x4)] []
def Z1_Story_wornBehind (Vf : va_W → Nat → List (Nat × Value) → List Value → Prop) (cy : Nat → ClassId) (K n : Nat) (q_t q_t_kind q_t_one q_t_two q_t_hour : Nat) (v_t_kind : Nat → Int32) (v_t_one : Nat → Int32) (v_t_two : Nat → Int32) (v_t_hour : Nat → Int32) (v_t_size : Int32) (out : Int32) : Prop := ∀ (x1 : Int32) (x2 : Int32) (x3 : Int32) (x4 : Int32), f_Story_wornBehind K v_t_kind v_t_one v_t_two v_t_size n 1 (x1, x2, x3, x4) = some out → Vf [ob q_t 9 [.ref q_t_kind, .ref q_t_one, .ref q_t_two, .ref q_t_hour, .int v_t_size], aI cy q_t_kind 21 v_t_kind, aI cy q_t_one 21 v_t_one, aI cy q_t_two 21 v_t_two, aI cy q_t_hour 21 v_t_hour] 59 [(0, .ref q_t), (1, .int x1), (2, .int x2), (3, .int x3), (4, .int x4)] []
def Z2_Story_wornBehind (Vf : va_W → Nat → List (Nat × Value) → List Value → Prop) (cy : Nat → ClassId) (K n : Nat) (q_t q_t_kind q_t_one q_t_two q_t_hour : Nat) (v_t_kind : Nat → Int32) (v_t_one : Nat → Int32) (v_t_two : Nat → Int32) (v_t_hour : Nat → Int32) (v_t_size : Int32) (out : Int32) : Prop := ∀ (x1 : Int32) (x2 : Int32) (x3 : Int32) (x4 : Int32), f_Story_wornBehind K v_t_kind v_t_one v_t_two v_t_size n 2 (x1, x2, x3, x4) = some out → Vf [ob q_t 9 [.ref q_t_kind, .ref q_t_one, .ref q_t_two, .ref q_t_hour, .int v_t_size], aI cy q_t_kind 21 v_t_kind, aI cy q_t_one 21 v_t_one, aI cy q_t_two 21 v_t_two, aI cy q_t_hour 21 v_t_hour] 83 [(0, .ref q_t), (1, .int x1), (2, .int x2), (3, .int x3), (4, .int x4)] []
def Z_Story_wornBehind (Vf : va_W → Nat → List (Nat × Value) → List Value → Prop) (cy : Nat → ClassId) (K n : Nat) (q_t q_t_kind q_t_one q_t_two q_t_hour : Nat) (v_t_kind : Nat → Int32) (v_t_one : Nat → Int32) (v_t_two : Nat → Int32) (v_t_hour : Nat → Int32) (v_t_size : Int32) (out : Int32) : Prop := Z0_Story_wornBehind Vf cy K n q_t q_t_kind q_t_one q_t_two q_t_hour  v_t_kind v_t_one v_t_two v_t_hour v_t_size out ∧ Z1_Story_wornBehind Vf cy K n q_t q_t_kind q_t_one q_t_two q_t_hour  v_t_kind v_t_one v_t_two v_t_hour v_t_size out ∧ Z2_Story_wornBehind Vf cy K n q_t q_t_kind q_t_one q_t_two q_t_hour  v_t_kind v_t_one v_t_two v_t_hour v_t_size out
set_option maxHeartbeats 4000000 in
set_option maxRecDepth 20000 in
theorem z0_Story_wornBehind {p : Program} {l : Launch} {e : Env} {s : State} {m : MethodId} {args : Array Value} {below : List Frame} {meth : Method} {c : Code} {D : va_G} {cy : Nat → ClassId} {K : Nat} {q_t q_t_kind q_t_one q_t_two q_t_hour : Nat} {v_t_kind : Nat → Int32} {v_t_one : Nat → Int32} {v_t_two : Nat → Int32} {v_t_hour : Nat → Int32} {v_t_size : Int32} {out : Int32} (C : VC p s m args c cX9_wornBehind RX9 5 D cy (va_A [ob q_t 9 [.ref q_t_kind, .ref q_t_one, .ref q_t_two, .ref q_t_hour, .int v_t_size], aI cy q_t_kind 21 v_t_kind, aI cy q_t_one 21 v_t_one, aI cy q_t_two 21 v_t_two, aI cy q_t_hour 21 v_t_hour] s.heap.size)) (hr : meth.sig.returnType = (some .int)) (hlk : meth.locks = false) (n : Nat) (ih : Z_Story_wornBehind (V p l e rm_Story_wornBehind s m args below meth c (EQ below args s rm_Story_wornBehind D [ob q_t 9 [.ref q_t_kind, .ref q_t_one, .ref q_t_two, .ref q_t_hour, .int v_t_size], aI cy q_t_kind 21 v_t_kind, aI cy q_t_one 21 v_t_one, aI cy q_t_two 21 v_t_two, aI cy q_t_hour 21 v_t_hour] (some (.int out)) [ob q_t 9 [.ref q_t_kind, .ref q_t_one, .ref q_t_two, .ref q_t_hour, .int v_t_size], aI cy q_t_kind 21 v_t_kind, aI cy q_t_one 21 v_t_one, aI cy q_t_two 21 v_t_two, aI cy q_t_hour 21 v_t_hour]) 5 D (va_A [ob q_t 9 [.ref q_t_kind, .ref q_t_one, .ref q_t_two, .ref q_t_hour, .int v_t_size], aI cy q_t_kind 21 v_t_kind, aI cy q_t_one 21 v_t_one, aI cy q_t_two 21 v_t_two, aI cy q_t_hour 21 v_t_hour] s.heap.size) 0 0) cy K n q_t q_t_kind q_t_one q_t_two q_t_hour  v_t_kind v_t_one v_t_two v_t_hour v_t_size out) : Z0_Story_wornBehind (V p l e rm_Story_wornBehind s m args below meth c (EQ below args s rm_Story_wornBehind D [ob q_t 9 [.ref q_t_kind, .ref q_t_one, .ref q_t_two, .ref q_t_hour, .int v_t_size], aI cy q_t_kind 21 v_t_kind, aI cy q_t_one 21 v_t_one, aI cy q_t_two 21 v_t_two, aI cy q_t_hour 21 v_t_hour] (some (.int out)) [ob q_t 9 [.ref q_t_kind, .ref q_t_one, .ref q_t_two, .ref q_t_hour, .int v_t_size], aI cy q_t_kind 21 v_t_kind, aI cy q_t_one 21 v_t_one, aI cy q_t_two 21 v_t_two, aI cy q_t_hour 21 v_t_hour]) 5 D (va_A [ob q_t 9 [.ref q_t_kind, .ref q_t_one, .ref q_t_two, .ref q_t_hour, .int v_t_size], aI cy q_t_kind 21 v_t_kind, aI cy q_t_one 21 v_t_one, aI cy q_t_two 21 v_t_two, aI cy q_t_hour 21 v_t_hour] s.heap.size) 0 0) cy K (n + 1) q_t q_t_kind q_t_one q_t_two q_t_hour  v_t_kind v_t_one v_t_two v_t_hour v_t_size out := by
  intro x1 x2 x3 x4 hf
  replace hf := hf
  refine v_iload C dX9_wornBehind_5 4 rfl ?_
  refine v_iload_n C dX9_wornBehind_7 2 rfl rfl ?_
  refine v_icmp_ge (tgt := 89) C dX9_wornBehind_8 (by decide) (fun c1 => ?_) (fun c1 => ?_)
  · replace hf := (if_pos c1).symm.trans hf
    refine v_iload_n C dX9_wornBehind_89 3 rfl rfl ?_
    obtain rfl := Option.some.inj hf
    exact v_iret C hr hlk dX9_wornBehind_90 rfl rfl rfl rfl
  · replace hf := (if_neg c1).symm.trans hf
    refine v_iload C dX9_wornBehind_11 4 rfl ?_
    refine v_aload_n C dX9_wornBehind_13 0 rfl rfl ?_
    refine v_get C fl_X9_24 0 rfl rfl dX9_wornBehind_14 ?_
    refine v_icmp_ge (tgt := 89) C dX9_wornBehind_17 (by decide) (fun c2 => ?_) (fun c2 => ?_)
    · replace hf := (if_pos c2).symm.trans hf
      refine v_iload_n C dX9_wornBehind_89 3 rfl rfl ?_
      obtain rfl := Option.some.inj hf
      exact v_iret C hr hlk dX9_wornBehind_90 rfl rfl rfl rfl
    · replace hf := (if_neg c2).symm.trans hf
      refine v_iload C dX9_wornBehind_20 4 rfl ?_
      refine v_bipush (v := 21) C dX9_wornBehind_22 (by decide) ?_
      refine v_icmp_ge (tgt := 89) C dX9_wornBehind_24 (by decide) (fun c3 => ?_) (fun c3 => ?_)
      · replace hf := (if_pos c3).symm.trans hf
        refine v_iload_n C dX9_wornBehind_89 3 rfl rfl ?_
        obtain rfl := Option.some.inj hf
        exact v_iret C hr hlk dX9_wornBehind_90 rfl rfl rfl rfl
      · replace hf := (if_neg c3).symm.trans hf
        refine v_aload_n C dX9_wornBehind_27 0 rfl rfl ?_
        refine v_get C fl_X9_15 0 rfl rfl dX9_wornBehind_28 ?_
        refine v_iload C dX9_wornBehind_31 4 rfl ?_
        obtain ⟨g4, hf⟩ := gd_ hf
        refine v_iald C 2 rfl g4 dX9_wornBehind_33 ?_
        refine v_iload_n C dX9_wornBehind_34 1 rfl rfl ?_
        refine v_icmp_ne (tgt := 59) C dX9_wornBehind_35 (by decide) (fun c5 => ?_) (fun c5 => ?_)
        · replace hf := (if_neg c5).symm.trans hf
          exact ih.2.1 _ _ _ _ hf
        · replace hf := (if_pos c5).symm.trans hf
          refine v_aload_n C dX9_wornBehind_38 0 rfl rfl ?_
          refine v_get C fl_X9_9 0 rfl rfl dX9_wornBehind_39 ?_
          refine v_iload C dX9_wornBehind_42 4 rfl ?_
          obtain ⟨g6, hf⟩ := gd_ hf
          refine v_iald C 1 rfl g6 dX9_wornBehind_44 ?_
          refine v_if_ne (tgt := 59) C dX9_wornBehind_45 (by decide) (fun c7 => ?_) (fun c7 => ?_)
          · replace hf := (if_neg c7).symm.trans hf
            exact ih.2.1 _ _ _ _ hf
          · replace hf := (if_pos c7).symm.trans hf
            refine v_aload_n C dX9_wornBehind_48 0 rfl rfl ?_
            refine v_get C fl_X9_18 0 rfl rfl dX9_wornBehind_49 ?_
            refine v_iload C dX9_wornBehind_52 4 rfl ?_
            obtain ⟨g8, hf⟩ := gd_ hf
            refine v_iald C 3 rfl g8 dX9_wornBehind_54 ?_
            refine v_istore_n (lv' := [(3, .int (v_t_two x4.toNatClampNeg)), (0, .ref q_t), (1, .int x1), (2, .int x2), (4, .int x4)]) C dX9_wornBehind_55 rfl (by decide) rfl ?_
            refine v_goto (tgt := 83) C dX9_wornBehind_56 (by decide) ?_
            refine v_lv (lv' := [(0, .ref q_t), (1, .int x1), (2, .int x2), (3, .int (v_t_two x4.toNatClampNeg)), (4, .int x4)]) [1, 2, 3, 0, 4] rfl ?_
            exact ih.2.2 _ _ _ _ hf
set_option maxHeartbeats 4000000 in
set_option maxRecDepth 20000 in
theorem z1_Story_wornBehind {p : Program} {l : Launch} {e : Env} {s : State} {m : MethodId} {args : Array Value} {below : List Frame} {meth : Method} {c : Code} {D : va_G} {cy : Nat → ClassId} {K : Nat} {q_t q_t_kind q_t_one q_t_two q_t_hour : Nat} {v_t_kind : Nat → Int32} {v_t_one : Nat → Int32} {v_t_two : Nat → Int32} {v_t_hour : Nat → Int32} {v_t_size : Int32} {out : Int32} (C : VC p s m args c cX9_wornBehind RX9 5 D cy (va_A [ob q_t 9 [.ref q_t_kind, .ref q_t_one, .ref q_t_two, .ref q_t_hour, .int v_t_size], aI cy q_t_kind 21 v_t_kind, aI cy q_t_one 21 v_t_one, aI cy q_t_two 21 v_t_two, aI cy q_t_hour 21 v_t_hour] s.heap.size)) (hr : meth.sig.returnType = (some .int)) (hlk : meth.locks = false) (n : Nat) (ih : Z_Story_wornBehind (V p l e rm_Story_wornBehind s m args below meth c (EQ below args s rm_Story_wornBehind D [ob q_t 9 [.ref q_t_kind, .ref q_t_one, .ref q_t_two, .ref q_t_hour, .int v_t_size], aI cy q_t_kind 21 v_t_kind, aI cy q_t_one 21 v_t_one, aI cy q_t_two 21 v_t_two, aI cy q_t_hour 21 v_t_hour] (some (.int out)) [ob q_t 9 [.ref q_t_kind, .ref q_t_one, .ref q_t_two, .ref q_t_hour, .int v_t_size], aI cy q_t_kind 21 v_t_kind, aI cy q_t_one 21 v_t_one, aI cy q_t_two 21 v_t_two, aI cy q_t_hour 21 v_t_hour]) 5 D (va_A [ob q_t 9 [.ref q_t_kind, .ref q_t_one, .ref q_t_two, .ref q_t_hour, .int v_t_size], aI cy q_t_kind 21 v_t_kind, aI cy q_t_one 21 v_t_one, aI cy q_t_two 21 v_t_two, aI cy q_t_hour 21 v_t_hour] s.heap.size) 0 0) cy K n q_t q_t_kind q_t_one q_t_two q_t_hour  v_t_kind v_t_one v_t_two v_t_hour v_t_size out) : Z1_Story_wornBehind (V p l e rm_Story_wornBehind s m args below meth c (EQ below args s rm_Story_wornBehind D [ob q_t 9 [.ref q_t_kind, .ref q_t_one, .ref q_t_two, .ref q_t_hour, .int v_t_size], aI cy q_t_kind 21 v_t_kind, aI cy q_t_one 21 v_t_one, aI cy q_t_two 21 v_t_two, aI cy q_t_hour 21 v_t_hour] (some (.int out)) [ob q_t 9 [.ref q_t_kind, .ref q_t_one, .ref q_t_two, .ref q_t_hour, .int v_t_size], aI cy q_t_kind 21 v_t_kind, aI cy q_t_one 21 v_t_one, aI cy q_t_two 21 v_t_two, aI cy q_t_hour 21 v_t_hour]) 5 D (va_A [ob q_t 9 [.ref q_t_kind, .ref q_t_one, .ref q_t_two, .ref q_t_hour, .int v_t_size], aI cy q_t_kind 21 v_t_kind, aI cy q_t_one 21 v_t_one, aI cy q_t_two 21 v_t_two, aI cy q_t_hour 21 v_t_hour] s.heap.size) 0 0) cy K (n + 1) q_t q_t_kind q_t_one q_t_two q_t_hour  v_t_kind v_t_one v_t_two v_t_hour v_t_size out := by
  intro x1 x2 x3 x4 hf
  replace hf := hf
  refine v_aload_n C dX9_wornBehind_59 0 rfl rfl ?_
  refine v_get C fl_X9_15 0 rfl rfl dX9_wornBehind_60 ?_
  refine v_iload C dX9_wornBehind_63 4 rfl ?_
  obtain ⟨g1, hf⟩ := gd_ hf
  refine v_iald C 2 rfl g1 dX9_wornBehind_65 ?_
  refine v_iload_n C dX9_wornBehind_66 1 rfl rfl ?_
  refine v_icmp_ne (tgt := 83) C dX9_wornBehind_67 (by decide) (fun c2 => ?_) (fun c2 => ?_)
  · replace hf := (if_neg c2).symm.trans hf
    exact ih.2.2 _ _ _ _ hf
  · replace hf := (if_pos c2).symm.trans hf
    refine v_aload_n C dX9_wornBehind_70 0 rfl rfl ?_
    refine v_get C fl_X9_9 0 rfl rfl dX9_wornBehind_71 ?_
    refine v_iload C dX9_wornBehind_74 4 rfl ?_
    obtain ⟨g3, hf⟩ := gd_ hf
    refine v_iald C 1 rfl g3 dX9_wornBehind_76 ?_
    refine v_iconst (v := 1) C dX9_wornBehind_77 (by decide) ?_
    refine v_icmp_ne (tgt := 83) C dX9_wornBehind_78 (by decide) (fun c4 => ?_) (fun c4 => ?_)
    · replace hf := (if_neg c4).symm.trans hf
      exact ih.2.2 _ _ _ _ hf
    · replace hf := (if_pos c4).symm.trans hf
      refine v_iconst (v := (-1)) C dX9_wornBehind_81 (by decide) ?_
      refine v_istore_n (lv' := [(3, .int (-1)), (0, .ref q_t), (1, .int x1), (2, .int x2), (4, .int x4)]) C dX9_wornBehind_82 rfl (by decide) rfl ?_
      refine v_lv (lv' := [(0, .ref q_t), (1, .int x1), (2, .int x2), (3, .int (-1)), (4, .int x4)]) [1, 2, 3, 0, 4] rfl ?_
      exact ih.2.2 _ _ _ _ hf
set_option maxHeartbeats 4000000 in
set_option maxRecDepth 20000 in
theorem z2_Story_wornBehind {p : Program} {l : Launch} {e : Env} {s : State} {m : MethodId} {args : Array Value} {below : List Frame} {meth : Method} {c : Code} {D : va_G} {cy : Nat → ClassId} {K : Nat} {q_t q_t_kind q_t_one q_t_two q_t_hour : Nat} {v_t_kind : Nat → Int32} {v_t_one : Nat → Int32} {v_t_two : Nat → Int32} {v_t_hour : Nat → Int32} {v_t_size : Int32} {out : Int32} (C : VC p s m args c cX9_wornBehind RX9 5 D cy (va_A [ob q_t 9 [.ref q_t_kind, .ref q_t_one, .ref q_t_two, .ref q_t_hour, .int v_t_size], aI cy q_t_kind 21 v_t_kind, aI cy q_t_one 21 v_t_one, aI cy q_t_two 21 v_t_two, aI cy q_t_hour 21 v_t_hour] s.heap.size)) (hr : meth.sig.returnType = (some .int)) (hlk : meth.locks = false) (n : Nat) (ih : Z_Story_wornBehind (V p l e rm_Story_wornBehind s m args below meth c (EQ below args s rm_Story_wornBehind D [ob q_t 9 [.ref q_t_kind, .ref q_t_one, .ref q_t_two, .ref q_t_hour, .int v_t_size], aI cy q_t_kind 21 v_t_kind, aI cy q_t_one 21 v_t_one, aI cy q_t_two 21 v_t_two, aI cy q_t_hour 21 v_t_hour] (some (.int out)) [ob q_t 9 [.ref q_t_kind, .ref q_t_one, .ref q_t_two, .ref q_t_hour, .int v_t_size], aI cy q_t_kind 21 v_t_kind, aI cy q_t_one 21 v_t_one, aI cy q_t_two 21 v_t_two, aI cy q_t_hour 21 v_t_hour]) 5 D (va_A [ob q_t 9 [.ref q_t_kind, .ref q_t_one, .ref q_t_two, .ref q_t_hour, .int v_t_size], aI cy q_t_kind 21 v_t_kind, aI cy q_t_one 21 v_t_one, aI cy q_t_two 21 v_t_two, aI cy q_t_hour 21 v_t_hour] s.heap.size) 0 0) cy K n q_t q_t_kind q_t_one q_t_two q_t_hour  v_t_kind v_t_one v_t_two v_t_hour v_t_size out) : Z2_Story_wornBehind (V p l e rm_Story_wornBehind s m args below meth c (EQ below args s rm_Story_wornBehind D [ob q_t 9 [.ref q_t_kind, .ref q_t_one, .ref q_t_two, .ref q_t_hour, .int v_t_size], aI cy q_t_kind 21 v_t_kind, aI cy q_t_one 21 v_t_one, aI cy q_t_two 21 v_t_two, aI cy q_t_hour 21 v_t_hour] (some (.int out)) [ob q_t 9 [.ref q_t_kind, .ref q_t_one, .ref q_t_two, .ref q_t_hour, .int v_t_size], aI cy q_t_kind 21 v_t_kind, aI cy q_t_one 21 v_t_one, aI cy q_t_two 21 v_t_two, aI cy q_t_hour 21 v_t_hour]) 5 D (va_A [ob q_t 9 [.ref q_t_kind, .ref q_t_one, .ref q_t_two, .ref q_t_hour, .int v_t_size], aI cy q_t_kind 21 v_t_kind, aI cy q_t_one 21 v_t_one, aI cy q_t_two 21 v_t_two, aI cy q_t_hour 21 v_t_hour] s.heap.size) 0 0) cy K (n + 1) q_t q_t_kind q_t_one q_t_two q_t_hour  v_t_kind v_t_one v_t_two v_t_hour v_t_size out := by
  intro x1 x2 x3 x4 hf
  replace hf := hf
  refine v_iinc (v := x4 + 1) (lv' := [(4, .int (x4 + 1)), (0, .ref q_t), (1, .int x1), (2, .int x2), (3, .int x3)]) C dX9_wornBehind_83 4 rfl rfl (by decide) rfl ?_
  refine v_goto (tgt := 5) C dX9_wornBehind_86 (by decide) ?_
  refine v_lv (lv' := [(0, .ref q_t), (1, .int x1), (2, .int x2), (3, .int x3), (4, .int (x4 + 1))]) [1, 2, 3, 4, 0] rfl ?_
  exact ih.1 _ _ _ _ hf
theorem z_Story_wornBehind {p : Program} {l : Launch} {e : Env} {s : State} {m : MethodId} {args : Array Value} {below : List Frame} {meth : Method} {c : Code} {D : va_G} {cy : Nat → ClassId} {K : Nat} {q_t q_t_kind q_t_one q_t_two q_t_hour : Nat} {v_t_kind : Nat → Int32} {v_t_one : Nat → Int32} {v_t_two : Nat → Int32} {v_t_hour : Nat → Int32} {v_t_size : Int32} {out : Int32} (C : VC p s m args c cX9_wornBehind RX9 5 D cy (va_A [ob q_t 9 [.ref q_t_kind, .ref q_t_one, .ref q_t_two, .ref q_t_hour, .int v_t_size], aI cy q_t_kind 21 v_t_kind, aI cy q_t_one 21 v_t_one, aI cy q_t_two 21 v_t_two, aI cy q_t_hour 21 v_t_hour] s.heap.size)) (hr : meth.sig.returnType = (some .int)) (hlk : meth.locks = false) (n : Nat) : Z_Story_wornBehind (V p l e rm_Story_wornBehind s m args below meth c (EQ below args s rm_Story_wornBehind D [ob q_t 9 [.ref q_t_kind, .ref q_t_one, .ref q_t_two, .ref q_t_hour, .int v_t_size], aI cy q_t_kind 21 v_t_kind, aI cy q_t_one 21 v_t_one, aI cy q_t_two 21 v_t_two, aI cy q_t_hour 21 v_t_hour] (some (.int out)) [ob q_t 9 [.ref q_t_kind, .ref q_t_one, .ref q_t_two, .ref q_t_hour, .int v_t_size], aI cy q_t_kind 21 v_t_kind, aI cy q_t_one 21 v_t_one, aI cy q_t_two 21 v_t_two, aI cy q_t_hour 21 v_t_hour]) 5 D (va_A [ob q_t 9 [.ref q_t_kind, .ref q_t_one, .ref q_t_two, .ref q_t_hour, .int v_t_size], aI cy q_t_kind 21 v_t_kind, aI cy q_t_one 21 v_t_one, aI cy q_t_two 21 v_t_two, aI cy q_t_hour 21 v_t_hour] s.heap.size) 0 0) cy K n q_t q_t_kind q_t_one q_t_two q_t_hour  v_t_kind v_t_one v_t_two v_t_hour v_t_size out := by
  induction n with
  | zero => exact ⟨(fun _ _ _ _ h => nomatch h), (fun _ _ _ _ h => nomatch h), (fun _ _ _ _ h => nomatch h)⟩
  | succ n ih => exact ⟨z0_Story_wornBehind C hr hlk n ih, z1_Story_wornBehind C hr hlk n ih, z2_Story_wornBehind C hr hlk n ih⟩
set_option maxHeartbeats 4000000 in
set_option maxRecDepth 20000 in
theorem c_Story_wornBehind (l : Launch) (D : va_G) (cy : Nat → ClassId) (K : Nat) (q_t q_t_kind q_t_one q_t_two q_t_hour : Nat) (p1 : Int32) (p2 : Int32) (v_t_kind : Nat → Int32) (v_t_one : Nat → Int32) (v_t_two : Nat → Int32) (v_t_hour : Nat → Int32) (v_t_size : Int32) (out : Int32) (hf : sp_Story_wornBehind K p1 p2 v_t_kind v_t_one v_t_two v_t_size = some out) : Ct l yX9_wornBehind cX9_wornBehind 5 (some .int) rm_Story_wornBehind D cy [.ref q_t, .int p1, .int p2] [ob q_t 9 [.ref q_t_kind, .ref q_t_one, .ref q_t_two, .ref q_t_hour, .int v_t_size], aI cy q_t_kind 21 v_t_kind, aI cy q_t_one 21 v_t_one, aI cy q_t_two 21 v_t_two, aI cy q_t_hour 21 v_t_hour] (some (.int out)) [ob q_t 9 [.ref q_t_kind, .ref q_t_one, .ref q_t_two, .ref q_t_hour, .int v_t_size], aI cy q_t_kind 21 v_t_kind, aI cy q_t_one 21 v_t_one, aI cy q_t_two 21 v_t_two, aI cy q_t_hour 21 v_t_hour] := by
  refine ct_of (by decide +kernel) (Nat.le_of_ble_eq_true rfl) (fun p e s m args below meth c C hr hlk hnm => ?_)
  unfold sp_Story_wornBehind at hf
  refine v_iconst (v := (-1)) C dX9_wornBehind_0 (by decide) ?_
  refine v_istore_n (lv' := [(3, .int (-1)), (0, .ref q_t), (1, .int p1), (2, .int p2)]) C dX9_wornBehind_1 rfl (by decide) rfl ?_
  refine v_iconst (v := 0) C dX9_wornBehind_2 (by decide) ?_
  refine v_istore (lv' := [(4, .int 0), (3, .int (-1)), (0, .ref q_t), (1, .int p1), (2, .int p2)]) C dX9_wornBehind_3 (by decide) rfl ?_
  refine v_lv (lv' := [(0, .ref q_t), (1, .int p1), (2, .int p2), (3, .int (-1)), (4, .int 0)]) [2, 3, 4, 1, 0] rfl ?_
  exact (z_Story_wornBehind C hr hlk K).1 _ _ _ _ hf
