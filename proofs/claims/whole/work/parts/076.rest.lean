abbrev rm_leftOf : Room := { frames := 0, cells := 0, slots := 0, locals := 0 }
def f_leftOf (K : Nat) : Nat → Nat → Int32 × Int32 × Int32 × Int32 → Option (Int32)
  | 0, _, _ => none
  | n + 1, 0, (x1, x2, x3, x4) =>
    if x2 ≤ x4 then
      some x3
    else
      f_leftOf K  n 0 (x1, x2, (x3 * x1) / 16, x4 + 1)
  | _ + 1, _ + 1, _ => none
def sp_leftOf (K : Nat) (p0 : Int32) (p1 : Int32) (p2 : Int32) : Option (Int32) :=
  f_leftOf K  K 0 (p1, p2, p0, 0)
def Z0_leftOf (Vf : va_W → Nat → List (Nat × Value) → List Value → Prop) (cy : Nat → ClassId) (K n : Nat) (out : Int32) : Prop := ∀ (x1 : Int32) (x2 : Int32) (x3 : Int32) (x4 : Int32), f_leftOf K  n 0 (x1, x2, x3, x4) = some out → Vf [] 5 [(1, .int x1), (2, .int x2), (3, .int x3), (4, .int x4)] []
def Z_leftOf (Vf : va_W → Nat → List (Nat × Value) → List Value → Prop) (cy : Nat → ClassId) (K n : Nat) (out : Int32) : Prop := Z0_leftOf Vf cy K n    out
set_option maxHeartbeats 4000000 in
set_option maxRecDepth 20000 in
theorem z0_leftOf {p : Program} {l : Launch} {e : Env} {s : State} {m : MethodId} {args : Array Value} {below : List Frame} {meth : Method} {c : Code} {D : va_G} {cy : Nat → ClassId} {K : Nat} {out : Int32} (C : VC p s m args c cX11_leftOf RX11 5 D cy (va_A [] s.heap.size)) (hr : meth.sig.returnType = (some .int)) (hlk : meth.locks = false) (n : Nat) (ih : Z_leftOf (V p l e rm_leftOf s m args below meth c (EQ below args s rm_leftOf D [] (some (.int out)) []) 5 D (va_A [] s.heap.size) 0 0) cy K n    out) : Z0_leftOf (V p l e rm_leftOf s m args below meth c (EQ below args s rm_leftOf D [] (some (.int out)) []) 5 D (va_A [] s.heap.size) 0 0) cy K (n + 1)    out := by
  intro x1 x2 x3 x4 hf
  replace hf := hf
  refine v_iload C dX11_leftOf_5 3 rfl ?_
  refine v_iload_n C dX11_leftOf_7 1 rfl rfl ?_
  refine v_icmp_ge (tgt := 24) C dX11_leftOf_8 (by decide) (fun c1 => ?_) (fun c1 => ?_)
  · replace hf := (if_pos c1).symm.trans hf
    refine v_iload_n C dX11_leftOf_24 2 rfl rfl ?_
    obtain rfl := Option.some.inj hf
    exact v_iret C hr hlk dX11_leftOf_25 rfl rfl rfl rfl
  · replace hf := (if_neg c1).symm.trans hf
    refine v_iload_n C dX11_leftOf_11 2 rfl rfl ?_
    refine v_iload_n C dX11_leftOf_12 0 rfl rfl ?_
    refine v_imul C dX11_leftOf_13 ?_
    refine v_bipush (v := 16) C dX11_leftOf_14 (by decide) ?_
    refine v_idiv C dX11_leftOf_16 (by decide) ?_
    refine v_istore_n (lv' := [(3, .int ((x3 * x1) / 16)), (1, .int x1), (2, .int x2), (4, .int x4)]) C dX11_leftOf_17 rfl (by decide) rfl ?_
    refine v_iinc (v := x4 + 1) (lv' := [(4, .int (x4 + 1)), (3, .int ((x3 * x1) / 16)), (1, .int x1), (2, .int x2)]) C dX11_leftOf_18 3 rfl rfl (by decide) rfl ?_
    refine v_goto (tgt := 5) C dX11_leftOf_21 (by decide) ?_
    refine v_lv (lv' := [(1, .int x1), (2, .int x2), (3, .int ((x3 * x1) / 16)), (4, .int (x4 + 1))]) [2, 3, 1, 0] rfl ?_
    exact ih _ _ _ _ hf
theorem z_leftOf {p : Program} {l : Launch} {e : Env} {s : State} {m : MethodId} {args : Array Value} {below : List Frame} {meth : Method} {c : Code} {D : va_G} {cy : Nat → ClassId} {K : Nat} {out : Int32} (C : VC p s m args c cX11_leftOf RX11 5 D cy (va_A [] s.heap.size)) (hr : meth.sig.returnType = (some .int)) (hlk : meth.locks = false) (n : Nat) : Z_leftOf (V p l e rm_leftOf s m args below meth c (EQ below args s rm_leftOf D [] (some (.int out)) []) 5 D (va_A [] s.heap.size) 0 0) cy K n    out := by
  induction n with
  | zero => exact fun _ _ _ _ h => nomatch h
  | succ n ih => exact z0_leftOf C hr hlk n ih
set_option maxHeartbeats 4000000 in
set_option maxRecDepth 20000 in
theorem c_leftOf (l : Launch) (D : va_G) (cy : Nat → ClassId) (K : Nat) (p0 : Int32) (p1 : Int32) (p2 : Int32) (out : Int32) (hf : sp_leftOf K p0 p1 p2 = some out) : Ct l yX11_leftOf cX11_leftOf 5 (some .int) rm_leftOf D cy [.int p0, .int p1, .int p2] [] (some (.int out)) [] := by
  refine ct_of (by decide +kernel) (Nat.le_of_ble_eq_true rfl) (fun p e s m args below meth c C hr hlk hnm => ?_)
  unfold sp_leftOf at hf
  refine v_iload_n C dX11_leftOf_0 0 rfl rfl ?_
  refine v_istore_n (lv' := [(3, .int p0), (0, .int p0), (1, .int p1), (2, .int p2)]) C dX11_leftOf_1 rfl (by decide) rfl ?_
  refine v_iconst (v := 0) C dX11_leftOf_2 (by decide) ?_
  refine v_istore (lv' := [(4, .int 0), (3, .int p0), (0, .int p0), (1, .int p1), (2, .int p2)]) C dX11_leftOf_3 (by decide) rfl ?_
  refine v_lv (lv' := [(1, .int p1), (2, .int p2), (3, .int p0), (4, .int 0)]) [3, 4, 1, 0] rfl ?_
  exact (z_leftOf C hr hlk K) _ _ _ _ hf

abbrev rm_leastLeaving : Room := { frames := 1, cells := 0, slots := 0, locals := 24 }
def f_leastLeaving (K : Nat) : Nat → Nat → Int32 × Int32 × Int32 × Int32 × Int32 × Int32 → Option (Int32)
  | 0, _, _ => none
  | n + 1, 0, (x0, x1, x2, x3, x4, x5) =>
    if 32 ≤ x5 then
      some x3
    else
      if x4 ≤ x3 then
        some x3
      else
        (sp_leftOf K ((x3 + x4) / 2) x1 x2).bind fun o35 =>
          if o35 < x0 then
            f_leastLeaving K  n 1 (x0, x1, x2, ((x3 + x4) / 2) + 1, x4, x5)
          else
            f_leastLeaving K  n 1 (x0, x1, x2, x3, (x3 + x4) / 2, x5)
  | n + 1, 1, (x0, x1, x2, x3, x4, x5) =>
    f_leastLeaving K  n 0 (x0, x1, x2, x3, x4, x5 + 1)
  | _ + 1, _ + 2, _ => none
def sp_leastLeaving (K : Nat) (p0 : Int32) (p1 : Int32) (p2 : Int32) : Option (Int32) :=
  f_leastLeaving K  K 0 (p0, p1, p2, 0, 100000, 0)
def Z0_leastLeaving (Vf : va_W → Nat → List (Nat × Value) → List Value → Prop) (cy : Nat → ClassId) (K n : Nat) (out : Int32) : Prop := ∀ (x0 : Int32) (x1 : Int32) (x2 : Int32) (x3 : Int32) (x4 : Int32) (x5 : Int32), f_leastLeaving K  n 0 (x0, x1, x2, x3, x4, x5) = some out → Vf [] 10 [(0, .int x0), (1, .int x1), (2, .int x2), (3, .int x3), (4, .int x4), (5, .int x5)] []
def Z1_leastLeaving (Vf : va_W → Nat → List (Nat × Value) → List Value → Prop) (cy : Nat → ClassId) (K n : Nat) (out : Int32) : Prop := ∀ (x0 : Int32) (x1 : Int32) (x2 : Int32) (x3 : Int32) (x4 : Int32) (x5 : Int32), f_leastLeaving K  n 1 (x0, x1, x2, x3, x4, x5) = some out → Vf [] 54 [(0, .int x0), (1, .int x1), (2, .int x2), (3, .int x3), (4, .int x4), (5, .int x5)] []
def Z_leastLeaving (Vf : va_W → Nat → List (Nat × Value) → List Value → Prop) (cy : Nat → ClassId) (K n : Nat) (out : Int32) : Prop := Z0_leastLeaving Vf cy K n    out ∧ Z1_leastLeaving Vf cy K n    out
set_option maxHeartbeats 4000000 in
set_option maxRecDepth 20000 in
theorem z0_leastLeaving {p : Program} {l : Launch} {e : Env} {s : State} {m : MethodId} {args : Array Value} {below : List Frame} {meth : Method} {c : Code} {D : va_G} {cy : Nat → ClassId} {K : Nat} {out : Int32} (C : VC p s m args c cX11_leastLeaving RX11 7 D cy (va_A [] s.heap.size)) (hr : meth.sig.returnType = (some .int)) (hlk : meth.locks = false) (n : Nat) (ih : Z_leastLeaving (V p l e rm_leastLeaving s m args below meth c (EQ below args s rm_leastLeaving D [] (some (.int out)) []) 7 D (va_A [] s.heap.size) 0 0) cy K n    out) : Z0_leastLeaving (V p l e rm_leastLeaving s m args below meth c (EQ below args s rm_leastLeaving D [] (some (.int out)) []) 7 D (va_A [] s.heap.size) 0 0) cy K (n + 1)    out := by
  intro x0 x1 x2 x3 x4 x5 hf
  replace hf := hf
  refine v_iload C dX11_leastLeaving_10 5 rfl ?_
  refine v_bipush (v := 32) C dX11_leastLeaving_12 (by decide) ?_
  refine v_icmp_ge (tgt := 60) C dX11_leastLeaving_14 (by decide) (fun c1 => ?_) (fun c1 => ?_)
  · replace hf := (if_pos c1).symm.trans hf
    refine v_iload_n C dX11_leastLeaving_60 3 rfl rfl ?_
    obtain rfl := Option.some.inj hf
    exact v_iret C hr hlk dX11_leastLeaving_61 rfl rfl rfl rfl
  · replace hf := (if_neg c1).symm.trans hf
    refine v_iload_n C dX11_leastLeaving_17 3 rfl rfl ?_
    refine v_iload C dX11_leastLeaving_18 4 rfl ?_
    refine v_icmp_ge (tgt := 60) C dX11_leastLeaving_20 (by decide) (fun c2 => ?_) (fun c2 => ?_)
    · replace hf := (if_pos c2).symm.trans hf
      refine v_iload_n C dX11_leastLeaving_60 3 rfl rfl ?_
      obtain rfl := Option.some.inj hf
      exact v_iret C hr hlk dX11_leastLeaving_61 rfl rfl rfl rfl
    · replace hf := (if_neg c2).symm.trans hf
      refine v_iload_n C dX11_leastLeaving_23 3 rfl rfl ?_
      refine v_iload C dX11_leastLeaving_24 4 rfl ?_
      refine v_iadd C dX11_leastLeaving_26 ?_
      refine v_iconst (v := 2) C dX11_leastLeaving_27 (by decide) ?_
      refine v_idiv C dX11_leastLeaving_28 (by decide) ?_
      refine v_istore (lv' := [(6, .int ((x3 + x4) / 2)), (0, .int x0), (1, .int x1), (2, .int x2), (3, .int x3), (4, .int x4), (5, .int x5)]) C dX11_leastLeaving_29 (by decide) rfl ?_
      refine v_iload C dX11_leastLeaving_31 0 rfl ?_
      refine v_iload_n C dX11_leastLeaving_33 2 rfl rfl ?_
      refine v_iload_n C dX11_leastLeaving_34 3 rfl rfl ?_
      obtain ⟨o35, g3, hf⟩ := bd_ hf
      refine v_callS0 (As := [.int ((x3 + x4) / 2), .int x1, .int x2]) (st := []) (stk' := [.int o35]) C (c_leftOf l D cy K   ((x3 + x4) / 2) x1 x2 o35 g3) ls_X11_309 rfl (by decide) rfl dX11_leastLeaving_35 (Nat.le_of_ble_eq_true rfl) rfl ?_
      refine v_iload_n C dX11_leastLeaving_38 1 rfl rfl ?_
      refine v_icmp_lt (tgt := 49) C dX11_leastLeaving_39 (by decide) (fun c4 => ?_) (fun c4 => ?_)
      · replace hf := (if_pos c4).symm.trans hf
        refine v_iload C dX11_leastLeaving_49 0 rfl ?_
        refine v_iconst (v := 1) C dX11_leastLeaving_51 (by decide) ?_
        refine v_iadd C dX11_leastLeaving_52 ?_
        refine v_istore_n (lv' := [(3, .int (((x3 + x4) / 2) + 1)), (6, .int ((x3 + x4) / 2)), (0, .int x0), (1, .int x1), (2, .int x2), (4, .int x4), (5, .int x5)]) C dX11_leastLeaving_53 rfl (by decide) rfl ?_
        refine v_lv (lv' := [(0, .int x0), (1, .int x1), (2, .int x2), (3, .int (((x3 + x4) / 2) + 1)), (4, .int x4), (5, .int x5)]) [2, 3, 4, 0, 5, 6] rfl ?_
        exact ih.2 _ _ _ _ _ _ hf
      · replace hf := (if_neg c4).symm.trans hf
        refine v_iload C dX11_leastLeaving_42 0 rfl ?_
        refine v_istore (lv' := [(4, .int ((x3 + x4) / 2)), (6, .int ((x3 + x4) / 2)), (0, .int x0), (1, .int x1), (2, .int x2), (3, .int x3), (5, .int x5)]) C dX11_leastLeaving_44 (by decide) rfl ?_
        refine v_goto (tgt := 54) C dX11_leastLeaving_46 (by decide) ?_
        refine v_lv (lv' := [(0, .int x0), (1, .int x1), (2, .int x2), (3, .int x3), (4, .int ((x3 + x4) / 2)), (5, .int x5)]) [2, 3, 4, 5, 0, 6] rfl ?_
        exact ih.2 _ _ _ _ _ _ hf
set_option maxHeartbeats 4000000 in
set_option maxRecDepth 20000 in
theorem z1_leastLeaving {p : Program} {l : Launch} {e : Env} {s : State} {m : MethodId} {args : Array Value} {below : List Frame} {meth : Method} {c : Code} {D : va_G} {cy : Nat → ClassId} {K : Nat} {out : Int32} (C : VC p s m args c cX11_leastLeaving RX11 7 D cy (va_A [] s.heap.size)) (hr : meth.sig.returnType = (some .int)) (hlk : meth.locks = false) (n : Nat) (ih : Z_leastLeaving (V p l e rm_leastLeaving s m args below meth c (EQ below args s rm_leastLeaving D [] (some (.int out)) []) 7 D (va_A [] s.heap.size) 0 0) cy K n    out) : Z1_leastLeaving (V p l e rm_leastLeaving s m args below meth c (EQ below args s rm_leastLeaving D [] (some (.int out)) []) 7 D (va_A [] s.heap.size) 0 0) cy K (n + 1)    out := by
  intro x0 x1 x2 x3 x4 x5 hf
  replace hf := hf
  refine v_iinc (v := x5 + 1) (lv' := [(5, .int (x5 + 1)), (0, .int x0), (1, .int x1), (2, .int x2), (3, .int x3), (4, .int x4)]) C dX11_leastLeaving_54 5 rfl rfl (by decide) rfl ?_
  refine v_goto (tgt := 10) C dX11_leastLeaving_57 (by decide) ?_
  refine v_lv (lv' := [(0, .int x0), (1, .int x1), (2, .int x2), (3, .int x3), (4, .int x4), (5, .int (x5 + 1))]) [1, 2, 3, 4, 5, 0] rfl ?_
  exact ih.1 _ _ _ _ _ _ hf
theorem z_leastLeaving {p : Program} {l : Launch} {e : Env} {s : State} {m : MethodId} {args : Array Value} {below : List Frame} {meth : Method} {c : Code} {D : va_G} {cy : Nat → ClassId} {K : Nat} {out : Int32} (C : VC p s m args c cX11_leastLeaving RX11 7 D cy (va_A [] s.heap.size)) (hr : meth.sig.returnType = (some .int)) (hlk : meth.locks = false) (n : Nat) : Z_leastLeaving (V p l e rm_leastLeaving s m args below meth c (EQ below args s rm_leastLeaving D [] (some (.int out)) []) 7 D (va_A [] s.heap.size) 0 0) cy K n    out := by
  induction n with
  | zero => exact ⟨(fun _ _ _ _ _ _ h => nomatch h), (fun _ _ _ _ _ _ h => nomatch h)⟩
  | succ n ih => exact ⟨z0_leastLeaving C hr hlk n ih, z1_leastLeaving C hr hlk n ih⟩
set_option maxHeartbeats 4000000 in
set_option maxRecDepth 20000 in
theorem c_leastLeaving (l : Launch) (D : va_G) (cy : Nat → ClassId) (K : Nat) (p0 : Int32) (p1 : Int32) (p2 : Int32) (out : Int32) (hf : sp_leastLeaving K p0 p1 p2 = some out) : Ct l yX11_leastLeaving cX11_leastLeaving 7 (some .int) rm_leastLeaving D cy [.int p0, .int p1, .int p2] [] (some (.int out)) [] := by
  refine ct_of (by decide +kernel) (Nat.le_of_ble_eq_true rfl) (fun p e s m args below meth c C hr hlk hnm => ?_)
  unfold sp_leastLeaving at hf
  refine v_iconst (v := 0) C dX11_leastLeaving_0 (by decide) ?_
  refine v_istore_n (lv' := [(3, .int 0), (0, .int p0), (1, .int p1), (2, .int p2)]) C dX11_leastLeaving_1 rfl (by decide) rfl ?_
  refine v_ldcw C kc_X11_312 dX11_leastLeaving_2 ?_
  refine v_istore (lv' := [(4, .int 100000), (3, .int 0), (0, .int p0), (1, .int p1), (2, .int p2)]) C dX11_leastLeaving_5 (by decide) rfl ?_
  refine v_iconst (v := 0) C dX11_leastLeaving_7 (by decide) ?_
  refine v_istore (lv' := [(5, .int 0), (4, .int 100000), (3, .int 0), (0, .int p0), (1, .int p1), (2, .int p2)]) C dX11_leastLeaving_8 (by decide) rfl ?_
  refine v_lv (lv' := [(0, .int p0), (1, .int p1), (2, .int p2), (3, .int 0), (4, .int 100000), (5, .int 0)]) [3, 4, 5, 2, 1, 0] rfl ?_
  exact (z_leastLeaving C hr hlk K).1 _ _ _ _ _ _ hf

abbrev rm_after : Room := { frames := 7, cells := 4, slots := 24, locals := 103 }
def f_after (K : Nat) : Nat → Nat → Int32 × Int32 × Int32 × Int32 → Option (Nat ⊕ (Int32))
  | 0, _, _ => none
  | n + 1, 0, (x2, x3, x5, y0) =>
    if 99999 < y0 then
      some (.inr (-1))
    else
      (sp_leftOf K y0 x5 x3).bind fun o86 =>
        if o86 = x2 then
          some (.inr y0)
        else
          some (.inr (-1))
  | _ + 1, _ + 1, _ => none
def sp_after (K : Nat) (p1 : Int32) (p2 : Int32) (p3 : Int32) (p4 : Int32) (v_t_law_hold : Nat → Int32) : Option (Nat ⊕ (Int32)) :=
  xb (sp_needBelow K p1 10) fun o3 =>
    xb (sp_needBelow K p2 10000) fun o10 =>
      xb (sp_needBelow K p3 61) fun o16 =>
        (sp_Law_holdOf K p1 v_t_law_hold).bind fun o24 =>
          if o24 = 0 then
            some (.inl 0)
          else
            if p4 = 0 then
              (sp_leastLeaving K p2 o24 p3).bind fun o68 =>
                f_after K  K 0 (p2, p3, o24, o68)
            else
              (sp_leastLeaving K (p2 + 1) o24 p3).bind fun o56 =>
                f_after K  K 0 (p2, p3, o24, o56 - 1)
def Z0_after (Vf : va_W → Nat → List (Nat × Value) → List Value → Prop) (cy : Nat → ClassId) (K n : Nat) (adK adV : Nat → Nat) (q_t q_t_stories q_t_images q_t_piles q_t_tape q_t_varied q_t_evidence q_t_run q_t_otherRun q_t_balance q_t_law q_t_law_shed q_t_law_hold q_t_law_common q_t_law_alikes q_t_draftLaw q_t_draftStory : Nat) (v_t_storyCount : Int32) (v_t_imageCount : Int32) (v_t_law_shed : Nat → Int32) (v_t_law_hold : Nat → Int32) (v_t_law_common : Nat → Int32) (v_t_law_alikes : Nat → Int32) (v_t_law_wash : Int32) (v_t_law_pass : Int32) (v_t_law_take : Int32) (v_t_law_clauses : Int32) (out : Nat ⊕ (Int32)) : Prop := ∀ (x2 : Int32) (x3 : Int32) (x5 : Int32) (y0 : Int32), f_after K  n 0 (x2, x3, x5, y0) = some out → Vf [ob q_t 11 [.ref q_t_tape, .ref q_t_stories, .ref q_t_varied, .ref q_t_evidence, .ref q_t_images, .ref q_t_run, .ref q_t_otherRun, .ref q_t_piles, .ref q_t_balance, .ref q_t_law, .ref q_t_draftLaw, .ref q_t_draftStory, .int v_t_storyCount, .int v_t_imageCount], ob q_t_law 5 [.ref q_t_law_shed, .ref q_t_law_hold, .ref q_t_law_common, .ref q_t_law_alikes, .int v_t_law_wash, .int v_t_law_pass, .int v_t_law_take, .int v_t_law_clauses], aI cy q_t_law_shed 80 v_t_law_shed, aI cy q_t_law_hold 10 v_t_law_hold, aI cy q_t_law_common 10 v_t_law_common, aI cy q_t_law_alikes 10 v_t_law_alikes] 71 [(2, .int x2), (3, .int x3), (5, .int x5)] [.int y0]
def Z_after (Vf : va_W → Nat → List (Nat × Value) → List Value → Prop) (cy : Nat → ClassId) (K n : Nat) (adK adV : Nat → Nat) (q_t q_t_stories q_t_images q_t_piles q_t_tape q_t_varied q_t_evidence q_t_run q_t_otherRun q_t_balance q_t_law q_t_law_shed q_t_law_hold q_t_law_common q_t_law_alikes q_t_draftLaw q_t_draftStory : Nat) (v_t_storyCount : Int32) (v_t_imageCount : Int32) (v_t_law_shed : Nat → Int32) (v_t_law_hold : Nat → Int32) (v_t_law_common : Nat → Int32) (v_t_law_alikes : Nat → Int32) (v_t_law_wash : Int32) (v_t_law_pass : Int32) (v_t_law_take : Int32) (v_t_law_clauses : Int32) (out : Nat ⊕ (Int32)) : Prop := Z0_after Vf cy K n adK adV q_t q_t_stories q_t_images q_t_piles q_t_tape q_t_varied q_t_evidence q_t_run q_t_otherRun q_t_balance q_t_law q_t_law_shed q_t_law_hold q_t_law_common q_t_law_alikes q_t_draftLaw q_t_draftStory  v_t_storyCount v_t_imageCount v_t_law_shed v_t_law_hold v_t_law_common v_t_law_alikes v_t_law_wash v_t_law_pass v_t_law_take v_t_law_clauses out
set_option maxHeartbeats 4000000 in
set_option maxRecDepth 20000 in
theorem z0_after {p : Program} {l : Launch} {e : Env} {s : State} {m : MethodId} {args : Array Value} {below : List Frame} {meth : Method} {c : Code} {D : va_G} {cy : Nat → ClassId} {K : Nat} {adK adV : Nat → Nat} {q_t q_t_stories q_t_images q_t_piles q_t_tape q_t_varied q_t_evidence q_t_run q_t_otherRun q_t_balance q_t_law q_t_law_shed q_t_law_hold q_t_law_common q_t_law_alikes q_t_draftLaw q_t_draftStory : Nat} {v_t_storyCount : Int32} {v_t_imageCount : Int32} {v_t_law_shed : Nat → Int32} {v_t_law_hold : Nat → Int32} {v_t_law_common : Nat → Int32} {v_t_law_alikes : Nat → Int32} {v_t_law_wash : Int32} {v_t_law_pass : Int32} {v_t_law_take : Int32} {v_t_law_clauses : Int32} {out : Nat ⊕ (Int32)} (C : VC p s m args c cX11_after RX11 7 D cy (va_A [ob q_t 11 [.ref q_t_tape, .ref q_t_stories, .ref q_t_varied, .ref q_t_evidence, .ref q_t_images, .ref q_t_run, .ref q_t_otherRun, .ref q_t_piles, .ref q_t_balance, .ref q_t_law, .ref q_t_draftLaw, .ref q_t_draftStory, .int v_t_storyCount, .int v_t_imageCount], ob q_t_law 5 [.ref q_t_law_shed, .ref q_t_law_hold, .ref q_t_law_common, .ref q_t_law_alikes, .int v_t_law_wash, .int v_t_law_pass, .int v_t_law_take, .int v_t_law_clauses], aI cy q_t_law_shed 80 v_t_law_shed, aI cy q_t_law_hold 10 v_t_law_hold, aI cy q_t_law_common 10 v_t_law_common, aI cy q_t_law_alikes 10 v_t_law_alikes] s.heap.size)) (hO : OW adK adV (va_A [ob q_t 11 [.ref q_t_tape, .ref q_t_stories, .ref q_t_varied, .ref q_t_evidence, .ref q_t_images, .ref q_t_run, .ref q_t_otherRun, .ref q_t_piles, .ref q_t_balance, .ref q_t_law, .ref q_t_draftLaw, .ref q_t_draftStory, .int v_t_storyCount, .int v_t_imageCount], ob q_t_law 5 [.ref q_t_law_shed, .ref q_t_law_hold, .ref q_t_law_common, .ref q_t_law_alikes, .int v_t_law_wash, .int v_t_law_pass, .int v_t_law_take, .int v_t_law_clauses], aI cy q_t_law_shed 80 v_t_law_shed, aI cy q_t_law_hold 10 v_t_law_hold, aI cy q_t_law_common 10 v_t_law_common, aI cy q_t_law_alikes 10 v_t_law_alikes] s.heap.size) s s.heap) (hr : meth.sig.returnType = (some .int)) (hlk : meth.locks = false) (n : Nat) (ih : Z_after (V p l e rm_after s m args below meth c (EX below args s rm_after D [ob q_t 11 [.ref q_t_tape, .ref q_t_stories, .ref q_t_varied, .ref q_t_evidence, .ref q_t_images, .ref q_t_run, .ref q_t_otherRun, .ref q_t_piles, .ref q_t_balance, .ref q_t_law, .ref q_t_draftLaw, .ref q_t_draftStory, .int v_t_storyCount, .int v_t_imageCount], ob q_t_law 5 [.ref q_t_law_shed, .ref q_t_law_hold, .ref q_t_law_common, .ref q_t_law_alikes, .int v_t_law_wash, .int v_t_law_pass, .int v_t_law_take, .int v_t_law_clauses], aI cy q_t_law_shed 80 v_t_law_shed, aI cy q_t_law_hold 10 v_t_law_hold, aI cy q_t_law_common 10 v_t_law_common, aI cy q_t_law_alikes 10 v_t_law_alikes] (Sum.elim (fun c9 => Sum.inl (EN c9)) (fun o9 => Sum.inr ((some (.int o9)), [ob q_t 11 [.ref q_t_tape, .ref q_t_stories, .ref q_t_varied, .ref q_t_evidence, .ref q_t_images, .ref q_t_run, .ref q_t_otherRun, .ref q_t_piles, .ref q_t_balance, .ref q_t_law, .ref q_t_draftLaw, .ref q_t_draftStory, .int v_t_storyCount, .int v_t_imageCount], ob q_t_law 5 [.ref q_t_law_shed, .ref q_t_law_hold, .ref q_t_law_common, .ref q_t_law_alikes, .int v_t_law_wash, .int v_t_law_pass, .int v_t_law_take, .int v_t_law_clauses], aI cy q_t_law_shed 80 v_t_law_shed, aI cy q_t_law_hold 10 v_t_law_hold, aI cy q_t_law_common 10 v_t_law_common, aI cy q_t_law_alikes 10 v_t_law_alikes])) out)) 7 D (va_A [ob q_t 11 [.ref q_t_tape, .ref q_t_stories, .ref q_t_varied, .ref q_t_evidence, .ref q_t_images, .ref q_t_run, .ref q_t_otherRun, .ref q_t_piles, .ref q_t_balance, .ref q_t_law, .ref q_t_draftLaw, .ref q_t_draftStory, .int v_t_storyCount, .int v_t_imageCount], ob q_t_law 5 [.ref q_t_law_shed, .ref q_t_law_hold, .ref q_t_law_common, .ref q_t_law_alikes, .int v_t_law_wash, .int v_t_law_pass, .int v_t_law_take, .int v_t_law_clauses], aI cy q_t_law_shed 80 v_t_law_shed, aI cy q_t_law_hold 10 v_t_law_hold, aI cy q_t_law_common 10 v_t_law_common, aI cy q_t_law_alikes 10 v_t_law_alikes] s.heap.size) 3 18) cy K n adK adV q_t q_t_stories q_t_images q_t_piles q_t_tape q_t_varied q_t_evidence q_t_run q_t_otherRun q_t_balance q_t_law q_t_law_shed q_t_law_hold q_t_law_common q_t_law_alikes q_t_draftLaw q_t_draftStory  v_t_storyCount v_t_imageCount v_t_law_shed v_t_law_hold v_t_law_common v_t_law_alikes v_t_law_wash v_t_law_pass v_t_law_take v_t_law_clauses out) : Z0_after (V p l e rm_after s m args below meth c (EX below args s rm_after D [ob q_t 11 [.ref q_t_tape, .ref q_t_stories, .ref q_t_varied, .ref q_t_evidence, .ref q_t_images, .ref q_t_run, .ref q_t_otherRun, .ref q_t_piles, .ref q_t_balance, .ref q_t_law, .ref q_t_draftLaw, .ref q_t_draftStory, .int v_t_storyCount, .int v_t_imageCount], ob q_t_law 5 [.ref q_t_law_shed, .ref q_t_law_hold, .ref q_t_law_common, .ref q_t_law_alikes, .int v_t_law_wash, .int v_t_law_pass, .int v_t_law_take, .int v_t_law_clauses], aI cy q_t_law_shed 80 v_t_law_shed, aI cy q_t_law_hold 10 v_t_law_hold, aI cy q_t_law_common 10 v_t_law_common, aI cy q_t_law_alikes 10 v_t_law_alikes] (Sum.elim (fun c9 => Sum.inl (EN c9)) (fun o9 => Sum.inr ((some (.int o9)), [ob q_t 11 [.ref q_t_tape, .ref q_t_stories, .ref q_t_varied, .ref q_t_evidence, .ref q_t_images, .ref q_t_run, .ref q_t_otherRun, .ref q_t_piles, .ref q_t_balance, .ref q_t_law, .ref q_t_draftLaw, .ref q_t_draftStory, .int v_t_storyCount, .int v_t_imageCount], ob q_t_law 5 [.ref q_t_law_shed, .ref q_t_law_hold, .ref q_t_law_common, .ref q_t_law_alikes, .int v_t_law_wash, .int v_t_law_pass, .int v_t_law_take, .int v_t_law_clauses], aI cy q_t_law_shed 80 v_t_law_shed, aI cy q_t_law_hold 10 v_t_law_hold, aI cy q_t_law_common 10 v_t_law_common, aI cy q_t_law_alikes 10 v_t_law_alikes])) out)) 7 D (va_A [ob q_t 11 [.ref q_t_tape, .ref q_t_stories, .ref q_t_varied, .ref q_t_evidence, .ref q_t_images, .ref q_t_run, .ref q_t_otherRun, .ref q_t_piles, .ref q_t_balance, .ref q_t_law, .ref q_t_draftLaw, .ref q_t_draftStory, .int v_t_storyCount, .int v_t_imageCount], ob q_t_law 5 [.ref q_t_law_shed, .ref q_t_law_hold, .ref q_t_law_common, .ref q_t_law_alikes, .int v_t_law_wash, .int v_t_law_pass, .int v_t_law_take, .int v_t_law_clauses], aI cy q_t_law_shed 80 v_t_law_shed, aI cy q_t_law_hold 10 v_t_law_hold, aI cy q_t_law_common 10 v_t_law_common, aI cy q_t_law_alikes 10 v_t_law_alikes] s.heap.size) 3 18) cy K (n + 1) adK adV q_t q_t_stories q_t_images q_t_piles q_t_tape q_t_varied q_t_evidence q_t_run q_t_otherRun q_t_balance q_t_law q_t_law_shed q_t_law_hold q_t_law_common q_t_law_alikes q_t_draftLaw q_t_draftStory  v_t_storyCount v_t_imageCount v_t_law_shed v_t_law_hold v_t_law_common v_t_law_alikes v_t_law_wash v_t_law_pass v_t_law_take v_t_law_clauses out := by
  intro x2 x3 x5 y0 hf
  replace hf := hf
  refine v_istore (lv' := [(6, .int y0), (2, .int x2), (3, .int x3), (5, .int x5)]) C dX11_after_71 (by decide) rfl ?_
  refine v_iload C dX11_after_73 0 rfl ?_
  refine v_ldcw C kc_X11_308 dX11_after_75 ?_
  refine v_icmp_gt (tgt := 93) C dX11_after_78 (by decide) (fun c1 => ?_) (fun c1 => ?_)
  · replace hf := (if_pos c1).symm.trans hf
    refine v_iconst (v := (-1)) C dX11_after_93 (by decide) ?_
    obtain rfl := Option.some.inj hf
    exact v_iretX C hr hlk dX11_after_94 (Nat.le_of_ble_eq_true rfl) (Nat.le_of_ble_eq_true rfl) rfl
  · replace hf := (if_neg c1).symm.trans hf
    refine v_iload C dX11_after_81 0 rfl ?_
    refine v_iload C dX11_after_83 3 rfl ?_
    refine v_iload_n C dX11_after_85 2 rfl rfl ?_
    obtain ⟨o86, g2, hf⟩ := bd_ hf
    refine v_callS0 (As := [.int y0, .int x5, .int x3]) (st := []) (stk' := [.int o86]) C (c_leftOf l D cy K   y0 x5 x3 o86 g2) ls_X11_309 rfl (by decide) rfl dX11_after_86 (Nat.le_of_ble_eq_true rfl) rfl ?_
    refine v_iload_n C dX11_after_89 1 rfl rfl ?_
    refine v_icmp_eq (tgt := 95) C dX11_after_90 (by decide) (fun c3 => ?_) (fun c3 => ?_)
    · replace hf := (if_pos c3).symm.trans hf
      refine v_iload C dX11_after_95 0 rfl ?_
      obtain rfl := Option.some.inj hf
      exact v_iretX C hr hlk dX11_after_97 (Nat.le_of_ble_eq_true rfl) (Nat.le_of_ble_eq_true rfl) rfl
    · replace hf := (if_neg c3).symm.trans hf
      refine v_iconst (v := (-1)) C dX11_after_93 (by decide) ?_
      obtain rfl := Option.some.inj hf
      exact v_iretX C hr hlk dX11_after_94 (Nat.le_of_ble_eq_true rfl) (Nat.le_of_ble_eq_true rfl) rfl
theorem z_after {p : Program} {l : Launch} {e : Env} {s : State} {m : MethodId} {args : Array Value} {below : List Frame} {meth : Method} {c : Code} {D : va_G} {cy : Nat → ClassId} {K : Nat} {adK adV : Nat → Nat} {q_t q_t_stories q_t_images q_t_piles q_t_tape q_t_varied q_t_evidence q_t_run q_t_otherRun q_t_balance q_t_law q_t_law_shed q_t_law_hold q_t_law_common q_t_law_alikes q_t_draftLaw q_t_draftStory : Nat} {v_t_storyCount : Int32} {v_t_imageCount : Int32} {v_t_law_shed : Nat → Int32} {v_t_law_hold : Nat → Int32} {v_t_law_common : Nat → Int32} {v_t_law_alikes : Nat → Int32} {v_t_law_wash : Int32} {v_t_law_pass : Int32} {v_t_law_take : Int32} {v_t_law_clauses : Int32} {out : Nat ⊕ (Int32)} (C : VC p s m args c cX11_after RX11 7 D cy (va_A [ob q_t 11 [.ref q_t_tape, .ref q_t_stories, .ref q_t_varied, .ref q_t_evidence, .ref q_t_images, .ref q_t_run, .ref q_t_otherRun, .ref q_t_piles, .ref q_t_balance, .ref q_t_law, .ref q_t_draftLaw, .ref q_t_draftStory, .int v_t_storyCount, .int v_t_imageCount], ob q_t_law 5 [.ref q_t_law_shed, .ref q_t_law_hold, .ref q_t_law_common, .ref q_t_law_alikes, .int v_t_law_wash, .int v_t_law_pass, .int v_t_law_take, .int v_t_law_clauses], aI cy q_t_law_shed 80 v_t_law_shed, aI cy q_t_law_hold 10 v_t_law_hold, aI cy q_t_law_common 10 v_t_law_common, aI cy q_t_law_alikes 10 v_t_law_alikes] s.heap.size)) (hO : OW adK adV (va_A [ob q_t 11 [.ref q_t_tape, .ref q_t_stories, .ref q_t_varied, .ref q_t_evidence, .ref q_t_images, .ref q_t_run, .ref q_t_otherRun, .ref q_t_piles, .ref q_t_balance, .ref q_t_law, .ref q_t_draftLaw, .ref q_t_draftStory, .int v_t_storyCount, .int v_t_imageCount], ob q_t_law 5 [.ref q_t_law_shed, .ref q_t_law_hold, .ref q_t_law_common, .ref q_t_law_alikes, .int v_t_law_wash, .int v_t_law_pass, .int v_t_law_take, .int v_t_law_clauses], aI cy q_t_law_shed 80 v_t_law_shed, aI cy q_t_law_hold 10 v_t_law_hold, aI cy q_t_law_common 10 v_t_law_common, aI cy q_t_law_alikes 10 v_t_law_alikes] s.heap.size) s s.heap) (hr : meth.sig.returnType = (some .int)) (hlk : meth.locks = false) (n : Nat) : Z_after (V p l e rm_after s m args below meth c (EX below args s rm_after D [ob q_t 11 [.ref q_t_tape, .ref q_t_stories, .ref q_t_varied, .ref q_t_evidence, .ref q_t_images, .ref q_t_run, .ref q_t_otherRun, .ref q_t_piles, .ref q_t_balance, .ref q_t_law, .ref q_t_draftLaw, .ref q_t_draftStory, .int v_t_storyCount, .int v_t_imageCount], ob q_t_law 5 [.ref q_t_law_shed, .ref q_t_law_hold, .ref q_t_law_common, .ref q_t_law_alikes, .int v_t_law_wash, .int v_t_law_pass, .int v_t_law_take, .int v_t_law_clauses], aI cy q_t_law_shed 80 v_t_law_shed, aI cy q_t_law_hold 10 v_t_law_hold, aI cy q_t_law_common 10 v_t_law_common, aI cy q_t_law_alikes 10 v_t_law_alikes] (Sum.elim (fun c9 => Sum.inl (EN c9)) (fun o9 => Sum.inr ((some (.int o9)), [ob q_t 11 [.ref q_t_tape, .ref q_t_stories, .ref q_t_varied, .ref q_t_evidence, .ref q_t_images, .ref q_t_run, .ref q_t_otherRun, .ref q_t_piles, .ref q_t_balance, .ref q_t_law, .ref q_t_draftLaw, .ref q_t_draftStory, .int v_t_storyCount, .int v_t_imageCount], ob q_t_law 5 [.ref q_t_law_shed, .ref q_t_law_hold, .ref q_t_law_common, .ref q_t_law_alikes, .int v_t_law_wash, .int v_t_law_pass, .int v_t_law_take, .int v_t_law_clauses], aI cy q_t_law_shed 80 v_t_law_shed, aI cy q_t_law_hold 10 v_t_law_hold, aI cy q_t_law_common 10 v_t_law_common, aI cy q_t_law_alikes 10 v_t_law_alikes])) out)) 7 D (va_A [ob q_t 11 [.ref q_t_tape, .ref q_t_stories, .ref q_t_varied, .ref q_t_evidence, .ref q_t_images, .ref q_t_run, .ref q_t_otherRun, .ref q_t_piles, .ref q_t_balance, .ref q_t_law, .ref q_t_draftLaw, .ref q_t_draftStory, .int v_t_storyCount, .int v_t_imageCount], ob q_t_law 5 [.ref q_t_law_shed, .ref q_t_law_hold, .ref q_t_law_common, .ref q_t_law_alikes, .int v_t_law_wash, .int v_t_law_pass, .int v_t_law_take, .int v_t_law_clauses], aI cy q_t_law_shed 80 v_t_law_shed, aI cy q_t_law_hold 10 v_t_law_hold, aI cy q_t_law_common 10 v_t_law_common, aI cy q_t_law_alikes 10 v_t_law_alikes] s.heap.size) 3 18) cy K n adK adV q_t q_t_stories q_t_images q_t_piles q_t_tape q_t_varied q_t_evidence q_t_run q_t_otherRun q_t_balance q_t_law q_t_law_shed q_t_law_hold q_t_law_common q_t_law_alikes q_t_draftLaw q_t_draftStory  v_t_storyCount v_t_imageCount v_t_law_shed v_t_law_hold v_t_law_common v_t_law_alikes v_t_law_wash v_t_law_pass v_t_law_take v_t_law_clauses out := by
  induction n with
  | zero => exact fun _ _ _ _ h => nomatch h
  | succ n ih => exact z0_after C hO hr hlk n ih
set_option maxHeartbeats 4000000 in
set_option maxRecDepth 20000 in
theorem c_after (l : Launch) (D : va_G) (cy : Nat → ClassId) (K : Nat) (hl : l.stackTraces = false) (adK adV : Nat → Nat) (q_t q_t_stories q_t_images q_t_piles q_t_tape q_t_varied q_t_evidence q_t_run q_t_otherRun q_t_balance q_t_law q_t_law_shed q_t_law_hold q_t_law_common q_t_law_alikes q_t_draftLaw q_t_draftStory : Nat) (p1 : Int32) (p2 : Int32) (p3 : Int32) (p4 : Int32) (v_t_storyCount : Int32) (v_t_imageCount : Int32) (v_t_law_shed : Nat → Int32) (v_t_law_hold : Nat → Int32) (v_t_law_common : Nat → Int32) (v_t_law_alikes : Nat → Int32) (v_t_law_wash : Int32) (v_t_law_pass : Int32) (v_t_law_take : Int32) (v_t_law_clauses : Int32) (out : Nat ⊕ (Int32)) (hf : sp_after K p1 p2 p3 p4 v_t_law_hold = some out) : CX l yX11_after cX11_after 7 (some .int) rm_after D cy adK adV [.ref q_t, .int p1, .int p2, .int p3, .int p4] [ob q_t 11 [.ref q_t_tape, .ref q_t_stories, .ref q_t_varied, .ref q_t_evidence, .ref q_t_images, .ref q_t_run, .ref q_t_otherRun, .ref q_t_piles, .ref q_t_balance, .ref q_t_law, .ref q_t_draftLaw, .ref q_t_draftStory, .int v_t_storyCount, .int v_t_imageCount], ob q_t_law 5 [.ref q_t_law_shed, .ref q_t_law_hold, .ref q_t_law_common, .ref q_t_law_alikes, .int v_t_law_wash, .int v_t_law_pass, .int v_t_law_take, .int v_t_law_clauses], aI cy q_t_law_shed 80 v_t_law_shed, aI cy q_t_law_hold 10 v_t_law_hold, aI cy q_t_law_common 10 v_t_law_common, aI cy q_t_law_alikes 10 v_t_law_alikes] (Sum.elim (fun c9 => Sum.inl (EN c9)) (fun o9 => Sum.inr ((some (.int o9)), [ob q_t 11 [.ref q_t_tape, .ref q_t_stories, .ref q_t_varied, .ref q_t_evidence, .ref q_t_images, .ref q_t_run, .ref q_t_otherRun, .ref q_t_piles, .ref q_t_balance, .ref q_t_law, .ref q_t_draftLaw, .ref q_t_draftStory, .int v_t_storyCount, .int v_t_imageCount], ob q_t_law 5 [.ref q_t_law_shed, .ref q_t_law_hold, .ref q_t_law_common, .ref q_t_law_alikes, .int v_t_law_wash, .int v_t_law_pass, .int v_t_law_take, .int v_t_law_clauses], aI cy q_t_law_shed 80 v_t_law_shed, aI cy q_t_law_hold 10 v_t_law_hold, aI cy q_t_law_common 10 v_t_law_common, aI cy q_t_law_alikes 10 v_t_law_alikes])) out) := by
  refine cx_of (by decide +kernel) (Nat.le_of_ble_eq_true rfl) (fun p e s m args below meth c C hO hex hr hlk => ?_)
  unfold sp_after at hf
  refine v_iload_n C dX11_after_0 1 rfl rfl ?_
  refine v_bipush (v := 10) C dX11_after_1 (by decide) ?_
  rcases xb_ hf with ⟨c9, g1, rfl⟩ | ⟨o3, g1, hf⟩
  · exact v_callST (As := [.int p1, .int 10]) (wr := [ob q_t 11 [.ref q_t_tape, .ref q_t_stories, .ref q_t_varied, .ref q_t_evidence, .ref q_t_images, .ref q_t_run, .ref q_t_otherRun, .ref q_t_piles, .ref q_t_balance, .ref q_t_law, .ref q_t_draftLaw, .ref q_t_draftStory, .int v_t_storyCount, .int v_t_imageCount], ob q_t_law 5 [.ref q_t_law_shed, .ref q_t_law_hold, .ref q_t_law_common, .ref q_t_law_alikes, .int v_t_law_wash, .int v_t_law_pass, .int v_t_law_take, .int v_t_law_clauses], aI cy q_t_law_shed 80 v_t_law_shed, aI cy q_t_law_hold 10 v_t_law_hold, aI cy q_t_law_common 10 v_t_law_common, aI cy q_t_law_alikes 10 v_t_law_alikes]) (st := []) C hO (c_needBelow l D cy K hl adK adV   p1 10 (.inl c9) g1) ls_X11_121 rfl (by decide) rfl dX11_after_3 [] [0, 1, 2, 3, 4, 5] [0, 1, 2, 3, 4, 5] (by decide) rfl rfl (by decide) (by decide) rfl (by decide) (Nat.le_of_ble_eq_true rfl) hex hlk (Nat.le_of_ble_eq_true rfl) (Nat.le_of_ble_eq_true rfl) rfl rfl
  · refine v_callSX (As := [.int p1, .int 10]) (wr := [ob q_t 11 [.ref q_t_tape, .ref q_t_stories, .ref q_t_varied, .ref q_t_evidence, .ref q_t_images, .ref q_t_run, .ref q_t_otherRun, .ref q_t_piles, .ref q_t_balance, .ref q_t_law, .ref q_t_draftLaw, .ref q_t_draftStory, .int v_t_storyCount, .int v_t_imageCount], ob q_t_law 5 [.ref q_t_law_shed, .ref q_t_law_hold, .ref q_t_law_common, .ref q_t_law_alikes, .int v_t_law_wash, .int v_t_law_pass, .int v_t_law_take, .int v_t_law_clauses], aI cy q_t_law_shed 80 v_t_law_shed, aI cy q_t_law_hold 10 v_t_law_hold, aI cy q_t_law_common 10 v_t_law_common, aI cy q_t_law_alikes 10 v_t_law_alikes]) (ws' := [ob q_t 11 [.ref q_t_tape, .ref q_t_stories, .ref q_t_varied, .ref q_t_evidence, .ref q_t_images, .ref q_t_run, .ref q_t_otherRun, .ref q_t_piles, .ref q_t_balance, .ref q_t_law, .ref q_t_draftLaw, .ref q_t_draftStory, .int v_t_storyCount, .int v_t_imageCount], ob q_t_law 5 [.ref q_t_law_shed, .ref q_t_law_hold, .ref q_t_law_common, .ref q_t_law_alikes, .int v_t_law_wash, .int v_t_law_pass, .int v_t_law_take, .int v_t_law_clauses], aI cy q_t_law_shed 80 v_t_law_shed, aI cy q_t_law_hold 10 v_t_law_hold, aI cy q_t_law_common 10 v_t_law_common, aI cy q_t_law_alikes 10 v_t_law_alikes]) (st := []) (stk' := []) C hO (c_needBelow l D cy K hl adK adV   p1 10 (.inr o3) g1) ls_X11_121 rfl (by decide) rfl dX11_after_3 [] [0, 1, 2, 3, 4, 5] (by decide) rfl rfl (by decide) (by decide) (Nat.le_of_ble_eq_true rfl) rfl rfl ?_
    refine v_iload_n C dX11_after_6 2 rfl rfl ?_
    refine v_sipush (v := 10000) C dX11_after_7 (by decide) ?_
    rcases xb_ hf with ⟨c9, g2, rfl⟩ | ⟨o10, g2, hf⟩
    · exact v_callST (As := [.int p2, .int 10000]) (wr := [ob q_t 11 [.ref q_t_tape, .ref q_t_stories, .ref q_t_varied, .ref q_t_evidence, .ref q_t_images, .ref q_t_run, .ref q_t_otherRun, .ref q_t_piles, .ref q_t_balance, .ref q_t_law, .ref q_t_draftLaw, .ref q_t_draftStory, .int v_t_storyCount, .int v_t_imageCount], ob q_t_law 5 [.ref q_t_law_shed, .ref q_t_law_hold, .ref q_t_law_common, .ref q_t_law_alikes, .int v_t_law_wash, .int v_t_law_pass, .int v_t_law_take, .int v_t_law_clauses], aI cy q_t_law_shed 80 v_t_law_shed, aI cy q_t_law_hold 10 v_t_law_hold, aI cy q_t_law_common 10 v_t_law_common, aI cy q_t_law_alikes 10 v_t_law_alikes]) (st := []) C hO (c_needBelow l D cy K hl adK adV   p2 10000 (.inl c9) g2) ls_X11_121 rfl (by decide) rfl dX11_after_10 [] [0, 1, 2, 3, 4, 5] [0, 1, 2, 3, 4, 5] (by decide) rfl rfl (by decide) (by decide) rfl (by decide) (Nat.le_of_ble_eq_true rfl) hex hlk (Nat.le_of_ble_eq_true rfl) (Nat.le_of_ble_eq_true rfl) rfl rfl
    · refine v_callSX (As := [.int p2, .int 10000]) (wr := [ob q_t 11 [.ref q_t_tape, .ref q_t_stories, .ref q_t_varied, .ref q_t_evidence, .ref q_t_images, .ref q_t_run, .ref q_t_otherRun, .ref q_t_piles, .ref q_t_balance, .ref q_t_law, .ref q_t_draftLaw, .ref q_t_draftStory, .int v_t_storyCount, .int v_t_imageCount], ob q_t_law 5 [.ref q_t_law_shed, .ref q_t_law_hold, .ref q_t_law_common, .ref q_t_law_alikes, .int v_t_law_wash, .int v_t_law_pass, .int v_t_law_take, .int v_t_law_clauses], aI cy q_t_law_shed 80 v_t_law_shed, aI cy q_t_law_hold 10 v_t_law_hold, aI cy q_t_law_common 10 v_t_law_common, aI cy q_t_law_alikes 10 v_t_law_alikes]) (ws' := [ob q_t 11 [.ref q_t_tape, .ref q_t_stories, .ref q_t_varied, .ref q_t_evidence, .ref q_t_images, .ref q_t_run, .ref q_t_otherRun, .ref q_t_piles, .ref q_t_balance, .ref q_t_law, .ref q_t_draftLaw, .ref q_t_draftStory, .int v_t_storyCount, .int v_t_imageCount], ob q_t_law 5 [.ref q_t_law_shed, .ref q_t_law_hold, .ref q_t_law_common, .ref q_t_law_alikes, .int v_t_law_wash, .int v_t_law_pass, .int v_t_law_take, .int v_t_law_clauses], aI cy q_t_law_shed 80 v_t_law_shed, aI cy q_t_law_hold 10 v_t_law_hold, aI cy q_t_law_common 10 v_t_law_common, aI cy q_t_law_alikes 10 v_t_law_alikes]) (st := []) (stk' := []) C hO (c_needBelow l D cy K hl adK adV   p2 10000 (.inr o10) g2) ls_X11_121 rfl (by decide) rfl dX11_after_10 [] [0, 1, 2, 3, 4, 5] (by decide) rfl rfl (by decide) (by decide) (Nat.le_of_ble_eq_true rfl) rfl rfl ?_
      refine v_iload_n C dX11_after_13 3 rfl rfl ?_
      refine v_bipush (v := 61) C dX11_after_14 (by decide) ?_
      rcases xb_ hf with ⟨c9, g3, rfl⟩ | ⟨o16, g3, hf⟩
      · exact v_callST (As := [.int p3, .int 61]) (wr := [ob q_t 11 [.ref q_t_tape, .ref q_t_stories, .ref q_t_varied, .ref q_t_evidence, .ref q_t_images, .ref q_t_run, .ref q_t_otherRun, .ref q_t_piles, .ref q_t_balance, .ref q_t_law, .ref q_t_draftLaw, .ref q_t_draftStory, .int v_t_storyCount, .int v_t_imageCount], ob q_t_law 5 [.ref q_t_law_shed, .ref q_t_law_hold, .ref q_t_law_common, .ref q_t_law_alikes, .int v_t_law_wash, .int v_t_law_pass, .int v_t_law_take, .int v_t_law_clauses], aI cy q_t_law_shed 80 v_t_law_shed, aI cy q_t_law_hold 10 v_t_law_hold, aI cy q_t_law_common 10 v_t_law_common, aI cy q_t_law_alikes 10 v_t_law_alikes]) (st := []) C hO (c_needBelow l D cy K hl adK adV   p3 61 (.inl c9) g3) ls_X11_121 rfl (by decide) rfl dX11_after_16 [] [0, 1, 2, 3, 4, 5] [0, 1, 2, 3, 4, 5] (by decide) rfl rfl (by decide) (by decide) rfl (by decide) (Nat.le_of_ble_eq_true rfl) hex hlk (Nat.le_of_ble_eq_true rfl) (Nat.le_of_ble_eq_true rfl) rfl rfl
      · refine v_callSX (As := [.int p3, .int 61]) (wr := [ob q_t 11 [.ref q_t_tape, .ref q_t_stories, .ref q_t_varied, .ref q_t_evidence, .ref q_t_images, .ref q_t_run, .ref q_t_otherRun, .ref q_t_piles, .ref q_t_balance, .ref q_t_law, .ref q_t_draftLaw, .ref q_t_draftStory, .int v_t_storyCount, .int v_t_imageCount], ob q_t_law 5 [.ref q_t_law_shed, .ref q_t_law_hold, .ref q_t_law_common, .ref q_t_law_alikes, .int v_t_law_wash, .int v_t_law_pass, .int v_t_law_take, .int v_t_law_clauses], aI cy q_t_law_shed 80 v_t_law_shed, aI cy q_t_law_hold 10 v_t_law_hold, aI cy q_t_law_common 10 v_t_law_common, aI cy q_t_law_alikes 10 v_t_law_alikes]) (ws' := [ob q_t 11 [.ref q_t_tape, .ref q_t_stories, .ref q_t_varied, .ref q_t_evidence, .ref q_t_images, .ref q_t_run, .ref q_t_otherRun, .ref q_t_piles, .ref q_t_balance, .ref q_t_law, .ref q_t_draftLaw, .ref q_t_draftStory, .int v_t_storyCount, .int v_t_imageCount], ob q_t_law 5 [.ref q_t_law_shed, .ref q_t_law_hold, .ref q_t_law_common, .ref q_t_law_alikes, .int v_t_law_wash, .int v_t_law_pass, .int v_t_law_take, .int v_t_law_clauses], aI cy q_t_law_shed 80 v_t_law_shed, aI cy q_t_law_hold 10 v_t_law_hold, aI cy q_t_law_common 10 v_t_law_common, aI cy q_t_law_alikes 10 v_t_law_alikes]) (st := []) (stk' := []) C hO (c_needBelow l D cy K hl adK adV   p3 61 (.inr o16) g3) ls_X11_121 rfl (by decide) rfl dX11_after_16 [] [0, 1, 2, 3, 4, 5] (by decide) rfl rfl (by decide) (by decide) (Nat.le_of_ble_eq_true rfl) rfl rfl ?_
        refine v_aload_n C dX11_after_19 0 rfl rfl ?_
        refine v_get C fl_X11_19 0 rfl rfl dX11_after_20 ?_
        refine v_iload_n C dX11_after_23 1 rfl rfl ?_
        obtain ⟨o24, g4, hf⟩ := bd_ hf
        refine v_callV (As := [.int p1]) (wr := [ob q_t 11 [.ref q_t_tape, .ref q_t_stories, .ref q_t_varied, .ref q_t_evidence, .ref q_t_images, .ref q_t_run, .ref q_t_otherRun, .ref q_t_piles, .ref q_t_balance, .ref q_t_law, .ref q_t_draftLaw, .ref q_t_draftStory, .int v_t_storyCount, .int v_t_imageCount]]) (ws' := [ob q_t 11 [.ref q_t_tape, .ref q_t_stories, .ref q_t_varied, .ref q_t_evidence, .ref q_t_images, .ref q_t_run, .ref q_t_otherRun, .ref q_t_piles, .ref q_t_balance, .ref q_t_law, .ref q_t_draftLaw, .ref q_t_draftStory, .int v_t_storyCount, .int v_t_imageCount], ob q_t_law 5 [.ref q_t_law_shed, .ref q_t_law_hold, .ref q_t_law_common, .ref q_t_law_alikes, .int v_t_law_wash, .int v_t_law_pass, .int v_t_law_take, .int v_t_law_clauses], aI cy q_t_law_shed 80 v_t_law_shed, aI cy q_t_law_hold 10 v_t_law_hold, aI cy q_t_law_common 10 v_t_law_common, aI cy q_t_law_alikes 10 v_t_law_alikes]) (st := []) (stk' := [.int o24]) C (c_Law_holdOf l D cy K q_t_law q_t_law_shed q_t_law_hold q_t_law_common q_t_law_alikes  p1 v_t_law_shed v_t_law_hold v_t_law_common v_t_law_alikes v_t_law_wash v_t_law_pass v_t_law_take v_t_law_clauses o24 g4) lv_X11_128 rfl (by decide) rfl 1 rfl rfl rfl dX11_after_24 [1, 2, 3, 4, 5] [0] (by decide) rfl rfl (by decide) (by decide) (Nat.le_of_ble_eq_true rfl) rfl rfl ?_
        refine v_istore (lv' := [(5, .int o24), (0, .ref q_t), (1, .int p1), (2, .int p2), (3, .int p3), (4, .int p4)]) C dX11_after_27 (by decide) rfl ?_
        refine v_iload C dX11_after_29 0 rfl ?_
        refine v_if_ne (tgt := 45) C dX11_after_31 (by decide) (fun c5 => ?_) (fun c5 => ?_)
        · replace hf := (if_neg c5).symm.trans hf
          refine v_iload C dX11_after_45 5 rfl ?_
          refine v_if_eq (tgt := 64) C dX11_after_47 (by decide) (fun c6 => ?_) (fun c6 => ?_)
          · replace hf := (if_pos c6).symm.trans hf
            refine v_iload_n C dX11_after_64 3 rfl rfl ?_
            refine v_iload C dX11_after_65 0 rfl ?_
            refine v_iload_n C dX11_after_67 4 rfl rfl ?_
            obtain ⟨o68, g7, hf⟩ := bd_ hf
            refine v_callS0 (As := [.int p2, .int o24, .int p3]) (st := []) (stk' := [.int o68]) C (c_leastLeaving l D cy K   p2 o24 p3 o68 g7) ls_X11_304 rfl (by decide) rfl dX11_after_68 (Nat.le_of_ble_eq_true rfl) rfl ?_
            refine v_lv (lv' := [(2, .int p2), (3, .int p3), (5, .int o24)]) [3, 4, 0] rfl ?_
            exact (z_after C hO hr hlk K) _ _ _ _ hf
          · replace hf := (if_neg c6).symm.trans hf
            refine v_iload_n C dX11_after_50 3 rfl rfl ?_
            refine v_iconst (v := 1) C dX11_after_51 (by decide) ?_
            refine v_iadd C dX11_after_52 ?_
            refine v_iload C dX11_after_53 0 rfl ?_
            refine v_iload_n C dX11_after_55 4 rfl rfl ?_
            obtain ⟨o56, g8, hf⟩ := bd_ hf
            refine v_callS0 (As := [.int (p2 + 1), .int o24, .int p3]) (st := []) (stk' := [.int o56]) C (c_leastLeaving l D cy K   (p2 + 1) o24 p3 o56 g8) ls_X11_304 rfl (by decide) rfl dX11_after_56 (Nat.le_of_ble_eq_true rfl) rfl ?_
            refine v_iconst (v := 1) C dX11_after_59 (by decide) ?_
            refine v_isub C dX11_after_60 ?_
            refine v_goto (tgt := 71) C dX11_after_61 (by decide) ?_
            refine v_lv (lv' := [(2, .int p2), (3, .int p3), (5, .int o24)]) [3, 4, 0] rfl ?_
            exact (z_after C hO hr hlk K) _ _ _ _ hf
        · replace hf := (if_pos c5).symm.trans hf
          obtain rfl := Option.some.inj hf
          exact v_throwW (i := 20) (t := "nothing is held") C hO hl hex hlk xa_0_115 xk_111 rfl xo_111 dX11_after_34 dX11_after_37 dX11_after_38 dX11_after_41 dX11_after_44 ⟨Nat.le_of_ble_eq_true rfl, Nat.le_of_ble_eq_true rfl⟩ (Nat.le_of_ble_eq_true rfl) (Nat.le_of_ble_eq_true rfl) rfl rfl

abbrev rm_seat : Room := { frames := 7, cells := 1, slots := 6, locals := 103 }
def sp_seat (K : Nat) (p1 : Int32) (v_t_evidence_seats_sorts : Nat → Int32) (v_t_evidence_seats_size : Int32) : Option (Nat ⊕ (Int32 × (Nat → Int32) × Int32)) :=
  xb (sp_needBelow K p1 1024) fun o4 =>
    (sp_Seats_add K p1 v_t_evidence_seats_sorts v_t_evidence_seats_size).bind fun o15 =>
      some (.inr (o15.1, o15.2.1, o15.2.2))
set_option maxHeartbeats 4000000 in
set_option maxRecDepth 20000 in
theorem c_seat (l : Launch) (D : va_G) (cy : Nat → ClassId) (K : Nat) (hl : l.stackTraces = false) (adK adV : Nat → Nat) (q_t q_t_stories q_t_images q_t_piles q_t_tape q_t_varied q_t_evidence q_t_evidence_finds q_t_evidence_seats q_t_evidence_seats_sorts q_t_evidence_shops q_t_run q_t_otherRun q_t_balance q_t_law q_t_draftLaw q_t_draftStory : Nat) (p1 : Int32) (v_t_storyCount : Int32) (v_t_imageCount : Int32) (v_t_evidence_seats_sorts : Nat → Int32) (v_t_evidence_seats_size : Int32) (out : Nat ⊕ (Int32 × (Nat → Int32) × Int32)) (hf : sp_seat K p1 v_t_evidence_seats_sorts v_t_evidence_seats_size = some out) : CX l yX11_seat cX11_seat 2 (some .int) rm_seat D cy adK adV [.ref q_t, .int p1] [ob q_t 11 [.ref q_t_tape, .ref q_t_stories, .ref q_t_varied, .ref q_t_evidence, .ref q_t_images, .ref q_t_run, .ref q_t_otherRun, .ref q_t_piles, .ref q_t_balance, .ref q_t_law, .ref q_t_draftLaw, .ref q_t_draftStory, .int v_t_storyCount, .int v_t_imageCount], ob q_t_evidence 2 [.ref q_t_evidence_finds, .ref q_t_evidence_seats, .ref q_t_evidence_shops], ob q_t_evidence_seats 7 [.ref q_t_evidence_seats_sorts, .int v_t_evidence_seats_size], aI cy q_t_evidence_seats_sorts 40 v_t_evidence_seats_sorts] (Sum.elim (fun c9 => Sum.inl (EN c9)) (fun o9 => Sum.inr ((some (.int o9.1)), [ob q_t 11 [.ref q_t_tape, .ref q_t_stories, .ref q_t_varied, .ref q_t_evidence, .ref q_t_images, .ref q_t_run, .ref q_t_otherRun, .ref q_t_piles, .ref q_t_balance, .ref q_t_law, .ref q_t_draftLaw, .ref q_t_draftStory, .int v_t_storyCount, .int v_t_imageCount], ob q_t_evidence 2 [.ref q_t_evidence_finds, .ref q_t_evidence_seats, .ref q_t_evidence_shops], ob q_t_evidence_seats 7 [.ref q_t_evidence_seats_sorts, .int o9.2.2], aI cy q_t_evidence_seats_sorts 40 o9.2.1])) out) := by
  refine cx_of (by decide +kernel) (Nat.le_of_ble_eq_true rfl) (fun p e s m args below meth c C hO hex hr hlk => ?_)
  unfold sp_seat at hf
  refine v_iload_n C dX11_seat_0 1 rfl rfl ?_
  refine v_sipush (v := 1024) C dX11_seat_1 (by decide) ?_
  rcases xb_ hf with ⟨c9, g1, rfl⟩ | ⟨o4, g1, hf⟩
  · exact v_callST (As := [.int p1, .int 1024]) (wr := [ob q_t 11 [.ref q_t_tape, .ref q_t_stories, .ref q_t_varied, .ref q_t_evidence, .ref q_t_images, .ref q_t_run, .ref q_t_otherRun, .ref q_t_piles, .ref q_t_balance, .ref q_t_law, .ref q_t_draftLaw, .ref q_t_draftStory, .int v_t_storyCount, .int v_t_imageCount], ob q_t_evidence 2 [.ref q_t_evidence_finds, .ref q_t_evidence_seats, .ref q_t_evidence_shops], ob q_t_evidence_seats 7 [.ref q_t_evidence_seats_sorts, .int v_t_evidence_seats_size], aI cy q_t_evidence_seats_sorts 40 v_t_evidence_seats_sorts]) (st := []) C hO (c_needBelow l D cy K hl adK adV   p1 1024 (.inl c9) g1) ls_X11_121 rfl (by decide) rfl dX11_seat_4 [] [0, 1, 2, 3] [0, 1, 2, 3] (by decide) rfl rfl (by decide) (by decide) rfl (by decide) (Nat.le_of_ble_eq_true rfl) hex hlk (Nat.le_of_ble_eq_true rfl) (Nat.le_of_ble_eq_true rfl) rfl rfl
  · refine v_callSX (As := [.int p1, .int 1024]) (wr := [ob q_t 11 [.ref q_t_tape, .ref q_t_stories, .ref q_t_varied, .ref q_t_evidence, .ref q_t_images, .ref q_t_run, .ref q_t_otherRun, .ref q_t_piles, .ref q_t_balance, .ref q_t_law, .ref q_t_draftLaw, .ref q_t_draftStory, .int v_t_storyCount, .int v_t_imageCount], ob q_t_evidence 2 [.ref q_t_evidence_finds, .ref q_t_evidence_seats, .ref q_t_evidence_shops], ob q_t_evidence_seats 7 [.ref q_t_evidence_seats_sorts, .int v_t_evidence_seats_size], aI cy q_t_evidence_seats_sorts 40 v_t_evidence_seats_sorts]) (ws' := [ob q_t 11 [.ref q_t_tape, .ref q_t_stories, .ref q_t_varied, .ref q_t_evidence, .ref q_t_images, .ref q_t_run, .ref q_t_otherRun, .ref q_t_piles, .ref q_t_balance, .ref q_t_law, .ref q_t_draftLaw, .ref q_t_draftStory, .int v_t_storyCount, .int v_t_imageCount], ob q_t_evidence 2 [.ref q_t_evidence_finds, .ref q_t_evidence_seats, .ref q_t_evidence_shops], ob q_t_evidence_seats 7 [.ref q_t_evidence_seats_sorts, .int v_t_evidence_seats_size], aI cy q_t_evidence_seats_sorts 40 v_t_evidence_seats_sorts]) (st := []) (stk' := []) C hO (c_needBelow l D cy K hl adK adV   p1 1024 (.inr o4) g1) ls_X11_121 rfl (by decide) rfl dX11_seat_4 [] [0, 1, 2, 3] (by decide) rfl rfl (by decide) (by decide) (Nat.le_of_ble_eq_true rfl) rfl rfl ?_
    refine v_aload_n C dX11_seat_7 0 rfl rfl ?_
    refine v_get C fl_X11_43 0 rfl rfl dX11_seat_8 ?_
    refine v_get C fl_X11_313 1 rfl rfl dX11_seat_11 ?_
    refine v_iload_n C dX11_seat_14 1 rfl rfl ?_
    obtain ⟨o15, g2, hf⟩ := bd_ hf
    refine v_callV (As := [.int p1]) (wr := [ob q_t 11 [.ref q_t_tape, .ref q_t_stories, .ref q_t_varied, .ref q_t_evidence, .ref q_t_images, .ref q_t_run, .ref q_t_otherRun, .ref q_t_piles, .ref q_t_balance, .ref q_t_law, .ref q_t_draftLaw, .ref q_t_draftStory, .int v_t_storyCount, .int v_t_imageCount], ob q_t_evidence 2 [.ref q_t_evidence_finds, .ref q_t_evidence_seats, .ref q_t_evidence_shops]]) (ws' := [ob q_t 11 [.ref q_t_tape, .ref q_t_stories, .ref q_t_varied, .ref q_t_evidence, .ref q_t_images, .ref q_t_run, .ref q_t_otherRun, .ref q_t_piles, .ref q_t_balance, .ref q_t_law, .ref q_t_draftLaw, .ref q_t_draftStory, .int v_t_storyCount, .int v_t_imageCount], ob q_t_evidence 2 [.ref q_t_evidence_finds, .ref q_t_evidence_seats, .ref q_t_evidence_shops], ob q_t_evidence_seats 7 [.ref q_t_evidence_seats_sorts, .int o15.2.2], aI cy q_t_evidence_seats_sorts 40 o15.2.1]) (st := []) (stk' := [.int o15.1]) C (c_Seats_add l D cy K q_t_evidence_seats q_t_evidence_seats_sorts  p1 v_t_evidence_seats_sorts v_t_evidence_seats_size o15 g2) lv_X11_317 rfl (by decide) rfl 2 rfl rfl rfl dX11_seat_15 [2, 3] [0, 1] (by decide) rfl rfl (by decide) (by decide) (Nat.le_of_ble_eq_true rfl) rfl rfl ?_
    obtain rfl := Option.some.inj hf
    exact v_iretX C hr hlk dX11_seat_18 (Nat.le_of_ble_eq_true rfl) (Nat.le_of_ble_eq_true rfl) rfl

abbrev rm_share : Room := { frames := 7, cells := 1, slots := 6, locals := 103 }
def sp_share (K : Nat) (p1 : Int32) (v_t_evidence_seats_sorts : Nat → Int32) (v_t_evidence_seats_size : Int32) : Option (Nat ⊕ (Int32)) :=
  xb (sp_needBelow K p1 10) fun o3 =>
    (sp_Seats_having K (1 <<< (p1 &&& 31)) v_t_evidence_seats_sorts v_t_evidence_seats_size).bind fun o16 =>
      some (.inr o16)
set_option maxHeartbeats 4000000 in
set_option maxRecDepth 20000 in
theorem c_share (l : Launch) (D : va_G) (cy : Nat → ClassId) (K : Nat) (hl : l.stackTraces = false) (adK adV : Nat → Nat) (q_t q_t_stories q_t_images q_t_piles q_t_tape q_t_varied q_t_evidence q_t_evidence_finds q_t_evidence_seats q_t_evidence_seats_sorts q_t_evidence_shops q_t_run q_t_otherRun q_t_balance q_t_law q_t_draftLaw q_t_draftStory : Nat) (p1 : Int32) (v_t_storyCount : Int32) (v_t_imageCount : Int32) (v_t_evidence_seats_sorts : Nat → Int32) (v_t_evidence_seats_size : Int32) (out : Nat ⊕ (Int32)) (hf : sp_share K p1 v_t_evidence_seats_sorts v_t_evidence_seats_size = some out) : CX l yX11_share cX11_share 2 (some .int) rm_share D cy adK adV [.ref q_t, .int p1] [ob q_t 11 [.ref q_t_tape, .ref q_t_stories, .ref q_t_varied, .ref q_t_evidence, .ref q_t_images, .ref q_t_run, .ref q_t_otherRun, .ref q_t_piles, .ref q_t_balance, .ref q_t_law, .ref q_t_draftLaw, .ref q_t_draftStory, .int v_t_storyCount, .int v_t_imageCount], ob q_t_evidence 2 [.ref q_t_evidence_finds, .ref q_t_evidence_seats, .ref q_t_evidence_shops], ob q_t_evidence_seats 7 [.ref q_t_evidence_seats_sorts, .int v_t_evidence_seats_size], aI cy q_t_evidence_seats_sorts 40 v_t_evidence_seats_sorts] (Sum.elim (fun c9 => Sum.inl (EN c9)) (fun o9 => Sum.inr ((some (.int o9)), [ob q_t 11 [.ref q_t_tape, .ref q_t_stories, .ref q_t_varied, .ref q_t_evidence, .ref q_t_images, .ref q_t_run, .ref q_t_otherRun, .ref q_t_piles, .ref q_t_balance, .ref q_t_law, .ref q_t_draftLaw, .ref q_t_draftStory, .int v_t_storyCount, .int v_t_imageCount], ob q_t_evidence 2 [.ref q_t_evidence_finds, .ref q_t_evidence_seats, .ref q_t_evidence_shops], ob q_t_evidence_seats 7 [.ref q_t_evidence_seats_sorts, .int v_t_evidence_seats_size], aI cy q_t_evidence_seats_sorts 40 v_t_evidence_seats_sorts])) out) := by
  refine cx_of (by decide +kernel) (Nat.le_of_ble_eq_true rfl) (fun p e s m args below meth c C hO hex hr hlk => ?_)
  unfold sp_share at hf
  refine v_iload_n C dX11_share_0 1 rfl rfl ?_
  refine v_bipush (v := 10) C dX11_share_1 (by decide) ?_
  rcases xb_ hf with ⟨c9, g1, rfl⟩ | ⟨o3, g1, hf⟩
  · exact v_callST (As := [.int p1, .int 10]) (wr := [ob q_t 11 [.ref q_t_tape, .ref q_t_stories, .ref q_t_varied, .ref q_t_evidence, .ref q_t_images, .ref q_t_run, .ref q_t_otherRun, .ref q_t_piles, .ref q_t_balance, .ref q_t_law, .ref q_t_draftLaw, .ref q_t_draftStory, .int v_t_storyCount, .int v_t_imageCount], ob q_t_evidence 2 [.ref q_t_evidence_finds, .ref q_t_evidence_seats, .ref q_t_evidence_shops], ob q_t_evidence_seats 7 [.ref q_t_evidence_seats_sorts, .int v_t_evidence_seats_size], aI cy q_t_evidence_seats_sorts 40 v_t_evidence_seats_sorts]) (st := []) C hO (c_needBelow l D cy K hl adK adV   p1 10 (.inl c9) g1) ls_X11_121 rfl (by decide) rfl dX11_share_3 [] [0, 1, 2, 3] [0, 1, 2, 3] (by decide) rfl rfl (by decide) (by decide) rfl (by decide) (Nat.le_of_ble_eq_true rfl) hex hlk (Nat.le_of_ble_eq_true rfl) (Nat.le_of_ble_eq_true rfl) rfl rfl
  · refine v_callSX (As := [.int p1, .int 10]) (wr := [ob q_t 11 [.ref q_t_tape, .ref q_t_stories, .ref q_t_varied, .ref q_t_evidence, .ref q_t_images, .ref q_t_run, .ref q_t_otherRun, .ref q_t_piles, .ref q_t_balance, .ref q_t_law, .ref q_t_draftLaw, .ref q_t_draftStory, .int v_t_storyCount, .int v_t_imageCount], ob q_t_evidence 2 [.ref q_t_evidence_finds, .ref q_t_evidence_seats, .ref q_t_evidence_shops], ob q_t_evidence_seats 7 [.ref q_t_evidence_seats_sorts, .int v_t_evidence_seats_size], aI cy q_t_evidence_seats_sorts 40 v_t_evidence_seats_sorts]) (ws' := [ob q_t 11 [.ref q_t_tape, .ref q_t_stories, .ref q_t_varied, .ref q_t_evidence, .ref q_t_images, .ref q_t_run, .ref q_t_otherRun, .ref q_t_piles, .ref q_t_balance, .ref q_t_law, .ref q_t_draftLaw, .ref q_t_draftStory, .int v_t_storyCount, .int v_t_imageCount], ob q_t_evidence 2 [.ref q_t_evidence_finds, .ref q_t_evidence_seats, .ref q_t_evidence_shops], ob q_t_evidence_seats 7 [.ref q_t_evidence_seats_sorts, .int v_t_evidence_seats_size], aI cy q_t_evidence_seats_sorts 40 v_t_evidence_seats_sorts]) (st := []) (stk' := []) C hO (c_needBelow l D cy K hl adK adV   p1 10 (.inr o3) g1) ls_X11_121 rfl (by decide) rfl dX11_share_3 [] [0, 1, 2, 3] (by decide) rfl rfl (by decide) (by decide) (Nat.le_of_ble_eq_true rfl) rfl rfl ?_
    refine v_aload_n C dX11_share_6 0 rfl rfl ?_
    refine v_get C fl_X11_43 0 rfl rfl dX11_share_7 ?_
    refine v_get C fl_X11_313 1 rfl rfl dX11_share_10 ?_
    refine v_iconst (v := 1) C dX11_share_13 (by decide) ?_
    refine v_iload_n C dX11_share_14 1 rfl rfl ?_
    refine v_ishl C dX11_share_15 ?_
    obtain ⟨o16, g2, hf⟩ := bd_ hf
    refine v_callV (As := [.int (1 <<< (p1 &&& 31))]) (wr := [ob q_t 11 [.ref q_t_tape, .ref q_t_stories, .ref q_t_varied, .ref q_t_evidence, .ref q_t_images, .ref q_t_run, .ref q_t_otherRun, .ref q_t_piles, .ref q_t_balance, .ref q_t_law, .ref q_t_draftLaw, .ref q_t_draftStory, .int v_t_storyCount, .int v_t_imageCount], ob q_t_evidence 2 [.ref q_t_evidence_finds, .ref q_t_evidence_seats, .ref q_t_evidence_shops]]) (ws' := [ob q_t 11 [.ref q_t_tape, .ref q_t_stories, .ref q_t_varied, .ref q_t_evidence, .ref q_t_images, .ref q_t_run, .ref q_t_otherRun, .ref q_t_piles, .ref q_t_balance, .ref q_t_law, .ref q_t_draftLaw, .ref q_t_draftStory, .int v_t_storyCount, .int v_t_imageCount], ob q_t_evidence 2 [.ref q_t_evidence_finds, .ref q_t_evidence_seats, .ref q_t_evidence_shops], ob q_t_evidence_seats 7 [.ref q_t_evidence_seats_sorts, .int v_t_evidence_seats_size], aI cy q_t_evidence_seats_sorts 40 v_t_evidence_seats_sorts]) (st := []) (stk' := [.int o16]) C (c_Seats_having l D cy K q_t_evidence_seats q_t_evidence_seats_sorts  (1 <<< (p1 &&& 31)) v_t_evidence_seats_sorts v_t_evidence_seats_size o16 g2) lv_X11_321 rfl (by decide) rfl 2 rfl rfl rfl dX11_share_16 [2, 3] [0, 1] (by decide) rfl rfl (by decide) (by decide) (Nat.le_of_ble_eq_true rfl) rfl rfl ?_
    obtain rfl := Option.some.inj hf
    exact v_iretX C hr hlk dX11_share_19 (Nat.le_of_ble_eq_true rfl) (Nat.le_of_ble_eq_true rfl) rfl

abbrev rm_together : Room := { frames := 7, cells := 2, slots := 12, locals := 103 }
def sp_together (K : Nat) (p1 : Int32) (p2 : Int32) (v_t_evidence_seats_sorts : Nat → Int32) (v_t_evidence_seats_size : Int32) : Option (Nat ⊕ (Int32)) :=
  xb (sp_needBelow K p1 10) fun o3 =>
    xb (sp_needBelow K p2 10) fun o9 =>
      (sp_Seats_having K ((1 <<< (p1 &&& 31)) ||| (1 <<< (p2 &&& 31))) v_t_evidence_seats_sorts v_t_evidence_seats_size).bind fun o28 =>
        (sp_Seats_having K (1 <<< (p1 &&& 31)) v_t_evidence_seats_sorts v_t_evidence_seats_size).bind fun o44 =>
          (sp_Seats_having K (1 <<< (p2 &&& 31)) v_t_evidence_seats_sorts v_t_evidence_seats_size).bind fun o51 =>
            some (.inr ((o28 * v_t_evidence_seats_size) - (o44 * o51)))
set_option maxHeartbeats 4000000 in
set_option maxRecDepth 20000 in
theorem c_together (l : Launch) (D : va_G) (cy : Nat → ClassId) (K : Nat) (hl : l.stackTraces = false) (adK adV : Nat → Nat) (q_t q_t_stories q_t_images q_t_piles q_t_tape q_t_varied q_t_evidence q_t_evidence_finds q_t_evidence_seats q_t_evidence_seats_sorts q_t_evidence_shops q_t_run q_t_otherRun q_t_balance q_t_law q_t_draftLaw q_t_draftStory : Nat) (p1 : Int32) (p2 : Int32) (v_t_storyCount : Int32) (v_t_imageCount : Int32) (v_t_evidence_seats_sorts : Nat → Int32) (v_t_evidence_seats_size : Int32) (out : Nat ⊕ (Int32)) (hf : sp_together K p1 p2 v_t_evidence_seats_sorts v_t_evidence_seats_size = some out) : CX l yX11_together cX11_together 5 (some .int) rm_together D cy adK adV [.ref q_t, .int p1, .int p2] [ob q_t 11 [.ref q_t_tape, .ref q_t_stories, .ref q_t_varied, .ref q_t_evidence, .ref q_t_images, .ref q_t_run, .ref q_t_otherRun, .ref q_t_piles, .ref q_t_balance, .ref q_t_law, .ref q_t_draftLaw, .ref q_t_draftStory, .int v_t_storyCount, .int v_t_imageCount], ob q_t_evidence 2 [.ref q_t_evidence_finds, .ref q_t_evidence_seats, .ref q_t_evidence_shops], ob q_t_evidence_seats 7 [.ref q_t_evidence_seats_sorts, .int v_t_evidence_seats_size], aI cy q_t_evidence_seats_sorts 40 v_t_evidence_seats_sorts] (Sum.elim (fun c9 => Sum.inl (EN c9)) (fun o9 => Sum.inr ((some (.int o9)), [ob q_t 11 [.ref q_t_tape, .ref q_t_stories, .ref q_t_varied, .ref q_t_evidence, .ref q_t_images, .ref q_t_run, .ref q_t_otherRun, .ref q_t_piles, .ref q_t_balance, .ref q_t_law, .ref q_t_draftLaw, .ref q_t_draftStory, .int v_t_storyCount, .int v_t_imageCount], ob q_t_evidence 2 [.ref q_t_evidence_finds, .ref q_t_evidence_seats, .ref q_t_evidence_shops], ob q_t_evidence_seats 7 [.ref q_t_evidence_seats_sorts, .int v_t_evidence_seats_size], aI cy q_t_evidence_seats_sorts 40 v_t_evidence_seats_sorts])) out) := by
  refine cx_of (by decide +kernel) (Nat.le_of_ble_eq_true rfl) (fun p e s m args below meth c C hO hex hr hlk => ?_)
  unfold sp_together at hf
  refine v_iload_n C dX11_together_0 1 rfl rfl ?_
  refine v_bipush (v := 10) C dX11_together_1 (by decide) ?_
  rcases xb_ hf with ⟨c9, g1, rfl⟩ | ⟨o3, g1, hf⟩
  · exact v_callST (As := [.int p1, .int 10]) (wr := [ob q_t 11 [.ref q_t_tape, .ref q_t_stories, .ref q_t_varied, .ref q_t_evidence, .ref q_t_images, .ref q_t_run, .ref q_t_otherRun, .ref q_t_piles, .ref q_t_balance, .ref q_t_law, .ref q_t_draftLaw, .ref q_t_draftStory, .int v_t_storyCount, .int v_t_imageCount], ob q_t_evidence 2 [.ref q_t_evidence_finds, .ref q_t_evidence_seats, .ref q_t_evidence_shops], ob q_t_evidence_seats 7 [.ref q_t_evidence_seats_sorts, .int v_t_evidence_seats_size], aI cy q_t_evidence_seats_sorts 40 v_t_evidence_seats_sorts]) (st := []) C hO (c_needBelow l D cy K hl adK adV   p1 10 (.inl c9) g1) ls_X11_121 rfl (by decide) rfl dX11_together_3 [] [0, 1, 2, 3] [0, 1, 2, 3] (by decide) rfl rfl (by decide) (by decide) rfl (by decide) (Nat.le_of_ble_eq_true rfl) hex hlk (Nat.le_of_ble_eq_true rfl) (Nat.le_of_ble_eq_true rfl) rfl rfl
  · refine v_callSX (As := [.int p1, .int 10]) (wr := [ob q_t 11 [.ref q_t_tape, .ref q_t_stories, .ref q_t_varied, .ref q_t_evidence, .ref q_t_images, .ref q_t_run, .ref q_t_otherRun, .ref q_t_piles, .ref q_t_balance, .ref q_t_law, .ref q_t_draftLaw, .ref q_t_draftStory, .int v_t_storyCount, .int v_t_imageCount], ob q_t_evidence 2 [.ref q_t_evidence_finds, .ref q_t_evidence_seats, .ref q_t_evidence_shops], ob q_t_evidence_seats 7 [.ref q_t_evidence_seats_sorts, .int v_t_evidence_seats_size], aI cy q_t_evidence_seats_sorts 40 v_t_evidence_seats_sorts]) (ws' := [ob q_t 11 [.ref q_t_tape, .ref q_t_stories, .ref q_t_varied, .ref q_t_evidence, .ref q_t_images, .ref q_t_run, .ref q_t_otherRun, .ref q_t_piles, .ref q_t_balance, .ref q_t_law, .ref q_t_draftLaw, .ref q_t_draftStory, .int v_t_storyCount, .int v_t_imageCount], ob q_t_evidence 2 [.ref q_t_evidence_finds, .ref q_t_evidence_seats, .ref q_t_evidence_shops], ob q_t_evidence_seats 7 [.ref q_t_evidence_seats_sorts, .int v_t_evidence_seats_size], aI cy q_t_evidence_seats_sorts 40 v_t_evidence_seats_sorts]) (st := []) (stk' := []) C hO (c_needBelow l D cy K hl adK adV   p1 10 (.inr o3) g1) ls_X11_121 rfl (by decide) rfl dX11_together_3 [] [0, 1, 2, 3] (by decide) rfl rfl (by decide) (by decide) (Nat.le_of_ble_eq_true rfl) rfl rfl ?_
    refine v_iload_n C dX11_together_6 2 rfl rfl ?_
    refine v_bipush (v := 10) C dX11_together_7 (by decide) ?_
    rcases xb_ hf with ⟨c9, g2, rfl⟩ | ⟨o9, g2, hf⟩
    · exact v_callST (As := [.int p2, .int 10]) (wr := [ob q_t 11 [.ref q_t_tape, .ref q_t_stories, .ref q_t_varied, .ref q_t_evidence, .ref q_t_images, .ref q_t_run, .ref q_t_otherRun, .ref q_t_piles, .ref q_t_balance, .ref q_t_law, .ref q_t_draftLaw, .ref q_t_draftStory, .int v_t_storyCount, .int v_t_imageCount], ob q_t_evidence 2 [.ref q_t_evidence_finds, .ref q_t_evidence_seats, .ref q_t_evidence_shops], ob q_t_evidence_seats 7 [.ref q_t_evidence_seats_sorts, .int v_t_evidence_seats_size], aI cy q_t_evidence_seats_sorts 40 v_t_evidence_seats_sorts]) (st := []) C hO (c_needBelow l D cy K hl adK adV   p2 10 (.inl c9) g2) ls_X11_121 rfl (by decide) rfl dX11_together_9 [] [0, 1, 2, 3] [0, 1, 2, 3] (by decide) rfl rfl (by decide) (by decide) rfl (by decide) (Nat.le_of_ble_eq_true rfl) hex hlk (Nat.le_of_ble_eq_true rfl) (Nat.le_of_ble_eq_true rfl) rfl rfl
    · refine v_callSX (As := [.int p2, .int 10]) (wr := [ob q_t 11 [.ref q_t_tape, .ref q_t_stories, .ref q_t_varied, .ref q_t_evidence, .ref q_t_images, .ref q_t_run, .ref q_t_otherRun, .ref q_t_piles, .ref q_t_balance, .ref q_t_law, .ref q_t_draftLaw, .ref q_t_draftStory, .int v_t_storyCount, .int v_t_imageCount], ob q_t_evidence 2 [.ref q_t_evidence_finds, .ref q_t_evidence_seats, .ref q_t_evidence_shops], ob q_t_evidence_seats 7 [.ref q_t_evidence_seats_sorts, .int v_t_evidence_seats_size], aI cy q_t_evidence_seats_sorts 40 v_t_evidence_seats_sorts]) (ws' := [ob q_t 11 [.ref q_t_tape, .ref q_t_stories, .ref q_t_varied, .ref q_t_evidence, .ref q_t_images, .ref q_t_run, .ref q_t_otherRun, .ref q_t_piles, .ref q_t_balance, .ref q_t_law, .ref q_t_draftLaw, .ref q_t_draftStory, .int v_t_storyCount, .int v_t_imageCount], ob q_t_evidence 2 [.ref q_t_evidence_finds, .ref q_t_evidence_seats, .ref q_t_evidence_shops], ob q_t_evidence_seats 7 [.ref q_t_evidence_seats_sorts, .int v_t_evidence_seats_size], aI cy q_t_evidence_seats_sorts 40 v_t_evidence_seats_sorts]) (st := []) (stk' := []) C hO (c_needBelow l D cy K hl adK adV   p2 10 (.inr o9) g2) ls_X11_121 rfl (by decide) rfl dX11_together_9 [] [0, 1, 2, 3] (by decide) rfl rfl (by decide) (by decide) (Nat.le_of_ble_eq_true rfl) rfl rfl ?_
      refine v_aload_n C dX11_together_12 0 rfl rfl ?_
      refine v_get C fl_X11_43 0 rfl rfl dX11_together_13 ?_
      refine v_get C fl_X11_313 1 rfl rfl dX11_together_16 ?_
      refine v_astore_n (lv' := [(3, .ref q_t_evidence_seats), (0, .ref q_t), (1, .int p1), (2, .int p2)]) C dX11_together_19 rfl (by decide) rfl ?_
      refine v_aload_n C dX11_together_20 0 rfl rfl ?_
      refine v_iconst (v := 1) C dX11_together_21 (by decide) ?_
      refine v_iload_n C dX11_together_22 2 rfl rfl ?_
      refine v_ishl C dX11_together_23 ?_
      refine v_iconst (v := 1) C dX11_together_24 (by decide) ?_
      refine v_iload_n C dX11_together_25 3 rfl rfl ?_
      refine v_ishl C dX11_together_26 ?_
      refine v_ior C dX11_together_27 ?_
      obtain ⟨o28, g3, hf⟩ := bd_ hf
      refine v_callV (As := [.int ((1 <<< (p1 &&& 31)) ||| (1 <<< (p2 &&& 31)))]) (wr := [ob q_t 11 [.ref q_t_tape, .ref q_t_stories, .ref q_t_varied, .ref q_t_evidence, .ref q_t_images, .ref q_t_run, .ref q_t_otherRun, .ref q_t_piles, .ref q_t_balance, .ref q_t_law, .ref q_t_draftLaw, .ref q_t_draftStory, .int v_t_storyCount, .int v_t_imageCount], ob q_t_evidence 2 [.ref q_t_evidence_finds, .ref q_t_evidence_seats, .ref q_t_evidence_shops]]) (ws' := [ob q_t 11 [.ref q_t_tape, .ref q_t_stories, .ref q_t_varied, .ref q_t_evidence, .ref q_t_images, .ref q_t_run, .ref q_t_otherRun, .ref q_t_piles, .ref q_t_balance, .ref q_t_law, .ref q_t_draftLaw, .ref q_t_draftStory, .int v_t_storyCount, .int v_t_imageCount], ob q_t_evidence 2 [.ref q_t_evidence_finds, .ref q_t_evidence_seats, .ref q_t_evidence_shops], ob q_t_evidence_seats 7 [.ref q_t_evidence_seats_sorts, .int v_t_evidence_seats_size], aI cy q_t_evidence_seats_sorts 40 v_t_evidence_seats_sorts]) (st := []) (stk' := [.int o28]) C (c_Seats_having l D cy K q_t_evidence_seats q_t_evidence_seats_sorts  ((1 <<< (p1 &&& 31)) ||| (1 <<< (p2 &&& 31))) v_t_evidence_seats_sorts v_t_evidence_seats_size o28 g3) lv_X11_321 rfl (by decide) rfl 2 rfl rfl rfl dX11_together_28 [2, 3] [0, 1] (by decide) rfl rfl (by decide) (by decide) (Nat.le_of_ble_eq_true rfl) rfl rfl ?_
      refine v_istore (lv' := [(4, .int o28), (3, .ref q_t_evidence_seats), (0, .ref q_t), (1, .int p1), (2, .int p2)]) C dX11_together_31 (by decide) rfl ?_
      refine v_iload C dX11_together_33 0 rfl ?_
      refine v_aload_n C dX11_together_35 1 rfl rfl ?_
      refine v_get C fl_X11_324 2 rfl rfl dX11_together_36 ?_
      refine v_imul C dX11_together_39 ?_
      refine v_aload_n C dX11_together_40 1 rfl rfl ?_
      refine v_iconst (v := 1) C dX11_together_41 (by decide) ?_
      refine v_iload_n C dX11_together_42 3 rfl rfl ?_
      refine v_ishl C dX11_together_43 ?_
      obtain ⟨o44, g4, hf⟩ := bd_ hf
      refine v_callV (As := [.int (1 <<< (p1 &&& 31))]) (wr := [ob q_t 11 [.ref q_t_tape, .ref q_t_stories, .ref q_t_varied, .ref q_t_evidence, .ref q_t_images, .ref q_t_run, .ref q_t_otherRun, .ref q_t_piles, .ref q_t_balance, .ref q_t_law, .ref q_t_draftLaw, .ref q_t_draftStory, .int v_t_storyCount, .int v_t_imageCount], ob q_t_evidence 2 [.ref q_t_evidence_finds, .ref q_t_evidence_seats, .ref q_t_evidence_shops]]) (ws' := [ob q_t 11 [.ref q_t_tape, .ref q_t_stories, .ref q_t_varied, .ref q_t_evidence, .ref q_t_images, .ref q_t_run, .ref q_t_otherRun, .ref q_t_piles, .ref q_t_balance, .ref q_t_law, .ref q_t_draftLaw, .ref q_t_draftStory, .int v_t_storyCount, .int v_t_imageCount], ob q_t_evidence 2 [.ref q_t_evidence_finds, .ref q_t_evidence_seats, .ref q_t_evidence_shops], ob q_t_evidence_seats 7 [.ref q_t_evidence_seats_sorts, .int v_t_evidence_seats_size], aI cy q_t_evidence_seats_sorts 40 v_t_evidence_seats_sorts]) (st := [.int (o28 * v_t_evidence_seats_size)]) (stk' := [.int o44, .int (o28 * v_t_evidence_seats_size)]) C (c_Seats_having l D cy K q_t_evidence_seats q_t_evidence_seats_sorts  (1 <<< (p1 &&& 31)) v_t_evidence_seats_sorts v_t_evidence_seats_size o44 g4) lv_X11_321 rfl (by decide) rfl 2 rfl rfl rfl dX11_together_44 [2, 3] [0, 1] (by decide) rfl rfl (by decide) (by decide) (Nat.le_of_ble_eq_true rfl) rfl rfl ?_
      refine v_aload_n C dX11_together_47 1 rfl rfl ?_
      refine v_iconst (v := 1) C dX11_together_48 (by decide) ?_
      refine v_iload_n C dX11_together_49 4 rfl rfl ?_
      refine v_ishl C dX11_together_50 ?_
      obtain ⟨o51, g5, hf⟩ := bd_ hf
      refine v_callV (As := [.int (1 <<< (p2 &&& 31))]) (wr := [ob q_t 11 [.ref q_t_tape, .ref q_t_stories, .ref q_t_varied, .ref q_t_evidence, .ref q_t_images, .ref q_t_run, .ref q_t_otherRun, .ref q_t_piles, .ref q_t_balance, .ref q_t_law, .ref q_t_draftLaw, .ref q_t_draftStory, .int v_t_storyCount, .int v_t_imageCount], ob q_t_evidence 2 [.ref q_t_evidence_finds, .ref q_t_evidence_seats, .ref q_t_evidence_shops]]) (ws' := [ob q_t 11 [.ref q_t_tape, .ref q_t_stories, .ref q_t_varied, .ref q_t_evidence, .ref q_t_images, .ref q_t_run, .ref q_t_otherRun, .ref q_t_piles, .ref q_t_balance, .ref q_t_law, .ref q_t_draftLaw, .ref q_t_draftStory, .int v_t_storyCount, .int v_t_imageCount], ob q_t_evidence 2 [.ref q_t_evidence_finds, .ref q_t_evidence_seats, .ref q_t_evidence_shops], ob q_t_evidence_seats 7 [.ref q_t_evidence_seats_sorts, .int v_t_evidence_seats_size], aI cy q_t_evidence_seats_sorts 40 v_t_evidence_seats_sorts]) (st := [.int o44, .int (o28 * v_t_evidence_seats_size)]) (stk' := [.int o51, .int o44, .int (o28 * v_t_evidence_seats_size)]) C (c_Seats_having l D cy K q_t_evidence_seats q_t_evidence_seats_sorts  (1 <<< (p2 &&& 31)) v_t_evidence_seats_sorts v_t_evidence_seats_size o51 g5) lv_X11_321 rfl (by decide) rfl 2 rfl rfl rfl dX11_together_51 [2, 3] [0, 1] (by decide) rfl rfl (by decide) (by decide) (Nat.le_of_ble_eq_true rfl) rfl rfl ?_
      refine v_imul C dX11_together_54 ?_
      refine v_isub C dX11_together_55 ?_
      obtain rfl := Option.some.inj hf
      exact v_iretX C hr hlk dX11_together_56 (Nat.le_of_ble_eq_true rfl) (Nat.le_of_ble_eq_true rfl) rfl

abbrev rm_shop : Room := { frames := 7, cells := 2, slots := 12, locals := 103 }
def sp_shop (K : Nat) (p1 : Int32) (p2 : Int32) (p3 : Int32) (v_t_evidence_shops_sort : Nat → Int32) (v_t_evidence_shops_sold : Nat → Int32) (v_t_evidence_shops_all : Nat → Int32) (v_t_evidence_shops_size : Int32) : Option (Nat ⊕ (Int32 × (Nat → Int32) × (Nat → Int32) × (Nat → Int32) × Int32)) :=
  xb (sp_needBelow K p1 10) fun o3 =>
    if p3 < 1 then
      some (.inl 0)
    else
      if 1000000 < p3 then
        some (.inl 0)
      else
        if p2 < 0 then
          some (.inl 0)
        else
          if p2 ≤ p3 then
            (sp_Shops_add K p1 p2 p3 v_t_evidence_shops_sort v_t_evidence_shops_sold v_t_evidence_shops_all v_t_evidence_shops_size).bind fun o47 =>
              some (.inr (o47.1, o47.2.1, o47.2.2.1, o47.2.2.2.1, o47.2.2.2.2))
          else
            some (.inl 0)
set_option maxHeartbeats 4000000 in
set_option maxRecDepth 20000 in
theorem c_shop (l : Launch) (D : va_G) (cy : Nat → ClassId) (K : Nat) (hl : l.stackTraces = false) (adK adV : Nat → Nat) (q_t q_t_stories q_t_images q_t_piles q_t_tape q_t_varied q_t_evidence q_t_evidence_finds q_t_evidence_seats q_t_evidence_shops q_t_evidence_shops_sort q_t_evidence_shops_sold q_t_evidence_shops_all q_t_run q_t_otherRun q_t_balance q_t_law q_t_draftLaw q_t_draftStory : Nat) (p1 : Int32) (p2 : Int32) (p3 : Int32) (v_t_storyCount : Int32) (v_t_imageCount : Int32) (v_t_evidence_shops_sort : Nat → Int32) (v_t_evidence_shops_sold : Nat → Int32) (v_t_evidence_shops_all : Nat → Int32) (v_t_evidence_shops_size : Int32) (out : Nat ⊕ (Int32 × (Nat → Int32) × (Nat → Int32) × (Nat → Int32) × Int32)) (hf : sp_shop K p1 p2 p3 v_t_evidence_shops_sort v_t_evidence_shops_sold v_t_evidence_shops_all v_t_evidence_shops_size = some out) : CX l yX11_shop cX11_shop 4 (some .int) rm_shop D cy adK adV [.ref q_t, .int p1, .int p2, .int p3] [ob q_t 11 [.ref q_t_tape, .ref q_t_stories, .ref q_t_varied, .ref q_t_evidence, .ref q_t_images, .ref q_t_run, .ref q_t_otherRun, .ref q_t_piles, .ref q_t_balance, .ref q_t_law, .ref q_t_draftLaw, .ref q_t_draftStory, .int v_t_storyCount, .int v_t_imageCount], ob q_t_evidence 2 [.ref q_t_evidence_finds, .ref q_t_evidence_seats, .ref q_t_evidence_shops], ob q_t_evidence_shops 8 [.ref q_t_evidence_shops_sort, .ref q_t_evidence_shops_sold, .ref q_t_evidence_shops_all, .int v_t_evidence_shops_size], aI cy q_t_evidence_shops_sort 12 v_t_evidence_shops_sort, aI cy q_t_evidence_shops_sold 12 v_t_evidence_shops_sold, aI cy q_t_evidence_shops_all 12 v_t_evidence_shops_all] (Sum.elim (fun c9 => Sum.inl (EN c9)) (fun o9 => Sum.inr ((some (.int o9.1)), [ob q_t 11 [.ref q_t_tape, .ref q_t_stories, .ref q_t_varied, .ref q_t_evidence, .ref q_t_images, .ref q_t_run, .ref q_t_otherRun, .ref q_t_piles, .ref q_t_balance, .ref q_t_law, .ref q_t_draftLaw, .ref q_t_draftStory, .int v_t_storyCount, .int v_t_imageCount], ob q_t_evidence 2 [.ref q_t_evidence_finds, .ref q_t_evidence_seats, .ref q_t_evidence_shops], ob q_t_evidence_shops 8 [.ref q_t_evidence_shops_sort, .ref q_t_evidence_shops_sold, .ref q_t_evidence_shops_all, .int o9.2.2.2.2], aI cy q_t_evidence_shops_sort 12 o9.2.1, aI cy q_t_evidence_shops_sold 12 o9.2.2.1, aI cy q_t_evidence_shops_all 12 o9.2.2.2.1])) out) := by
  refine cx_of (by decide +kernel) (Nat.le_of_ble_eq_true rfl) (fun p e s m args below meth c C hO hex hr hlk => ?_)
  unfold sp_shop at hf
  refine v_iload_n C dX11_shop_0 1 rfl rfl ?_
  refine v_bipush (v := 10) C dX11_shop_1 (by decide) ?_
  rcases xb_ hf with ⟨c9, g1, rfl⟩ | ⟨o3, g1, hf⟩
  · exact v_callST (As := [.int p1, .int 10]) (wr := [ob q_t 11 [.ref q_t_tape, .ref q_t_stories, .ref q_t_varied, .ref q_t_evidence, .ref q_t_images, .ref q_t_run, .ref q_t_otherRun, .ref q_t_piles, .ref q_t_balance, .ref q_t_law, .ref q_t_draftLaw, .ref q_t_draftStory, .int v_t_storyCount, .int v_t_imageCount], ob q_t_evidence 2 [.ref q_t_evidence_finds, .ref q_t_evidence_seats, .ref q_t_evidence_shops], ob q_t_evidence_shops 8 [.ref q_t_evidence_shops_sort, .ref q_t_evidence_shops_sold, .ref q_t_evidence_shops_all, .int v_t_evidence_shops_size], aI cy q_t_evidence_shops_sort 12 v_t_evidence_shops_sort, aI cy q_t_evidence_shops_sold 12 v_t_evidence_shops_sold, aI cy q_t_evidence_shops_all 12 v_t_evidence_shops_all]) (st := []) C hO (c_needBelow l D cy K hl adK adV   p1 10 (.inl c9) g1) ls_X11_121 rfl (by decide) rfl dX11_shop_3 [] [0, 1, 2, 3, 4, 5] [0, 1, 2, 3, 4, 5] (by decide) rfl rfl (by decide) (by decide) rfl (by decide) (Nat.le_of_ble_eq_true rfl) hex hlk (Nat.le_of_ble_eq_true rfl) (Nat.le_of_ble_eq_true rfl) rfl rfl
  · refine v_callSX (As := [.int p1, .int 10]) (wr := [ob q_t 11 [.ref q_t_tape, .ref q_t_stories, .ref q_t_varied, .ref q_t_evidence, .ref q_t_images, .ref q_t_run, .ref q_t_otherRun, .ref q_t_piles, .ref q_t_balance, .ref q_t_law, .ref q_t_draftLaw, .ref q_t_draftStory, .int v_t_storyCount, .int v_t_imageCount], ob q_t_evidence 2 [.ref q_t_evidence_finds, .ref q_t_evidence_seats, .ref q_t_evidence_shops], ob q_t_evidence_shops 8 [.ref q_t_evidence_shops_sort, .ref q_t_evidence_shops_sold, .ref q_t_evidence_shops_all, .int v_t_evidence_shops_size], aI cy q_t_evidence_shops_sort 12 v_t_evidence_shops_sort, aI cy q_t_evidence_shops_sold 12 v_t_evidence_shops_sold, aI cy q_t_evidence_shops_all 12 v_t_evidence_shops_all]) (ws' := [ob q_t 11 [.ref q_t_tape, .ref q_t_stories, .ref q_t_varied, .ref q_t_evidence, .ref q_t_images, .ref q_t_run, .ref q_t_otherRun, .ref q_t_piles, .ref q_t_balance, .ref q_t_law, .ref q_t_draftLaw, .ref q_t_draftStory, .int v_t_storyCount, .int v_t_imageCount], ob q_t_evidence 2 [.ref q_t_evidence_finds, .ref q_t_evidence_seats, .ref q_t_evidence_shops], ob q_t_evidence_shops 8 [.ref q_t_evidence_shops_sort, .ref q_t_evidence_shops_sold, .ref q_t_evidence_shops_all, .int v_t_evidence_shops_size], aI cy q_t_evidence_shops_sort 12 v_t_evidence_shops_sort, aI cy q_t_evidence_shops_sold 12 v_t_evidence_shops_sold, aI cy q_t_evidence_shops_all 12 v_t_evidence_shops_all]) (st := []) (stk' := []) C hO (c_needBelow l D cy K hl adK adV   p1 10 (.inr o3) g1) ls_X11_121 rfl (by decide) rfl dX11_shop_3 [] [0, 1, 2, 3, 4, 5] (by decide) rfl rfl (by decide) (by decide) (Nat.le_of_ble_eq_true rfl) rfl rfl ?_
    refine v_iload_n C dX11_shop_6 3 rfl rfl ?_
    refine v_iconst (v := 1) C dX11_shop_7 (by decide) ?_
    refine v_icmp_lt (tgt := 26) C dX11_shop_8 (by decide) (fun c2 => ?_) (fun c2 => ?_)
    · replace hf := (if_pos c2).symm.trans hf
      obtain rfl := Option.some.inj hf
      exact v_throwW (i := 21) (t := "no such sale") C hO hl hex hlk xa_0_115 xk_111 rfl xo_111 dX11_shop_26 dX11_shop_29 dX11_shop_30 dX11_shop_33 dX11_shop_36 ⟨Nat.le_of_ble_eq_true rfl, Nat.le_of_ble_eq_true rfl⟩ (Nat.le_of_ble_eq_true rfl) (Nat.le_of_ble_eq_true rfl) rfl rfl
    · replace hf := (if_neg c2).symm.trans hf
      refine v_iload_n C dX11_shop_11 3 rfl rfl ?_
      refine v_ldc C kc_X11_251 dX11_shop_12 ?_
      refine v_icmp_gt (tgt := 26) C dX11_shop_14 (by decide) (fun c3 => ?_) (fun c3 => ?_)
      · replace hf := (if_pos c3).symm.trans hf
        obtain rfl := Option.some.inj hf
        exact v_throwW (i := 21) (t := "no such sale") C hO hl hex hlk xa_0_115 xk_111 rfl xo_111 dX11_shop_26 dX11_shop_29 dX11_shop_30 dX11_shop_33 dX11_shop_36 ⟨Nat.le_of_ble_eq_true rfl, Nat.le_of_ble_eq_true rfl⟩ (Nat.le_of_ble_eq_true rfl) (Nat.le_of_ble_eq_true rfl) rfl rfl
      · replace hf := (if_neg c3).symm.trans hf
        refine v_iload_n C dX11_shop_17 2 rfl rfl ?_
        refine v_if_lt (tgt := 26) C dX11_shop_18 (by decide) (fun c4 => ?_) (fun c4 => ?_)
        · replace hf := (if_pos c4).symm.trans hf
          obtain rfl := Option.some.inj hf
          exact v_throwW (i := 21) (t := "no such sale") C hO hl hex hlk xa_0_115 xk_111 rfl xo_111 dX11_shop_26 dX11_shop_29 dX11_shop_30 dX11_shop_33 dX11_shop_36 ⟨Nat.le_of_ble_eq_true rfl, Nat.le_of_ble_eq_true rfl⟩ (Nat.le_of_ble_eq_true rfl) (Nat.le_of_ble_eq_true rfl) rfl rfl
        · replace hf := (if_neg c4).symm.trans hf
          refine v_iload_n C dX11_shop_21 2 rfl rfl ?_
          refine v_iload_n C dX11_shop_22 3 rfl rfl ?_
          refine v_icmp_le (tgt := 37) C dX11_shop_23 (by decide) (fun c5 => ?_) (fun c5 => ?_)
          · replace hf := (if_pos c5).symm.trans hf
            refine v_aload_n C dX11_shop_37 0 rfl rfl ?_
            refine v_get C fl_X11_43 0 rfl rfl dX11_shop_38 ?_
            refine v_get C fl_X11_327 1 rfl rfl dX11_shop_41 ?_
            refine v_iload_n C dX11_shop_44 1 rfl rfl ?_
            refine v_iload_n C dX11_shop_45 2 rfl rfl ?_
            refine v_iload_n C dX11_shop_46 3 rfl rfl ?_
            obtain ⟨o47, g6, hf⟩ := bd_ hf
            refine v_callV (As := [.int p1, .int p2, .int p3]) (wr := [ob q_t 11 [.ref q_t_tape, .ref q_t_stories, .ref q_t_varied, .ref q_t_evidence, .ref q_t_images, .ref q_t_run, .ref q_t_otherRun, .ref q_t_piles, .ref q_t_balance, .ref q_t_law, .ref q_t_draftLaw, .ref q_t_draftStory, .int v_t_storyCount, .int v_t_imageCount], ob q_t_evidence 2 [.ref q_t_evidence_finds, .ref q_t_evidence_seats, .ref q_t_evidence_shops]]) (ws' := [ob q_t 11 [.ref q_t_tape, .ref q_t_stories, .ref q_t_varied, .ref q_t_evidence, .ref q_t_images, .ref q_t_run, .ref q_t_otherRun, .ref q_t_piles, .ref q_t_balance, .ref q_t_law, .ref q_t_draftLaw, .ref q_t_draftStory, .int v_t_storyCount, .int v_t_imageCount], ob q_t_evidence 2 [.ref q_t_evidence_finds, .ref q_t_evidence_seats, .ref q_t_evidence_shops], ob q_t_evidence_shops 8 [.ref q_t_evidence_shops_sort, .ref q_t_evidence_shops_sold, .ref q_t_evidence_shops_all, .int o47.2.2.2.2], aI cy q_t_evidence_shops_sort 12 o47.2.1, aI cy q_t_evidence_shops_sold 12 o47.2.2.1, aI cy q_t_evidence_shops_all 12 o47.2.2.2.1]) (st := []) (stk' := [.int o47.1]) C (c_Shops_add l D cy K q_t_evidence_shops q_t_evidence_shops_sort q_t_evidence_shops_sold q_t_evidence_shops_all  p1 p2 p3 v_t_evidence_shops_sort v_t_evidence_shops_sold v_t_evidence_shops_all v_t_evidence_shops_size o47 g6) lv_X11_331 rfl (by decide) rfl 2 rfl rfl rfl dX11_shop_47 [2, 3, 4, 5] [0, 1] (by decide) rfl rfl (by decide) (by decide) (Nat.le_of_ble_eq_true rfl) rfl rfl ?_
            obtain rfl := Option.some.inj hf
            exact v_iretX C hr hlk dX11_shop_50 (Nat.le_of_ble_eq_true rfl) (Nat.le_of_ble_eq_true rfl) rfl
          · replace hf := (if_neg c5).symm.trans hf
            obtain rfl := Option.some.inj hf
            exact v_throwW (i := 21) (t := "no such sale") C hO hl hex hlk xa_0_115 xk_111 rfl xo_111 dX11_shop_26 dX11_shop_29 dX11_shop_30 dX11_shop_33 dX11_shop_36 ⟨Nat.le_of_ble_eq_true rfl, Nat.le_of_ble_eq_true rfl⟩ (Nat.le_of_ble_eq_true rfl) (Nat.le_of_ble_eq_true rfl) rfl rfl

abbrev rm_rare : Room := { frames := 7, cells := 2, slots := 12, locals := 103 }
def sp_rare (K : Nat) (p1 : Int32) (p2 : Int32) (v_t_evidence_shops_sort : Nat → Int32) (v_t_evidence_shops_sold : Nat → Int32) (v_t_evidence_shops_all : Nat → Int32) (v_t_evidence_shops_size : Int32) : Option (Nat ⊕ (Int32)) :=
  xb (sp_needBelow K p1 10) fun o3 =>
    if p2 = 0 then
      (sp_Shops_rareInAll K p1 v_t_evidence_shops_sort v_t_evidence_shops_sold v_t_evidence_shops_all v_t_evidence_shops_size).bind fun o40 =>
        some (.inr o40)
    else
      if p2 = 1 then
        (sp_Shops_rareAtLeast K p1 v_t_evidence_shops_sort v_t_evidence_shops_sold v_t_evidence_shops_all v_t_evidence_shops_size).bind fun o52 =>
          some (.inr o52)
      else
        if p2 = 2 then
          (sp_Shops_rareAtMost K p1 v_t_evidence_shops_sort v_t_evidence_shops_sold v_t_evidence_shops_all v_t_evidence_shops_size).bind fun o64 =>
            some (.inr o64)
        else
          some (.inl 0)
set_option maxHeartbeats 4000000 in
set_option maxRecDepth 20000 in
theorem c_rare (l : Launch) (D : va_G) (cy : Nat → ClassId) (K : Nat) (hl : l.stackTraces = false) (adK adV : Nat → Nat) (q_t q_t_stories q_t_images q_t_piles q_t_tape q_t_varied q_t_evidence q_t_evidence_finds q_t_evidence_seats q_t_evidence_shops q_t_evidence_shops_sort q_t_evidence_shops_sold q_t_evidence_shops_all q_t_run q_t_otherRun q_t_balance q_t_law q_t_draftLaw q_t_draftStory : Nat) (p1 : Int32) (p2 : Int32) (v_t_storyCount : Int32) (v_t_imageCount : Int32) (v_t_evidence_shops_sort : Nat → Int32) (v_t_evidence_shops_sold : Nat → Int32) (v_t_evidence_shops_all : Nat → Int32) (v_t_evidence_shops_size : Int32) (out : Nat ⊕ (Int32)) (hf : sp_rare K p1 p2 v_t_evidence_shops_sort v_t_evidence_shops_sold v_t_evidence_shops_all v_t_evidence_shops_size = some out) : CX l yX11_rare cX11_rare 3 (some .int) rm_rare D cy adK adV [.ref q_t, .int p1, .int p2] [ob q_t 11 [.ref q_t_tape, .ref q_t_stories, .ref q_t_varied, .ref q_t_evidence, .ref q_t_images, .ref q_t_run, .ref q_t_otherRun, .ref q_t_piles, .ref q_t_balance, .ref q_t_law, .ref q_t_draftLaw, .ref q_t_draftStory, .int v_t_storyCount, .int v_t_imageCount], ob q_t_evidence 2 [.ref q_t_evidence_finds, .ref q_t_evidence_seats, .ref q_t_evidence_shops], ob q_t_evidence_shops 8 [.ref q_t_evidence_shops_sort, .ref q_t_evidence_shops_sold, .ref q_t_evidence_shops_all, .int v_t_evidence_shops_size], aI cy q_t_evidence_shops_sort 12 v_t_evidence_shops_sort, aI cy q_t_evidence_shops_sold 12 v_t_evidence_shops_sold, aI cy q_t_evidence_shops_all 12 v_t_evidence_shops_all] (Sum.elim (fun c9 => Sum.inl (EN c9)) (fun o9 => Sum.inr ((some (.int o9)), [ob q_t 11 [.ref q_t_tape, .ref q_t_stories, .ref q_t_varied, .ref q_t_evidence, .ref q_t_images, .ref q_t_run, .ref q_t_otherRun, .ref q_t_piles, .ref q_t_balance, .ref q_t_law, .ref q_t_draftLaw, .ref q_t_draftStory, .int v_t_storyCount, .int v_t_imageCount], ob q_t_evidence 2 [.ref q_t_evidence_finds, .ref q_t_evidence_seats, .ref q_t_evidence_shops], ob q_t_evidence_shops 8 [.ref q_t_evidence_shops_sort, .ref q_t_evidence_shops_sold, .ref q_t_evidence_shops_all, .int v_t_evidence_shops_size], aI cy q_t_evidence_shops_sort 12 v_t_evidence_shops_sort, aI cy q_t_evidence_shops_sold 12 v_t_evidence_shops_sold, aI cy q_t_evidence_shops_all 12 v_t_evidence_shops_all])) out) := by
  refine cx_of (by decide +kernel) (Nat.le_of_ble_eq_true rfl) (fun p e s m args below meth c C hO hex hr hlk => ?_)
  unfold sp_rare at hf
  refine v_iload_n C dX11_rare_0 1 rfl rfl ?_
  refine v_bipush (v := 10) C dX11_rare_1 (by decide) ?_
  rcases xb_ hf with ⟨c9, g1, rfl⟩ | ⟨o3, g1, hf⟩
  · exact v_callST (As := [.int p1, .int 10]) (wr := [ob q_t 11 [.ref q_t_tape, .ref q_t_stories, .ref q_t_varied, .ref q_t_evidence, .ref q_t_images, .ref q_t_run, .ref q_t_otherRun, .ref q_t_piles, .ref q_t_balance, .ref q_t_law, .ref q_t_draftLaw, .ref q_t_draftStory, .int v_t_storyCount, .int v_t_imageCount], ob q_t_evidence 2 [.ref q_t_evidence_finds, .ref q_t_evidence_seats, .ref q_t_evidence_shops], ob q_t_evidence_shops 8 [.ref q_t_evidence_shops_sort, .ref q_t_evidence_shops_sold, .ref q_t_evidence_shops_all, .int v_t_evidence_shops_size], aI cy q_t_evidence_shops_sort 12 v_t_evidence_shops_sort, aI cy q_t_evidence_shops_sold 12 v_t_evidence_shops_sold, aI cy q_t_evidence_shops_all 12 v_t_evidence_shops_all]) (st := []) C hO (c_needBelow l D cy K hl adK adV   p1 10 (.inl c9) g1) ls_X11_121 rfl (by decide) rfl dX11_rare_3 [] [0, 1, 2, 3, 4, 5] [0, 1, 2, 3, 4, 5] (by decide) rfl rfl (by decide) (by decide) rfl (by decide) (Nat.le_of_ble_eq_true rfl) hex hlk (Nat.le_of_ble_eq_true rfl) (Nat.le_of_ble_eq_true rfl) rfl rfl
  · refine v_callSX (As := [.int p1, .int 10]) (wr := [ob q_t 11 [.ref q_t_tape, .ref q_t_stories, .ref q_t_varied, .ref q_t_evidence, .ref q_t_images, .ref q_t_run, .ref q_t_otherRun, .ref q_t_piles, .ref q_t_balance, .ref q_t_law, .ref q_t_draftLaw, .ref q_t_draftStory, .int v_t_storyCount, .int v_t_imageCount], ob q_t_evidence 2 [.ref q_t_evidence_finds, .ref q_t_evidence_seats, .ref q_t_evidence_shops], ob q_t_evidence_shops 8 [.ref q_t_evidence_shops_sort, .ref q_t_evidence_shops_sold, .ref q_t_evidence_shops_all, .int v_t_evidence_shops_size], aI cy q_t_evidence_shops_sort 12 v_t_evidence_shops_sort, aI cy q_t_evidence_shops_sold 12 v_t_evidence_shops_sold, aI cy q_t_evidence_shops_all 12 v_t_evidence_shops_all]) (ws' := [ob q_t 11 [.ref q_t_tape, .ref q_t_stories, .ref q_t_varied, .ref q_t_evidence, .ref q_t_images, .ref q_t_run, .ref q_t_otherRun, .ref q_t_piles, .ref q_t_balance, .ref q_t_law, .ref q_t_draftLaw, .ref q_t_draftStory, .int v_t_storyCount, .int v_t_imageCount], ob q_t_evidence 2 [.ref q_t_evidence_finds, .ref q_t_evidence_seats, .ref q_t_evidence_shops], ob q_t_evidence_shops 8 [.ref q_t_evidence_shops_sort, .ref q_t_evidence_shops_sold, .ref q_t_evidence_shops_all, .int v_t_evidence_shops_size], aI cy q_t_evidence_shops_sort 12 v_t_evidence_shops_sort, aI cy q_t_evidence_shops_sold 12 v_t_evidence_shops_sold, aI cy q_t_evidence_shops_all 12 v_t_evidence_shops_all]) (st := []) (stk' := []) C hO (c_needBelow l D cy K hl adK adV   p1 10 (.inr o3) g1) ls_X11_121 rfl (by decide) rfl dX11_rare_3 [] [0, 1, 2, 3, 4, 5] (by decide) rfl rfl (by decide) (by decide) (Nat.le_of_ble_eq_true rfl) rfl rfl ?_
    refine v_iload_n C dX11_rare_6 2 rfl rfl ?_
    by_cases c2 : p2 = 0
    · replace hf := (if_pos c2).symm.trans hf
      refine v_tsw (tgt := 32) (off := 25) C 0 c2 dX11_rare_7 (by decide) (by decide) rfl (by decide) ?_
      refine v_aload_n C dX11_rare_32 0 rfl rfl ?_
      refine v_get C fl_X11_43 0 rfl rfl dX11_rare_33 ?_
      refine v_get C fl_X11_327 1 rfl rfl dX11_rare_36 ?_
      refine v_iload_n C dX11_rare_39 1 rfl rfl ?_
      obtain ⟨o40, g3, hf⟩ := bd_ hf
      refine v_callV (As := [.int p1]) (wr := [ob q_t 11 [.ref q_t_tape, .ref q_t_stories, .ref q_t_varied, .ref q_t_evidence, .ref q_t_images, .ref q_t_run, .ref q_t_otherRun, .ref q_t_piles, .ref q_t_balance, .ref q_t_law, .ref q_t_draftLaw, .ref q_t_draftStory, .int v_t_storyCount, .int v_t_imageCount], ob q_t_evidence 2 [.ref q_t_evidence_finds, .ref q_t_evidence_seats, .ref q_t_evidence_shops]]) (ws' := [ob q_t 11 [.ref q_t_tape, .ref q_t_stories, .ref q_t_varied, .ref q_t_evidence, .ref q_t_images, .ref q_t_run, .ref q_t_otherRun, .ref q_t_piles, .ref q_t_balance, .ref q_t_law, .ref q_t_draftLaw, .ref q_t_draftStory, .int v_t_storyCount, .int v_t_imageCount], ob q_t_evidence 2 [.ref q_t_evidence_finds, .ref q_t_evidence_seats, .ref q_t_evidence_shops], ob q_t_evidence_shops 8 [.ref q_t_evidence_shops_sort, .ref q_t_evidence_shops_sold, .ref q_t_evidence_shops_all, .int v_t_evidence_shops_size], aI cy q_t_evidence_shops_sort 12 v_t_evidence_shops_sort, aI cy q_t_evidence_shops_sold 12 v_t_evidence_shops_sold, aI cy q_t_evidence_shops_all 12 v_t_evidence_shops_all]) (st := []) (stk' := [.int o40]) C (c_Shops_rareInAll l D cy K q_t_evidence_shops q_t_evidence_shops_sort q_t_evidence_shops_sold q_t_evidence_shops_all  p1 v_t_evidence_shops_sort v_t_evidence_shops_sold v_t_evidence_shops_all v_t_evidence_shops_size o40 g3) lv_X11_335 rfl (by decide) rfl 2 rfl rfl rfl dX11_rare_40 [2, 3, 4, 5] [0, 1] (by decide) rfl rfl (by decide) (by decide) (Nat.le_of_ble_eq_true rfl) rfl rfl ?_
      obtain rfl := Option.some.inj hf
      exact v_iretX C hr hlk dX11_rare_43 (Nat.le_of_ble_eq_true rfl) (Nat.le_of_ble_eq_true rfl) rfl
    · replace hf := (if_neg c2).symm.trans hf
      by_cases c4 : p2 = 1
      · replace hf := (if_pos c4).symm.trans hf
        refine v_tsw (tgt := 44) (off := 37) C 1 c4 dX11_rare_7 (by decide) (by decide) rfl (by decide) ?_
        refine v_aload_n C dX11_rare_44 0 rfl rfl ?_
        refine v_get C fl_X11_43 0 rfl rfl dX11_rare_45 ?_
        refine v_get C fl_X11_327 1 rfl rfl dX11_rare_48 ?_
        refine v_iload_n C dX11_rare_51 1 rfl rfl ?_
        obtain ⟨o52, g5, hf⟩ := bd_ hf
        refine v_callV (As := [.int p1]) (wr := [ob q_t 11 [.ref q_t_tape, .ref q_t_stories, .ref q_t_varied, .ref q_t_evidence, .ref q_t_images, .ref q_t_run, .ref q_t_otherRun, .ref q_t_piles, .ref q_t_balance, .ref q_t_law, .ref q_t_draftLaw, .ref q_t_draftStory, .int v_t_storyCount, .int v_t_imageCount], ob q_t_evidence 2 [.ref q_t_evidence_finds, .ref q_t_evidence_seats, .ref q_t_evidence_shops]]) (ws' := [ob q_t 11 [.ref q_t_tape, .ref q_t_stories, .ref q_t_varied, .ref q_t_evidence, .ref q_t_images, .ref q_t_run, .ref q_t_otherRun, .ref q_t_piles, .ref q_t_balance, .ref q_t_law, .ref q_t_draftLaw, .ref q_t_draftStory, .int v_t_storyCount, .int v_t_imageCount], ob q_t_evidence 2 [.ref q_t_evidence_finds, .ref q_t_evidence_seats, .ref q_t_evidence_shops], ob q_t_evidence_shops 8 [.ref q_t_evidence_shops_sort, .ref q_t_evidence_shops_sold, .ref q_t_evidence_shops_all, .int v_t_evidence_shops_size], aI cy q_t_evidence_shops_sort 12 v_t_evidence_shops_sort, aI cy q_t_evidence_shops_sold 12 v_t_evidence_shops_sold, aI cy q_t_evidence_shops_all 12 v_t_evidence_shops_all]) (st := []) (stk' := [.int o52]) C (c_Shops_rareAtLeast l D cy K q_t_evidence_shops q_t_evidence_shops_sort q_t_evidence_shops_sold q_t_evidence_shops_all  p1 v_t_evidence_shops_sort v_t_evidence_shops_sold v_t_evidence_shops_all v_t_evidence_shops_size o52 g5) lv_X11_338 rfl (by decide) rfl 2 rfl rfl rfl dX11_rare_52 [2, 3, 4, 5] [0, 1] (by decide) rfl rfl (by decide) (by decide) (Nat.le_of_ble_eq_true rfl) rfl rfl ?_
        obtain rfl := Option.some.inj hf
        exact v_iretX C hr hlk dX11_rare_55 (Nat.le_of_ble_eq_true rfl) (Nat.le_of_ble_eq_true rfl) rfl
      · replace hf := (if_neg c4).symm.trans hf
        by_cases c6 : p2 = 2
        · replace hf := (if_pos c6).symm.trans hf
          refine v_tsw (tgt := 56) (off := 49) C 2 c6 dX11_rare_7 (by decide) (by decide) rfl (by decide) ?_
          refine v_aload_n C dX11_rare_56 0 rfl rfl ?_
          refine v_get C fl_X11_43 0 rfl rfl dX11_rare_57 ?_
          refine v_get C fl_X11_327 1 rfl rfl dX11_rare_60 ?_
          refine v_iload_n C dX11_rare_63 1 rfl rfl ?_
          obtain ⟨o64, g7, hf⟩ := bd_ hf
          refine v_callV (As := [.int p1]) (wr := [ob q_t 11 [.ref q_t_tape, .ref q_t_stories, .ref q_t_varied, .ref q_t_evidence, .ref q_t_images, .ref q_t_run, .ref q_t_otherRun, .ref q_t_piles, .ref q_t_balance, .ref q_t_law, .ref q_t_draftLaw, .ref q_t_draftStory, .int v_t_storyCount, .int v_t_imageCount], ob q_t_evidence 2 [.ref q_t_evidence_finds, .ref q_t_evidence_seats, .ref q_t_evidence_shops]]) (ws' := [ob q_t 11 [.ref q_t_tape, .ref q_t_stories, .ref q_t_varied, .ref q_t_evidence, .ref q_t_images, .ref q_t_run, .ref q_t_otherRun, .ref q_t_piles, .ref q_t_balance, .ref q_t_law, .ref q_t_draftLaw, .ref q_t_draftStory, .int v_t_storyCount, .int v_t_imageCount], ob q_t_evidence 2 [.ref q_t_evidence_finds, .ref q_t_evidence_seats, .ref q_t_evidence_shops], ob q_t_evidence_shops 8 [.ref q_t_evidence_shops_sort, .ref q_t_evidence_shops_sold, .ref q_t_evidence_shops_all, .int v_t_evidence_shops_size], aI cy q_t_evidence_shops_sort 12 v_t_evidence_shops_sort, aI cy q_t_evidence_shops_sold 12 v_t_evidence_shops_sold, aI cy q_t_evidence_shops_all 12 v_t_evidence_shops_all]) (st := []) (stk' := [.int o64]) C (c_Shops_rareAtMost l D cy K q_t_evidence_shops q_t_evidence_shops_sort q_t_evidence_shops_sold q_t_evidence_shops_all  p1 v_t_evidence_shops_sort v_t_evidence_shops_sold v_t_evidence_shops_all v_t_evidence_shops_size o64 g7) lv_X11_341 rfl (by decide) rfl 2 rfl rfl rfl dX11_rare_64 [2, 3, 4, 5] [0, 1] (by decide) rfl rfl (by decide) (by decide) (Nat.le_of_ble_eq_true rfl) rfl rfl ?_
          obtain rfl := Option.some.inj hf
          exact v_iretX C hr hlk dX11_rare_67 (Nat.le_of_ble_eq_true rfl) (Nat.le_of_ble_eq_true rfl) rfl
        · replace hf := (if_neg c6).symm.trans hf
          refine v_tswO (tgt := 68) C dX11_rare_7 (by have e0 := lv_neT (a := 0) c2 rfl; have e1 := lv_neT (a := 1) c4 rfl; have e2 := lv_neT (a := 2) c6 rfl; omega) (by decide) ?_
          obtain rfl := Option.some.inj hf
          exact v_throw (i := 15) (t := "no such what") C hO hl hex hlk xa_0_115 xk_111 rfl xo_111 dX11_rare_68 dX11_rare_71 dX11_rare_72 dX11_rare_74 dX11_rare_77 ⟨Nat.le_of_ble_eq_true rfl, Nat.le_of_ble_eq_true rfl⟩ (Nat.le_of_ble_eq_true rfl) (Nat.le_of_ble_eq_true rfl) rfl rfl

abbrev rm_image : Room := { frames := 4, cells := 0, slots := 0, locals := 88 }
def sp_image (K : Nat) (v_t_images : Nat → Option Nat) (q_i1 : Nat) (v_t_imageCount : Int32) (v_t_evidence_finds_place : Nat → Int32) (v_t_evidence_finds_hour : Nat → Int32) (v_t_evidence_finds_sort : Nat → Int32) (v_t_evidence_finds_many : Nat → Int32) (v_t_evidence_finds_size : Int32) (v_t_evidence_seats_sorts : Nat → Int32) (v_t_evidence_seats_size : Int32) (v_t_evidence_shops_sort : Nat → Int32) (v_t_evidence_shops_sold : Nat → Int32) (v_t_evidence_shops_all : Nat → Int32) (v_t_evidence_shops_size : Int32) (v_i1_finds_place : Nat → Int32) (v_i1_finds_hour : Nat → Int32) (v_i1_finds_sort : Nat → Int32) (v_i1_finds_many : Nat → Int32) (v_i1_finds_size : Int32) (v_i1_seats_sorts : Nat → Int32) (v_i1_seats_size : Int32) (v_i1_shops_sort : Nat → Int32) (v_i1_shops_sold : Nat → Int32) (v_i1_shops_all : Nat → Int32) (v_i1_shops_size : Int32) : Option (Int32 × Int32 × (Nat → Int32) × (Nat → Int32) × (Nat → Int32) × (Nat → Int32) × Int32 × (Nat → Int32) × Int32 × (Nat → Int32) × (Nat → Int32) × (Nat → Int32) × Int32) :=
  (sp_within K v_t_imageCount 3).bind fun o5 =>
    if o5 = 0 then
      some ((-1), v_t_imageCount, v_i1_finds_place, v_i1_finds_hour, v_i1_finds_sort, v_i1_finds_many, v_i1_finds_size, v_i1_seats_sorts, v_i1_seats_size, v_i1_shops_sort, v_i1_shops_sold, v_i1_shops_all, v_i1_shops_size)
    else
      if inb v_t_imageCount 3 then
        if v_t_images v_t_imageCount.toNatClampNeg = some q_i1 then
          (sp_Evidence_copy K v_i1_finds_place v_i1_finds_hour v_i1_finds_sort v_i1_finds_many v_i1_finds_size v_i1_seats_sorts v_i1_seats_size v_i1_shops_sort v_i1_shops_sold v_i1_shops_all v_i1_shops_size v_t_evidence_finds_place v_t_evidence_finds_hour v_t_evidence_finds_sort v_t_evidence_finds_many v_t_evidence_finds_size v_t_evidence_seats_sorts v_t_evidence_seats_size v_t_evidence_shops_sort v_t_evidence_shops_sold v_t_evidence_shops_all v_t_evidence_shops_size).bind fun o26 =>
            some (v_t_imageCount + 1, v_t_imageCount + 1, o26.1, o26.2.1, o26.2.2.1, o26.2.2.2.1, o26.2.2.2.2.1, o26.2.2.2.2.2.1, o26.2.2.2.2.2.2.1, o26.2.2.2.2.2.2.2.1, o26.2.2.2.2.2.2.2.2.1, o26.2.2.2.2.2.2.2.2.2.1, o26.2.2.2.2.2.2.2.2.2.2)
        else none
      else none
set_option maxHeartbeats 4000000 in
set_option maxRecDepth 20000 in
theorem c_image (l : Launch) (D : va_G) (cy : Nat → ClassId) (K : Nat) (q_t q_t_stories q_t_images q_t_piles q_t_tape q_t_varied q_t_evidence q_t_evidence_finds q_t_evidence_finds_place q_t_evidence_finds_hour q_t_evidence_finds_sort q_t_evidence_finds_many q_t_evidence_seats q_t_evidence_seats_sorts q_t_evidence_shops q_t_evidence_shops_sort q_t_evidence_shops_sold q_t_evidence_shops_all q_i1_finds q_i1_finds_place q_i1_finds_hour q_i1_finds_sort q_i1_finds_many q_i1_seats q_i1_seats_sorts q_i1_shops q_i1_shops_sort q_i1_shops_sold q_i1_shops_all q_t_run q_t_otherRun q_t_balance q_t_law q_t_draftLaw q_t_draftStory : Nat) (v_t_images : Nat → Option Nat) (q_i1 : Nat) (v_t_storyCount : Int32) (v_t_imageCount : Int32) (v_t_evidence_finds_place : Nat → Int32) (v_t_evidence_finds_hour : Nat → Int32) (v_t_evidence_finds_sort : Nat → Int32) (v_t_evidence_finds_many : Nat → Int32) (v_t_evidence_finds_size : Int32) (v_t_evidence_seats_sorts : Nat → Int32) (v_t_evidence_seats_size : Int32) (v_t_evidence_shops_sort : Nat → Int32) (v_t_evidence_shops_sold : Nat → Int32) (v_t_evidence_shops_all : Nat → Int32) (v_t_evidence_shops_size : Int32) (v_i1_finds_place : Nat → Int32) (v_i1_finds_hour : Nat → Int32) (v_i1_finds_sort : Nat → Int32) (v_i1_finds_many : Nat → Int32) (v_i1_finds_size : Int32) (v_i1_seats_sorts : Nat → Int32) (v_i1_seats_size : Int32) (v_i1_shops_sort : Nat → Int32) (v_i1_shops_sold : Nat → Int32) (v_i1_shops_all : Nat → Int32) (v_i1_shops_size : Int32) (out : Int32 × Int32 × (Nat → Int32) × (Nat → Int32) × (Nat → Int32) × (Nat → Int32) × Int32 × (Nat → Int32) × Int32 × (Nat → Int32) × (Nat → Int32) × (Nat → Int32) × Int32) (hf : sp_image K v_t_images q_i1 v_t_imageCount v_t_evidence_finds_place v_t_evidence_finds_hour v_t_evidence_finds_sort v_t_evidence_finds_many v_t_evidence_finds_size v_t_evidence_seats_sorts v_t_evidence_seats_size v_t_evidence_shops_sort v_t_evidence_shops_sold v_t_evidence_shops_all v_t_evidence_shops_size v_i1_finds_place v_i1_finds_hour v_i1_finds_sort v_i1_finds_many v_i1_finds_size v_i1_seats_sorts v_i1_seats_size v_i1_shops_sort v_i1_shops_sold v_i1_shops_all v_i1_shops_size = some out) : Ct l yX11_image cX11_image 1 (some .int) rm_image D cy [.ref q_t] [ob q_t 11 [.ref q_t_tape, .ref q_t_stories, .ref q_t_varied, .ref q_t_evidence, .ref q_t_images, .ref q_t_run, .ref q_t_otherRun, .ref q_t_piles, .ref q_t_balance, .ref q_t_law, .ref q_t_draftLaw, .ref q_t_draftStory, .int v_t_storyCount, .int v_t_imageCount], ob q_t_evidence 2 [.ref q_t_evidence_finds, .ref q_t_evidence_seats, .ref q_t_evidence_shops], ob q_t_evidence_finds 3 [.ref q_t_evidence_finds_place, .ref q_t_evidence_finds_hour, .ref q_t_evidence_finds_sort, .ref q_t_evidence_finds_many, .int v_t_evidence_finds_size], aI cy q_t_evidence_finds_place 8 v_t_evidence_finds_place, aI cy q_t_evidence_finds_hour 8 v_t_evidence_finds_hour, aI cy q_t_evidence_finds_sort 8 v_t_evidence_finds_sort, aI cy q_t_evidence_finds_many 8 v_t_evidence_finds_many, ob q_t_evidence_seats 7 [.ref q_t_evidence_seats_sorts, .int v_t_evidence_seats_size], aI cy q_t_evidence_seats_sorts 40 v_t_evidence_seats_sorts, ob q_t_evidence_shops 8 [.ref q_t_evidence_shops_sort, .ref q_t_evidence_shops_sold, .ref q_t_evidence_shops_all, .int v_t_evidence_shops_size], aI cy q_t_evidence_shops_sort 12 v_t_evidence_shops_sort, aI cy q_t_evidence_shops_sold 12 v_t_evidence_shops_sold, aI cy q_t_evidence_shops_all 12 v_t_evidence_shops_all, aR cy 2 q_t_images 3 v_t_images, ob q_i1 2 [.ref q_i1_finds, .ref q_i1_seats, .ref q_i1_shops], ob q_i1_finds 3 [.ref q_i1_finds_place, .ref q_i1_finds_hour, .ref q_i1_finds_sort, .ref q_i1_finds_many, .int v_i1_finds_size], aI cy q_i1_finds_place 8 v_i1_finds_place, aI cy q_i1_finds_hour 8 v_i1_finds_hour, aI cy q_i1_finds_sort 8 v_i1_finds_sort, aI cy q_i1_finds_many 8 v_i1_finds_many, ob q_i1_seats 7 [.ref q_i1_seats_sorts, .int v_i1_seats_size], aI cy q_i1_seats_sorts 40 v_i1_seats_sorts, ob q_i1_shops 8 [.ref q_i1_shops_sort, .ref q_i1_shops_sold, .ref q_i1_shops_all, .int v_i1_shops_size], aI cy q_i1_shops_sort 12 v_i1_shops_sort, aI cy q_i1_shops_sold 12 v_i1_shops_sold, aI cy q_i1_shops_all 12 v_i1_shops_all] (some (.int out.1)) [ob q_t 11 [.ref q_t_tape, .ref q_t_stories, .ref q_t_varied, .ref q_t_evidence, .ref q_t_images, .ref q_t_run, .ref q_t_otherRun, .ref q_t_piles, .ref q_t_balance, .ref q_t_law, .ref q_t_draftLaw, .ref q_t_draftStory, .int v_t_storyCount, .int out.2.1], ob q_t_evidence 2 [.ref q_t_evidence_finds, .ref q_t_evidence_seats, .ref q_t_evidence_shops], ob q_t_evidence_finds 3 [.ref q_t_evidence_finds_place, .ref q_t_evidence_finds_hour, .ref q_t_evidence_finds_sort, .ref q_t_evidence_finds_many, .int v_t_evidence_finds_size], aI cy q_t_evidence_finds_place 8 v_t_evidence_finds_place, aI cy q_t_evidence_finds_hour 8 v_t_evidence_finds_hour, aI cy q_t_evidence_finds_sort 8 v_t_evidence_finds_sort, aI cy q_t_evidence_finds_many 8 v_t_evidence_finds_many, ob q_t_evidence_seats 7 [.ref q_t_evidence_seats_sorts, .int v_t_evidence_seats_size], aI cy q_t_evidence_seats_sorts 40 v_t_evidence_seats_sorts, ob q_t_evidence_shops 8 [.ref q_t_evidence_shops_sort, .ref q_t_evidence_shops_sold, .ref q_t_evidence_shops_all, .int v_t_evidence_shops_size], aI cy q_t_evidence_shops_sort 12 v_t_evidence_shops_sort, aI cy q_t_evidence_shops_sold 12 v_t_evidence_shops_sold, aI cy q_t_evidence_shops_all 12 v_t_evidence_shops_all, aR cy 2 q_t_images 3 v_t_images, ob q_i1 2 [.ref q_i1_finds, .ref q_i1_seats, .ref q_i1_shops], ob q_i1_finds 3 [.ref q_i1_finds_place, .ref q_i1_finds_hour, .ref q_i1_finds_sort, .ref q_i1_finds_many, .int out.2.2.2.2.2.2.1], aI cy q_i1_finds_place 8 out.2.2.1, aI cy q_i1_finds_hour 8 out.2.2.2.1, aI cy q_i1_finds_sort 8 out.2.2.2.2.1, aI cy q_i1_finds_many 8 out.2.2.2.2.2.1, ob q_i1_seats 7 [.ref q_i1_seats_sorts, .int out.2.2.2.2.2.2.2.2.1], aI cy q_i1_seats_sorts 40 out.2.2.2.2.2.2.2.1, ob q_i1_shops 8 [.ref q_i1_shops_sort, .ref q_i1_shops_sold, .ref q_i1_shops_all, .int out.2.2.2.2.2.2.2.2.2.2.2.2], aI cy q_i1_shops_sort 12 out.2.2.2.2.2.2.2.2.2.1, aI cy q_i1_shops_sold 12 out.2.2.2.2.2.2.2.2.2.2.1, aI cy q_i1_shops_all 12 out.2.2.2.2.2.2.2.2.2.2.2.1] := by
  refine ct_of (by decide +kernel) (Nat.le_of_ble_eq_true rfl) (fun p e s m args below meth c C hr hlk hnm => ?_)
  unfold sp_image at hf
  refine v_aload_n C dX11_image_0 0 rfl rfl ?_
  refine v_get C fl_X11_344 0 rfl rfl dX11_image_1 ?_
  refine v_iconst (v := 3) C dX11_image_4 (by decide) ?_
  obtain ⟨o5, g1, hf⟩ := bd_ hf
  refine v_callS0 (As := [.int v_t_imageCount, .int 3]) (st := []) (stk' := [.int o5]) C (c_within l D cy K   v_t_imageCount 3 o5 g1) ls_X11_103 rfl (by decide) rfl dX11_image_5 (Nat.le_of_ble_eq_true rfl) rfl ?_
  refine v_if_ne (tgt := 13) C dX11_image_8 (by decide) (fun c2 => ?_) (fun c2 => ?_)
  · replace hf := (if_neg c2).symm.trans hf
    refine v_aload_n C dX11_image_13 0 rfl rfl ?_
    refine v_get C fl_X11_47 0 rfl rfl dX11_image_14 ?_
    refine v_aload_n C dX11_image_17 0 rfl rfl ?_
    refine v_get C fl_X11_344 0 rfl rfl dX11_image_18 ?_
    obtain ⟨g3, hf⟩ := gd_ hf
    obtain ⟨g4, hf⟩ := gd_ hf
    refine v_aald (b := q_i1) C 13 rfl rfl g3 g4 dX11_image_21 ?_
    refine v_aload_n C dX11_image_22 0 rfl rfl ?_
    refine v_get C fl_X11_43 0 rfl rfl dX11_image_23 ?_
    obtain ⟨o26, g5, hf⟩ := bd_ hf
    refine v_callV (As := [.ref q_t_evidence]) (wr := [ob q_t 11 [.ref q_t_tape, .ref q_t_stories, .ref q_t_varied, .ref q_t_evidence, .ref q_t_images, .ref q_t_run, .ref q_t_otherRun, .ref q_t_piles, .ref q_t_balance, .ref q_t_law, .ref q_t_draftLaw, .ref q_t_draftStory, .int v_t_storyCount, .int v_t_imageCount], aR cy 2 q_t_images 3 v_t_images]) (ws' := [ob q_t 11 [.ref q_t_tape, .ref q_t_stories, .ref q_t_varied, .ref q_t_evidence, .ref q_t_images, .ref q_t_run, .ref q_t_otherRun, .ref q_t_piles, .ref q_t_balance, .ref q_t_law, .ref q_t_draftLaw, .ref q_t_draftStory, .int v_t_storyCount, .int v_t_imageCount], aR cy 2 q_t_images 3 v_t_images, ob q_i1 2 [.ref q_i1_finds, .ref q_i1_seats, .ref q_i1_shops], ob q_i1_finds 3 [.ref q_i1_finds_place, .ref q_i1_finds_hour, .ref q_i1_finds_sort, .ref q_i1_finds_many, .int o26.2.2.2.2.1], aI cy q_i1_finds_place 8 o26.1, aI cy q_i1_finds_hour 8 o26.2.1, aI cy q_i1_finds_sort 8 o26.2.2.1, aI cy q_i1_finds_many 8 o26.2.2.2.1, ob q_i1_seats 7 [.ref q_i1_seats_sorts, .int o26.2.2.2.2.2.2.1], aI cy q_i1_seats_sorts 40 o26.2.2.2.2.2.1, ob q_i1_shops 8 [.ref q_i1_shops_sort, .ref q_i1_shops_sold, .ref q_i1_shops_all, .int o26.2.2.2.2.2.2.2.2.2.2], aI cy q_i1_shops_sort 12 o26.2.2.2.2.2.2.2.1, aI cy q_i1_shops_sold 12 o26.2.2.2.2.2.2.2.2.1, aI cy q_i1_shops_all 12 o26.2.2.2.2.2.2.2.2.2.1, ob q_t_evidence 2 [.ref q_t_evidence_finds, .ref q_t_evidence_seats, .ref q_t_evidence_shops], ob q_t_evidence_finds 3 [.ref q_t_evidence_finds_place, .ref q_t_evidence_finds_hour, .ref q_t_evidence_finds_sort, .ref q_t_evidence_finds_many, .int v_t_evidence_finds_size], aI cy q_t_evidence_finds_place 8 v_t_evidence_finds_place, aI cy q_t_evidence_finds_hour 8 v_t_evidence_finds_hour, aI cy q_t_evidence_finds_sort 8 v_t_evidence_finds_sort, aI cy q_t_evidence_finds_many 8 v_t_evidence_finds_many, ob q_t_evidence_seats 7 [.ref q_t_evidence_seats_sorts, .int v_t_evidence_seats_size], aI cy q_t_evidence_seats_sorts 40 v_t_evidence_seats_sorts, ob q_t_evidence_shops 8 [.ref q_t_evidence_shops_sort, .ref q_t_evidence_shops_sold, .ref q_t_evidence_shops_all, .int v_t_evidence_shops_size], aI cy q_t_evidence_shops_sort 12 v_t_evidence_shops_sort, aI cy q_t_evidence_shops_sold 12 v_t_evidence_shops_sold, aI cy q_t_evidence_shops_all 12 v_t_evidence_shops_all]) (st := []) (stk' := []) C (c_Evidence_copy l D cy K q_i1 q_i1_finds q_i1_finds_place q_i1_finds_hour q_i1_finds_sort q_i1_finds_many q_i1_seats q_i1_seats_sorts q_i1_shops q_i1_shops_sort q_i1_shops_sold q_i1_shops_all q_t_evidence q_t_evidence_finds q_t_evidence_finds_place q_t_evidence_finds_hour q_t_evidence_finds_sort q_t_evidence_finds_many q_t_evidence_seats q_t_evidence_seats_sorts q_t_evidence_shops q_t_evidence_shops_sort q_t_evidence_shops_sold q_t_evidence_shops_all  v_i1_finds_place v_i1_finds_hour v_i1_finds_sort v_i1_finds_many v_i1_finds_size v_i1_seats_sorts v_i1_seats_size v_i1_shops_sort v_i1_shops_sold v_i1_shops_all v_i1_shops_size v_t_evidence_finds_place v_t_evidence_finds_hour v_t_evidence_finds_sort v_t_evidence_finds_many v_t_evidence_finds_size v_t_evidence_seats_sorts v_t_evidence_seats_size v_t_evidence_shops_sort v_t_evidence_shops_sold v_t_evidence_shops_all v_t_evidence_shops_size o26 g5) lv_X11_347 rfl (by decide) rfl 14 rfl rfl rfl dX11_image_26 [14, 15, 16, 17, 18, 19, 20, 21, 22, 23, 24, 25, 1, 2, 3, 4, 5, 6, 7, 8, 9, 10, 11, 12] [0, 13] (by decide) rfl rfl (by decide) (by decide) (Nat.le_of_ble_eq_true rfl) rfl rfl ?_
    refine v_aload_n C dX11_image_29 0 rfl rfl ?_
    refine v_dup C dX11_image_30 rfl ?_
    refine v_get C fl_X11_344 0 rfl rfl dX11_image_31 ?_
    refine v_iconst (v := 1) C dX11_image_34 (by decide) ?_
    refine v_iadd C dX11_image_35 ?_
    refine v_put (ws' := [ob q_t 11 [.ref q_t_tape, .ref q_t_stories, .ref q_t_varied, .ref q_t_evidence, .ref q_t_images, .ref q_t_run, .ref q_t_otherRun, .ref q_t_piles, .ref q_t_balance, .ref q_t_law, .ref q_t_draftLaw, .ref q_t_draftStory, .int v_t_storyCount, .int (v_t_imageCount + 1)], aR cy 2 q_t_images 3 v_t_images, ob q_i1 2 [.ref q_i1_finds, .ref q_i1_seats, .ref q_i1_shops], ob q_i1_finds 3 [.ref q_i1_finds_place, .ref q_i1_finds_hour, .ref q_i1_finds_sort, .ref q_i1_finds_many, .int o26.2.2.2.2.1], aI cy q_i1_finds_place 8 o26.1, aI cy q_i1_finds_hour 8 o26.2.1, aI cy q_i1_finds_sort 8 o26.2.2.1, aI cy q_i1_finds_many 8 o26.2.2.2.1, ob q_i1_seats 7 [.ref q_i1_seats_sorts, .int o26.2.2.2.2.2.2.1], aI cy q_i1_seats_sorts 40 o26.2.2.2.2.2.1, ob q_i1_shops 8 [.ref q_i1_shops_sort, .ref q_i1_shops_sold, .ref q_i1_shops_all, .int o26.2.2.2.2.2.2.2.2.2.2], aI cy q_i1_shops_sort 12 o26.2.2.2.2.2.2.2.1, aI cy q_i1_shops_sold 12 o26.2.2.2.2.2.2.2.2.1, aI cy q_i1_shops_all 12 o26.2.2.2.2.2.2.2.2.2.1, ob q_t_evidence 2 [.ref q_t_evidence_finds, .ref q_t_evidence_seats, .ref q_t_evidence_shops], ob q_t_evidence_finds 3 [.ref q_t_evidence_finds_place, .ref q_t_evidence_finds_hour, .ref q_t_evidence_finds_sort, .ref q_t_evidence_finds_many, .int v_t_evidence_finds_size], aI cy q_t_evidence_finds_place 8 v_t_evidence_finds_place, aI cy q_t_evidence_finds_hour 8 v_t_evidence_finds_hour, aI cy q_t_evidence_finds_sort 8 v_t_evidence_finds_sort, aI cy q_t_evidence_finds_many 8 v_t_evidence_finds_many, ob q_t_evidence_seats 7 [.ref q_t_evidence_seats_sorts, .int v_t_evidence_seats_size], aI cy q_t_evidence_seats_sorts 40 v_t_evidence_seats_sorts, ob q_t_evidence_shops 8 [.ref q_t_evidence_shops_sort, .ref q_t_evidence_shops_sold, .ref q_t_evidence_shops_all, .int v_t_evidence_shops_size], aI cy q_t_evidence_shops_sort 12 v_t_evidence_shops_sort, aI cy q_t_evidence_shops_sold 12 v_t_evidence_shops_sold, aI cy q_t_evidence_shops_all 12 v_t_evidence_shops_all]) C fp_X11_344 0 rfl rfl rfl (Nat.le_of_ble_eq_true rfl) rfl dX11_image_36 ?_
    refine v_aload_n C dX11_image_39 0 rfl rfl ?_
    refine v_get C fl_X11_344 0 rfl rfl dX11_image_40 ?_
    refine v_ws (ws' := [ob q_t 11 [.ref q_t_tape, .ref q_t_stories, .ref q_t_varied, .ref q_t_evidence, .ref q_t_images, .ref q_t_run, .ref q_t_otherRun, .ref q_t_piles, .ref q_t_balance, .ref q_t_law, .ref q_t_draftLaw, .ref q_t_draftStory, .int v_t_storyCount, .int (v_t_imageCount + 1)], ob q_t_evidence 2 [.ref q_t_evidence_finds, .ref q_t_evidence_seats, .ref q_t_evidence_shops], ob q_t_evidence_finds 3 [.ref q_t_evidence_finds_place, .ref q_t_evidence_finds_hour, .ref q_t_evidence_finds_sort, .ref q_t_evidence_finds_many, .int v_t_evidence_finds_size], aI cy q_t_evidence_finds_place 8 v_t_evidence_finds_place, aI cy q_t_evidence_finds_hour 8 v_t_evidence_finds_hour, aI cy q_t_evidence_finds_sort 8 v_t_evidence_finds_sort, aI cy q_t_evidence_finds_many 8 v_t_evidence_finds_many, ob q_t_evidence_seats 7 [.ref q_t_evidence_seats_sorts, .int v_t_evidence_seats_size], aI cy q_t_evidence_seats_sorts 40 v_t_evidence_seats_sorts, ob q_t_evidence_shops 8 [.ref q_t_evidence_shops_sort, .ref q_t_evidence_shops_sold, .ref q_t_evidence_shops_all, .int v_t_evidence_shops_size], aI cy q_t_evidence_shops_sort 12 v_t_evidence_shops_sort, aI cy q_t_evidence_shops_sold 12 v_t_evidence_shops_sold, aI cy q_t_evidence_shops_all 12 v_t_evidence_shops_all, aR cy 2 q_t_images 3 v_t_images, ob q_i1 2 [.ref q_i1_finds, .ref q_i1_seats, .ref q_i1_shops], ob q_i1_finds 3 [.ref q_i1_finds_place, .ref q_i1_finds_hour, .ref q_i1_finds_sort, .ref q_i1_finds_many, .int o26.2.2.2.2.1], aI cy q_i1_finds_place 8 o26.1, aI cy q_i1_finds_hour 8 o26.2.1, aI cy q_i1_finds_sort 8 o26.2.2.1, aI cy q_i1_finds_many 8 o26.2.2.2.1, ob q_i1_seats 7 [.ref q_i1_seats_sorts, .int o26.2.2.2.2.2.2.1], aI cy q_i1_seats_sorts 40 o26.2.2.2.2.2.1, ob q_i1_shops 8 [.ref q_i1_shops_sort, .ref q_i1_shops_sold, .ref q_i1_shops_all, .int o26.2.2.2.2.2.2.2.2.2.2], aI cy q_i1_shops_sort 12 o26.2.2.2.2.2.2.2.1, aI cy q_i1_shops_sold 12 o26.2.2.2.2.2.2.2.2.1, aI cy q_i1_shops_all 12 o26.2.2.2.2.2.2.2.2.2.1]) [0, 14, 15, 16, 17, 18, 19, 20, 21, 22, 23, 24, 25, 1, 2, 3, 4, 5, 6, 7, 8, 9, 10, 11, 12, 13] (by decide) rfl ?_
    obtain rfl := Option.some.inj hf
    exact v_iret C hr hlk dX11_image_43 rfl rfl rfl rfl
  · replace hf := (if_pos c2).symm.trans hf
    refine v_iconst (v := (-1)) C dX11_image_11 (by decide) ?_
    obtain rfl := Option.some.inj hf
    exact v_iret C hr hlk dX11_image_12 rfl rfl rfl rfl

abbrev rm_restore : Room := { frames := 4, cells := 0, slots := 0, locals := 88 }
def sp_restore (K : Nat) (v_t_images : Nat → Option Nat) (q_i1 : Nat) (v_t_imageCount : Int32) (v_t_evidence_finds_place : Nat → Int32) (v_t_evidence_finds_hour : Nat → Int32) (v_t_evidence_finds_sort : Nat → Int32) (v_t_evidence_finds_many : Nat → Int32) (v_t_evidence_finds_size : Int32) (v_t_evidence_seats_sorts : Nat → Int32) (v_t_evidence_seats_size : Int32) (v_t_evidence_shops_sort : Nat → Int32) (v_t_evidence_shops_sold : Nat → Int32) (v_t_evidence_shops_all : Nat → Int32) (v_t_evidence_shops_size : Int32) (v_i1_finds_place : Nat → Int32) (v_i1_finds_hour : Nat → Int32) (v_i1_finds_sort : Nat → Int32) (v_i1_finds_many : Nat → Int32) (v_i1_finds_size : Int32) (v_i1_seats_sorts : Nat → Int32) (v_i1_seats_size : Int32) (v_i1_shops_sort : Nat → Int32) (v_i1_shops_sold : Nat → Int32) (v_i1_shops_all : Nat → Int32) (v_i1_shops_size : Int32) : Option (Int32 × Int32 × (Nat → Int32) × (Nat → Int32) × (Nat → Int32) × (Nat → Int32) × Int32 × (Nat → Int32) × Int32 × (Nat → Int32) × (Nat → Int32) × (Nat → Int32) × Int32) :=
  (sp_within K (v_t_imageCount - 1) 3).bind fun o7 =>
    if o7 = 0 then
      some ((-1), v_t_imageCount, v_t_evidence_finds_place, v_t_evidence_finds_hour, v_t_evidence_finds_sort, v_t_evidence_finds_many, v_t_evidence_finds_size, v_t_evidence_seats_sorts, v_t_evidence_seats_size, v_t_evidence_shops_sort, v_t_evidence_shops_sold, v_t_evidence_shops_all, v_t_evidence_shops_size)
    else
      if inb (v_t_imageCount - 1) 3 then
        if v_t_images (v_t_imageCount - 1 : Int32).toNatClampNeg = some q_i1 then
          (sp_Evidence_copy K v_t_evidence_finds_place v_t_evidence_finds_hour v_t_evidence_finds_sort v_t_evidence_finds_many v_t_evidence_finds_size v_t_evidence_seats_sorts v_t_evidence_seats_size v_t_evidence_shops_sort v_t_evidence_shops_sold v_t_evidence_shops_all v_t_evidence_shops_size v_i1_finds_place v_i1_finds_hour v_i1_finds_sort v_i1_finds_many v_i1_finds_size v_i1_seats_sorts v_i1_seats_size v_i1_shops_sort v_i1_shops_sold v_i1_shops_all v_i1_shops_size).bind fun o38 =>
            some (v_t_imageCount - 1, v_t_imageCount - 1, o38.1, o38.2.1, o38.2.2.1, o38.2.2.2.1, o38.2.2.2.2.1, o38.2.2.2.2.2.1, o38.2.2.2.2.2.2.1, o38.2.2.2.2.2.2.2.1, o38.2.2.2.2.2.2.2.2.1, o38.2.2.2.2.2.2.2.2.2.1, o38.2.2.2.2.2.2.2.2.2.2)
        else none
      else none
set_option maxHeartbeats 4000000 in
set_option maxRecDepth 20000 in
theorem c_restore (l : Launch) (D : va_G) (cy : Nat → ClassId) (K : Nat) (q_t q_t_stories q_t_images q_t_piles q_t_tape q_t_varied q_t_evidence q_t_evidence_finds q_t_evidence_finds_place q_t_evidence_finds_hour q_t_evidence_finds_sort q_t_evidence_finds_many q_t_evidence_seats q_t_evidence_seats_sorts q_t_evidence_shops q_t_evidence_shops_sort q_t_evidence_shops_sold q_t_evidence_shops_all q_i1_finds q_i1_finds_place q_i1_finds_hour q_i1_finds_sort q_i1_finds_many q_i1_seats q_i1_seats_sorts q_i1_shops q_i1_shops_sort q_i1_shops_sold q_i1_shops_all q_t_run q_t_otherRun q_t_balance q_t_law q_t_draftLaw q_t_draftStory : Nat) (v_t_images : Nat → Option Nat) (q_i1 : Nat) (v_t_storyCount : Int32) (v_t_imageCount : Int32) (v_t_evidence_finds_place : Nat → Int32) (v_t_evidence_finds_hour : Nat → Int32) (v_t_evidence_finds_sort : Nat → Int32) (v_t_evidence_finds_many : Nat → Int32) (v_t_evidence_finds_size : Int32) (v_t_evidence_seats_sorts : Nat → Int32) (v_t_evidence_seats_size : Int32) (v_t_evidence_shops_sort : Nat → Int32) (v_t_evidence_shops_sold : Nat → Int32) (v_t_evidence_shops_all : Nat → Int32) (v_t_evidence_shops_size : Int32) (v_i1_finds_place : Nat → Int32) (v_i1_finds_hour : Nat → Int32) (v_i1_finds_sort : Nat → Int32) (v_i1_finds_many : Nat → Int32) (v_i1_finds_size : Int32) (v_i1_seats_sorts : Nat → Int32) (v_i1_seats_size : Int32) (v_i1_shops_sort : Nat → Int32) (v_i1_shops_sold : Nat → Int32) (v_i1_shops_all : Nat → Int32) (v_i1_shops_size : Int32) (out : Int32 × Int32 × (Nat → Int32) × (Nat → Int32) × (Nat → Int32) × (Nat → Int32) × Int32 × (Nat → Int32) × Int32 × (Nat → Int32) × (Nat → Int32) × (Nat → Int32) × Int32) (hf : sp_restore K v_t_images q_i1 v_t_imageCount v_t_evidence_finds_place v_t_evidence_finds_hour v_t_evidence_finds_sort v_t_evidence_finds_many v_t_evidence_finds_size v_t_evidence_seats_sorts v_t_evidence_seats_size v_t_evidence_shops_sort v_t_evidence_shops_sold v_t_evidence_shops_all v_t_evidence_shops_size v_i1_finds_place v_i1_finds_hour v_i1_finds_sort v_i1_finds_many v_i1_finds_size v_i1_seats_sorts v_i1_seats_size v_i1_shops_sort v_i1_shops_sold v_i1_shops_all v_i1_shops_size = some out) : Ct l yX11_restore cX11_restore 1 (some .int) rm_restore D cy [.ref q_t] [ob q_t 11 [.ref q_t_tape, .ref q_t_stories, .ref q_t_varied, .ref q_t_evidence, .ref q_t_images, .ref q_t_run, .ref q_t_otherRun, .ref q_t_piles, .ref q_t_balance, .ref q_t_law, .ref q_t_draftLaw, .ref q_t_draftStory, .int v_t_storyCount, .int v_t_imageCount], ob q_t_evidence 2 [.ref q_t_evidence_finds, .ref q_t_evidence_seats, .ref q_t_evidence_shops], ob q_t_evidence_finds 3 [.ref q_t_evidence_finds_place, .ref q_t_evidence_finds_hour, .ref q_t_evidence_finds_sort, .ref q_t_evidence_finds_many, .int v_t_evidence_finds_size], aI cy q_t_evidence_finds_place 8 v_t_evidence_finds_place, aI cy q_t_evidence_finds_hour 8 v_t_evidence_finds_hour, aI cy q_t_evidence_finds_sort 8 v_t_evidence_finds_sort, aI cy q_t_evidence_finds_many 8 v_t_evidence_finds_many, ob q_t_evidence_seats 7 [.ref q_t_evidence_seats_sorts, .int v_t_evidence_seats_size], aI cy q_t_evidence_seats_sorts 40 v_t_evidence_seats_sorts, ob q_t_evidence_shops 8 [.ref q_t_evidence_shops_sort, .ref q_t_evidence_shops_sold, .ref q_t_evidence_shops_all, .int v_t_evidence_shops_size], aI cy q_t_evidence_shops_sort 12 v_t_evidence_shops_sort, aI cy q_t_evidence_shops_sold 12 v_t_evidence_shops_sold, aI cy q_t_evidence_shops_all 12 v_t_evidence_shops_all, aR cy 2 q_t_images 3 v_t_images, ob q_i1 2 [.ref q_i1_finds, .ref q_i1_seats, .ref q_i1_shops], ob q_i1_finds 3 [.ref q_i1_finds_place, .ref q_i1_finds_hour, .ref q_i1_finds_sort, .ref q_i1_finds_many, .int v_i1_finds_size], aI cy q_i1_finds_place 8 v_i1_finds_place, aI cy q_i1_finds_hour 8 v_i1_finds_hour, aI cy q_i1_finds_sort 8 v_i1_finds_sort, aI cy q_i1_finds_many 8 v_i1_finds_many, ob q_i1_seats 7 [.ref q_i1_seats_sorts, .int v_i1_seats_size], aI cy q_i1_seats_sorts 40 v_i1_seats_sorts, ob q_i1_shops 8 [.ref q_i1_shops_sort, .ref q_i1_shops_sold, .ref q_i1_shops_all, .int v_i1_shops_size], aI cy q_i1_shops_sort 12 v_i1_shops_sort, aI cy q_i1_shops_sold 12 v_i1_shops_sold, aI cy q_i1_shops_all 12 v_i1_shops_all] (some (.int out.1)) [ob q_t 11 [.ref q_t_tape, .ref q_t_stories, .ref q_t_varied, .ref q_t_evidence, .ref q_t_images, .ref q_t_run, .ref q_t_otherRun, .ref q_t_piles, .ref q_t_balance, .ref q_t_law, .ref q_t_draftLaw, .ref q_t_draftStory, .int v_t_storyCount, .int out.2.1], ob q_t_evidence 2 [.ref q_t_evidence_finds, .ref q_t_evidence_seats, .ref q_t_evidence_shops], ob q_t_evidence_finds 3 [.ref q_t_evidence_finds_place, .ref q_t_evidence_finds_hour, .ref q_t_evidence_finds_sort, .ref q_t_evidence_finds_many, .int out.2.2.2.2.2.2.1], aI cy q_t_evidence_finds_place 8 out.2.2.1, aI cy q_t_evidence_finds_hour 8 out.2.2.2.1, aI cy q_t_evidence_finds_sort 8 out.2.2.2.2.1, aI cy q_t_evidence_finds_many 8 out.2.2.2.2.2.1, ob q_t_evidence_seats 7 [.ref q_t_evidence_seats_sorts, .int out.2.2.2.2.2.2.2.2.1], aI cy q_t_evidence_seats_sorts 40 out.2.2.2.2.2.2.2.1, ob q_t_evidence_shops 8 [.ref q_t_evidence_shops_sort, .ref q_t_evidence_shops_sold, .ref q_t_evidence_shops_all, .int out.2.2.2.2.2.2.2.2.2.2.2.2], aI cy q_t_evidence_shops_sort 12 out.2.2.2.2.2.2.2.2.2.1, aI cy q_t_evidence_shops_sold 12 out.2.2.2.2.2.2.2.2.2.2.1, aI cy q_t_evidence_shops_all 12 out.2.2.2.2.2.2.2.2.2.2.2.1, aR cy 2 q_t_images 3 v_t_images, ob q_i1 2 [.ref q_i1_finds, .ref q_i1_seats, .ref q_i1_shops], ob q_i1_finds 3 [.ref q_i1_finds_place, .ref q_i1_finds_hour, .ref q_i1_finds_sort, .ref q_i1_finds_many, .int v_i1_finds_size], aI cy q_i1_finds_place 8 v_i1_finds_place, aI cy q_i1_finds_hour 8 v_i1_finds_hour, aI cy q_i1_finds_sort 8 v_i1_finds_sort, aI cy q_i1_finds_many 8 v_i1_finds_many, ob q_i1_seats 7 [.ref q_i1_seats_sorts, .int v_i1_seats_size], aI cy q_i1_seats_sorts 40 v_i1_seats_sorts, ob q_i1_shops 8 [.ref q_i1_shops_sort, .ref q_i1_shops_sold, .ref q_i1_shops_all, .int v_i1_shops_size], aI cy q_i1_shops_sort 12 v_i1_shops_sort, aI cy q_i1_shops_sold 12 v_i1_shops_sold, aI cy q_i1_shops_all 12 v_i1_shops_all] := by
  refine ct_of (by decide +kernel) (Nat.le_of_ble_eq_true rfl) (fun p e s m args below meth c C hr hlk hnm => ?_)
  unfold sp_restore at hf
  refine v_aload_n C dX11_restore_0 0 rfl rfl ?_
  refine v_get C fl_X11_344 0 rfl rfl dX11_restore_1 ?_
  refine v_iconst (v := 1) C dX11_restore_4 (by decide) ?_
  refine v_isub C dX11_restore_5 ?_
  refine v_iconst (v := 3) C dX11_restore_6 (by decide) ?_
  obtain ⟨o7, g1, hf⟩ := bd_ hf
  refine v_callS0 (As := [.int (v_t_imageCount - 1), .int 3]) (st := []) (stk' := [.int o7]) C (c_within l D cy K   (v_t_imageCount - 1) 3 o7 g1) ls_X11_103 rfl (by decide) rfl dX11_restore_7 (Nat.le_of_ble_eq_true rfl) rfl ?_
  refine v_if_ne (tgt := 15) C dX11_restore_10 (by decide) (fun c2 => ?_) (fun c2 => ?_)
  · replace hf := (if_neg c2).symm.trans hf
    refine v_aload_n C dX11_restore_15 0 rfl rfl ?_
    refine v_dup C dX11_restore_16 rfl ?_
    refine v_get C fl_X11_344 0 rfl rfl dX11_restore_17 ?_
    refine v_iconst (v := 1) C dX11_restore_20 (by decide) ?_
    refine v_isub C dX11_restore_21 ?_
    refine v_put (ws' := [ob q_t 11 [.ref q_t_tape, .ref q_t_stories, .ref q_t_varied, .ref q_t_evidence, .ref q_t_images, .ref q_t_run, .ref q_t_otherRun, .ref q_t_piles, .ref q_t_balance, .ref q_t_law, .ref q_t_draftLaw, .ref q_t_draftStory, .int v_t_storyCount, .int (v_t_imageCount - 1)], ob q_t_evidence 2 [.ref q_t_evidence_finds, .ref q_t_evidence_seats, .ref q_t_evidence_shops], ob q_t_evidence_finds 3 [.ref q_t_evidence_finds_place, .ref q_t_evidence_finds_hour, .ref q_t_evidence_finds_sort, .ref q_t_evidence_finds_many, .int v_t_evidence_finds_size], aI cy q_t_evidence_finds_place 8 v_t_evidence_finds_place, aI cy q_t_evidence_finds_hour 8 v_t_evidence_finds_hour, aI cy q_t_evidence_finds_sort 8 v_t_evidence_finds_sort, aI cy q_t_evidence_finds_many 8 v_t_evidence_finds_many, ob q_t_evidence_seats 7 [.ref q_t_evidence_seats_sorts, .int v_t_evidence_seats_size], aI cy q_t_evidence_seats_sorts 40 v_t_evidence_seats_sorts, ob q_t_evidence_shops 8 [.ref q_t_evidence_shops_sort, .ref q_t_evidence_shops_sold, .ref q_t_evidence_shops_all, .int v_t_evidence_shops_size], aI cy q_t_evidence_shops_sort 12 v_t_evidence_shops_sort, aI cy q_t_evidence_shops_sold 12 v_t_evidence_shops_sold, aI cy q_t_evidence_shops_all 12 v_t_evidence_shops_all, aR cy 2 q_t_images 3 v_t_images, ob q_i1 2 [.ref q_i1_finds, .ref q_i1_seats, .ref q_i1_shops], ob q_i1_finds 3 [.ref q_i1_finds_place, .ref q_i1_finds_hour, .ref q_i1_finds_sort, .ref q_i1_finds_many, .int v_i1_finds_size], aI cy q_i1_finds_place 8 v_i1_finds_place, aI cy q_i1_finds_hour 8 v_i1_finds_hour, aI cy q_i1_finds_sort 8 v_i1_finds_sort, aI cy q_i1_finds_many 8 v_i1_finds_many, ob q_i1_seats 7 [.ref q_i1_seats_sorts, .int v_i1_seats_size], aI cy q_i1_seats_sorts 40 v_i1_seats_sorts, ob q_i1_shops 8 [.ref q_i1_shops_sort, .ref q_i1_shops_sold, .ref q_i1_shops_all, .int v_i1_shops_size], aI cy q_i1_shops_sort 12 v_i1_shops_sort, aI cy q_i1_shops_sold 12 v_i1_shops_sold, aI cy q_i1_shops_all 12 v_i1_shops_all]) C fp_X11_344 0 rfl rfl rfl (Nat.le_of_ble_eq_true rfl) rfl dX11_restore_22 ?_
    refine v_aload_n C dX11_restore_25 0 rfl rfl ?_
    refine v_get C fl_X11_43 0 rfl rfl dX11_restore_26 ?_
    refine v_aload_n C dX11_restore_29 0 rfl rfl ?_
    refine v_get C fl_X11_47 0 rfl rfl dX11_restore_30 ?_
    refine v_aload_n C dX11_restore_33 0 rfl rfl ?_
    refine v_get C fl_X11_344 0 rfl rfl dX11_restore_34 ?_
    obtain ⟨g3, hf⟩ := gd_ hf
    obtain ⟨g4, hf⟩ := gd_ hf
    refine v_aald (b := q_i1) C 13 rfl rfl g3 g4 dX11_restore_37 ?_
    obtain ⟨o38, g5, hf⟩ := bd_ hf
    refine v_callV (As := [.ref q_i1]) (wr := [ob q_t 11 [.ref q_t_tape, .ref q_t_stories, .ref q_t_varied, .ref q_t_evidence, .ref q_t_images, .ref q_t_run, .ref q_t_otherRun, .ref q_t_piles, .ref q_t_balance, .ref q_t_law, .ref q_t_draftLaw, .ref q_t_draftStory, .int v_t_storyCount, .int (v_t_imageCount - 1)], aR cy 2 q_t_images 3 v_t_images]) (ws' := [ob q_t 11 [.ref q_t_tape, .ref q_t_stories, .ref q_t_varied, .ref q_t_evidence, .ref q_t_images, .ref q_t_run, .ref q_t_otherRun, .ref q_t_piles, .ref q_t_balance, .ref q_t_law, .ref q_t_draftLaw, .ref q_t_draftStory, .int v_t_storyCount, .int (v_t_imageCount - 1)], aR cy 2 q_t_images 3 v_t_images, ob q_t_evidence 2 [.ref q_t_evidence_finds, .ref q_t_evidence_seats, .ref q_t_evidence_shops], ob q_t_evidence_finds 3 [.ref q_t_evidence_finds_place, .ref q_t_evidence_finds_hour, .ref q_t_evidence_finds_sort, .ref q_t_evidence_finds_many, .int o38.2.2.2.2.1], aI cy q_t_evidence_finds_place 8 o38.1, aI cy q_t_evidence_finds_hour 8 o38.2.1, aI cy q_t_evidence_finds_sort 8 o38.2.2.1, aI cy q_t_evidence_finds_many 8 o38.2.2.2.1, ob q_t_evidence_seats 7 [.ref q_t_evidence_seats_sorts, .int o38.2.2.2.2.2.2.1], aI cy q_t_evidence_seats_sorts 40 o38.2.2.2.2.2.1, ob q_t_evidence_shops 8 [.ref q_t_evidence_shops_sort, .ref q_t_evidence_shops_sold, .ref q_t_evidence_shops_all, .int o38.2.2.2.2.2.2.2.2.2.2], aI cy q_t_evidence_shops_sort 12 o38.2.2.2.2.2.2.2.1, aI cy q_t_evidence_shops_sold 12 o38.2.2.2.2.2.2.2.2.1, aI cy q_t_evidence_shops_all 12 o38.2.2.2.2.2.2.2.2.2.1, ob q_i1 2 [.ref q_i1_finds, .ref q_i1_seats, .ref q_i1_shops], ob q_i1_finds 3 [.ref q_i1_finds_place, .ref q_i1_finds_hour, .ref q_i1_finds_sort, .ref q_i1_finds_many, .int v_i1_finds_size], aI cy q_i1_finds_place 8 v_i1_finds_place, aI cy q_i1_finds_hour 8 v_i1_finds_hour, aI cy q_i1_finds_sort 8 v_i1_finds_sort, aI cy q_i1_finds_many 8 v_i1_finds_many, ob q_i1_seats 7 [.ref q_i1_seats_sorts, .int v_i1_seats_size], aI cy q_i1_seats_sorts 40 v_i1_seats_sorts, ob q_i1_shops 8 [.ref q_i1_shops_sort, .ref q_i1_shops_sold, .ref q_i1_shops_all, .int v_i1_shops_size], aI cy q_i1_shops_sort 12 v_i1_shops_sort, aI cy q_i1_shops_sold 12 v_i1_shops_sold, aI cy q_i1_shops_all 12 v_i1_shops_all]) (st := []) (stk' := []) C (c_Evidence_copy l D cy K q_t_evidence q_t_evidence_finds q_t_evidence_finds_place q_t_evidence_finds_hour q_t_evidence_finds_sort q_t_evidence_finds_many q_t_evidence_seats q_t_evidence_seats_sorts q_t_evidence_shops q_t_evidence_shops_sort q_t_evidence_shops_sold q_t_evidence_shops_all q_i1 q_i1_finds q_i1_finds_place q_i1_finds_hour q_i1_finds_sort q_i1_finds_many q_i1_seats q_i1_seats_sorts q_i1_shops q_i1_shops_sort q_i1_shops_sold q_i1_shops_all  v_t_evidence_finds_place v_t_evidence_finds_hour v_t_evidence_finds_sort v_t_evidence_finds_many v_t_evidence_finds_size v_t_evidence_seats_sorts v_t_evidence_seats_size v_t_evidence_shops_sort v_t_evidence_shops_sold v_t_evidence_shops_all v_t_evidence_shops_size v_i1_finds_place v_i1_finds_hour v_i1_finds_sort v_i1_finds_many v_i1_finds_size v_i1_seats_sorts v_i1_seats_size v_i1_shops_sort v_i1_shops_sold v_i1_shops_all v_i1_shops_size o38 g5) lv_X11_347 rfl (by decide) rfl 1 rfl rfl rfl dX11_restore_38 [1, 2, 3, 4, 5, 6, 7, 8, 9, 10, 11, 12, 14, 15, 16, 17, 18, 19, 20, 21, 22, 23, 24, 25] [0, 13] (by decide) rfl rfl (by decide) (by decide) (Nat.le_of_ble_eq_true rfl) rfl rfl ?_
    refine v_aload_n C dX11_restore_41 0 rfl rfl ?_
    refine v_get C fl_X11_344 0 rfl rfl dX11_restore_42 ?_
    refine v_ws (ws' := [ob q_t 11 [.ref q_t_tape, .ref q_t_stories, .ref q_t_varied, .ref q_t_evidence, .ref q_t_images, .ref q_t_run, .ref q_t_otherRun, .ref q_t_piles, .ref q_t_balance, .ref q_t_law, .ref q_t_draftLaw, .ref q_t_draftStory, .int v_t_storyCount, .int (v_t_imageCount - 1)], ob q_t_evidence 2 [.ref q_t_evidence_finds, .ref q_t_evidence_seats, .ref q_t_evidence_shops], ob q_t_evidence_finds 3 [.ref q_t_evidence_finds_place, .ref q_t_evidence_finds_hour, .ref q_t_evidence_finds_sort, .ref q_t_evidence_finds_many, .int o38.2.2.2.2.1], aI cy q_t_evidence_finds_place 8 o38.1, aI cy q_t_evidence_finds_hour 8 o38.2.1, aI cy q_t_evidence_finds_sort 8 o38.2.2.1, aI cy q_t_evidence_finds_many 8 o38.2.2.2.1, ob q_t_evidence_seats 7 [.ref q_t_evidence_seats_sorts, .int o38.2.2.2.2.2.2.1], aI cy q_t_evidence_seats_sorts 40 o38.2.2.2.2.2.1, ob q_t_evidence_shops 8 [.ref q_t_evidence_shops_sort, .ref q_t_evidence_shops_sold, .ref q_t_evidence_shops_all, .int o38.2.2.2.2.2.2.2.2.2.2], aI cy q_t_evidence_shops_sort 12 o38.2.2.2.2.2.2.2.1, aI cy q_t_evidence_shops_sold 12 o38.2.2.2.2.2.2.2.2.1, aI cy q_t_evidence_shops_all 12 o38.2.2.2.2.2.2.2.2.2.1, aR cy 2 q_t_images 3 v_t_images, ob q_i1 2 [.ref q_i1_finds, .ref q_i1_seats, .ref q_i1_shops], ob q_i1_finds 3 [.ref q_i1_finds_place, .ref q_i1_finds_hour, .ref q_i1_finds_sort, .ref q_i1_finds_many, .int v_i1_finds_size], aI cy q_i1_finds_place 8 v_i1_finds_place, aI cy q_i1_finds_hour 8 v_i1_finds_hour, aI cy q_i1_finds_sort 8 v_i1_finds_sort, aI cy q_i1_finds_many 8 v_i1_finds_many, ob q_i1_seats 7 [.ref q_i1_seats_sorts, .int v_i1_seats_size], aI cy q_i1_seats_sorts 40 v_i1_seats_sorts, ob q_i1_shops 8 [.ref q_i1_shops_sort, .ref q_i1_shops_sold, .ref q_i1_shops_all, .int v_i1_shops_size], aI cy q_i1_shops_sort 12 v_i1_shops_sort, aI cy q_i1_shops_sold 12 v_i1_shops_sold, aI cy q_i1_shops_all 12 v_i1_shops_all]) [0, 2, 3, 4, 5, 6, 7, 8, 9, 10, 11, 12, 13, 1, 14, 15, 16, 17, 18, 19, 20, 21, 22, 23, 24, 25] (by decide) rfl ?_
    obtain rfl := Option.some.inj hf
    exact v_iret C hr hlk dX11_restore_45 rfl rfl rfl rfl
  · replace hf := (if_pos c2).symm.trans hf
    refine v_iconst (v := (-1)) C dX11_restore_13 (by decide) ?_
    obtain rfl := Option.some.inj hf
    exact v_iret C hr hlk dX11_restore_14 rfl rfl rfl rfl

abbrev rm_count : Room := { frames := 0, cells := 0, slots := 0, locals := 0 }
def sp_count (K : Nat) (p1 : Int32) (v_t_storyCount : Int32) (v_t_imageCount : Int32) (v_t_tape_size : Int32) (v_t_evidence_finds_size : Int32) (v_t_evidence_seats_size : Int32) (v_t_evidence_shops_size : Int32) (v_t_law_clauses : Int32) : Option (Int32) :=
  if p1 = 0 then
    some v_t_law_clauses
  else
    if p1 = 1 then
      some v_t_storyCount
    else
      if p1 = 2 then
        some v_t_evidence_finds_size
      else
        if p1 = 3 then
          some v_t_evidence_seats_size
        else
          if p1 = 4 then
            some v_t_evidence_shops_size
          else
            if p1 = 5 then
              some v_t_imageCount
            else
              if p1 = 6 then
                some v_t_tape_size
              else
                some (-1)
set_option maxHeartbeats 4000000 in
set_option maxRecDepth 20000 in
theorem c_count (l : Launch) (D : va_G) (cy : Nat → ClassId) (K : Nat) (q_t q_t_stories q_t_images q_t_piles q_t_tape q_t_tape_bytes q_t_varied q_t_evidence q_t_evidence_finds q_t_evidence_finds_place q_t_evidence_finds_hour q_t_evidence_finds_sort q_t_evidence_finds_many q_t_evidence_seats q_t_evidence_seats_sorts q_t_evidence_shops q_t_evidence_shops_sort q_t_evidence_shops_sold q_t_evidence_shops_all q_t_run q_t_otherRun q_t_balance q_t_law q_t_law_shed q_t_law_hold q_t_law_common q_t_law_alikes q_t_draftLaw q_t_draftStory : Nat) (p1 : Int32) (v_t_storyCount : Int32) (v_t_imageCount : Int32) (v_t_tape_bytes : Nat → Int32) (v_t_tape_size : Int32) (v_t_tape_end : Int32) (v_t_tape_at : Int32) (v_t_tape_start : Int32) (v_t_tape_faultKind : Int32) (v_t_tape_faultPlace : Int32) (v_t_evidence_finds_place : Nat → Int32) (v_t_evidence_finds_hour : Nat → Int32) (v_t_evidence_finds_sort : Nat → Int32) (v_t_evidence_finds_many : Nat → Int32) (v_t_evidence_finds_size : Int32) (v_t_evidence_seats_sorts : Nat → Int32) (v_t_evidence_seats_size : Int32) (v_t_evidence_shops_sort : Nat → Int32) (v_t_evidence_shops_sold : Nat → Int32) (v_t_evidence_shops_all : Nat → Int32) (v_t_evidence_shops_size : Int32) (v_t_law_shed : Nat → Int32) (v_t_law_hold : Nat → Int32) (v_t_law_common : Nat → Int32) (v_t_law_alikes : Nat → Int32) (v_t_law_wash : Int32) (v_t_law_pass : Int32) (v_t_law_take : Int32) (v_t_law_clauses : Int32) (out : Int32) (hf : sp_count K p1 v_t_storyCount v_t_imageCount v_t_tape_size v_t_evidence_finds_size v_t_evidence_seats_size v_t_evidence_shops_size v_t_law_clauses = some out) : Ct l yX11_count cX11_count 2 (some .int) rm_count D cy [.ref q_t, .int p1] [ob q_t 11 [.ref q_t_tape, .ref q_t_stories, .ref q_t_varied, .ref q_t_evidence, .ref q_t_images, .ref q_t_run, .ref q_t_otherRun, .ref q_t_piles, .ref q_t_balance, .ref q_t_law, .ref q_t_draftLaw, .ref q_t_draftStory, .int v_t_storyCount, .int v_t_imageCount], ob q_t_tape 10 [.ref q_t_tape_bytes, .int v_t_tape_size, .int v_t_tape_end, .int v_t_tape_at, .int v_t_tape_start, .int v_t_tape_faultKind, .int v_t_tape_faultPlace], aB cy q_t_tape_bytes 400 v_t_tape_bytes, ob q_t_evidence 2 [.ref q_t_evidence_finds, .ref q_t_evidence_seats, .ref q_t_evidence_shops], ob q_t_evidence_finds 3 [.ref q_t_evidence_finds_place, .ref q_t_evidence_finds_hour, .ref q_t_evidence_finds_sort, .ref q_t_evidence_finds_many, .int v_t_evidence_finds_size], aI cy q_t_evidence_finds_place 8 v_t_evidence_finds_place, aI cy q_t_evidence_finds_hour 8 v_t_evidence_finds_hour, aI cy q_t_evidence_finds_sort 8 v_t_evidence_finds_sort, aI cy q_t_evidence_finds_many 8 v_t_evidence_finds_many, ob q_t_evidence_seats 7 [.ref q_t_evidence_seats_sorts, .int v_t_evidence_seats_size], aI cy q_t_evidence_seats_sorts 40 v_t_evidence_seats_sorts, ob q_t_evidence_shops 8 [.ref q_t_evidence_shops_sort, .ref q_t_evidence_shops_sold, .ref q_t_evidence_shops_all, .int v_t_evidence_shops_size], aI cy q_t_evidence_shops_sort 12 v_t_evidence_shops_sort, aI cy q_t_evidence_shops_sold 12 v_t_evidence_shops_sold, aI cy q_t_evidence_shops_all 12 v_t_evidence_shops_all, ob q_t_law 5 [.ref q_t_law_shed, .ref q_t_law_hold, .ref q_t_law_common, .ref q_t_law_alikes, .int v_t_law_wash, .int v_t_law_pass, .int v_t_law_take, .int v_t_law_clauses], aI cy q_t_law_shed 80 v_t_law_shed, aI cy q_t_law_hold 10 v_t_law_hold, aI cy q_t_law_common 10 v_t_law_common, aI cy q_t_law_alikes 10 v_t_law_alikes] (some (.int out)) [ob q_t 11 [.ref q_t_tape, .ref q_t_stories, .ref q_t_varied, .ref q_t_evidence, .ref q_t_images, .ref q_t_run, .ref q_t_otherRun, .ref q_t_piles, .ref q_t_balance, .ref q_t_law, .ref q_t_draftLaw, .ref q_t_draftStory, .int v_t_storyCount, .int v_t_imageCount], ob q_t_tape 10 [.ref q_t_tape_bytes, .int v_t_tape_size, .int v_t_tape_end, .int v_t_tape_at, .int v_t_tape_start, .int v_t_tape_faultKind, .int v_t_tape_faultPlace], aB cy q_t_tape_bytes 400 v_t_tape_bytes, ob q_t_evidence 2 [.ref q_t_evidence_finds, .ref q_t_evidence_seats, .ref q_t_evidence_shops], ob q_t_evidence_finds 3 [.ref q_t_evidence_finds_place, .ref q_t_evidence_finds_hour, .ref q_t_evidence_finds_sort, .ref q_t_evidence_finds_many, .int v_t_evidence_finds_size], aI cy q_t_evidence_finds_place 8 v_t_evidence_finds_place, aI cy q_t_evidence_finds_hour 8 v_t_evidence_finds_hour, aI cy q_t_evidence_finds_sort 8 v_t_evidence_finds_sort, aI cy q_t_evidence_finds_many 8 v_t_evidence_finds_many, ob q_t_evidence_seats 7 [.ref q_t_evidence_seats_sorts, .int v_t_evidence_seats_size], aI cy q_t_evidence_seats_sorts 40 v_t_evidence_seats_sorts, ob q_t_evidence_shops 8 [.ref q_t_evidence_shops_sort, .ref q_t_evidence_shops_sold, .ref q_t_evidence_shops_all, .int v_t_evidence_shops_size], aI cy q_t_evidence_shops_sort 12 v_t_evidence_shops_sort, aI cy q_t_evidence_shops_sold 12 v_t_evidence_shops_sold, aI cy q_t_evidence_shops_all 12 v_t_evidence_shops_all, ob q_t_law 5 [.ref q_t_law_shed, .ref q_t_law_hold, .ref q_t_law_common, .ref q_t_law_alikes, .int v_t_law_wash, .int v_t_law_pass, .int v_t_law_take, .int v_t_law_clauses], aI cy q_t_law_shed 80 v_t_law_shed, aI cy q_t_law_hold 10 v_t_law_hold, aI cy q_t_law_common 10 v_t_law_common, aI cy q_t_law_alikes 10 v_t_law_alikes] := by
  refine ct_of (by decide +kernel) (Nat.le_of_ble_eq_true rfl) (fun p e s m args below meth c C hr hlk hnm => ?_)
  unfold sp_count at hf
  refine v_iload_n C dX11_count_0 1 rfl rfl ?_
  by_cases c1 : p1 = 0
  · replace hf := (if_pos c1).symm.trans hf
    refine v_tsw (tgt := 44) (off := 43) C 0 c1 dX11_count_1 (by decide) (by decide) rfl (by decide) ?_
    refine v_aload_n C dX11_count_44 0 rfl rfl ?_
    refine v_get C fl_X11_19 0 rfl rfl dX11_count_45 ?_
    refine v_get C fl_X11_97 15 rfl rfl dX11_count_48 ?_
    obtain rfl := Option.some.inj hf
    exact v_iret C hr hlk dX11_count_51 rfl rfl rfl rfl
  · replace hf := (if_neg c1).symm.trans hf
    by_cases c2 : p1 = 1
    · replace hf := (if_pos c2).symm.trans hf
      refine v_tsw (tgt := 52) (off := 51) C 1 c2 dX11_count_1 (by decide) (by decide) rfl (by decide) ?_
      refine v_aload_n C dX11_count_52 0 rfl rfl ?_
      refine v_get C fl_X11_100 0 rfl rfl dX11_count_53 ?_
      obtain rfl := Option.some.inj hf
      exact v_iret C hr hlk dX11_count_56 rfl rfl rfl rfl
    · replace hf := (if_neg c2).symm.trans hf
      by_cases c3 : p1 = 2
      · replace hf := (if_pos c3).symm.trans hf
        refine v_tsw (tgt := 57) (off := 56) C 2 c3 dX11_count_1 (by decide) (by decide) rfl (by decide) ?_
        refine v_aload_n C dX11_count_57 0 rfl rfl ?_
        refine v_get C fl_X11_43 0 rfl rfl dX11_count_58 ?_
        refine v_get C fl_X11_181 3 rfl rfl dX11_count_61 ?_
        refine v_get C fl_X11_191 4 rfl rfl dX11_count_64 ?_
        obtain rfl := Option.some.inj hf
        exact v_iret C hr hlk dX11_count_67 rfl rfl rfl rfl
      · replace hf := (if_neg c3).symm.trans hf
        by_cases c4 : p1 = 3
        · replace hf := (if_pos c4).symm.trans hf
          refine v_tsw (tgt := 68) (off := 67) C 3 c4 dX11_count_1 (by decide) (by decide) rfl (by decide) ?_
          refine v_aload_n C dX11_count_68 0 rfl rfl ?_
          refine v_get C fl_X11_43 0 rfl rfl dX11_count_69 ?_
          refine v_get C fl_X11_313 3 rfl rfl dX11_count_72 ?_
          refine v_get C fl_X11_324 9 rfl rfl dX11_count_75 ?_
          obtain rfl := Option.some.inj hf
          exact v_iret C hr hlk dX11_count_78 rfl rfl rfl rfl
        · replace hf := (if_neg c4).symm.trans hf
          by_cases c5 : p1 = 4
          · replace hf := (if_pos c5).symm.trans hf
            refine v_tsw (tgt := 79) (off := 78) C 4 c5 dX11_count_1 (by decide) (by decide) rfl (by decide) ?_
            refine v_aload_n C dX11_count_79 0 rfl rfl ?_
            refine v_get C fl_X11_43 0 rfl rfl dX11_count_80 ?_
            refine v_get C fl_X11_327 3 rfl rfl dX11_count_83 ?_
            refine v_get C fl_X11_351 11 rfl rfl dX11_count_86 ?_
            obtain rfl := Option.some.inj hf
            exact v_iret C hr hlk dX11_count_89 rfl rfl rfl rfl
          · replace hf := (if_neg c5).symm.trans hf
            by_cases c6 : p1 = 5
            · replace hf := (if_pos c6).symm.trans hf
              refine v_tsw (tgt := 90) (off := 89) C 5 c6 dX11_count_1 (by decide) (by decide) rfl (by decide) ?_
              refine v_aload_n C dX11_count_90 0 rfl rfl ?_
              refine v_get C fl_X11_344 0 rfl rfl dX11_count_91 ?_
              obtain rfl := Option.some.inj hf
              exact v_iret C hr hlk dX11_count_94 rfl rfl rfl rfl
            · replace hf := (if_neg c6).symm.trans hf
              by_cases c7 : p1 = 6
              · replace hf := (if_pos c7).symm.trans hf
                refine v_tsw (tgt := 95) (off := 94) C 6 c7 dX11_count_1 (by decide) (by decide) rfl (by decide) ?_
                refine v_aload_n C dX11_count_95 0 rfl rfl ?_
                refine v_get C fl_X11_10 0 rfl rfl dX11_count_96 ?_
                refine v_get C fl_X11_74 1 rfl rfl dX11_count_99 ?_
                obtain rfl := Option.some.inj hf
                exact v_iret C hr hlk dX11_count_102 rfl rfl rfl rfl
              · replace hf := (if_neg c7).symm.trans hf
                refine v_tswO (tgt := 103) C dX11_count_1 (by have e0 := lv_neT (a := 0) c1 rfl; have e1 := lv_neT (a := 1) c2 rfl; have e2 := lv_neT (a := 2) c3 rfl; have e3 := lv_neT (a := 3) c4 rfl; have e4 := lv_neT (a := 4) c5 rfl; have e5 := lv_neT (a := 5) c6 rfl; have e6 := lv_neT (a := 6) c7 rfl; omega) (by decide) ?_
                refine v_iconst (v := (-1)) C dX11_count_103 (by decide) ?_
                obtain rfl := Option.some.inj hf
                exact v_iret C hr hlk dX11_count_104 rfl rfl rfl rfl
