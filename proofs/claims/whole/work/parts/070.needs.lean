abbrev rm_needBelow : Room := { frames := 6, cells := 1, slots := 6, locals := 82 }
def sp_needBelow (K : Nat) (p0 : Int32) (p1 : Int32) : Option (Nat ⊕ (Unit)) :=
  (sp_within K p0 p1).bind fun o2 =>
    if o2 = 0 then
      some (.inl 0)
    else
      some (.inr ())
set_option maxHeartbeats 4000000 in
set_option maxRecDepth 20000 in
theorem c_needBelow (l : Launch) (D : va_G) (cy : Nat → ClassId) (K : Nat) (hl : l.stackTraces = false) (adK adV : Nat → Nat) (p0 : Int32) (p1 : Int32) (out : Nat ⊕ (Unit)) (hf : sp_needBelow K p0 p1 = some out) : CX l yX11_needBelow cX11_needBelow 2 none rm_needBelow D cy adK adV [.int p0, .int p1] [] (Sum.elim (fun c9 => Sum.inl (EN c9)) (fun o9 => Sum.inr (none, [])) out) := by
  refine cx_of (by decide +kernel) (Nat.le_of_ble_eq_true rfl) (fun p e s m args below meth c C hO hex hr hlk => ?_)
  unfold sp_needBelow at hf
  refine v_iload_n C dX11_needBelow_0 0 rfl rfl ?_
  refine v_iload_n C dX11_needBelow_1 1 rfl rfl ?_
  obtain ⟨o2, g1, hf⟩ := bd_ hf
  refine v_callS0 (As := [.int p0, .int p1]) (st := []) (stk' := [.int o2]) C (c_within l D cy K   p0 p1 o2 g1) ls_X11_103 rfl (by decide) rfl dX11_needBelow_2 (Nat.le_of_ble_eq_true rfl) rfl ?_
  refine v_if_ne (tgt := 19) C dX11_needBelow_5 (by decide) (fun c2 => ?_) (fun c2 => ?_)
  · replace hf := (if_neg c2).symm.trans hf
    obtain rfl := Option.some.inj hf
    exact v_vretX C hr hlk dX11_needBelow_19 (Nat.le_of_ble_eq_true rfl) (Nat.le_of_ble_eq_true rfl) rfl
  · replace hf := (if_pos c2).symm.trans hf
    obtain rfl := Option.some.inj hf
    exact v_throwW (i := 14) (t := "no such number") C hO hl hex hlk xa_0_115 xk_111 rfl xo_111 dX11_needBelow_8 dX11_needBelow_11 dX11_needBelow_12 dX11_needBelow_15 dX11_needBelow_18 ⟨Nat.le_of_ble_eq_true rfl, Nat.le_of_ble_eq_true rfl⟩ (Nat.le_of_ble_eq_true rfl) (Nat.le_of_ble_eq_true rfl) rfl rfl

abbrev rm_needIndex : Room := { frames := 6, cells := 1, slots := 6, locals := 82 }
def sp_needIndex (K : Nat) (p0 : Int32) (p1 : Int32) : Option (Nat ⊕ (Unit)) :=
  (sp_within K p0 p1).bind fun o2 =>
    if o2 = 0 then
      some (.inl 2)
    else
      some (.inr ())
set_option maxHeartbeats 4000000 in
set_option maxRecDepth 20000 in
theorem c_needIndex (l : Launch) (D : va_G) (cy : Nat → ClassId) (K : Nat) (hl : l.stackTraces = false) (adK adV : Nat → Nat) (p0 : Int32) (p1 : Int32) (out : Nat ⊕ (Unit)) (hf : sp_needIndex K p0 p1 = some out) : CX l yX11_needIndex cX11_needIndex 2 none rm_needIndex D cy adK adV [.int p0, .int p1] [] (Sum.elim (fun c9 => Sum.inl (EN c9)) (fun o9 => Sum.inr (none, [])) out) := by
  refine cx_of (by decide +kernel) (Nat.le_of_ble_eq_true rfl) (fun p e s m args below meth c C hO hex hr hlk => ?_)
  unfold sp_needIndex at hf
  refine v_iload_n C dX11_needIndex_0 0 rfl rfl ?_
  refine v_iload_n C dX11_needIndex_1 1 rfl rfl ?_
  obtain ⟨o2, g1, hf⟩ := bd_ hf
  refine v_callS0 (As := [.int p0, .int p1]) (st := []) (stk' := [.int o2]) C (c_within l D cy K   p0 p1 o2 g1) ls_X11_103 rfl (by decide) rfl dX11_needIndex_2 (Nat.le_of_ble_eq_true rfl) rfl ?_
  refine v_if_ne (tgt := 19) C dX11_needIndex_5 (by decide) (fun c2 => ?_) (fun c2 => ?_)
  · replace hf := (if_neg c2).symm.trans hf
    obtain rfl := Option.some.inj hf
    exact v_vretX C hr hlk dX11_needIndex_19 (Nat.le_of_ble_eq_true rfl) (Nat.le_of_ble_eq_true rfl) rfl
  · replace hf := (if_pos c2).symm.trans hf
    obtain rfl := Option.some.inj hf
    exact v_throwW (i := 17) (t := "no such index") C hO hl hex hlk xa_2_358 xk_354 rfl xo_354 dX11_needIndex_8 dX11_needIndex_11 dX11_needIndex_12 dX11_needIndex_15 dX11_needIndex_18 ⟨Nat.le_of_ble_eq_true rfl, Nat.le_of_ble_eq_true rfl⟩ (Nat.le_of_ble_eq_true rfl) (Nat.le_of_ble_eq_true rfl) rfl rfl

abbrev rm_storyAt : Room := { frames := 6, cells := 1, slots := 6, locals := 82 }
def sp_storyAt (K : Nat) (p1 : Int32) (v_t_stories : Nat → Option Nat) (q_y : Nat) (v_t_storyCount : Int32) : Option (Nat ⊕ (Unit)) :=
  (sp_within K p1 v_t_storyCount).bind fun o5 =>
    if o5 = 0 then
      some (.inl 1)
    else
      (sp_within K p1 4).bind fun o13 =>
        if o13 = 0 then
          some (.inl 1)
        else
          if inb p1 4 then
            if v_t_stories p1.toNatClampNeg = some q_y then
              some (.inr ())
            else none
          else none
set_option maxHeartbeats 4000000 in
set_option maxRecDepth 20000 in
theorem c_storyAt (l : Launch) (D : va_G) (cy : Nat → ClassId) (K : Nat) (hl : l.stackTraces = false) (adK adV : Nat → Nat) (q_t q_t_stories q_t_images q_t_piles q_t_tape q_t_varied q_t_evidence q_t_run q_t_otherRun q_t_balance q_t_law q_t_draftLaw q_t_draftStory : Nat) (p1 : Int32) (v_t_stories : Nat → Option Nat) (q_y : Nat) (v_t_storyCount : Int32) (v_t_imageCount : Int32) (out : Nat ⊕ (Unit)) (hf : sp_storyAt K p1 v_t_stories q_y v_t_storyCount = some out) : CX l yX11_storyAt cX11_storyAt 2 (some (.object "WoolThreads$Story")) rm_storyAt D cy adK adV [.ref q_t, .int p1] [ob q_t 11 [.ref q_t_tape, .ref q_t_stories, .ref q_t_varied, .ref q_t_evidence, .ref q_t_images, .ref q_t_run, .ref q_t_otherRun, .ref q_t_piles, .ref q_t_balance, .ref q_t_law, .ref q_t_draftLaw, .ref q_t_draftStory, .int v_t_storyCount, .int v_t_imageCount], aR cy 3 q_t_stories 4 v_t_stories] (Sum.elim (fun c9 => Sum.inl (EN c9)) (fun o9 => Sum.inr ((some (.ref q_y)), [ob q_t 11 [.ref q_t_tape, .ref q_t_stories, .ref q_t_varied, .ref q_t_evidence, .ref q_t_images, .ref q_t_run, .ref q_t_otherRun, .ref q_t_piles, .ref q_t_balance, .ref q_t_law, .ref q_t_draftLaw, .ref q_t_draftStory, .int v_t_storyCount, .int v_t_imageCount], aR cy 3 q_t_stories 4 v_t_stories])) out) := by
  refine cx_of (by decide +kernel) (Nat.le_of_ble_eq_true rfl) (fun p e s m args below meth c C hO hex hr hlk => ?_)
  unfold sp_storyAt at hf
  refine v_iload_n C dX11_storyAt_0 1 rfl rfl ?_
  refine v_aload_n C dX11_storyAt_1 0 rfl rfl ?_
  refine v_get C fl_X11_100 0 rfl rfl dX11_storyAt_2 ?_
  obtain ⟨o5, g1, hf⟩ := bd_ hf
  refine v_callS0 (As := [.int p1, .int v_t_storyCount]) (st := []) (stk' := [.int o5]) C (c_within l D cy K   p1 v_t_storyCount o5 g1) ls_X11_103 rfl (by decide) rfl dX11_storyAt_5 (Nat.le_of_ble_eq_true rfl) rfl ?_
  refine v_if_eq (tgt := 19) C dX11_storyAt_8 (by decide) (fun c2 => ?_) (fun c2 => ?_)
  · replace hf := (if_pos c2).symm.trans hf
    obtain rfl := Option.some.inj hf
    exact v_throwH (i := 16) (t := "no such story") C hO hl hex hlk xd_0 xd_1 xd_2 xd_5 xh_363 xk_359 rfl xo_359 dX11_storyAt_19 dX11_storyAt_22 dX11_storyAt_23 dX11_storyAt_26 dX11_storyAt_29 ⟨Nat.le_of_ble_eq_true rfl, Nat.le_of_ble_eq_true rfl⟩ (Nat.le_of_ble_eq_true rfl) (Nat.le_of_ble_eq_true rfl) rfl rfl
  · replace hf := (if_neg c2).symm.trans hf
    refine v_iload_n C dX11_storyAt_11 1 rfl rfl ?_
    refine v_iconst (v := 4) C dX11_storyAt_12 (by decide) ?_
    obtain ⟨o13, g3, hf⟩ := bd_ hf
    refine v_callS0 (As := [.int p1, .int 4]) (st := []) (stk' := [.int o13]) C (c_within l D cy K   p1 4 o13 g3) ls_X11_103 rfl (by decide) rfl dX11_storyAt_13 (Nat.le_of_ble_eq_true rfl) rfl ?_
    refine v_if_ne (tgt := 30) C dX11_storyAt_16 (by decide) (fun c4 => ?_) (fun c4 => ?_)
    · replace hf := (if_neg c4).symm.trans hf
      refine v_aload_n C dX11_storyAt_30 0 rfl rfl ?_
      refine v_get C fl_X11_28 0 rfl rfl dX11_storyAt_31 ?_
      refine v_iload_n C dX11_storyAt_34 1 rfl rfl ?_
      obtain ⟨g5, hf⟩ := gd_ hf
      obtain ⟨g6, hf⟩ := gd_ hf
      refine v_aald (b := q_y) C 1 rfl rfl g5 g6 dX11_storyAt_35 ?_
      obtain rfl := Option.some.inj hf
      exact v_aretX C hr (Or.inl ⟨_, rfl⟩) hlk dX11_storyAt_36 (Nat.le_of_ble_eq_true rfl) (Nat.le_of_ble_eq_true rfl) rfl
    · replace hf := (if_pos c4).symm.trans hf
      obtain rfl := Option.some.inj hf
      exact v_throwH (i := 16) (t := "no such story") C hO hl hex hlk xd_0 xd_1 xd_2 xd_5 xh_363 xk_359 rfl xo_359 dX11_storyAt_19 dX11_storyAt_22 dX11_storyAt_23 dX11_storyAt_26 dX11_storyAt_29 ⟨Nat.le_of_ble_eq_true rfl, Nat.le_of_ble_eq_true rfl⟩ (Nat.le_of_ble_eq_true rfl) (Nat.le_of_ble_eq_true rfl) rfl rfl

abbrev rm_openText : Room := { frames := 6, cells := 1, slots := 6, locals := 82 }
def sp_openText (K : Nat) (p1 : Int32) (p2 : Int32) (v_t_tape_size : Int32) (v_t_tape_end : Int32) (v_t_tape_at : Int32) (v_t_tape_start : Int32) (v_t_tape_faultKind : Int32) (v_t_tape_faultPlace : Int32) : Option (Nat ⊕ (Int32 × Int32 × Int32 × Int32 × Int32 × Int32)) :=
  if p1 < 0 then
    some (.inl 0)
  else
    if v_t_tape_size < p1 then
      some (.inl 0)
    else
      if p1 ≤ p2 then
        (sp_Tape_open K p1 v_t_tape_size v_t_tape_end v_t_tape_at v_t_tape_start v_t_tape_faultKind v_t_tape_faultPlace).bind fun o35 =>
          some (.inr (o35.1, o35.2.1, o35.2.2.1, o35.2.2.2.1, o35.2.2.2.2.1, o35.2.2.2.2.2))
      else
        some (.inl 0)
set_option maxHeartbeats 4000000 in
set_option maxRecDepth 20000 in
theorem c_openText (l : Launch) (D : va_G) (cy : Nat → ClassId) (K : Nat) (hl : l.stackTraces = false) (adK adV : Nat → Nat) (q_t q_t_stories q_t_images q_t_piles q_t_tape q_t_tape_bytes q_t_varied q_t_evidence q_t_run q_t_otherRun q_t_balance q_t_law q_t_draftLaw q_t_draftStory : Nat) (p1 : Int32) (p2 : Int32) (v_t_storyCount : Int32) (v_t_imageCount : Int32) (v_t_tape_bytes : Nat → Int32) (v_t_tape_size : Int32) (v_t_tape_end : Int32) (v_t_tape_at : Int32) (v_t_tape_start : Int32) (v_t_tape_faultKind : Int32) (v_t_tape_faultPlace : Int32) (out : Nat ⊕ (Int32 × Int32 × Int32 × Int32 × Int32 × Int32)) (hf : sp_openText K p1 p2 v_t_tape_size v_t_tape_end v_t_tape_at v_t_tape_start v_t_tape_faultKind v_t_tape_faultPlace = some out) : CX l yX11_openText cX11_openText 3 none rm_openText D cy adK adV [.ref q_t, .int p1, .int p2] [ob q_t 11 [.ref q_t_tape, .ref q_t_stories, .ref q_t_varied, .ref q_t_evidence, .ref q_t_images, .ref q_t_run, .ref q_t_otherRun, .ref q_t_piles, .ref q_t_balance, .ref q_t_law, .ref q_t_draftLaw, .ref q_t_draftStory, .int v_t_storyCount, .int v_t_imageCount], ob q_t_tape 10 [.ref q_t_tape_bytes, .int v_t_tape_size, .int v_t_tape_end, .int v_t_tape_at, .int v_t_tape_start, .int v_t_tape_faultKind, .int v_t_tape_faultPlace], aB cy q_t_tape_bytes 400 v_t_tape_bytes] (Sum.elim (fun c9 => Sum.inl (EN c9)) (fun o9 => Sum.inr (none, [ob q_t 11 [.ref q_t_tape, .ref q_t_stories, .ref q_t_varied, .ref q_t_evidence, .ref q_t_images, .ref q_t_run, .ref q_t_otherRun, .ref q_t_piles, .ref q_t_balance, .ref q_t_law, .ref q_t_draftLaw, .ref q_t_draftStory, .int v_t_storyCount, .int v_t_imageCount], ob q_t_tape 10 [.ref q_t_tape_bytes, .int o9.1, .int o9.2.1, .int o9.2.2.1, .int o9.2.2.2.1, .int o9.2.2.2.2.1, .int o9.2.2.2.2.2], aB cy q_t_tape_bytes 400 v_t_tape_bytes])) out) := by
  refine cx_of (by decide +kernel) (Nat.le_of_ble_eq_true rfl) (fun p e s m args below meth c C hO hex hr hlk => ?_)
  unfold sp_openText at hf
  refine v_iload_n C dX11_openText_0 1 rfl rfl ?_
  refine v_if_lt (tgt := 20) C dX11_openText_1 (by decide) (fun c1 => ?_) (fun c1 => ?_)
  · replace hf := (if_pos c1).symm.trans hf
    obtain rfl := Option.some.inj hf
    exact v_throw (i := 13) (t := "no such length of a text") C hO hl hex hlk xa_0_115 xk_111 rfl xo_111 dX11_openText_20 dX11_openText_23 dX11_openText_24 dX11_openText_26 dX11_openText_29 ⟨Nat.le_of_ble_eq_true rfl, Nat.le_of_ble_eq_true rfl⟩ (Nat.le_of_ble_eq_true rfl) (Nat.le_of_ble_eq_true rfl) rfl rfl
  · replace hf := (if_neg c1).symm.trans hf
    refine v_iload_n C dX11_openText_4 1 rfl rfl ?_
    refine v_aload_n C dX11_openText_5 0 rfl rfl ?_
    refine v_get C fl_X11_10 0 rfl rfl dX11_openText_6 ?_
    refine v_get C fl_X11_74 1 rfl rfl dX11_openText_9 ?_
    refine v_icmp_gt (tgt := 20) C dX11_openText_12 (by decide) (fun c2 => ?_) (fun c2 => ?_)
    · replace hf := (if_pos c2).symm.trans hf
      obtain rfl := Option.some.inj hf
      exact v_throw (i := 13) (t := "no such length of a text") C hO hl hex hlk xa_0_115 xk_111 rfl xo_111 dX11_openText_20 dX11_openText_23 dX11_openText_24 dX11_openText_26 dX11_openText_29 ⟨Nat.le_of_ble_eq_true rfl, Nat.le_of_ble_eq_true rfl⟩ (Nat.le_of_ble_eq_true rfl) (Nat.le_of_ble_eq_true rfl) rfl rfl
    · replace hf := (if_neg c2).symm.trans hf
      refine v_iload_n C dX11_openText_15 1 rfl rfl ?_
      refine v_iload_n C dX11_openText_16 2 rfl rfl ?_
      refine v_icmp_le (tgt := 30) C dX11_openText_17 (by decide) (fun c3 => ?_) (fun c3 => ?_)
      · replace hf := (if_pos c3).symm.trans hf
        refine v_aload_n C dX11_openText_30 0 rfl rfl ?_
        refine v_get C fl_X11_10 0 rfl rfl dX11_openText_31 ?_
        refine v_iload_n C dX11_openText_34 1 rfl rfl ?_
        obtain ⟨o35, g4, hf⟩ := bd_ hf
        refine v_callV (As := [.int p1]) (wr := [ob q_t 11 [.ref q_t_tape, .ref q_t_stories, .ref q_t_varied, .ref q_t_evidence, .ref q_t_images, .ref q_t_run, .ref q_t_otherRun, .ref q_t_piles, .ref q_t_balance, .ref q_t_law, .ref q_t_draftLaw, .ref q_t_draftStory, .int v_t_storyCount, .int v_t_imageCount]]) (ws' := [ob q_t 11 [.ref q_t_tape, .ref q_t_stories, .ref q_t_varied, .ref q_t_evidence, .ref q_t_images, .ref q_t_run, .ref q_t_otherRun, .ref q_t_piles, .ref q_t_balance, .ref q_t_law, .ref q_t_draftLaw, .ref q_t_draftStory, .int v_t_storyCount, .int v_t_imageCount], ob q_t_tape 10 [.ref q_t_tape_bytes, .int o35.1, .int o35.2.1, .int o35.2.2.1, .int o35.2.2.2.1, .int o35.2.2.2.2.1, .int o35.2.2.2.2.2], aB cy q_t_tape_bytes 400 v_t_tape_bytes]) (st := []) (stk' := []) C (c_Tape_open l D cy K q_t_tape q_t_tape_bytes  p1 v_t_tape_bytes v_t_tape_size v_t_tape_end v_t_tape_at v_t_tape_start v_t_tape_faultKind v_t_tape_faultPlace o35 g4) lv_X11_118 rfl (by decide) rfl 1 rfl rfl rfl dX11_openText_35 [1, 2] [0] (by decide) rfl rfl (by decide) (by decide) (Nat.le_of_ble_eq_true rfl) rfl rfl ?_
        obtain rfl := Option.some.inj hf
        exact v_vretX C hr hlk dX11_openText_38 (Nat.le_of_ble_eq_true rfl) (Nat.le_of_ble_eq_true rfl) rfl
      · replace hf := (if_neg c3).symm.trans hf
        obtain rfl := Option.some.inj hf
        exact v_throw (i := 13) (t := "no such length of a text") C hO hl hex hlk xa_0_115 xk_111 rfl xo_111 dX11_openText_20 dX11_openText_23 dX11_openText_24 dX11_openText_26 dX11_openText_29 ⟨Nat.le_of_ble_eq_true rfl, Nat.le_of_ble_eq_true rfl⟩ (Nat.le_of_ble_eq_true rfl) (Nat.le_of_ble_eq_true rfl) rfl rfl

abbrev rm_feed : Room := { frames := 2, cells := 0, slots := 0, locals := 43 }
def sp_feed (K : Nat) (p1 : Int32) (p2 : Int32) (p3 : Int32) (p4 : Int32) (p5 : Int32) (v_t_tape_bytes : Nat → Int32) (v_t_tape_size : Int32) : Option (Int32 × (Nat → Int32) × Int32) :=
  if v_t_tape_size ≤ 380 then
    (sp_Tape_append K p1 v_t_tape_bytes v_t_tape_size).bind fun o20 =>
      (sp_Tape_append K p2 o20.1 o20.2).bind fun o28 =>
        (sp_Tape_append K p3 o28.1 o28.2).bind fun o36 =>
          (sp_Tape_append K p4 o36.1 o36.2).bind fun o45 =>
            (sp_Tape_append K p5 o45.1 o45.2).bind fun o54 =>
              some (o54.2, o54.1, o54.2)
  else
    some ((-1), v_t_tape_bytes, v_t_tape_size)
set_option maxHeartbeats 4000000 in
set_option maxRecDepth 20000 in
theorem c_feed (l : Launch) (D : va_G) (cy : Nat → ClassId) (K : Nat) (q_t q_t_stories q_t_images q_t_piles q_t_tape q_t_tape_bytes q_t_varied q_t_evidence q_t_run q_t_otherRun q_t_balance q_t_law q_t_draftLaw q_t_draftStory : Nat) (p1 : Int32) (p2 : Int32) (p3 : Int32) (p4 : Int32) (p5 : Int32) (v_t_storyCount : Int32) (v_t_imageCount : Int32) (v_t_tape_bytes : Nat → Int32) (v_t_tape_size : Int32) (v_t_tape_end : Int32) (v_t_tape_at : Int32) (v_t_tape_start : Int32) (v_t_tape_faultKind : Int32) (v_t_tape_faultPlace : Int32) (out : Int32 × (Nat → Int32) × Int32) (hf : sp_feed K p1 p2 p3 p4 p5 v_t_tape_bytes v_t_tape_size = some out) : Ct l yX11_feed cX11_feed 6 (some .int) rm_feed D cy [.ref q_t, .int p1, .int p2, .int p3, .int p4, .int p5] [ob q_t 11 [.ref q_t_tape, .ref q_t_stories, .ref q_t_varied, .ref q_t_evidence, .ref q_t_images, .ref q_t_run, .ref q_t_otherRun, .ref q_t_piles, .ref q_t_balance, .ref q_t_law, .ref q_t_draftLaw, .ref q_t_draftStory, .int v_t_storyCount, .int v_t_imageCount], ob q_t_tape 10 [.ref q_t_tape_bytes, .int v_t_tape_size, .int v_t_tape_end, .int v_t_tape_at, .int v_t_tape_start, .int v_t_tape_faultKind, .int v_t_tape_faultPlace], aB cy q_t_tape_bytes 400 v_t_tape_bytes] (some (.int out.1)) [ob q_t 11 [.ref q_t_tape, .ref q_t_stories, .ref q_t_varied, .ref q_t_evidence, .ref q_t_images, .ref q_t_run, .ref q_t_otherRun, .ref q_t_piles, .ref q_t_balance, .ref q_t_law, .ref q_t_draftLaw, .ref q_t_draftStory, .int v_t_storyCount, .int v_t_imageCount], ob q_t_tape 10 [.ref q_t_tape_bytes, .int out.2.2, .int v_t_tape_end, .int v_t_tape_at, .int v_t_tape_start, .int v_t_tape_faultKind, .int v_t_tape_faultPlace], aB cy q_t_tape_bytes 400 out.2.1] := by
  refine ct_of (by decide +kernel) (Nat.le_of_ble_eq_true rfl) (fun p e s m args below meth c C hr hlk hnm => ?_)
  unfold sp_feed at hf
  refine v_aload_n C dX11_feed_0 0 rfl rfl ?_
  refine v_get C fl_X11_10 0 rfl rfl dX11_feed_1 ?_
  refine v_get C fl_X11_74 1 rfl rfl dX11_feed_4 ?_
  refine v_sipush (v := 380) C dX11_feed_7 (by decide) ?_
  refine v_icmp_le (tgt := 15) C dX11_feed_10 (by decide) (fun c1 => ?_) (fun c1 => ?_)
  · replace hf := (if_pos c1).symm.trans hf
    refine v_aload_n C dX11_feed_15 0 rfl rfl ?_
    refine v_get C fl_X11_10 0 rfl rfl dX11_feed_16 ?_
    refine v_iload_n C dX11_feed_19 1 rfl rfl ?_
    obtain ⟨o20, g2, hf⟩ := bd_ hf
    refine v_callV (As := [.int p1]) (wr := [ob q_t 11 [.ref q_t_tape, .ref q_t_stories, .ref q_t_varied, .ref q_t_evidence, .ref q_t_images, .ref q_t_run, .ref q_t_otherRun, .ref q_t_piles, .ref q_t_balance, .ref q_t_law, .ref q_t_draftLaw, .ref q_t_draftStory, .int v_t_storyCount, .int v_t_imageCount]]) (ws' := [ob q_t 11 [.ref q_t_tape, .ref q_t_stories, .ref q_t_varied, .ref q_t_evidence, .ref q_t_images, .ref q_t_run, .ref q_t_otherRun, .ref q_t_piles, .ref q_t_balance, .ref q_t_law, .ref q_t_draftLaw, .ref q_t_draftStory, .int v_t_storyCount, .int v_t_imageCount], ob q_t_tape 10 [.ref q_t_tape_bytes, .int o20.2, .int v_t_tape_end, .int v_t_tape_at, .int v_t_tape_start, .int v_t_tape_faultKind, .int v_t_tape_faultPlace], aB cy q_t_tape_bytes 400 o20.1]) (st := []) (stk' := []) C (c_Tape_append l D cy K q_t_tape q_t_tape_bytes  p1 v_t_tape_bytes v_t_tape_size v_t_tape_end v_t_tape_at v_t_tape_start v_t_tape_faultKind v_t_tape_faultPlace o20 g2) lv_X11_78 rfl (by decide) rfl 1 rfl rfl rfl dX11_feed_20 [1, 2] [0] (by decide) rfl rfl (by decide) (by decide) (Nat.le_of_ble_eq_true rfl) rfl rfl ?_
    refine v_aload_n C dX11_feed_23 0 rfl rfl ?_
    refine v_get C fl_X11_10 0 rfl rfl dX11_feed_24 ?_
    refine v_iload_n C dX11_feed_27 2 rfl rfl ?_
    obtain ⟨o28, g3, hf⟩ := bd_ hf
    refine v_callV (As := [.int p2]) (wr := [ob q_t 11 [.ref q_t_tape, .ref q_t_stories, .ref q_t_varied, .ref q_t_evidence, .ref q_t_images, .ref q_t_run, .ref q_t_otherRun, .ref q_t_piles, .ref q_t_balance, .ref q_t_law, .ref q_t_draftLaw, .ref q_t_draftStory, .int v_t_storyCount, .int v_t_imageCount]]) (ws' := [ob q_t 11 [.ref q_t_tape, .ref q_t_stories, .ref q_t_varied, .ref q_t_evidence, .ref q_t_images, .ref q_t_run, .ref q_t_otherRun, .ref q_t_piles, .ref q_t_balance, .ref q_t_law, .ref q_t_draftLaw, .ref q_t_draftStory, .int v_t_storyCount, .int v_t_imageCount], ob q_t_tape 10 [.ref q_t_tape_bytes, .int o28.2, .int v_t_tape_end, .int v_t_tape_at, .int v_t_tape_start, .int v_t_tape_faultKind, .int v_t_tape_faultPlace], aB cy q_t_tape_bytes 400 o28.1]) (st := []) (stk' := []) C (c_Tape_append l D cy K q_t_tape q_t_tape_bytes  p2 o20.1 o20.2 v_t_tape_end v_t_tape_at v_t_tape_start v_t_tape_faultKind v_t_tape_faultPlace o28 g3) lv_X11_78 rfl (by decide) rfl 1 rfl rfl rfl dX11_feed_28 [1, 2] [0] (by decide) rfl rfl (by decide) (by decide) (Nat.le_of_ble_eq_true rfl) rfl rfl ?_
    refine v_aload_n C dX11_feed_31 0 rfl rfl ?_
    refine v_get C fl_X11_10 0 rfl rfl dX11_feed_32 ?_
    refine v_iload_n C dX11_feed_35 3 rfl rfl ?_
    obtain ⟨o36, g4, hf⟩ := bd_ hf
    refine v_callV (As := [.int p3]) (wr := [ob q_t 11 [.ref q_t_tape, .ref q_t_stories, .ref q_t_varied, .ref q_t_evidence, .ref q_t_images, .ref q_t_run, .ref q_t_otherRun, .ref q_t_piles, .ref q_t_balance, .ref q_t_law, .ref q_t_draftLaw, .ref q_t_draftStory, .int v_t_storyCount, .int v_t_imageCount]]) (ws' := [ob q_t 11 [.ref q_t_tape, .ref q_t_stories, .ref q_t_varied, .ref q_t_evidence, .ref q_t_images, .ref q_t_run, .ref q_t_otherRun, .ref q_t_piles, .ref q_t_balance, .ref q_t_law, .ref q_t_draftLaw, .ref q_t_draftStory, .int v_t_storyCount, .int v_t_imageCount], ob q_t_tape 10 [.ref q_t_tape_bytes, .int o36.2, .int v_t_tape_end, .int v_t_tape_at, .int v_t_tape_start, .int v_t_tape_faultKind, .int v_t_tape_faultPlace], aB cy q_t_tape_bytes 400 o36.1]) (st := []) (stk' := []) C (c_Tape_append l D cy K q_t_tape q_t_tape_bytes  p3 o28.1 o28.2 v_t_tape_end v_t_tape_at v_t_tape_start v_t_tape_faultKind v_t_tape_faultPlace o36 g4) lv_X11_78 rfl (by decide) rfl 1 rfl rfl rfl dX11_feed_36 [1, 2] [0] (by decide) rfl rfl (by decide) (by decide) (Nat.le_of_ble_eq_true rfl) rfl rfl ?_
    refine v_aload_n C dX11_feed_39 0 rfl rfl ?_
    refine v_get C fl_X11_10 0 rfl rfl dX11_feed_40 ?_
    refine v_iload C dX11_feed_43 4 rfl ?_
    obtain ⟨o45, g5, hf⟩ := bd_ hf
    refine v_callV (As := [.int p4]) (wr := [ob q_t 11 [.ref q_t_tape, .ref q_t_stories, .ref q_t_varied, .ref q_t_evidence, .ref q_t_images, .ref q_t_run, .ref q_t_otherRun, .ref q_t_piles, .ref q_t_balance, .ref q_t_law, .ref q_t_draftLaw, .ref q_t_draftStory, .int v_t_storyCount, .int v_t_imageCount]]) (ws' := [ob q_t 11 [.ref q_t_tape, .ref q_t_stories, .ref q_t_varied, .ref q_t_evidence, .ref q_t_images, .ref q_t_run, .ref q_t_otherRun, .ref q_t_piles, .ref q_t_balance, .ref q_t_law, .ref q_t_draftLaw, .ref q_t_draftStory, .int v_t_storyCount, .int v_t_imageCount], ob q_t_tape 10 [.ref q_t_tape_bytes, .int o45.2, .int v_t_tape_end, .int v_t_tape_at, .int v_t_tape_start, .int v_t_tape_faultKind, .int v_t_tape_faultPlace], aB cy q_t_tape_bytes 400 o45.1]) (st := []) (stk' := []) C (c_Tape_append l D cy K q_t_tape q_t_tape_bytes  p4 o36.1 o36.2 v_t_tape_end v_t_tape_at v_t_tape_start v_t_tape_faultKind v_t_tape_faultPlace o45 g5) lv_X11_78 rfl (by decide) rfl 1 rfl rfl rfl dX11_feed_45 [1, 2] [0] (by decide) rfl rfl (by decide) (by decide) (Nat.le_of_ble_eq_true rfl) rfl rfl ?_
    refine v_aload_n C dX11_feed_48 0 rfl rfl ?_
    refine v_get C fl_X11_10 0 rfl rfl dX11_feed_49 ?_
    refine v_iload C dX11_feed_52 5 rfl ?_
    obtain ⟨o54, g6, hf⟩ := bd_ hf
    refine v_callV (As := [.int p5]) (wr := [ob q_t 11 [.ref q_t_tape, .ref q_t_stories, .ref q_t_varied, .ref q_t_evidence, .ref q_t_images, .ref q_t_run, .ref q_t_otherRun, .ref q_t_piles, .ref q_t_balance, .ref q_t_law, .ref q_t_draftLaw, .ref q_t_draftStory, .int v_t_storyCount, .int v_t_imageCount]]) (ws' := [ob q_t 11 [.ref q_t_tape, .ref q_t_stories, .ref q_t_varied, .ref q_t_evidence, .ref q_t_images, .ref q_t_run, .ref q_t_otherRun, .ref q_t_piles, .ref q_t_balance, .ref q_t_law, .ref q_t_draftLaw, .ref q_t_draftStory, .int v_t_storyCount, .int v_t_imageCount], ob q_t_tape 10 [.ref q_t_tape_bytes, .int o54.2, .int v_t_tape_end, .int v_t_tape_at, .int v_t_tape_start, .int v_t_tape_faultKind, .int v_t_tape_faultPlace], aB cy q_t_tape_bytes 400 o54.1]) (st := []) (stk' := []) C (c_Tape_append l D cy K q_t_tape q_t_tape_bytes  p5 o45.1 o45.2 v_t_tape_end v_t_tape_at v_t_tape_start v_t_tape_faultKind v_t_tape_faultPlace o54 g6) lv_X11_78 rfl (by decide) rfl 1 rfl rfl rfl dX11_feed_54 [1, 2] [0] (by decide) rfl rfl (by decide) (by decide) (Nat.le_of_ble_eq_true rfl) rfl rfl ?_
    refine v_aload_n C dX11_feed_57 0 rfl rfl ?_
    refine v_get C fl_X11_10 0 rfl rfl dX11_feed_58 ?_
    refine v_get C fl_X11_74 1 rfl rfl dX11_feed_61 ?_
    obtain rfl := Option.some.inj hf
    exact v_iret C hr hlk dX11_feed_64 rfl rfl rfl rfl
  · replace hf := (if_neg c1).symm.trans hf
    refine v_iconst (v := (-1)) C dX11_feed_13 (by decide) ?_
    obtain rfl := Option.some.inj hf
    exact v_iret C hr hlk dX11_feed_14 rfl rfl rfl rfl

abbrev rm_fault : Room := { frames := 0, cells := 0, slots := 0, locals := 0 }
def sp_fault (K : Nat) (v_t_tape_faultPlace : Int32) : Option (Int32) :=
  some v_t_tape_faultPlace
set_option maxHeartbeats 4000000 in
set_option maxRecDepth 20000 in
theorem c_fault (l : Launch) (D : va_G) (cy : Nat → ClassId) (K : Nat) (q_t q_t_stories q_t_images q_t_piles q_t_tape q_t_tape_bytes q_t_varied q_t_evidence q_t_run q_t_otherRun q_t_balance q_t_law q_t_draftLaw q_t_draftStory : Nat) (v_t_storyCount : Int32) (v_t_imageCount : Int32) (v_t_tape_bytes : Nat → Int32) (v_t_tape_size : Int32) (v_t_tape_end : Int32) (v_t_tape_at : Int32) (v_t_tape_start : Int32) (v_t_tape_faultKind : Int32) (v_t_tape_faultPlace : Int32) (out : Int32) (hf : sp_fault K v_t_tape_faultPlace = some out) : Ct l yX11_fault cX11_fault 1 (some .int) rm_fault D cy [.ref q_t] [ob q_t 11 [.ref q_t_tape, .ref q_t_stories, .ref q_t_varied, .ref q_t_evidence, .ref q_t_images, .ref q_t_run, .ref q_t_otherRun, .ref q_t_piles, .ref q_t_balance, .ref q_t_law, .ref q_t_draftLaw, .ref q_t_draftStory, .int v_t_storyCount, .int v_t_imageCount], ob q_t_tape 10 [.ref q_t_tape_bytes, .int v_t_tape_size, .int v_t_tape_end, .int v_t_tape_at, .int v_t_tape_start, .int v_t_tape_faultKind, .int v_t_tape_faultPlace], aB cy q_t_tape_bytes 400 v_t_tape_bytes] (some (.int out)) [ob q_t 11 [.ref q_t_tape, .ref q_t_stories, .ref q_t_varied, .ref q_t_evidence, .ref q_t_images, .ref q_t_run, .ref q_t_otherRun, .ref q_t_piles, .ref q_t_balance, .ref q_t_law, .ref q_t_draftLaw, .ref q_t_draftStory, .int v_t_storyCount, .int v_t_imageCount], ob q_t_tape 10 [.ref q_t_tape_bytes, .int v_t_tape_size, .int v_t_tape_end, .int v_t_tape_at, .int v_t_tape_start, .int v_t_tape_faultKind, .int v_t_tape_faultPlace], aB cy q_t_tape_bytes 400 v_t_tape_bytes] := by
  refine ct_of (by decide +kernel) (Nat.le_of_ble_eq_true rfl) (fun p e s m args below meth c C hr hlk hnm => ?_)
  unfold sp_fault at hf
  refine v_aload_n C dX11_fault_0 0 rfl rfl ?_
  refine v_get C fl_X11_10 0 rfl rfl dX11_fault_1 ?_
  refine v_get C fl_X11_108 1 rfl rfl dX11_fault_4 ?_
  obtain rfl := Option.some.inj hf
  exact v_iret C hr hlk dX11_fault_7 rfl rfl rfl rfl

abbrev rm_sheds : Room := { frames := 7, cells := 2, slots := 12, locals := 103 }
def sp_sheds (K : Nat) (p1 : Int32) (p2 : Int32) (v_t_law_shed : Nat → Int32) : Option (Nat ⊕ (Int32)) :=
  xb (sp_needBelow K p1 8) fun o3 =>
    xb (sp_needBelow K p2 10) fun o9 =>
      (sp_Law_shedBy K p1 p2 v_t_law_shed).bind fun o18 =>
        some (.inr o18)
set_option maxHeartbeats 4000000 in
set_option maxRecDepth 20000 in
theorem c_sheds (l : Launch) (D : va_G) (cy : Nat → ClassId) (K : Nat) (hl : l.stackTraces = false) (adK adV : Nat → Nat) (q_t q_t_stories q_t_images q_t_piles q_t_tape q_t_varied q_t_evidence q_t_run q_t_otherRun q_t_balance q_t_law q_t_law_shed q_t_law_hold q_t_law_common q_t_law_alikes q_t_draftLaw q_t_draftStory : Nat) (p1 : Int32) (p2 : Int32) (v_t_storyCount : Int32) (v_t_imageCount : Int32) (v_t_law_shed : Nat → Int32) (v_t_law_hold : Nat → Int32) (v_t_law_common : Nat → Int32) (v_t_law_alikes : Nat → Int32) (v_t_law_wash : Int32) (v_t_law_pass : Int32) (v_t_law_take : Int32) (v_t_law_clauses : Int32) (out : Nat ⊕ (Int32)) (hf : sp_sheds K p1 p2 v_t_law_shed = some out) : CX l yX11_sheds cX11_sheds 3 (some .int) rm_sheds D cy adK adV [.ref q_t, .int p1, .int p2] [ob q_t 11 [.ref q_t_tape, .ref q_t_stories, .ref q_t_varied, .ref q_t_evidence, .ref q_t_images, .ref q_t_run, .ref q_t_otherRun, .ref q_t_piles, .ref q_t_balance, .ref q_t_law, .ref q_t_draftLaw, .ref q_t_draftStory, .int v_t_storyCount, .int v_t_imageCount], ob q_t_law 5 [.ref q_t_law_shed, .ref q_t_law_hold, .ref q_t_law_common, .ref q_t_law_alikes, .int v_t_law_wash, .int v_t_law_pass, .int v_t_law_take, .int v_t_law_clauses], aI cy q_t_law_shed 80 v_t_law_shed, aI cy q_t_law_hold 10 v_t_law_hold, aI cy q_t_law_common 10 v_t_law_common, aI cy q_t_law_alikes 10 v_t_law_alikes] (Sum.elim (fun c9 => Sum.inl (EN c9)) (fun o9 => Sum.inr ((some (.int o9)), [ob q_t 11 [.ref q_t_tape, .ref q_t_stories, .ref q_t_varied, .ref q_t_evidence, .ref q_t_images, .ref q_t_run, .ref q_t_otherRun, .ref q_t_piles, .ref q_t_balance, .ref q_t_law, .ref q_t_draftLaw, .ref q_t_draftStory, .int v_t_storyCount, .int v_t_imageCount], ob q_t_law 5 [.ref q_t_law_shed, .ref q_t_law_hold, .ref q_t_law_common, .ref q_t_law_alikes, .int v_t_law_wash, .int v_t_law_pass, .int v_t_law_take, .int v_t_law_clauses], aI cy q_t_law_shed 80 v_t_law_shed, aI cy q_t_law_hold 10 v_t_law_hold, aI cy q_t_law_common 10 v_t_law_common, aI cy q_t_law_alikes 10 v_t_law_alikes])) out) := by
  refine cx_of (by decide +kernel) (Nat.le_of_ble_eq_true rfl) (fun p e s m args below meth c C hO hex hr hlk => ?_)
  unfold sp_sheds at hf
  refine v_iload_n C dX11_sheds_0 1 rfl rfl ?_
  refine v_bipush (v := 8) C dX11_sheds_1 (by decide) ?_
  rcases xb_ hf with ⟨c9, g1, rfl⟩ | ⟨o3, g1, hf⟩
  · exact v_callST (As := [.int p1, .int 8]) (wr := [ob q_t 11 [.ref q_t_tape, .ref q_t_stories, .ref q_t_varied, .ref q_t_evidence, .ref q_t_images, .ref q_t_run, .ref q_t_otherRun, .ref q_t_piles, .ref q_t_balance, .ref q_t_law, .ref q_t_draftLaw, .ref q_t_draftStory, .int v_t_storyCount, .int v_t_imageCount], ob q_t_law 5 [.ref q_t_law_shed, .ref q_t_law_hold, .ref q_t_law_common, .ref q_t_law_alikes, .int v_t_law_wash, .int v_t_law_pass, .int v_t_law_take, .int v_t_law_clauses], aI cy q_t_law_shed 80 v_t_law_shed, aI cy q_t_law_hold 10 v_t_law_hold, aI cy q_t_law_common 10 v_t_law_common, aI cy q_t_law_alikes 10 v_t_law_alikes]) (st := []) C hO (c_needBelow l D cy K hl adK adV   p1 8 (.inl c9) g1) ls_X11_121 rfl (by decide) rfl dX11_sheds_3 [] [0, 1, 2, 3, 4, 5] [0, 1, 2, 3, 4, 5] (by decide) rfl rfl (by decide) (by decide) rfl (by decide) (Nat.le_of_ble_eq_true rfl) hex hlk (Nat.le_of_ble_eq_true rfl) (Nat.le_of_ble_eq_true rfl) rfl rfl
  · refine v_callSX (As := [.int p1, .int 8]) (wr := [ob q_t 11 [.ref q_t_tape, .ref q_t_stories, .ref q_t_varied, .ref q_t_evidence, .ref q_t_images, .ref q_t_run, .ref q_t_otherRun, .ref q_t_piles, .ref q_t_balance, .ref q_t_law, .ref q_t_draftLaw, .ref q_t_draftStory, .int v_t_storyCount, .int v_t_imageCount], ob q_t_law 5 [.ref q_t_law_shed, .ref q_t_law_hold, .ref q_t_law_common, .ref q_t_law_alikes, .int v_t_law_wash, .int v_t_law_pass, .int v_t_law_take, .int v_t_law_clauses], aI cy q_t_law_shed 80 v_t_law_shed, aI cy q_t_law_hold 10 v_t_law_hold, aI cy q_t_law_common 10 v_t_law_common, aI cy q_t_law_alikes 10 v_t_law_alikes]) (ws' := [ob q_t 11 [.ref q_t_tape, .ref q_t_stories, .ref q_t_varied, .ref q_t_evidence, .ref q_t_images, .ref q_t_run, .ref q_t_otherRun, .ref q_t_piles, .ref q_t_balance, .ref q_t_law, .ref q_t_draftLaw, .ref q_t_draftStory, .int v_t_storyCount, .int v_t_imageCount], ob q_t_law 5 [.ref q_t_law_shed, .ref q_t_law_hold, .ref q_t_law_common, .ref q_t_law_alikes, .int v_t_law_wash, .int v_t_law_pass, .int v_t_law_take, .int v_t_law_clauses], aI cy q_t_law_shed 80 v_t_law_shed, aI cy q_t_law_hold 10 v_t_law_hold, aI cy q_t_law_common 10 v_t_law_common, aI cy q_t_law_alikes 10 v_t_law_alikes]) (st := []) (stk' := []) C hO (c_needBelow l D cy K hl adK adV   p1 8 (.inr o3) g1) ls_X11_121 rfl (by decide) rfl dX11_sheds_3 [] [0, 1, 2, 3, 4, 5] (by decide) rfl rfl (by decide) (by decide) (Nat.le_of_ble_eq_true rfl) rfl rfl ?_
    refine v_iload_n C dX11_sheds_6 2 rfl rfl ?_
    refine v_bipush (v := 10) C dX11_sheds_7 (by decide) ?_
    rcases xb_ hf with ⟨c9, g2, rfl⟩ | ⟨o9, g2, hf⟩
    · exact v_callST (As := [.int p2, .int 10]) (wr := [ob q_t 11 [.ref q_t_tape, .ref q_t_stories, .ref q_t_varied, .ref q_t_evidence, .ref q_t_images, .ref q_t_run, .ref q_t_otherRun, .ref q_t_piles, .ref q_t_balance, .ref q_t_law, .ref q_t_draftLaw, .ref q_t_draftStory, .int v_t_storyCount, .int v_t_imageCount], ob q_t_law 5 [.ref q_t_law_shed, .ref q_t_law_hold, .ref q_t_law_common, .ref q_t_law_alikes, .int v_t_law_wash, .int v_t_law_pass, .int v_t_law_take, .int v_t_law_clauses], aI cy q_t_law_shed 80 v_t_law_shed, aI cy q_t_law_hold 10 v_t_law_hold, aI cy q_t_law_common 10 v_t_law_common, aI cy q_t_law_alikes 10 v_t_law_alikes]) (st := []) C hO (c_needBelow l D cy K hl adK adV   p2 10 (.inl c9) g2) ls_X11_121 rfl (by decide) rfl dX11_sheds_9 [] [0, 1, 2, 3, 4, 5] [0, 1, 2, 3, 4, 5] (by decide) rfl rfl (by decide) (by decide) rfl (by decide) (Nat.le_of_ble_eq_true rfl) hex hlk (Nat.le_of_ble_eq_true rfl) (Nat.le_of_ble_eq_true rfl) rfl rfl
    · refine v_callSX (As := [.int p2, .int 10]) (wr := [ob q_t 11 [.ref q_t_tape, .ref q_t_stories, .ref q_t_varied, .ref q_t_evidence, .ref q_t_images, .ref q_t_run, .ref q_t_otherRun, .ref q_t_piles, .ref q_t_balance, .ref q_t_law, .ref q_t_draftLaw, .ref q_t_draftStory, .int v_t_storyCount, .int v_t_imageCount], ob q_t_law 5 [.ref q_t_law_shed, .ref q_t_law_hold, .ref q_t_law_common, .ref q_t_law_alikes, .int v_t_law_wash, .int v_t_law_pass, .int v_t_law_take, .int v_t_law_clauses], aI cy q_t_law_shed 80 v_t_law_shed, aI cy q_t_law_hold 10 v_t_law_hold, aI cy q_t_law_common 10 v_t_law_common, aI cy q_t_law_alikes 10 v_t_law_alikes]) (ws' := [ob q_t 11 [.ref q_t_tape, .ref q_t_stories, .ref q_t_varied, .ref q_t_evidence, .ref q_t_images, .ref q_t_run, .ref q_t_otherRun, .ref q_t_piles, .ref q_t_balance, .ref q_t_law, .ref q_t_draftLaw, .ref q_t_draftStory, .int v_t_storyCount, .int v_t_imageCount], ob q_t_law 5 [.ref q_t_law_shed, .ref q_t_law_hold, .ref q_t_law_common, .ref q_t_law_alikes, .int v_t_law_wash, .int v_t_law_pass, .int v_t_law_take, .int v_t_law_clauses], aI cy q_t_law_shed 80 v_t_law_shed, aI cy q_t_law_hold 10 v_t_law_hold, aI cy q_t_law_common 10 v_t_law_common, aI cy q_t_law_alikes 10 v_t_law_alikes]) (st := []) (stk' := []) C hO (c_needBelow l D cy K hl adK adV   p2 10 (.inr o9) g2) ls_X11_121 rfl (by decide) rfl dX11_sheds_9 [] [0, 1, 2, 3, 4, 5] (by decide) rfl rfl (by decide) (by decide) (Nat.le_of_ble_eq_true rfl) rfl rfl ?_
      refine v_aload_n C dX11_sheds_12 0 rfl rfl ?_
      refine v_get C fl_X11_19 0 rfl rfl dX11_sheds_13 ?_
      refine v_iload_n C dX11_sheds_16 1 rfl rfl ?_
      refine v_iload_n C dX11_sheds_17 2 rfl rfl ?_
      obtain ⟨o18, g3, hf⟩ := bd_ hf
      refine v_callV (As := [.int p1, .int p2]) (wr := [ob q_t 11 [.ref q_t_tape, .ref q_t_stories, .ref q_t_varied, .ref q_t_evidence, .ref q_t_images, .ref q_t_run, .ref q_t_otherRun, .ref q_t_piles, .ref q_t_balance, .ref q_t_law, .ref q_t_draftLaw, .ref q_t_draftStory, .int v_t_storyCount, .int v_t_imageCount]]) (ws' := [ob q_t 11 [.ref q_t_tape, .ref q_t_stories, .ref q_t_varied, .ref q_t_evidence, .ref q_t_images, .ref q_t_run, .ref q_t_otherRun, .ref q_t_piles, .ref q_t_balance, .ref q_t_law, .ref q_t_draftLaw, .ref q_t_draftStory, .int v_t_storyCount, .int v_t_imageCount], ob q_t_law 5 [.ref q_t_law_shed, .ref q_t_law_hold, .ref q_t_law_common, .ref q_t_law_alikes, .int v_t_law_wash, .int v_t_law_pass, .int v_t_law_take, .int v_t_law_clauses], aI cy q_t_law_shed 80 v_t_law_shed, aI cy q_t_law_hold 10 v_t_law_hold, aI cy q_t_law_common 10 v_t_law_common, aI cy q_t_law_alikes 10 v_t_law_alikes]) (st := []) (stk' := [.int o18]) C (c_Law_shedBy l D cy K q_t_law q_t_law_shed q_t_law_hold q_t_law_common q_t_law_alikes  p1 p2 v_t_law_shed v_t_law_hold v_t_law_common v_t_law_alikes v_t_law_wash v_t_law_pass v_t_law_take v_t_law_clauses o18 g3) lv_X11_124 rfl (by decide) rfl 1 rfl rfl rfl dX11_sheds_18 [1, 2, 3, 4, 5] [0] (by decide) rfl rfl (by decide) (by decide) (Nat.le_of_ble_eq_true rfl) rfl rfl ?_
      obtain rfl := Option.some.inj hf
      exact v_iretX C hr hlk dX11_sheds_21 (Nat.le_of_ble_eq_true rfl) (Nat.le_of_ble_eq_true rfl) rfl

abbrev rm_told : Room := { frames := 7, cells := 2, slots := 12, locals := 103 }
def sp_told (K : Nat) (p1 : Int32) (p2 : Int32) (v_t_law_hold : Nat → Int32) (v_t_law_common : Nat → Int32) (v_t_law_wash : Int32) (v_t_law_pass : Int32) (v_t_law_take : Int32) : Option (Nat ⊕ (Int32)) :=
  xb (sp_needBelow K p1 10) fun o3 =>
    if p2 = 0 then
      (sp_Law_holdOf K p1 v_t_law_hold).bind fun o45 =>
        some (.inr o45)
    else
      if p2 = 1 then
        (sp_Law_commonOf K p1 v_t_law_common).bind fun o54 =>
          some (.inr o54)
      else
        if p2 = 2 then
          some (.inr v_t_law_wash)
        else
          if p2 = 3 then
            some (.inr v_t_law_pass)
          else
            if p2 = 4 then
              some (.inr v_t_law_take)
            else
              some (.inl 0)
set_option maxHeartbeats 4000000 in
set_option maxRecDepth 20000 in
theorem c_told (l : Launch) (D : va_G) (cy : Nat → ClassId) (K : Nat) (hl : l.stackTraces = false) (adK adV : Nat → Nat) (q_t q_t_stories q_t_images q_t_piles q_t_tape q_t_varied q_t_evidence q_t_run q_t_otherRun q_t_balance q_t_law q_t_law_shed q_t_law_hold q_t_law_common q_t_law_alikes q_t_draftLaw q_t_draftStory : Nat) (p1 : Int32) (p2 : Int32) (v_t_storyCount : Int32) (v_t_imageCount : Int32) (v_t_law_shed : Nat → Int32) (v_t_law_hold : Nat → Int32) (v_t_law_common : Nat → Int32) (v_t_law_alikes : Nat → Int32) (v_t_law_wash : Int32) (v_t_law_pass : Int32) (v_t_law_take : Int32) (v_t_law_clauses : Int32) (out : Nat ⊕ (Int32)) (hf : sp_told K p1 p2 v_t_law_hold v_t_law_common v_t_law_wash v_t_law_pass v_t_law_take = some out) : CX l yX11_told cX11_told 3 (some .int) rm_told D cy adK adV [.ref q_t, .int p1, .int p2] [ob q_t 11 [.ref q_t_tape, .ref q_t_stories, .ref q_t_varied, .ref q_t_evidence, .ref q_t_images, .ref q_t_run, .ref q_t_otherRun, .ref q_t_piles, .ref q_t_balance, .ref q_t_law, .ref q_t_draftLaw, .ref q_t_draftStory, .int v_t_storyCount, .int v_t_imageCount], ob q_t_law 5 [.ref q_t_law_shed, .ref q_t_law_hold, .ref q_t_law_common, .ref q_t_law_alikes, .int v_t_law_wash, .int v_t_law_pass, .int v_t_law_take, .int v_t_law_clauses], aI cy q_t_law_shed 80 v_t_law_shed, aI cy q_t_law_hold 10 v_t_law_hold, aI cy q_t_law_common 10 v_t_law_common, aI cy q_t_law_alikes 10 v_t_law_alikes] (Sum.elim (fun c9 => Sum.inl (EN c9)) (fun o9 => Sum.inr ((some (.int o9)), [ob q_t 11 [.ref q_t_tape, .ref q_t_stories, .ref q_t_varied, .ref q_t_evidence, .ref q_t_images, .ref q_t_run, .ref q_t_otherRun, .ref q_t_piles, .ref q_t_balance, .ref q_t_law, .ref q_t_draftLaw, .ref q_t_draftStory, .int v_t_storyCount, .int v_t_imageCount], ob q_t_law 5 [.ref q_t_law_shed, .ref q_t_law_hold, .ref q_t_law_common, .ref q_t_law_alikes, .int v_t_law_wash, .int v_t_law_pass, .int v_t_law_take, .int v_t_law_clauses], aI cy q_t_law_shed 80 v_t_law_shed, aI cy q_t_law_hold 10 v_t_law_hold, aI cy q_t_law_common 10 v_t_law_common, aI cy q_t_law_alikes 10 v_t_law_alikes])) out) := by
  refine cx_of (by decide +kernel) (Nat.le_of_ble_eq_true rfl) (fun p e s m args below meth c C hO hex hr hlk => ?_)
  unfold sp_told at hf
  refine v_iload_n C dX11_told_0 1 rfl rfl ?_
  refine v_bipush (v := 10) C dX11_told_1 (by decide) ?_
  rcases xb_ hf with ⟨c9, g1, rfl⟩ | ⟨o3, g1, hf⟩
  · exact v_callST (As := [.int p1, .int 10]) (wr := [ob q_t 11 [.ref q_t_tape, .ref q_t_stories, .ref q_t_varied, .ref q_t_evidence, .ref q_t_images, .ref q_t_run, .ref q_t_otherRun, .ref q_t_piles, .ref q_t_balance, .ref q_t_law, .ref q_t_draftLaw, .ref q_t_draftStory, .int v_t_storyCount, .int v_t_imageCount], ob q_t_law 5 [.ref q_t_law_shed, .ref q_t_law_hold, .ref q_t_law_common, .ref q_t_law_alikes, .int v_t_law_wash, .int v_t_law_pass, .int v_t_law_take, .int v_t_law_clauses], aI cy q_t_law_shed 80 v_t_law_shed, aI cy q_t_law_hold 10 v_t_law_hold, aI cy q_t_law_common 10 v_t_law_common, aI cy q_t_law_alikes 10 v_t_law_alikes]) (st := []) C hO (c_needBelow l D cy K hl adK adV   p1 10 (.inl c9) g1) ls_X11_121 rfl (by decide) rfl dX11_told_3 [] [0, 1, 2, 3, 4, 5] [0, 1, 2, 3, 4, 5] (by decide) rfl rfl (by decide) (by decide) rfl (by decide) (Nat.le_of_ble_eq_true rfl) hex hlk (Nat.le_of_ble_eq_true rfl) (Nat.le_of_ble_eq_true rfl) rfl rfl
  · refine v_callSX (As := [.int p1, .int 10]) (wr := [ob q_t 11 [.ref q_t_tape, .ref q_t_stories, .ref q_t_varied, .ref q_t_evidence, .ref q_t_images, .ref q_t_run, .ref q_t_otherRun, .ref q_t_piles, .ref q_t_balance, .ref q_t_law, .ref q_t_draftLaw, .ref q_t_draftStory, .int v_t_storyCount, .int v_t_imageCount], ob q_t_law 5 [.ref q_t_law_shed, .ref q_t_law_hold, .ref q_t_law_common, .ref q_t_law_alikes, .int v_t_law_wash, .int v_t_law_pass, .int v_t_law_take, .int v_t_law_clauses], aI cy q_t_law_shed 80 v_t_law_shed, aI cy q_t_law_hold 10 v_t_law_hold, aI cy q_t_law_common 10 v_t_law_common, aI cy q_t_law_alikes 10 v_t_law_alikes]) (ws' := [ob q_t 11 [.ref q_t_tape, .ref q_t_stories, .ref q_t_varied, .ref q_t_evidence, .ref q_t_images, .ref q_t_run, .ref q_t_otherRun, .ref q_t_piles, .ref q_t_balance, .ref q_t_law, .ref q_t_draftLaw, .ref q_t_draftStory, .int v_t_storyCount, .int v_t_imageCount], ob q_t_law 5 [.ref q_t_law_shed, .ref q_t_law_hold, .ref q_t_law_common, .ref q_t_law_alikes, .int v_t_law_wash, .int v_t_law_pass, .int v_t_law_take, .int v_t_law_clauses], aI cy q_t_law_shed 80 v_t_law_shed, aI cy q_t_law_hold 10 v_t_law_hold, aI cy q_t_law_common 10 v_t_law_common, aI cy q_t_law_alikes 10 v_t_law_alikes]) (st := []) (stk' := []) C hO (c_needBelow l D cy K hl adK adV   p1 10 (.inr o3) g1) ls_X11_121 rfl (by decide) rfl dX11_told_3 [] [0, 1, 2, 3, 4, 5] (by decide) rfl rfl (by decide) (by decide) (Nat.le_of_ble_eq_true rfl) rfl rfl ?_
    refine v_iload_n C dX11_told_6 2 rfl rfl ?_
    by_cases c2 : p2 = 0
    · replace hf := (if_pos c2).symm.trans hf
      refine v_tsw (tgt := 40) (off := 33) C 0 c2 dX11_told_7 (by decide) (by decide) rfl (by decide) ?_
      refine v_aload_n C dX11_told_40 0 rfl rfl ?_
      refine v_get C fl_X11_19 0 rfl rfl dX11_told_41 ?_
      refine v_iload_n C dX11_told_44 1 rfl rfl ?_
      obtain ⟨o45, g3, hf⟩ := bd_ hf
      refine v_callV (As := [.int p1]) (wr := [ob q_t 11 [.ref q_t_tape, .ref q_t_stories, .ref q_t_varied, .ref q_t_evidence, .ref q_t_images, .ref q_t_run, .ref q_t_otherRun, .ref q_t_piles, .ref q_t_balance, .ref q_t_law, .ref q_t_draftLaw, .ref q_t_draftStory, .int v_t_storyCount, .int v_t_imageCount]]) (ws' := [ob q_t 11 [.ref q_t_tape, .ref q_t_stories, .ref q_t_varied, .ref q_t_evidence, .ref q_t_images, .ref q_t_run, .ref q_t_otherRun, .ref q_t_piles, .ref q_t_balance, .ref q_t_law, .ref q_t_draftLaw, .ref q_t_draftStory, .int v_t_storyCount, .int v_t_imageCount], ob q_t_law 5 [.ref q_t_law_shed, .ref q_t_law_hold, .ref q_t_law_common, .ref q_t_law_alikes, .int v_t_law_wash, .int v_t_law_pass, .int v_t_law_take, .int v_t_law_clauses], aI cy q_t_law_shed 80 v_t_law_shed, aI cy q_t_law_hold 10 v_t_law_hold, aI cy q_t_law_common 10 v_t_law_common, aI cy q_t_law_alikes 10 v_t_law_alikes]) (st := []) (stk' := [.int o45]) C (c_Law_holdOf l D cy K q_t_law q_t_law_shed q_t_law_hold q_t_law_common q_t_law_alikes  p1 v_t_law_shed v_t_law_hold v_t_law_common v_t_law_alikes v_t_law_wash v_t_law_pass v_t_law_take v_t_law_clauses o45 g3) lv_X11_128 rfl (by decide) rfl 1 rfl rfl rfl dX11_told_45 [1, 2, 3, 4, 5] [0] (by decide) rfl rfl (by decide) (by decide) (Nat.le_of_ble_eq_true rfl) rfl rfl ?_
      obtain rfl := Option.some.inj hf
      exact v_iretX C hr hlk dX11_told_48 (Nat.le_of_ble_eq_true rfl) (Nat.le_of_ble_eq_true rfl) rfl
    · replace hf := (if_neg c2).symm.trans hf
      by_cases c4 : p2 = 1
      · replace hf := (if_pos c4).symm.trans hf
        refine v_tsw (tgt := 49) (off := 42) C 1 c4 dX11_told_7 (by decide) (by decide) rfl (by decide) ?_
        refine v_aload_n C dX11_told_49 0 rfl rfl ?_
        refine v_get C fl_X11_19 0 rfl rfl dX11_told_50 ?_
        refine v_iload_n C dX11_told_53 1 rfl rfl ?_
        obtain ⟨o54, g5, hf⟩ := bd_ hf
        refine v_callV (As := [.int p1]) (wr := [ob q_t 11 [.ref q_t_tape, .ref q_t_stories, .ref q_t_varied, .ref q_t_evidence, .ref q_t_images, .ref q_t_run, .ref q_t_otherRun, .ref q_t_piles, .ref q_t_balance, .ref q_t_law, .ref q_t_draftLaw, .ref q_t_draftStory, .int v_t_storyCount, .int v_t_imageCount]]) (ws' := [ob q_t 11 [.ref q_t_tape, .ref q_t_stories, .ref q_t_varied, .ref q_t_evidence, .ref q_t_images, .ref q_t_run, .ref q_t_otherRun, .ref q_t_piles, .ref q_t_balance, .ref q_t_law, .ref q_t_draftLaw, .ref q_t_draftStory, .int v_t_storyCount, .int v_t_imageCount], ob q_t_law 5 [.ref q_t_law_shed, .ref q_t_law_hold, .ref q_t_law_common, .ref q_t_law_alikes, .int v_t_law_wash, .int v_t_law_pass, .int v_t_law_take, .int v_t_law_clauses], aI cy q_t_law_shed 80 v_t_law_shed, aI cy q_t_law_hold 10 v_t_law_hold, aI cy q_t_law_common 10 v_t_law_common, aI cy q_t_law_alikes 10 v_t_law_alikes]) (st := []) (stk' := [.int o54]) C (c_Law_commonOf l D cy K q_t_law q_t_law_shed q_t_law_hold q_t_law_common q_t_law_alikes  p1 v_t_law_shed v_t_law_hold v_t_law_common v_t_law_alikes v_t_law_wash v_t_law_pass v_t_law_take v_t_law_clauses o54 g5) lv_X11_132 rfl (by decide) rfl 1 rfl rfl rfl dX11_told_54 [1, 2, 3, 4, 5] [0] (by decide) rfl rfl (by decide) (by decide) (Nat.le_of_ble_eq_true rfl) rfl rfl ?_
        obtain rfl := Option.some.inj hf
        exact v_iretX C hr hlk dX11_told_57 (Nat.le_of_ble_eq_true rfl) (Nat.le_of_ble_eq_true rfl) rfl
      · replace hf := (if_neg c4).symm.trans hf
        by_cases c6 : p2 = 2
        · replace hf := (if_pos c6).symm.trans hf
          refine v_tsw (tgt := 58) (off := 51) C 2 c6 dX11_told_7 (by decide) (by decide) rfl (by decide) ?_
          refine v_aload_n C dX11_told_58 0 rfl rfl ?_
          refine v_get C fl_X11_19 0 rfl rfl dX11_told_59 ?_
          refine v_get C fl_X11_135 1 rfl rfl dX11_told_62 ?_
          obtain rfl := Option.some.inj hf
          exact v_iretX C hr hlk dX11_told_65 (Nat.le_of_ble_eq_true rfl) (Nat.le_of_ble_eq_true rfl) rfl
        · replace hf := (if_neg c6).symm.trans hf
          by_cases c7 : p2 = 3
          · replace hf := (if_pos c7).symm.trans hf
            refine v_tsw (tgt := 66) (off := 59) C 3 c7 dX11_told_7 (by decide) (by decide) rfl (by decide) ?_
            refine v_aload_n C dX11_told_66 0 rfl rfl ?_
            refine v_get C fl_X11_19 0 rfl rfl dX11_told_67 ?_
            refine v_get C fl_X11_138 1 rfl rfl dX11_told_70 ?_
            obtain rfl := Option.some.inj hf
            exact v_iretX C hr hlk dX11_told_73 (Nat.le_of_ble_eq_true rfl) (Nat.le_of_ble_eq_true rfl) rfl
          · replace hf := (if_neg c7).symm.trans hf
            by_cases c8 : p2 = 4
            · replace hf := (if_pos c8).symm.trans hf
              refine v_tsw (tgt := 74) (off := 67) C 4 c8 dX11_told_7 (by decide) (by decide) rfl (by decide) ?_
              refine v_aload_n C dX11_told_74 0 rfl rfl ?_
              refine v_get C fl_X11_19 0 rfl rfl dX11_told_75 ?_
              refine v_get C fl_X11_141 1 rfl rfl dX11_told_78 ?_
              obtain rfl := Option.some.inj hf
              exact v_iretX C hr hlk dX11_told_81 (Nat.le_of_ble_eq_true rfl) (Nat.le_of_ble_eq_true rfl) rfl
            · replace hf := (if_neg c8).symm.trans hf
              refine v_tswO (tgt := 82) C dX11_told_7 (by have e0 := lv_neT (a := 0) c2 rfl; have e1 := lv_neT (a := 1) c4 rfl; have e2 := lv_neT (a := 2) c6 rfl; have e3 := lv_neT (a := 3) c7 rfl; have e4 := lv_neT (a := 4) c8 rfl; omega) (by decide) ?_
              obtain rfl := Option.some.inj hf
              exact v_throw (i := 15) (t := "no such what") C hO hl hex hlk xa_0_115 xk_111 rfl xo_111 dX11_told_82 dX11_told_85 dX11_told_86 dX11_told_88 dX11_told_91 ⟨Nat.le_of_ble_eq_true rfl, Nat.le_of_ble_eq_true rfl⟩ (Nat.le_of_ble_eq_true rfl) (Nat.le_of_ble_eq_true rfl) rfl rfl

abbrev rm_alike : Room := { frames := 7, cells := 1, slots := 6, locals := 103 }
def sp_alike (K : Nat) (p1 : Int32) (v_t_law_alikes : Nat → Int32) : Option (Nat ⊕ (Int32)) :=
  xb (sp_needBelow K p1 10) fun o3 =>
    (sp_Law_alikeWith K p1 v_t_law_alikes).bind fun o11 =>
      some (.inr o11)
set_option maxHeartbeats 4000000 in
set_option maxRecDepth 20000 in
theorem c_alike (l : Launch) (D : va_G) (cy : Nat → ClassId) (K : Nat) (hl : l.stackTraces = false) (adK adV : Nat → Nat) (q_t q_t_stories q_t_images q_t_piles q_t_tape q_t_varied q_t_evidence q_t_run q_t_otherRun q_t_balance q_t_law q_t_law_shed q_t_law_hold q_t_law_common q_t_law_alikes q_t_draftLaw q_t_draftStory : Nat) (p1 : Int32) (v_t_storyCount : Int32) (v_t_imageCount : Int32) (v_t_law_shed : Nat → Int32) (v_t_law_hold : Nat → Int32) (v_t_law_common : Nat → Int32) (v_t_law_alikes : Nat → Int32) (v_t_law_wash : Int32) (v_t_law_pass : Int32) (v_t_law_take : Int32) (v_t_law_clauses : Int32) (out : Nat ⊕ (Int32)) (hf : sp_alike K p1 v_t_law_alikes = some out) : CX l yX11_alike cX11_alike 2 (some .int) rm_alike D cy adK adV [.ref q_t, .int p1] [ob q_t 11 [.ref q_t_tape, .ref q_t_stories, .ref q_t_varied, .ref q_t_evidence, .ref q_t_images, .ref q_t_run, .ref q_t_otherRun, .ref q_t_piles, .ref q_t_balance, .ref q_t_law, .ref q_t_draftLaw, .ref q_t_draftStory, .int v_t_storyCount, .int v_t_imageCount], ob q_t_law 5 [.ref q_t_law_shed, .ref q_t_law_hold, .ref q_t_law_common, .ref q_t_law_alikes, .int v_t_law_wash, .int v_t_law_pass, .int v_t_law_take, .int v_t_law_clauses], aI cy q_t_law_shed 80 v_t_law_shed, aI cy q_t_law_hold 10 v_t_law_hold, aI cy q_t_law_common 10 v_t_law_common, aI cy q_t_law_alikes 10 v_t_law_alikes] (Sum.elim (fun c9 => Sum.inl (EN c9)) (fun o9 => Sum.inr ((some (.int o9)), [ob q_t 11 [.ref q_t_tape, .ref q_t_stories, .ref q_t_varied, .ref q_t_evidence, .ref q_t_images, .ref q_t_run, .ref q_t_otherRun, .ref q_t_piles, .ref q_t_balance, .ref q_t_law, .ref q_t_draftLaw, .ref q_t_draftStory, .int v_t_storyCount, .int v_t_imageCount], ob q_t_law 5 [.ref q_t_law_shed, .ref q_t_law_hold, .ref q_t_law_common, .ref q_t_law_alikes, .int v_t_law_wash, .int v_t_law_pass, .int v_t_law_take, .int v_t_law_clauses], aI cy q_t_law_shed 80 v_t_law_shed, aI cy q_t_law_hold 10 v_t_law_hold, aI cy q_t_law_common 10 v_t_law_common, aI cy q_t_law_alikes 10 v_t_law_alikes])) out) := by
  refine cx_of (by decide +kernel) (Nat.le_of_ble_eq_true rfl) (fun p e s m args below meth c C hO hex hr hlk => ?_)
  unfold sp_alike at hf
  refine v_iload_n C dX11_alike_0 1 rfl rfl ?_
  refine v_bipush (v := 10) C dX11_alike_1 (by decide) ?_
  rcases xb_ hf with ⟨c9, g1, rfl⟩ | ⟨o3, g1, hf⟩
  · exact v_callST (As := [.int p1, .int 10]) (wr := [ob q_t 11 [.ref q_t_tape, .ref q_t_stories, .ref q_t_varied, .ref q_t_evidence, .ref q_t_images, .ref q_t_run, .ref q_t_otherRun, .ref q_t_piles, .ref q_t_balance, .ref q_t_law, .ref q_t_draftLaw, .ref q_t_draftStory, .int v_t_storyCount, .int v_t_imageCount], ob q_t_law 5 [.ref q_t_law_shed, .ref q_t_law_hold, .ref q_t_law_common, .ref q_t_law_alikes, .int v_t_law_wash, .int v_t_law_pass, .int v_t_law_take, .int v_t_law_clauses], aI cy q_t_law_shed 80 v_t_law_shed, aI cy q_t_law_hold 10 v_t_law_hold, aI cy q_t_law_common 10 v_t_law_common, aI cy q_t_law_alikes 10 v_t_law_alikes]) (st := []) C hO (c_needBelow l D cy K hl adK adV   p1 10 (.inl c9) g1) ls_X11_121 rfl (by decide) rfl dX11_alike_3 [] [0, 1, 2, 3, 4, 5] [0, 1, 2, 3, 4, 5] (by decide) rfl rfl (by decide) (by decide) rfl (by decide) (Nat.le_of_ble_eq_true rfl) hex hlk (Nat.le_of_ble_eq_true rfl) (Nat.le_of_ble_eq_true rfl) rfl rfl
  · refine v_callSX (As := [.int p1, .int 10]) (wr := [ob q_t 11 [.ref q_t_tape, .ref q_t_stories, .ref q_t_varied, .ref q_t_evidence, .ref q_t_images, .ref q_t_run, .ref q_t_otherRun, .ref q_t_piles, .ref q_t_balance, .ref q_t_law, .ref q_t_draftLaw, .ref q_t_draftStory, .int v_t_storyCount, .int v_t_imageCount], ob q_t_law 5 [.ref q_t_law_shed, .ref q_t_law_hold, .ref q_t_law_common, .ref q_t_law_alikes, .int v_t_law_wash, .int v_t_law_pass, .int v_t_law_take, .int v_t_law_clauses], aI cy q_t_law_shed 80 v_t_law_shed, aI cy q_t_law_hold 10 v_t_law_hold, aI cy q_t_law_common 10 v_t_law_common, aI cy q_t_law_alikes 10 v_t_law_alikes]) (ws' := [ob q_t 11 [.ref q_t_tape, .ref q_t_stories, .ref q_t_varied, .ref q_t_evidence, .ref q_t_images, .ref q_t_run, .ref q_t_otherRun, .ref q_t_piles, .ref q_t_balance, .ref q_t_law, .ref q_t_draftLaw, .ref q_t_draftStory, .int v_t_storyCount, .int v_t_imageCount], ob q_t_law 5 [.ref q_t_law_shed, .ref q_t_law_hold, .ref q_t_law_common, .ref q_t_law_alikes, .int v_t_law_wash, .int v_t_law_pass, .int v_t_law_take, .int v_t_law_clauses], aI cy q_t_law_shed 80 v_t_law_shed, aI cy q_t_law_hold 10 v_t_law_hold, aI cy q_t_law_common 10 v_t_law_common, aI cy q_t_law_alikes 10 v_t_law_alikes]) (st := []) (stk' := []) C hO (c_needBelow l D cy K hl adK adV   p1 10 (.inr o3) g1) ls_X11_121 rfl (by decide) rfl dX11_alike_3 [] [0, 1, 2, 3, 4, 5] (by decide) rfl rfl (by decide) (by decide) (Nat.le_of_ble_eq_true rfl) rfl rfl ?_
    refine v_aload_n C dX11_alike_6 0 rfl rfl ?_
    refine v_get C fl_X11_19 0 rfl rfl dX11_alike_7 ?_
    refine v_iload_n C dX11_alike_10 1 rfl rfl ?_
    obtain ⟨o11, g2, hf⟩ := bd_ hf
    refine v_callV (As := [.int p1]) (wr := [ob q_t 11 [.ref q_t_tape, .ref q_t_stories, .ref q_t_varied, .ref q_t_evidence, .ref q_t_images, .ref q_t_run, .ref q_t_otherRun, .ref q_t_piles, .ref q_t_balance, .ref q_t_law, .ref q_t_draftLaw, .ref q_t_draftStory, .int v_t_storyCount, .int v_t_imageCount]]) (ws' := [ob q_t 11 [.ref q_t_tape, .ref q_t_stories, .ref q_t_varied, .ref q_t_evidence, .ref q_t_images, .ref q_t_run, .ref q_t_otherRun, .ref q_t_piles, .ref q_t_balance, .ref q_t_law, .ref q_t_draftLaw, .ref q_t_draftStory, .int v_t_storyCount, .int v_t_imageCount], ob q_t_law 5 [.ref q_t_law_shed, .ref q_t_law_hold, .ref q_t_law_common, .ref q_t_law_alikes, .int v_t_law_wash, .int v_t_law_pass, .int v_t_law_take, .int v_t_law_clauses], aI cy q_t_law_shed 80 v_t_law_shed, aI cy q_t_law_hold 10 v_t_law_hold, aI cy q_t_law_common 10 v_t_law_common, aI cy q_t_law_alikes 10 v_t_law_alikes]) (st := []) (stk' := [.int o11]) C (c_Law_alikeWith l D cy K q_t_law q_t_law_shed q_t_law_hold q_t_law_common q_t_law_alikes  p1 v_t_law_shed v_t_law_hold v_t_law_common v_t_law_alikes v_t_law_wash v_t_law_pass v_t_law_take v_t_law_clauses o11 g2) lv_X11_146 rfl (by decide) rfl 1 rfl rfl rfl dX11_alike_11 [1, 2, 3, 4, 5] [0] (by decide) rfl rfl (by decide) (by decide) (Nat.le_of_ble_eq_true rfl) rfl rfl ?_
    obtain rfl := Option.some.inj hf
    exact v_iretX C hr hlk dX11_alike_14 (Nat.le_of_ble_eq_true rfl) (Nat.le_of_ble_eq_true rfl) rfl

abbrev rm_Run_begin : Room := { frames := 1, cells := 0, slots := 0, locals := 23 }
def sp_Run_begin (K : Nat) (v_t_lying : Nat → Int32) (v_t_worn : Nat → Int32) (v_t_laden : Int32) (v_t_hour : Int32) (v_t_done : Int32) : Option ((Nat → Int32) × (Nat → Int32) × Int32 × Int32 × Int32) :=
  (sp_Arrays_fill K 0 100 v_t_lying).bind fun o15 =>
    (sp_Arrays_fill K (-1) 10 v_t_worn).bind fun o23 =>
      some (o15, o23, 0, 0, 0)
set_option maxHeartbeats 4000000 in
set_option maxRecDepth 20000 in
theorem c_Run_begin (l : Launch) (D : va_G) (cy : Nat → ClassId) (K : Nat) (q_t q_t_lying q_t_worn q_t_law q_t_story q_p1 q_p2 : Nat) (v_t_lying : Nat → Int32) (v_t_worn : Nat → Int32) (v_t_laden : Int32) (v_t_hour : Int32) (v_t_done : Int32) (out : (Nat → Int32) × (Nat → Int32) × Int32 × Int32 × Int32) (hf : sp_Run_begin K v_t_lying v_t_worn v_t_laden v_t_hour v_t_done = some out) : Ct l yX6_begin cX6_begin 3 none rm_Run_begin D cy [.ref q_t, .ref q_p1, .ref q_p2] [ob q_t 6 [.ref q_t_lying, .ref q_t_worn, .ref q_t_law, .ref q_t_story, .int v_t_laden, .int v_t_hour, .int v_t_done], aI cy q_t_lying 100 v_t_lying, aI cy q_t_worn 10 v_t_worn] none [ob q_t 6 [.ref q_t_lying, .ref q_t_worn, .ref q_p1, .ref q_p2, .int out.2.2.1, .int out.2.2.2.1, .int out.2.2.2.2], aI cy q_t_lying 100 out.1, aI cy q_t_worn 10 out.2.1] := by
  refine ct_of (by decide +kernel) (Nat.le_of_ble_eq_true rfl) (fun p e s m args below meth c C hr hlk hnm => ?_)
  unfold sp_Run_begin at hf
  refine v_aload_n C dX6_begin_0 0 rfl rfl ?_
  refine v_aload_n C dX6_begin_1 1 rfl rfl ?_
  refine v_put (ws' := [ob q_t 6 [.ref q_t_lying, .ref q_t_worn, .ref q_p1, .ref q_t_story, .int v_t_laden, .int v_t_hour, .int v_t_done], aI cy q_t_lying 100 v_t_lying, aI cy q_t_worn 10 v_t_worn]) C fp_X6_18 0 rfl rfl rfl (Nat.le_of_ble_eq_true rfl) rfl dX6_begin_2 ?_
  refine v_aload_n C dX6_begin_5 0 rfl rfl ?_
  refine v_aload_n C dX6_begin_6 2 rfl rfl ?_
  refine v_put (ws' := [ob q_t 6 [.ref q_t_lying, .ref q_t_worn, .ref q_p1, .ref q_p2, .int v_t_laden, .int v_t_hour, .int v_t_done], aI cy q_t_lying 100 v_t_lying, aI cy q_t_worn 10 v_t_worn]) C fp_X6_22 0 rfl rfl rfl (Nat.le_of_ble_eq_true rfl) rfl dX6_begin_7 ?_
  refine v_aload_n C dX6_begin_10 0 rfl rfl ?_
  refine v_get C fl_X6_9 0 rfl rfl dX6_begin_11 ?_
  refine v_iconst (v := 0) C dX6_begin_14 (by decide) ?_
  obtain ⟨o15, g1, hf⟩ := bd_ hf
  refine v_callS (As := [.ref q_t_lying, .int 0]) (wr := [ob q_t 6 [.ref q_t_lying, .ref q_t_worn, .ref q_p1, .ref q_p2, .int v_t_laden, .int v_t_hour, .int v_t_done], aI cy q_t_worn 10 v_t_worn]) (ws' := [ob q_t 6 [.ref q_t_lying, .ref q_t_worn, .ref q_p1, .ref q_p2, .int v_t_laden, .int v_t_hour, .int v_t_done], aI cy q_t_worn 10 v_t_worn, aI cy q_t_lying 100 o15]) (st := []) (stk' := []) C (c_Arrays_fill l D cy K q_t_lying  0 100 v_t_lying o15 g1) ls_X6_26 rfl (by decide) rfl dX6_begin_15 [1] [0, 2] (by decide) rfl rfl (by decide) (by decide) (Nat.le_of_ble_eq_true rfl) rfl rfl ?_
  refine v_aload_n C dX6_begin_18 0 rfl rfl ?_
  refine v_get C fl_X6_15 0 rfl rfl dX6_begin_19 ?_
  refine v_iconst (v := (-1)) C dX6_begin_22 (by decide) ?_
  obtain ⟨o23, g2, hf⟩ := bd_ hf
  refine v_callS (As := [.ref q_t_worn, .int (-1)]) (wr := [ob q_t 6 [.ref q_t_lying, .ref q_t_worn, .ref q_p1, .ref q_p2, .int v_t_laden, .int v_t_hour, .int v_t_done], aI cy q_t_lying 100 o15]) (ws' := [ob q_t 6 [.ref q_t_lying, .ref q_t_worn, .ref q_p1, .ref q_p2, .int v_t_laden, .int v_t_hour, .int v_t_done], aI cy q_t_lying 100 o15, aI cy q_t_worn 10 o23]) (st := []) (stk' := []) C (c_Arrays_fill l D cy K q_t_worn  (-1) 10 v_t_worn o23 g2) ls_X6_26 rfl (by decide) rfl dX6_begin_23 [1] [0, 2] (by decide) rfl rfl (by decide) (by decide) (Nat.le_of_ble_eq_true rfl) rfl rfl ?_
  refine v_aload_n C dX6_begin_26 0 rfl rfl ?_
  refine v_iconst (v := 0) C dX6_begin_27 (by decide) ?_
  refine v_put (ws' := [ob q_t 6 [.ref q_t_lying, .ref q_t_worn, .ref q_p1, .ref q_p2, .int 0, .int v_t_hour, .int v_t_done], aI cy q_t_lying 100 o15, aI cy q_t_worn 10 o23]) C fp_X6_32 0 rfl rfl rfl (Nat.le_of_ble_eq_true rfl) rfl dX6_begin_28 ?_
  refine v_aload_n C dX6_begin_31 0 rfl rfl ?_
  refine v_iconst (v := 0) C dX6_begin_32 (by decide) ?_
  refine v_put (ws' := [ob q_t 6 [.ref q_t_lying, .ref q_t_worn, .ref q_p1, .ref q_p2, .int 0, .int 0, .int v_t_done], aI cy q_t_lying 100 o15, aI cy q_t_worn 10 o23]) C fp_X6_36 0 rfl rfl rfl (Nat.le_of_ble_eq_true rfl) rfl dX6_begin_33 ?_
  refine v_aload_n C dX6_begin_36 0 rfl rfl ?_
  refine v_iconst (v := 0) C dX6_begin_37 (by decide) ?_
  refine v_put (ws' := [ob q_t 6 [.ref q_t_lying, .ref q_t_worn, .ref q_p1, .ref q_p2, .int 0, .int 0, .int 0], aI cy q_t_lying 100 o15, aI cy q_t_worn 10 o23]) C fp_X6_39 0 rfl rfl rfl (Nat.le_of_ble_eq_true rfl) rfl dX6_begin_38 ?_
  obtain rfl := Option.some.inj hf
  exact v_vret C hr hlk dX6_begin_41 rfl rfl rfl rfl
