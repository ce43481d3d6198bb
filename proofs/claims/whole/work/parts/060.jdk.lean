abbrev rm_J3_checkIndex_n : Room := { frames := 0, cells := 0, slots := 0, locals := 0 }
def sp_J3_checkIndex_n (K : Nat) (p0 : Int32) (p1 : Int32) : Option (Int32) :=
  if p0 < 0 then
    none
  else
    if p0 < p1 then
      some p0
    else
      none
set_option maxHeartbeats 4000000 in
set_option maxRecDepth 20000 in
theorem c_J3_checkIndex_n (l : Launch) (D : va_G) (cy : Nat → ClassId) (K : Nat) (adK adV : Nat → Nat) (p0 : Int32) (p1 : Int32) (out : Int32) (hf : sp_J3_checkIndex_n K p0 p1 = some out) : Co l yJ3_checkIndex_8e157 cJ3_checkIndex_8e157 3 (some .int) rm_J3_checkIndex_n D cy adK adV [.int p0, .int p1, .null] [] (some (.int out)) [] := by
  refine co_of (by decide +kernel) (Nat.le_of_ble_eq_true rfl) (fun p e s m args below meth c C hO hr hlk hnm => ?_)
  unfold sp_J3_checkIndex_n at hf
  refine v_iload_n C dJ3_checkIndex_8e157_0 0 rfl rfl ?_
  refine v_if_lt (tgt := 9) C dJ3_checkIndex_8e157_1 (by decide) (fun c1 => ?_) (fun c1 => ?_)
  · replace hf := (if_pos c1).symm.trans hf
    exact nomatch hf
  · replace hf := (if_neg c1).symm.trans hf
    refine v_iload_n C dJ3_checkIndex_8e157_4 0 rfl rfl ?_
    refine v_iload_n C dJ3_checkIndex_8e157_5 1 rfl rfl ?_
    refine v_icmp_lt (tgt := 16) C dJ3_checkIndex_8e157_6 (by decide) (fun c2 => ?_) (fun c2 => ?_)
    · replace hf := (if_pos c2).symm.trans hf
      refine v_iload_n C dJ3_checkIndex_8e157_16 0 rfl rfl ?_
      obtain rfl := Option.some.inj hf
      exact v_iret C hr hlk dJ3_checkIndex_8e157_17 rfl rfl rfl rfl
    · replace hf := (if_neg c2).symm.trans hf
      exact nomatch hf

abbrev rm_J3_checkIndex_r : Room := { frames := 0, cells := 0, slots := 0, locals := 0 }
set_option maxHeartbeats 4000000 in
set_option maxRecDepth 20000 in
theorem c_J3_checkIndex_r (l : Launch) (D : va_G) (cy : Nat → ClassId) (K : Nat) (adK adV : Nat → Nat) (q_p2 : Nat) (p0 : Int32) (p1 : Int32) (out : Int32) (hf : sp_J3_checkIndex_n K p0 p1 = some out) : Co l yJ3_checkIndex_8e157 cJ3_checkIndex_8e157 3 (some .int) rm_J3_checkIndex_r D cy adK adV [.int p0, .int p1, .ref q_p2] [] (some (.int out)) [] := by
  refine co_of (by decide +kernel) (Nat.le_of_ble_eq_true rfl) (fun p e s m args below meth c C hO hr hlk hnm => ?_)
  unfold sp_J3_checkIndex_n at hf
  refine v_iload_n C dJ3_checkIndex_8e157_0 0 rfl rfl ?_
  refine v_if_lt (tgt := 9) C dJ3_checkIndex_8e157_1 (by decide) (fun c1 => ?_) (fun c1 => ?_)
  · replace hf := (if_pos c1).symm.trans hf
    exact nomatch hf
  · replace hf := (if_neg c1).symm.trans hf
    refine v_iload_n C dJ3_checkIndex_8e157_4 0 rfl rfl ?_
    refine v_iload_n C dJ3_checkIndex_8e157_5 1 rfl rfl ?_
    refine v_icmp_lt (tgt := 16) C dJ3_checkIndex_8e157_6 (by decide) (fun c2 => ?_) (fun c2 => ?_)
    · replace hf := (if_pos c2).symm.trans hf
      refine v_iload_n C dJ3_checkIndex_8e157_16 0 rfl rfl ?_
      obtain rfl := Option.some.inj hf
      exact v_iret C hr hlk dJ3_checkIndex_8e157_17 rfl rfl rfl rfl
    · replace hf := (if_neg c2).symm.trans hf
      exact nomatch hf

abbrev rm_J0_checkIndex : Room := { frames := 1, cells := 0, slots := 0, locals := 22 }
def sp_J0_checkIndex (K : Nat) (p0 : Int32) (p1 : Int32) : Option (Unit) :=
  (sp_J3_checkIndex_n K p0 p1).bind fun o5 =>
    some ()
set_option maxHeartbeats 4000000 in
set_option maxRecDepth 20000 in
theorem c_J0_checkIndex (l : Launch) (D : va_G) (cy : Nat → ClassId) (K : Nat) (adK adV : Nat → Nat) (p0 : Int32) (p1 : Int32) (out : Unit) (hf : sp_J0_checkIndex K p0 p1 = some out) : Co l yJ0_checkIndex_df160 cJ0_checkIndex_df160 2 none rm_J0_checkIndex D cy adK adV [.int p0, .int p1] [] none [] := by
  refine co_of (by decide +kernel) (Nat.le_of_ble_eq_true rfl) (fun p e s m args below meth c C hO hr hlk hnm => ?_)
  unfold sp_J0_checkIndex at hf
  refine v_iload_n C dJ0_checkIndex_df160_0 0 rfl rfl ?_
  refine v_iload_n C dJ0_checkIndex_df160_1 1 rfl rfl ?_
  refine v_gfm C hO sf_J0_1053 dJ0_checkIndex_df160_2 ?_ (fun t9 => ?_)
  · skip
    obtain ⟨o5, g1, hf⟩ := bd_ hf
    refine v_callSO (As := [.int p0, .int p1, .null]) (wr := []) (ws' := []) (st := []) (stk' := [.int o5]) C hO (c_J3_checkIndex_n l D cy K adK adV   p0 p1 o5 g1) ls_J0_1059 rfl (by decide) rfl dJ0_checkIndex_df160_5 [] [] (by decide) rfl rfl (by decide) (by decide) (Nat.le_of_ble_eq_true rfl) rfl rfl ?_
    refine v_pop C dJ0_checkIndex_df160_8 rfl ?_
    obtain rfl := Option.some.inj hf
    exact v_vret C hr hlk dJ0_checkIndex_df160_9 rfl rfl rfl rfl
  · skip
    obtain ⟨o5, g2, hf⟩ := bd_ hf
    refine v_callSO (As := [.int p0, .int p1, .ref t9]) (wr := []) (ws' := []) (st := []) (stk' := [.int o5]) C hO (c_J3_checkIndex_r l D cy K adK adV t9  p0 p1 o5 g2) ls_J0_1059 rfl (by decide) rfl dJ0_checkIndex_df160_5 [] [] (by decide) rfl rfl (by decide) (by decide) (Nat.le_of_ble_eq_true rfl) rfl rfl ?_
    refine v_pop C dJ0_checkIndex_df160_8 rfl ?_
    obtain rfl := Option.some.inj hf
    exact v_vret C hr hlk dJ0_checkIndex_df160_9 rfl rfl rfl rfl

abbrev rm_J1_charAt : Room := { frames := 2, cells := 0, slots := 0, locals := 43 }
def sp_J1_charAt (K : Nat) (p1 : Int32) (i_p0 : Nat) : Option (Int32) :=
  if i_p0 < 13 then
    (sp_J0_checkIndex K p1 (Int32.ofNat (SLEN.getD i_p0 0))).bind fun o3 =>
      if inb p1 (SLEN.getD i_p0 0) then
        if ((((((SBYT.getD i_p0 []).getD p1.toNatClampNeg 0) &&& 255).toUInt32 % 65536).toInt32).toUInt32 % 65536).toInt32 = (((((SBYT.getD i_p0 []).getD p1.toNatClampNeg 0) &&& 255).toUInt32 % 65536).toInt32) then
          some (((((SBYT.getD i_p0 []).getD p1.toNatClampNeg 0) &&& 255).toUInt32 % 65536).toInt32)
        else none
      else none
  else none
set_option maxHeartbeats 4000000 in
set_option maxRecDepth 20000 in
theorem c_J1_charAt (l : Launch) (D : va_G) (cy : Nat → ClassId) (K : Nat) (adK adV : Nat → Nat) (p1 : Int32) (i_p0 : Nat) (out : Int32) (hf : sp_J1_charAt K p1 i_p0 = some out) : Co l yJ1_charAt_3b067 cJ1_charAt_3b067 2 (some .char) rm_J1_charAt D cy adK adV [.ref (adV i_p0), .int p1] [] (some (.int out)) [] := by
  refine co_of (by decide +kernel) (Nat.le_of_ble_eq_true rfl) (fun p e s m args below meth c C hO hr hlk hnm => ?_)
  unfold sp_J1_charAt at hf
  refine v_iload_n C dJ1_charAt_3b067_0 1 rfl rfl ?_
  refine v_aload_n C dJ1_charAt_3b067_1 0 rfl rfl ?_
  obtain ⟨b1, hf⟩ := gd_ hf
  refine v_slen C hO b1 dJ1_charAt_3b067_2 ?_
  obtain ⟨o3, g2, hf⟩ := bd_ hf
  refine v_callSO (As := [.int p1, .int (Int32.ofNat (SLEN.getD i_p0 0))]) (wr := []) (ws' := []) (st := []) (stk' := []) C hO (c_J0_checkIndex l D cy K adK adV   p1 (Int32.ofNat (SLEN.getD i_p0 0)) o3 g2) ls_J1_9 rfl (by decide) rfl dJ1_charAt_3b067_3 [] [] (by decide) rfl rfl (by decide) (by decide) (Nat.le_of_ble_eq_true rfl) rfl rfl ?_
  refine v_aload_n C dJ1_charAt_3b067_6 0 rfl rfl ?_
  refine v_iload_n C dJ1_charAt_3b067_7 1 rfl rfl ?_
  obtain ⟨g3, hf⟩ := gd_ hf
  refine v_sbal C hO b1 g3 dJ1_charAt_3b067_8 ?_
  refine v_sipush (v := 255) C dJ1_charAt_3b067_9 (by decide) ?_
  refine v_iand C dJ1_charAt_3b067_12 ?_
  refine v_i2c C hO dJ1_charAt_3b067_13 ?_
  obtain ⟨gz, hf⟩ := gd_ hf
  obtain rfl := Option.some.inj hf
  exact v_zret C hr hlk (nc_ gz) dJ1_charAt_3b067_14 rfl rfl rfl rfl

abbrev rm_J0_coder : Room := { frames := 0, cells := 0, slots := 0, locals := 0 }
def sp_J0_coder (K : Nat) (i_t : Nat) : Option (Int32) :=
  if (1 : Int32) = 0 then
    some 1
  else
    if i_t < 13 then
      some 0
    else none
set_option maxHeartbeats 4000000 in
set_option maxRecDepth 20000 in
theorem c_J0_coder (l : Launch) (D : va_G) (cy : Nat → ClassId) (K : Nat) (adK adV : Nat → Nat) (i_t : Nat) (out : Int32) (hf : sp_J0_coder K i_t = some out) : Co l yJ0_coder_7d493 cJ0_coder_7d493 1 (some .byte) rm_J0_coder D cy adK adV [.ref (adK i_t)] [] (some (.int out)) [] := by
  refine co_of (by decide +kernel) (Nat.le_of_ble_eq_true rfl) (fun p e s m args below meth c C hO hr hlk hnm => ?_)
  unfold sp_J0_coder at hf
  refine v_gcs C hO sf_J0_38 dJ0_coder_7d493_0 ?_
  refine v_if_eq (tgt := 13) C dJ0_coder_7d493_3 (by decide) (fun c1 => ?_) (fun c1 => ?_)
  · replace hf := (if_pos c1).symm.trans hf
    refine v_iconst (v := 1) C dJ0_coder_7d493_13 (by decide) ?_
    obtain rfl := Option.some.inj hf
    exact v_zret C hr hlk rfl dJ0_coder_7d493_14 rfl rfl rfl rfl
  · replace hf := (if_neg c1).symm.trans hf
    refine v_aload_n C dJ0_coder_7d493_6 0 rfl rfl ?_
    obtain ⟨b2, hf⟩ := gd_ hf
    refine v_scod C hO b2 sf_J0_15 dJ0_coder_7d493_7 ?_
    refine v_goto (tgt := 14) C dJ0_coder_7d493_10 (by decide) ?_
    obtain rfl := Option.some.inj hf
    exact v_zret C hr hlk rfl dJ0_coder_7d493_14 rfl rfl rfl rfl

abbrev rm_J0_isLatin1 : Room := { frames := 0, cells := 0, slots := 0, locals := 0 }
def sp_J0_isLatin1 (K : Nat) (i_t : Nat) : Option (Int32) :=
  if (1 : Int32) = 0 then
    some 0
  else
    if i_t < 13 then
      if (0 : Int32) = 0 then
        some 1
      else
        some 0
    else none
set_option maxHeartbeats 4000000 in
set_option maxRecDepth 20000 in
theorem c_J0_isLatin1 (l : Launch) (D : va_G) (cy : Nat → ClassId) (K : Nat) (adK adV : Nat → Nat) (i_t : Nat) (out : Int32) (hf : sp_J0_isLatin1 K i_t = some out) : Co l yJ0_isLatin1_aae02 cJ0_isLatin1_aae02 1 (some .boolean) rm_J0_isLatin1 D cy adK adV [.ref (adK i_t)] [] (some (.int out)) [] := by
  refine co_of (by decide +kernel) (Nat.le_of_ble_eq_true rfl) (fun p e s m args below meth c C hO hr hlk hnm => ?_)
  unfold sp_J0_isLatin1 at hf
  refine v_gcs C hO sf_J0_38 dJ0_isLatin1_aae02_0 ?_
  refine v_if_eq (tgt := 17) C dJ0_isLatin1_aae02_3 (by decide) (fun c1 => ?_) (fun c1 => ?_)
  · replace hf := (if_pos c1).symm.trans hf
    refine v_iconst (v := 0) C dJ0_isLatin1_aae02_17 (by decide) ?_
    obtain rfl := Option.some.inj hf
    exact v_zret C hr hlk rfl dJ0_isLatin1_aae02_18 rfl rfl rfl rfl
  · replace hf := (if_neg c1).symm.trans hf
    refine v_aload_n C dJ0_isLatin1_aae02_6 0 rfl rfl ?_
    obtain ⟨b2, hf⟩ := gd_ hf
    refine v_scod C hO b2 sf_J0_15 dJ0_isLatin1_aae02_7 ?_
    refine v_if_ne (tgt := 17) C dJ0_isLatin1_aae02_10 (by decide) (fun c3 => ?_) (fun c3 => ?_)
    · replace hf := (if_neg c3).symm.trans hf
      refine v_iconst (v := 0) C dJ0_isLatin1_aae02_17 (by decide) ?_
      obtain rfl := Option.some.inj hf
      exact v_zret C hr hlk rfl dJ0_isLatin1_aae02_18 rfl rfl rfl rfl
    · replace hf := (if_pos c3).symm.trans hf
      refine v_iconst (v := 1) C dJ0_isLatin1_aae02_13 (by decide) ?_
      refine v_goto (tgt := 18) C dJ0_isLatin1_aae02_14 (by decide) ?_
      obtain rfl := Option.some.inj hf
      exact v_zret C hr hlk rfl dJ0_isLatin1_aae02_18 rfl rfl rfl rfl

abbrev rm_J0_length : Room := { frames := 1, cells := 0, slots := 0, locals := 20 }
def sp_J0_length (K : Nat) (i_t : Nat) : Option (Int32) :=
  if i_t < 13 then
    (sp_J0_coder K i_t).bind fun o6 =>
      some ((Int32.ofNat (SLEN.getD i_t 0)) >>> (o6 &&& 31))
  else none
set_option maxHeartbeats 4000000 in
set_option maxRecDepth 20000 in
theorem c_J0_length (l : Launch) (D : va_G) (cy : Nat → ClassId) (K : Nat) (adK adV : Nat → Nat) (i_t : Nat) (out : Int32) (hf : sp_J0_length K i_t = some out) : Co l yJ0_length_8abf5 cJ0_length_8abf5 1 (some .int) rm_J0_length D cy adK adV [.ref (adK i_t)] [] (some (.int out)) [] := by
  refine co_of (by decide +kernel) (Nat.le_of_ble_eq_true rfl) (fun p e s m args below meth c C hO hr hlk hnm => ?_)
  unfold sp_J0_length at hf
  refine v_aload_n C dJ0_length_8abf5_0 0 rfl rfl ?_
  obtain ⟨b1, hf⟩ := gd_ hf
  refine v_sval C hO b1 sf_J0_9 dJ0_length_8abf5_1 ?_
  refine v_slen C hO b1 dJ0_length_8abf5_4 ?_
  refine v_aload_n C dJ0_length_8abf5_5 0 rfl rfl ?_
  obtain ⟨o6, g2, hf⟩ := bd_ hf
  refine v_callVs (As := []) (wr := []) (ws' := []) (st := [.int (Int32.ofNat (SLEN.getD i_t 0))]) (stk' := [.int o6, .int (Int32.ofNat (SLEN.getD i_t 0))]) C hO (c_J0_coder l D cy K adK adV   i_t o6 g2) b1 rfl lv_J0_335 rfl (by decide) rfl dJ0_length_8abf5_6 [] [] (by decide) rfl rfl (by decide) (by decide) (Nat.le_of_ble_eq_true rfl) rfl rfl ?_
  refine v_ishr C dJ0_length_8abf5_9 ?_
  obtain rfl := Option.some.inj hf
  exact v_iret C hr hlk dJ0_length_8abf5_10 rfl rfl rfl rfl

abbrev rm_J0_charAt : Room := { frames := 3, cells := 0, slots := 0, locals := 64 }
def sp_J0_charAt (K : Nat) (p1 : Int32) (i_t : Nat) : Option (Int32) :=
  if i_t < 13 then
    (sp_J0_isLatin1 K i_t).bind fun o1 =>
      if o1 = 0 then
        none
      else
        (sp_J1_charAt K p1 i_t).bind fun o12 =>
          if (o12.toUInt32 % 65536).toInt32 = o12 then
            some o12
          else none
  else none
set_option maxHeartbeats 4000000 in
set_option maxRecDepth 20000 in
theorem c_J0_charAt (l : Launch) (D : va_G) (cy : Nat → ClassId) (K : Nat) (adK adV : Nat → Nat) (p1 : Int32) (i_t : Nat) (out : Int32) (hf : sp_J0_charAt K p1 i_t = some out) : Co l yJ0_charAt_5068e cJ0_charAt_5068e 2 (some .char) rm_J0_charAt D cy adK adV [.ref (adK i_t), .int p1] [] (some (.int out)) [] := by
  refine co_of (by decide +kernel) (Nat.le_of_ble_eq_true rfl) (fun p e s m args below meth c C hO hr hlk hnm => ?_)
  unfold sp_J0_charAt at hf
  refine v_aload_n C dJ0_charAt_5068e_0 0 rfl rfl ?_
  obtain ⟨b1, hf⟩ := gd_ hf
  obtain ⟨o1, g2, hf⟩ := bd_ hf
  refine v_callVs (As := []) (wr := []) (ws' := []) (st := []) (stk' := [.int o1]) C hO (c_J0_isLatin1 l D cy K adK adV   i_t o1 g2) b1 rfl lv_J0_492 rfl (by decide) rfl dJ0_charAt_5068e_1 [] [] (by decide) rfl rfl (by decide) (by decide) (Nat.le_of_ble_eq_true rfl) rfl rfl ?_
  refine v_if_eq (tgt := 16) C dJ0_charAt_5068e_4 (by decide) (fun c3 => ?_) (fun c3 => ?_)
  · replace hf := (if_pos c3).symm.trans hf
    exact nomatch hf
  · replace hf := (if_neg c3).symm.trans hf
    refine v_aload_n C dJ0_charAt_5068e_7 0 rfl rfl ?_
    refine v_sval C hO b1 sf_J0_9 dJ0_charAt_5068e_8 ?_
    refine v_iload_n C dJ0_charAt_5068e_11 1 rfl rfl ?_
    obtain ⟨o12, g4, hf⟩ := bd_ hf
    refine v_callSO (As := [.ref (adV i_t), .int p1]) (wr := []) (ws' := []) (st := []) (stk' := [.int o12]) C hO (c_J1_charAt l D cy K adK adV   p1 i_t o12 g4) ls_J0_495 rfl (by decide) rfl dJ0_charAt_5068e_12 [] [] (by decide) rfl rfl (by decide) (by decide) (Nat.le_of_ble_eq_true rfl) rfl rfl ?_
    obtain ⟨gz, hf⟩ := gd_ hf
    obtain rfl := Option.some.inj hf
    exact v_zret C hr hlk (nc_ gz) dJ0_charAt_5068e_15 rfl rfl rfl rfl
