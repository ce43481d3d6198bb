abbrev rmc_Great : Room := { frames := 1, cells := 1, slots := 136, locals := 12 }
set_option maxHeartbeats 4000000 in
set_option maxRecDepth 20000 in
theorem cc_Great (l : Launch) (D : va_G) (cy : Nat → ClassId) (K : Nat) (q_t : Nat) : Cc l yX4_init cX4_init 1 rmc_Great D cy [.ref q_t] [ob q_t 4 [.null, .int 0]] (fun wo => ∃ a1 : Nat, wo = [ob q_t 4 [.ref a1, .int 0], aI cy a1 136 (fun _ => 0)]) := by
  refine cc_of (by decide +kernel) (Nat.le_of_ble_eq_true rfl) (fun p e s m args below meth c C hA hr hlk hnm => ?_)
  refine v_aload_n C dX4_init_0 0 rfl rfl ?_
  refine v_objInit C oi_X4_3 oi_g ⟨Nat.le_of_ble_eq_true rfl, Nat.le_of_ble_eq_true rfl⟩ dX4_init_1 ?_
  refine v_aload_n C dX4_init_4 0 rfl rfl ?_
  refine v_sipush (v := 136) C dX4_init_5 (by decide) ?_
  refine v_newI (N := 136) C ac_int (by decide) (by decide) (by decide) (Nat.le_of_ble_eq_true rfl) (Nat.le_of_ble_eq_true rfl) dX4_init_8 (fun a1 => ?_)
  refine v_wse (ws' := [ob q_t 4 [.null, .int 0], aI cy a1 136 (fun _ => 0)]) rfl ?_
  refine v_putF (ws' := [ob q_t 4 [.ref a1, .int 0], aI cy a1 136 (fun _ => 0)]) C hnm ff_X4_11 0 rfl rfl rfl (Nat.le_of_ble_eq_true rfl) rfl dX4_init_10 ?_
  exact v_vretC C hr hlk dX4_init_13 rfl rfl ⟨a1, rfl⟩

abbrev rmc_Chance : Room := { frames := 2, cells := 2, slots := 138, locals := 32 }
set_option maxHeartbeats 4000000 in
set_option maxRecDepth 20000 in
theorem cc_Chance (l : Launch) (D : va_G) (cy : Nat → ClassId) (K : Nat) (q_t : Nat) : Cc l yX1_init cX1_init 1 rmc_Chance D cy [.ref q_t] [ob q_t 1 [.null, .int 0]] (fun wo => ∃ a1 a2 : Nat, wo = [ob q_t 1 [.ref a1, .int 0], ob a1 4 [.ref a2, .int 0], aI cy a2 136 (fun _ => 0)]) := by
  refine cc_of (by decide +kernel) (Nat.le_of_ble_eq_true rfl) (fun p e s m args below meth c C hA hr hlk hnm => ?_)
  refine v_aload_n C dX1_init_0 0 rfl rfl ?_
  refine v_objInit C oi_X1_3 oi_g ⟨Nat.le_of_ble_eq_true rfl, Nat.le_of_ble_eq_true rfl⟩ dX1_init_1 ?_
  refine v_aload_n C dX1_init_4 0 rfl rfl ?_
  refine v_new C nc_X1_9 (Nat.le_of_ble_eq_true rfl) (Nat.le_of_ble_eq_true rfl) dX1_init_5 (fun a1 => ?_)
  refine v_wse (ws' := [ob q_t 1 [.null, .int 0], ob a1 4 [.null, .int 0]]) rfl ?_
  refine v_dup C dX1_init_8 rfl ?_
  refine v_callJ (As := []) (wr := [ob q_t 1 [.null, .int 0]]) C hA (cc_Great l D cy K a1) lj_X1_11 rfl (by decide) rfl dX1_init_9 [1] [0] (by decide) rfl rfl (by decide) (by decide) (Nat.le_of_ble_eq_true rfl) (fun wo hw => ?_)
  obtain ⟨a2, rfl⟩ := hw
  refine v_wse (ws' := [ob q_t 1 [.null, .int 0], ob a1 4 [.ref a2, .int 0], aI cy a2 136 (fun _ => 0)]) rfl ?_
  refine v_putF (ws' := [ob q_t 1 [.ref a1, .int 0], ob a1 4 [.ref a2, .int 0], aI cy a2 136 (fun _ => 0)]) C hnm ff_X1_12 0 rfl rfl rfl (Nat.le_of_ble_eq_true rfl) rfl dX1_init_12 ?_
  exact v_vretC C hr hlk dX1_init_15 rfl rfl ⟨a1, a2, rfl⟩

abbrev rmc_Balance : Room := { frames := 3, cells := 12, slots := 694, locals := 52 }
set_option maxHeartbeats 4000000 in
set_option maxRecDepth 20000 in
theorem cc_Balance (l : Launch) (D : va_G) (cy : Nat → ClassId) (K : Nat) (q_t : Nat) : Cc l yX0_init cX0_init 1 rmc_Balance D cy [.ref q_t] [ob q_t 0 [.null, .null, .null, .null, .null]] (fun wo => ∃ a1 a2 a3 a4 a5 a6 a7 a8 a9 a10 a11 a12 : Nat, wo = [ob q_t 0 [.ref a1, .ref a4, .ref a7, .ref a9, .ref a11], ob a1 1 [.ref a2, .int 0], ob a2 4 [.ref a3, .int 0], aI cy a3 136 (fun _ => 0), ob a4 1 [.ref a5, .int 0], ob a5 4 [.ref a6, .int 0], aI cy a6 136 (fun _ => 0), ob a7 4 [.ref a8, .int 0], aI cy a8 136 (fun _ => 0), ob a9 4 [.ref a10, .int 0], aI cy a10 136 (fun _ => 0), ob a11 4 [.ref a12, .int 0], aI cy a12 136 (fun _ => 0)]) := by
  refine cc_of (by decide +kernel) (Nat.le_of_ble_eq_true rfl) (fun p e s m args below meth c C hA hr hlk hnm => ?_)
  refine v_aload_n C dX0_init_0 0 rfl rfl ?_
  refine v_objInit C oi_X0_3 oi_g ⟨Nat.le_of_ble_eq_true rfl, Nat.le_of_ble_eq_true rfl⟩ dX0_init_1 ?_
  refine v_aload_n C dX0_init_4 0 rfl rfl ?_
  refine v_new C nc_X0_9 (Nat.le_of_ble_eq_true rfl) (Nat.le_of_ble_eq_true rfl) dX0_init_5 (fun a1 => ?_)
  refine v_wse (ws' := [ob q_t 0 [.null, .null, .null, .null, .null], ob a1 1 [.null, .int 0]]) rfl ?_
  refine v_dup C dX0_init_8 rfl ?_
  refine v_callJ (As := []) (wr := [ob q_t 0 [.null, .null, .null, .null, .null]]) C hA (cc_Chance l D cy K a1) lj_X0_11 rfl (by decide) rfl dX0_init_9 [1] [0] (by decide) rfl rfl (by decide) (by decide) (Nat.le_of_ble_eq_true rfl) (fun wo hw => ?_)
  obtain ⟨a2, a3, rfl⟩ := hw
  refine v_wse (ws' := [ob q_t 0 [.null, .null, .null, .null, .null], ob a1 1 [.ref a2, .int 0], ob a2 4 [.ref a3, .int 0], aI cy a3 136 (fun _ => 0)]) rfl ?_
  refine v_putF (ws' := [ob q_t 0 [.ref a1, .null, .null, .null, .null], ob a1 1 [.ref a2, .int 0], ob a2 4 [.ref a3, .int 0], aI cy a3 136 (fun _ => 0)]) C hnm ff_X0_12 0 rfl rfl rfl (Nat.le_of_ble_eq_true rfl) rfl dX0_init_12 ?_
  refine v_aload_n C dX0_init_15 0 rfl rfl ?_
  refine v_new C nc_X0_9 (Nat.le_of_ble_eq_true rfl) (Nat.le_of_ble_eq_true rfl) dX0_init_16 (fun a4 => ?_)
  refine v_wse (ws' := [ob q_t 0 [.ref a1, .null, .null, .null, .null], ob a1 1 [.ref a2, .int 0], ob a2 4 [.ref a3, .int 0], aI cy a3 136 (fun _ => 0), ob a4 1 [.null, .int 0]]) rfl ?_
  refine v_dup C dX0_init_19 rfl ?_
  refine v_callJ (As := []) (wr := [ob q_t 0 [.ref a1, .null, .null, .null, .null], ob a1 1 [.ref a2, .int 0], ob a2 4 [.ref a3, .int 0], aI cy a3 136 (fun _ => 0)]) C hA (cc_Chance l D cy K a4) lj_X0_11 rfl (by decide) rfl dX0_init_20 [4] [0, 1, 2, 3] (by decide) rfl rfl (by decide) (by decide) (Nat.le_of_ble_eq_true rfl) (fun wo hw => ?_)
  obtain ⟨a5, a6, rfl⟩ := hw
  refine v_wse (ws' := [ob q_t 0 [.ref a1, .null, .null, .null, .null], ob a1 1 [.ref a2, .int 0], ob a2 4 [.ref a3, .int 0], aI cy a3 136 (fun _ => 0), ob a4 1 [.ref a5, .int 0], ob a5 4 [.ref a6, .int 0], aI cy a6 136 (fun _ => 0)]) rfl ?_
  refine v_putF (ws' := [ob q_t 0 [.ref a1, .ref a4, .null, .null, .null], ob a1 1 [.ref a2, .int 0], ob a2 4 [.ref a3, .int 0], aI cy a3 136 (fun _ => 0), ob a4 1 [.ref a5, .int 0], ob a5 4 [.ref a6, .int 0], aI cy a6 136 (fun _ => 0)]) C hnm ff_X0_18 0 rfl rfl rfl (Nat.le_of_ble_eq_true rfl) rfl dX0_init_23 ?_
  refine v_aload_n C dX0_init_26 0 rfl rfl ?_
  refine v_new C nc_X0_21 (Nat.le_of_ble_eq_true rfl) (Nat.le_of_ble_eq_true rfl) dX0_init_27 (fun a7 => ?_)
  refine v_wse (ws' := [ob q_t 0 [.ref a1, .ref a4, .null, .null, .null], ob a1 1 [.ref a2, .int 0], ob a2 4 [.ref a3, .int 0], aI cy a3 136 (fun _ => 0), ob a4 1 [.ref a5, .int 0], ob a5 4 [.ref a6, .int 0], aI cy a6 136 (fun _ => 0), ob a7 4 [.null, .int 0]]) rfl ?_
  refine v_dup C dX0_init_30 rfl ?_
  refine v_callJ (As := []) (wr := [ob q_t 0 [.ref a1, .ref a4, .null, .null, .null], ob a1 1 [.ref a2, .int 0], ob a2 4 [.ref a3, .int 0], aI cy a3 136 (fun _ => 0), ob a4 1 [.ref a5, .int 0], ob a5 4 [.ref a6, .int 0], aI cy a6 136 (fun _ => 0)]) C hA (cc_Great l D cy K a7) lj_X0_23 rfl (by decide) rfl dX0_init_31 [7] [0, 1, 2, 3, 4, 5, 6] (by decide) rfl rfl (by decide) (by decide) (Nat.le_of_ble_eq_true rfl) (fun wo hw => ?_)
  obtain ⟨a8, rfl⟩ := hw
  refine v_wse (ws' := [ob q_t 0 [.ref a1, .ref a4, .null, .null, .null], ob a1 1 [.ref a2, .int 0], ob a2 4 [.ref a3, .int 0], aI cy a3 136 (fun _ => 0), ob a4 1 [.ref a5, .int 0], ob a5 4 [.ref a6, .int 0], aI cy a6 136 (fun _ => 0), ob a7 4 [.ref a8, .int 0], aI cy a8 136 (fun _ => 0)]) rfl ?_
  refine v_putF (ws' := [ob q_t 0 [.ref a1, .ref a4, .ref a7, .null, .null], ob a1 1 [.ref a2, .int 0], ob a2 4 [.ref a3, .int 0], aI cy a3 136 (fun _ => 0), ob a4 1 [.ref a5, .int 0], ob a5 4 [.ref a6, .int 0], aI cy a6 136 (fun _ => 0), ob a7 4 [.ref a8, .int 0], aI cy a8 136 (fun _ => 0)]) C hnm ff_X0_24 0 rfl rfl rfl (Nat.le_of_ble_eq_true rfl) rfl dX0_init_34 ?_
  refine v_aload_n C dX0_init_37 0 rfl rfl ?_
  refine v_new C nc_X0_21 (Nat.le_of_ble_eq_true rfl) (Nat.le_of_ble_eq_true rfl) dX0_init_38 (fun a9 => ?_)
  refine v_wse (ws' := [ob q_t 0 [.ref a1, .ref a4, .ref a7, .null, .null], ob a1 1 [.ref a2, .int 0], ob a2 4 [.ref a3, .int 0], aI cy a3 136 (fun _ => 0), ob a4 1 [.ref a5, .int 0], ob a5 4 [.ref a6, .int 0], aI cy a6 136 (fun _ => 0), ob a7 4 [.ref a8, .int 0], aI cy a8 136 (fun _ => 0), ob a9 4 [.null, .int 0]]) rfl ?_
  refine v_dup C dX0_init_41 rfl ?_
  refine v_callJ (As := []) (wr := [ob q_t 0 [.ref a1, .ref a4, .ref a7, .null, .null], ob a1 1 [.ref a2, .int 0], ob a2 4 [.ref a3, .int 0], aI cy a3 136 (fun _ => 0), ob a4 1 [.ref a5, .int 0], ob a5 4 [.ref a6, .int 0], aI cy a6 136 (fun _ => 0), ob a7 4 [.ref a8, .int 0], aI cy a8 136 (fun _ => 0)]) C hA (cc_Great l D cy K a9) lj_X0_23 rfl (by decide) rfl dX0_init_42 [9] [0, 1, 2, 3, 4, 5, 6, 7, 8] (by decide) rfl rfl (by decide) (by decide) (Nat.le_of_ble_eq_true rfl) (fun wo hw => ?_)
  obtain ⟨a10, rfl⟩ := hw
  refine v_wse (ws' := [ob q_t 0 [.ref a1, .ref a4, .ref a7, .null, .null], ob a1 1 [.ref a2, .int 0], ob a2 4 [.ref a3, .int 0], aI cy a3 136 (fun _ => 0), ob a4 1 [.ref a5, .int 0], ob a5 4 [.ref a6, .int 0], aI cy a6 136 (fun _ => 0), ob a7 4 [.ref a8, .int 0], aI cy a8 136 (fun _ => 0), ob a9 4 [.ref a10, .int 0], aI cy a10 136 (fun _ => 0)]) rfl ?_
  refine v_putF (ws' := [ob q_t 0 [.ref a1, .ref a4, .ref a7, .ref a9, .null], ob a1 1 [.ref a2, .int 0], ob a2 4 [.ref a3, .int 0], aI cy a3 136 (fun _ => 0), ob a4 1 [.ref a5, .int 0], ob a5 4 [.ref a6, .int 0], aI cy a6 136 (fun _ => 0), ob a7 4 [.ref a8, .int 0], aI cy a8 136 (fun _ => 0), ob a9 4 [.ref a10, .int 0], aI cy a10 136 (fun _ => 0)]) C hnm ff_X0_28 0 rfl rfl rfl (Nat.le_of_ble_eq_true rfl) rfl dX0_init_45 ?_
  refine v_aload_n C dX0_init_48 0 rfl rfl ?_
  refine v_new C nc_X0_21 (Nat.le_of_ble_eq_true rfl) (Nat.le_of_ble_eq_true rfl) dX0_init_49 (fun a11 => ?_)
  refine v_wse (ws' := [ob q_t 0 [.ref a1, .ref a4, .ref a7, .ref a9, .null], ob a1 1 [.ref a2, .int 0], ob a2 4 [.ref a3, .int 0], aI cy a3 136 (fun _ => 0), ob a4 1 [.ref a5, .int 0], ob a5 4 [.ref a6, .int 0], aI cy a6 136 (fun _ => 0), ob a7 4 [.ref a8, .int 0], aI cy a8 136 (fun _ => 0), ob a9 4 [.ref a10, .int 0], aI cy a10 136 (fun _ => 0), ob a11 4 [.null, .int 0]]) rfl ?_
  refine v_dup C dX0_init_52 rfl ?_
  refine v_callJ (As := []) (wr := [ob q_t 0 [.ref a1, .ref a4, .ref a7, .ref a9, .null], ob a1 1 [.ref a2, .int 0], ob a2 4 [.ref a3, .int 0], aI cy a3 136 (fun _ => 0), ob a4 1 [.ref a5, .int 0], ob a5 4 [.ref a6, .int 0], aI cy a6 136 (fun _ => 0), ob a7 4 [.ref a8, .int 0], aI cy a8 136 (fun _ => 0), ob a9 4 [.ref a10, .int 0], aI cy a10 136 (fun _ => 0)]) C hA (cc_Great l D cy K a11) lj_X0_23 rfl (by decide) rfl dX0_init_53 [11] [0, 1, 2, 3, 4, 5, 6, 7, 8, 9, 10] (by decide) rfl rfl (by decide) (by decide) (Nat.le_of_ble_eq_true rfl) (fun wo hw => ?_)
  obtain ⟨a12, rfl⟩ := hw
  refine v_wse (ws' := [ob q_t 0 [.ref a1, .ref a4, .ref a7, .ref a9, .null], ob a1 1 [.ref a2, .int 0], ob a2 4 [.ref a3, .int 0], aI cy a3 136 (fun _ => 0), ob a4 1 [.ref a5, .int 0], ob a5 4 [.ref a6, .int 0], aI cy a6 136 (fun _ => 0), ob a7 4 [.ref a8, .int 0], aI cy a8 136 (fun _ => 0), ob a9 4 [.ref a10, .int 0], aI cy a10 136 (fun _ => 0), ob a11 4 [.ref a12, .int 0], aI cy a12 136 (fun _ => 0)]) rfl ?_
  refine v_putF (ws' := [ob q_t 0 [.ref a1, .ref a4, .ref a7, .ref a9, .ref a11], ob a1 1 [.ref a2, .int 0], ob a2 4 [.ref a3, .int 0], aI cy a3 136 (fun _ => 0), ob a4 1 [.ref a5, .int 0], ob a5 4 [.ref a6, .int 0], aI cy a6 136 (fun _ => 0), ob a7 4 [.ref a8, .int 0], aI cy a8 136 (fun _ => 0), ob a9 4 [.ref a10, .int 0], aI cy a10 136 (fun _ => 0), ob a11 4 [.ref a12, .int 0], aI cy a12 136 (fun _ => 0)]) C hnm ff_X0_31 0 rfl rfl rfl (Nat.le_of_ble_eq_true rfl) rfl dX0_init_56 ?_
  exact v_vretC C hr hlk dX0_init_59 rfl rfl ⟨a1, a2, a3, a4, a5, a6, a7, a8, a9, a10, a11, a12, rfl⟩

abbrev rmc_Finds : Room := { frames := 1, cells := 4, slots := 32, locals := 12 }
set_option maxHeartbeats 4000000 in
set_option maxRecDepth 20000 in
theorem cc_Finds (l : Launch) (D : va_G) (cy : Nat → ClassId) (K : Nat) (q_t : Nat) : Cc l yX3_init cX3_init 1 rmc_Finds D cy [.ref q_t] [ob q_t 3 [.null, .null, .null, .null, .int 0]] (fun wo => ∃ a1 a2 a3 a4 : Nat, wo = [ob q_t 3 [.ref a1, .ref a2, .ref a3, .ref a4, .int 0], aI cy a1 8 (fun _ => 0), aI cy a2 8 (fun _ => 0), aI cy a3 8 (fun _ => 0), aI cy a4 8 (fun _ => 0)]) := by
  refine cc_of (by decide +kernel) (Nat.le_of_ble_eq_true rfl) (fun p e s m args below meth c C hA hr hlk hnm => ?_)
  refine v_aload_n C dX3_init_0 0 rfl rfl ?_
  refine v_objInit C oi_X3_3 oi_g ⟨Nat.le_of_ble_eq_true rfl, Nat.le_of_ble_eq_true rfl⟩ dX3_init_1 ?_
  refine v_aload_n C dX3_init_4 0 rfl rfl ?_
  refine v_bipush (v := 8) C dX3_init_5 (by decide) ?_
  refine v_newI (N := 8) C ac_int (by decide) (by decide) (by decide) (Nat.le_of_ble_eq_true rfl) (Nat.le_of_ble_eq_true rfl) dX3_init_7 (fun a1 => ?_)
  refine v_wse (ws' := [ob q_t 3 [.null, .null, .null, .null, .int 0], aI cy a1 8 (fun _ => 0)]) rfl ?_
  refine v_putF (ws' := [ob q_t 3 [.ref a1, .null, .null, .null, .int 0], aI cy a1 8 (fun _ => 0)]) C hnm ff_X3_9 0 rfl rfl rfl (Nat.le_of_ble_eq_true rfl) rfl dX3_init_9 ?_
  refine v_aload_n C dX3_init_12 0 rfl rfl ?_
  refine v_bipush (v := 8) C dX3_init_13 (by decide) ?_
  refine v_newI (N := 8) C ac_int (by decide) (by decide) (by decide) (Nat.le_of_ble_eq_true rfl) (Nat.le_of_ble_eq_true rfl) dX3_init_15 (fun a2 => ?_)
  refine v_wse (ws' := [ob q_t 3 [.ref a1, .null, .null, .null, .int 0], aI cy a1 8 (fun _ => 0), aI cy a2 8 (fun _ => 0)]) rfl ?_
  refine v_putF (ws' := [ob q_t 3 [.ref a1, .ref a2, .null, .null, .int 0], aI cy a1 8 (fun _ => 0), aI cy a2 8 (fun _ => 0)]) C hnm ff_X3_15 0 rfl rfl rfl (Nat.le_of_ble_eq_true rfl) rfl dX3_init_17 ?_
  refine v_aload_n C dX3_init_20 0 rfl rfl ?_
  refine v_bipush (v := 8) C dX3_init_21 (by decide) ?_
  refine v_newI (N := 8) C ac_int (by decide) (by decide) (by decide) (Nat.le_of_ble_eq_true rfl) (Nat.le_of_ble_eq_true rfl) dX3_init_23 (fun a3 => ?_)
  refine v_wse (ws' := [ob q_t 3 [.ref a1, .ref a2, .null, .null, .int 0], aI cy a1 8 (fun _ => 0), aI cy a2 8 (fun _ => 0), aI cy a3 8 (fun _ => 0)]) rfl ?_
  refine v_putF (ws' := [ob q_t 3 [.ref a1, .ref a2, .ref a3, .null, .int 0], aI cy a1 8 (fun _ => 0), aI cy a2 8 (fun _ => 0), aI cy a3 8 (fun _ => 0)]) C hnm ff_X3_18 0 rfl rfl rfl (Nat.le_of_ble_eq_true rfl) rfl dX3_init_25 ?_
  refine v_aload_n C dX3_init_28 0 rfl rfl ?_
  refine v_bipush (v := 8) C dX3_init_29 (by decide) ?_
  refine v_newI (N := 8) C ac_int (by decide) (by decide) (by decide) (Nat.le_of_ble_eq_true rfl) (Nat.le_of_ble_eq_true rfl) dX3_init_31 (fun a4 => ?_)
  refine v_wse (ws' := [ob q_t 3 [.ref a1, .ref a2, .ref a3, .null, .int 0], aI cy a1 8 (fun _ => 0), aI cy a2 8 (fun _ => 0), aI cy a3 8 (fun _ => 0), aI cy a4 8 (fun _ => 0)]) rfl ?_
  refine v_putF (ws' := [ob q_t 3 [.ref a1, .ref a2, .ref a3, .ref a4, .int 0], aI cy a1 8 (fun _ => 0), aI cy a2 8 (fun _ => 0), aI cy a3 8 (fun _ => 0), aI cy a4 8 (fun _ => 0)]) C hnm ff_X3_21 0 rfl rfl rfl (Nat.le_of_ble_eq_true rfl) rfl dX3_init_33 ?_
  exact v_vretC C hr hlk dX3_init_36 rfl rfl ⟨a1, a2, a3, a4, rfl⟩

abbrev rmc_Seats : Room := { frames := 1, cells := 1, slots := 40, locals := 12 }
set_option maxHeartbeats 4000000 in
set_option maxRecDepth 20000 in
theorem cc_Seats (l : Launch) (D : va_G) (cy : Nat → ClassId) (K : Nat) (q_t : Nat) : Cc l yX7_init cX7_init 1 rmc_Seats D cy [.ref q_t] [ob q_t 7 [.null, .int 0]] (fun wo => ∃ a1 : Nat, wo = [ob q_t 7 [.ref a1, .int 0], aI cy a1 40 (fun _ => 0)]) := by
  refine cc_of (by decide +kernel) (Nat.le_of_ble_eq_true rfl) (fun p e s m args below meth c C hA hr hlk hnm => ?_)
  refine v_aload_n C dX7_init_0 0 rfl rfl ?_
  refine v_objInit C oi_X7_3 oi_g ⟨Nat.le_of_ble_eq_true rfl, Nat.le_of_ble_eq_true rfl⟩ dX7_init_1 ?_
  refine v_aload_n C dX7_init_4 0 rfl rfl ?_
  refine v_bipush (v := 40) C dX7_init_5 (by decide) ?_
  refine v_newI (N := 40) C ac_int (by decide) (by decide) (by decide) (Nat.le_of_ble_eq_true rfl) (Nat.le_of_ble_eq_true rfl) dX7_init_7 (fun a1 => ?_)
  refine v_wse (ws' := [ob q_t 7 [.null, .int 0], aI cy a1 40 (fun _ => 0)]) rfl ?_
  refine v_putF (ws' := [ob q_t 7 [.ref a1, .int 0], aI cy a1 40 (fun _ => 0)]) C hnm ff_X7_9 0 rfl rfl rfl (Nat.le_of_ble_eq_true rfl) rfl dX7_init_9 ?_
  exact v_vretC C hr hlk dX7_init_12 rfl rfl ⟨a1, rfl⟩

abbrev rmc_Shops : Room := { frames := 1, cells := 3, slots := 36, locals := 12 }
set_option maxHeartbeats 4000000 in
set_option maxRecDepth 20000 in
theorem cc_Shops (l : Launch) (D : va_G) (cy : Nat → ClassId) (K : Nat) (q_t : Nat) : Cc l yX8_init cX8_init 1 rmc_Shops D cy [.ref q_t] [ob q_t 8 [.null, .null, .null, .int 0]] (fun wo => ∃ a1 a2 a3 : Nat, wo = [ob q_t 8 [.ref a1, .ref a2, .ref a3, .int 0], aI cy a1 12 (fun _ => 0), aI cy a2 12 (fun _ => 0), aI cy a3 12 (fun _ => 0)]) := by
  refine cc_of (by decide +kernel) (Nat.le_of_ble_eq_true rfl) (fun p e s m args below meth c C hA hr hlk hnm => ?_)
  refine v_aload_n C dX8_init_0 0 rfl rfl ?_
  refine v_objInit C oi_X8_3 oi_g ⟨Nat.le_of_ble_eq_true rfl, Nat.le_of_ble_eq_true rfl⟩ dX8_init_1 ?_
  refine v_aload_n C dX8_init_4 0 rfl rfl ?_
  refine v_bipush (v := 12) C dX8_init_5 (by decide) ?_
  refine v_newI (N := 12) C ac_int (by decide) (by decide) (by decide) (Nat.le_of_ble_eq_true rfl) (Nat.le_of_ble_eq_true rfl) dX8_init_7 (fun a1 => ?_)
  refine v_wse (ws' := [ob q_t 8 [.null, .null, .null, .int 0], aI cy a1 12 (fun _ => 0)]) rfl ?_
  refine v_putF (ws' := [ob q_t 8 [.ref a1, .null, .null, .int 0], aI cy a1 12 (fun _ => 0)]) C hnm ff_X8_9 0 rfl rfl rfl (Nat.le_of_ble_eq_true rfl) rfl dX8_init_9 ?_
  refine v_aload_n C dX8_init_12 0 rfl rfl ?_
  refine v_bipush (v := 12) C dX8_init_13 (by decide) ?_
  refine v_newI (N := 12) C ac_int (by decide) (by decide) (by decide) (Nat.le_of_ble_eq_true rfl) (Nat.le_of_ble_eq_true rfl) dX8_init_15 (fun a2 => ?_)
  refine v_wse (ws' := [ob q_t 8 [.ref a1, .null, .null, .int 0], aI cy a1 12 (fun _ => 0), aI cy a2 12 (fun _ => 0)]) rfl ?_
  refine v_putF (ws' := [ob q_t 8 [.ref a1, .ref a2, .null, .int 0], aI cy a1 12 (fun _ => 0), aI cy a2 12 (fun _ => 0)]) C hnm ff_X8_15 0 rfl rfl rfl (Nat.le_of_ble_eq_true rfl) rfl dX8_init_17 ?_
  refine v_aload_n C dX8_init_20 0 rfl rfl ?_
  refine v_bipush (v := 12) C dX8_init_21 (by decide) ?_
  refine v_newI (N := 12) C ac_int (by decide) (by decide) (by decide) (Nat.le_of_ble_eq_true rfl) (Nat.le_of_ble_eq_true rfl) dX8_init_23 (fun a3 => ?_)
  refine v_wse (ws' := [ob q_t 8 [.ref a1, .ref a2, .null, .int 0], aI cy a1 12 (fun _ => 0), aI cy a2 12 (fun _ => 0), aI cy a3 12 (fun _ => 0)]) rfl ?_
  refine v_putF (ws' := [ob q_t 8 [.ref a1, .ref a2, .ref a3, .int 0], aI cy a1 12 (fun _ => 0), aI cy a2 12 (fun _ => 0), aI cy a3 12 (fun _ => 0)]) C hnm ff_X8_18 0 rfl rfl rfl (Nat.le_of_ble_eq_true rfl) rfl dX8_init_25 ?_
  exact v_vretC C hr hlk dX8_init_28 rfl rfl ⟨a1, a2, a3, rfl⟩

abbrev rmc_Evidence : Room := { frames := 2, cells := 11, slots := 119, locals := 32 }
set_option maxHeartbeats 4000000 in
set_option maxRecDepth 20000 in
theorem cc_Evidence (l : Launch) (D : va_G) (cy : Nat → ClassId) (K : Nat) (q_t : Nat) : Cc l yX2_init cX2_init 1 rmc_Evidence D cy [.ref q_t] [ob q_t 2 [.null, .null, .null]] (fun wo => ∃ a1 a2 a3 a4 a5 a6 a7 a8 a9 a10 a11 : Nat, wo = [ob q_t 2 [.ref a1, .ref a6, .ref a8], ob a1 3 [.ref a2, .ref a3, .ref a4, .ref a5, .int 0], aI cy a2 8 (fun _ => 0), aI cy a3 8 (fun _ => 0), aI cy a4 8 (fun _ => 0), aI cy a5 8 (fun _ => 0), ob a6 7 [.ref a7, .int 0], aI cy a7 40 (fun _ => 0), ob a8 8 [.ref a9, .ref a10, .ref a11, .int 0], aI cy a9 12 (fun _ => 0), aI cy a10 12 (fun _ => 0), aI cy a11 12 (fun _ => 0)]) := by
  refine cc_of (by decide +kernel) (Nat.le_of_ble_eq_true rfl) (fun p e s m args below meth c C hA hr hlk hnm => ?_)
  refine v_aload_n C dX2_init_0 0 rfl rfl ?_
  refine v_objInit C oi_X2_1 oi_g ⟨Nat.le_of_ble_eq_true rfl, Nat.le_of_ble_eq_true rfl⟩ dX2_init_1 ?_
  refine v_aload_n C dX2_init_4 0 rfl rfl ?_
  refine v_new C nc_X2_7 (Nat.le_of_ble_eq_true rfl) (Nat.le_of_ble_eq_true rfl) dX2_init_5 (fun a1 => ?_)
  refine v_wse (ws' := [ob q_t 2 [.null, .null, .null], ob a1 3 [.null, .null, .null, .null, .int 0]]) rfl ?_
  refine v_dup C dX2_init_8 rfl ?_
  refine v_callJ (As := []) (wr := [ob q_t 2 [.null, .null, .null]]) C hA (cc_Finds l D cy K a1) lj_X2_9 rfl (by decide) rfl dX2_init_9 [1] [0] (by decide) rfl rfl (by decide) (by decide) (Nat.le_of_ble_eq_true rfl) (fun wo hw => ?_)
  obtain ⟨a2, a3, a4, a5, rfl⟩ := hw
  refine v_wse (ws' := [ob q_t 2 [.null, .null, .null], ob a1 3 [.ref a2, .ref a3, .ref a4, .ref a5, .int 0], aI cy a2 8 (fun _ => 0), aI cy a3 8 (fun _ => 0), aI cy a4 8 (fun _ => 0), aI cy a5 8 (fun _ => 0)]) rfl ?_
  refine v_putF (ws' := [ob q_t 2 [.ref a1, .null, .null], ob a1 3 [.ref a2, .ref a3, .ref a4, .ref a5, .int 0], aI cy a2 8 (fun _ => 0), aI cy a3 8 (fun _ => 0), aI cy a4 8 (fun _ => 0), aI cy a5 8 (fun _ => 0)]) C hnm ff_X2_10 0 rfl rfl rfl (Nat.le_of_ble_eq_true rfl) rfl dX2_init_12 ?_
  refine v_aload_n C dX2_init_15 0 rfl rfl ?_
  refine v_new C nc_X2_16 (Nat.le_of_ble_eq_true rfl) (Nat.le_of_ble_eq_true rfl) dX2_init_16 (fun a6 => ?_)
  refine v_wse (ws' := [ob q_t 2 [.ref a1, .null, .null], ob a1 3 [.ref a2, .ref a3, .ref a4, .ref a5, .int 0], aI cy a2 8 (fun _ => 0), aI cy a3 8 (fun _ => 0), aI cy a4 8 (fun _ => 0), aI cy a5 8 (fun _ => 0), ob a6 7 [.null, .int 0]]) rfl ?_
  refine v_dup C dX2_init_19 rfl ?_
  refine v_callJ (As := []) (wr := [ob q_t 2 [.ref a1, .null, .null], ob a1 3 [.ref a2, .ref a3, .ref a4, .ref a5, .int 0], aI cy a2 8 (fun _ => 0), aI cy a3 8 (fun _ => 0), aI cy a4 8 (fun _ => 0), aI cy a5 8 (fun _ => 0)]) C hA (cc_Seats l D cy K a6) lj_X2_18 rfl (by decide) rfl dX2_init_20 [6] [0, 1, 2, 3, 4, 5] (by decide) rfl rfl (by decide) (by decide) (Nat.le_of_ble_eq_true rfl) (fun wo hw => ?_)
  obtain ⟨a7, rfl⟩ := hw
  refine v_wse (ws' := [ob q_t 2 [.ref a1, .null, .null], ob a1 3 [.ref a2, .ref a3, .ref a4, .ref a5, .int 0], aI cy a2 8 (fun _ => 0), aI cy a3 8 (fun _ => 0), aI cy a4 8 (fun _ => 0), aI cy a5 8 (fun _ => 0), ob a6 7 [.ref a7, .int 0], aI cy a7 40 (fun _ => 0)]) rfl ?_
  refine v_putF (ws' := [ob q_t 2 [.ref a1, .ref a6, .null], ob a1 3 [.ref a2, .ref a3, .ref a4, .ref a5, .int 0], aI cy a2 8 (fun _ => 0), aI cy a3 8 (fun _ => 0), aI cy a4 8 (fun _ => 0), aI cy a5 8 (fun _ => 0), ob a6 7 [.ref a7, .int 0], aI cy a7 40 (fun _ => 0)]) C hnm ff_X2_19 0 rfl rfl rfl (Nat.le_of_ble_eq_true rfl) rfl dX2_init_23 ?_
  refine v_aload_n C dX2_init_26 0 rfl rfl ?_
  refine v_new C nc_X2_23 (Nat.le_of_ble_eq_true rfl) (Nat.le_of_ble_eq_true rfl) dX2_init_27 (fun a8 => ?_)
  refine v_wse (ws' := [ob q_t 2 [.ref a1, .ref a6, .null], ob a1 3 [.ref a2, .ref a3, .ref a4, .ref a5, .int 0], aI cy a2 8 (fun _ => 0), aI cy a3 8 (fun _ => 0), aI cy a4 8 (fun _ => 0), aI cy a5 8 (fun _ => 0), ob a6 7 [.ref a7, .int 0], aI cy a7 40 (fun _ => 0), ob a8 8 [.null, .null, .null, .int 0]]) rfl ?_
  refine v_dup C dX2_init_30 rfl ?_
  refine v_callJ (As := []) (wr := [ob q_t 2 [.ref a1, .ref a6, .null], ob a1 3 [.ref a2, .ref a3, .ref a4, .ref a5, .int 0], aI cy a2 8 (fun _ => 0), aI cy a3 8 (fun _ => 0), aI cy a4 8 (fun _ => 0), aI cy a5 8 (fun _ => 0), ob a6 7 [.ref a7, .int 0], aI cy a7 40 (fun _ => 0)]) C hA (cc_Shops l D cy K a8) lj_X2_25 rfl (by decide) rfl dX2_init_31 [8] [0, 1, 2, 3, 4, 5, 6, 7] (by decide) rfl rfl (by decide) (by decide) (Nat.le_of_ble_eq_true rfl) (fun wo hw => ?_)
  obtain ⟨a9, a10, a11, rfl⟩ := hw
  refine v_wse (ws' := [ob q_t 2 [.ref a1, .ref a6, .null], ob a1 3 [.ref a2, .ref a3, .ref a4, .ref a5, .int 0], aI cy a2 8 (fun _ => 0), aI cy a3 8 (fun _ => 0), aI cy a4 8 (fun _ => 0), aI cy a5 8 (fun _ => 0), ob a6 7 [.ref a7, .int 0], aI cy a7 40 (fun _ => 0), ob a8 8 [.ref a9, .ref a10, .ref a11, .int 0], aI cy a9 12 (fun _ => 0), aI cy a10 12 (fun _ => 0), aI cy a11 12 (fun _ => 0)]) rfl ?_
  refine v_putF (ws' := [ob q_t 2 [.ref a1, .ref a6, .ref a8], ob a1 3 [.ref a2, .ref a3, .ref a4, .ref a5, .int 0], aI cy a2 8 (fun _ => 0), aI cy a3 8 (fun _ => 0), aI cy a4 8 (fun _ => 0), aI cy a5 8 (fun _ => 0), ob a6 7 [.ref a7, .int 0], aI cy a7 40 (fun _ => 0), ob a8 8 [.ref a9, .ref a10, .ref a11, .int 0], aI cy a9 12 (fun _ => 0), aI cy a10 12 (fun _ => 0), aI cy a11 12 (fun _ => 0)]) C hnm ff_X2_26 0 rfl rfl rfl (Nat.le_of_ble_eq_true rfl) rfl dX2_init_34 ?_
  exact v_vretC C hr hlk dX2_init_37 rfl rfl ⟨a1, a2, a3, a4, a5, a6, a7, a8, a9, a10, a11, rfl⟩

abbrev rmc_Story : Room := { frames := 1, cells := 4, slots := 84, locals := 12 }
set_option maxHeartbeats 4000000 in
set_option maxRecDepth 20000 in
theorem cc_Story (l : Launch) (D : va_G) (cy : Nat → ClassId) (K : Nat) (q_t : Nat) : Cc l yX9_init cX9_init 1 rmc_Story D cy [.ref q_t] [ob q_t 9 [.null, .null, .null, .null, .int 0]] (fun wo => ∃ a1 a2 a3 a4 : Nat, wo = [ob q_t 9 [.ref a1, .ref a2, .ref a3, .ref a4, .int 0], aI cy a1 21 (fun _ => 0), aI cy a2 21 (fun _ => 0), aI cy a3 21 (fun _ => 0), aI cy a4 21 (fun _ => 0)]) := by
  refine cc_of (by decide +kernel) (Nat.le_of_ble_eq_true rfl) (fun p e s m args below meth c C hA hr hlk hnm => ?_)
  refine v_aload_n C dX9_init_0 0 rfl rfl ?_
  refine v_objInit C oi_X9_3 oi_g ⟨Nat.le_of_ble_eq_true rfl, Nat.le_of_ble_eq_true rfl⟩ dX9_init_1 ?_
  refine v_aload_n C dX9_init_4 0 rfl rfl ?_
  refine v_bipush (v := 21) C dX9_init_5 (by decide) ?_
  refine v_newI (N := 21) C ac_int (by decide) (by decide) (by decide) (Nat.le_of_ble_eq_true rfl) (Nat.le_of_ble_eq_true rfl) dX9_init_7 (fun a1 => ?_)
  refine v_wse (ws' := [ob q_t 9 [.null, .null, .null, .null, .int 0], aI cy a1 21 (fun _ => 0)]) rfl ?_
  refine v_putF (ws' := [ob q_t 9 [.ref a1, .null, .null, .null, .int 0], aI cy a1 21 (fun _ => 0)]) C hnm ff_X9_9 0 rfl rfl rfl (Nat.le_of_ble_eq_true rfl) rfl dX9_init_9 ?_
  refine v_aload_n C dX9_init_12 0 rfl rfl ?_
  refine v_bipush (v := 21) C dX9_init_13 (by decide) ?_
  refine v_newI (N := 21) C ac_int (by decide) (by decide) (by decide) (Nat.le_of_ble_eq_true rfl) (Nat.le_of_ble_eq_true rfl) dX9_init_15 (fun a2 => ?_)
  refine v_wse (ws' := [ob q_t 9 [.ref a1, .null, .null, .null, .int 0], aI cy a1 21 (fun _ => 0), aI cy a2 21 (fun _ => 0)]) rfl ?_
  refine v_putF (ws' := [ob q_t 9 [.ref a1, .ref a2, .null, .null, .int 0], aI cy a1 21 (fun _ => 0), aI cy a2 21 (fun _ => 0)]) C hnm ff_X9_15 0 rfl rfl rfl (Nat.le_of_ble_eq_true rfl) rfl dX9_init_17 ?_
  refine v_aload_n C dX9_init_20 0 rfl rfl ?_
  refine v_bipush (v := 21) C dX9_init_21 (by decide) ?_
  refine v_newI (N := 21) C ac_int (by decide) (by decide) (by decide) (Nat.le_of_ble_eq_true rfl) (Nat.le_of_ble_eq_true rfl) dX9_init_23 (fun a3 => ?_)
  refine v_wse (ws' := [ob q_t 9 [.ref a1, .ref a2, .null, .null, .int 0], aI cy a1 21 (fun _ => 0), aI cy a2 21 (fun _ => 0), aI cy a3 21 (fun _ => 0)]) rfl ?_
  refine v_putF (ws' := [ob q_t 9 [.ref a1, .ref a2, .ref a3, .null, .int 0], aI cy a1 21 (fun _ => 0), aI cy a2 21 (fun _ => 0), aI cy a3 21 (fun _ => 0)]) C hnm ff_X9_18 0 rfl rfl rfl (Nat.le_of_ble_eq_true rfl) rfl dX9_init_25 ?_
  refine v_aload_n C dX9_init_28 0 rfl rfl ?_
  refine v_bipush (v := 21) C dX9_init_29 (by decide) ?_
  refine v_newI (N := 21) C ac_int (by decide) (by decide) (by decide) (Nat.le_of_ble_eq_true rfl) (Nat.le_of_ble_eq_true rfl) dX9_init_31 (fun a4 => ?_)
  refine v_wse (ws' := [ob q_t 9 [.ref a1, .ref a2, .ref a3, .null, .int 0], aI cy a1 21 (fun _ => 0), aI cy a2 21 (fun _ => 0), aI cy a3 21 (fun _ => 0), aI cy a4 21 (fun _ => 0)]) rfl ?_
  refine v_putF (ws' := [ob q_t 9 [.ref a1, .ref a2, .ref a3, .ref a4, .int 0], aI cy a1 21 (fun _ => 0), aI cy a2 21 (fun _ => 0), aI cy a3 21 (fun _ => 0), aI cy a4 21 (fun _ => 0)]) C hnm ff_X9_21 0 rfl rfl rfl (Nat.le_of_ble_eq_true rfl) rfl dX9_init_33 ?_
  exact v_vretC C hr hlk dX9_init_36 rfl rfl ⟨a1, a2, a3, a4, rfl⟩

abbrev rmc_Tape : Room := { frames := 1, cells := 1, slots := 400, locals := 12 }
set_option maxHeartbeats 4000000 in
set_option maxRecDepth 20000 in
theorem cc_Tape (l : Launch) (D : va_G) (cy : Nat → ClassId) (K : Nat) (q_t : Nat) : Cc l yX10_init cX10_init 1 rmc_Tape D cy [.ref q_t] [ob q_t 10 [.null, .int 0, .int 0, .int 0, .int 0, .int 0, .int 0]] (fun wo => ∃ a1 : Nat, wo = [ob q_t 10 [.ref a1, .int 0, .int 0, .int 0, .int 0, .int 0, .int (-1)], aB cy a1 400 (fun _ => 0)]) := by
  refine cc_of (by decide +kernel) (Nat.le_of_ble_eq_true rfl) (fun p e s m args below meth c C hA hr hlk hnm => ?_)
  refine v_aload_n C dX10_init_0 0 rfl rfl ?_
  refine v_objInit C oi_X10_3 oi_g ⟨Nat.le_of_ble_eq_true rfl, Nat.le_of_ble_eq_true rfl⟩ dX10_init_1 ?_
  refine v_aload_n C dX10_init_4 0 rfl rfl ?_
  refine v_sipush (v := 400) C dX10_init_5 (by decide) ?_
  refine v_newB (N := 400) C ac_byte (by decide) (by decide) (by decide) (Nat.le_of_ble_eq_true rfl) (Nat.le_of_ble_eq_true rfl) dX10_init_8 (fun a1 => ?_)
  refine v_wse (ws' := [ob q_t 10 [.null, .int 0, .int 0, .int 0, .int 0, .int 0, .int 0], aB cy a1 400 (fun _ => 0)]) rfl ?_
  refine v_putF (ws' := [ob q_t 10 [.ref a1, .int 0, .int 0, .int 0, .int 0, .int 0, .int 0], aB cy a1 400 (fun _ => 0)]) C hnm ff_X10_9 0 rfl rfl rfl (Nat.le_of_ble_eq_true rfl) rfl dX10_init_10 ?_
  refine v_aload_n C dX10_init_13 0 rfl rfl ?_
  refine v_iconst (v := (-1)) C dX10_init_14 (by decide) ?_
  refine v_put (ws' := [ob q_t 10 [.ref a1, .int 0, .int 0, .int 0, .int 0, .int 0, .int (-1)], aB cy a1 400 (fun _ => 0)]) C fp_X10_15 0 rfl rfl rfl (Nat.le_of_ble_eq_true rfl) rfl dX10_init_15 ?_
  exact v_vretC C hr hlk dX10_init_18 rfl rfl ⟨a1, rfl⟩

abbrev rmc_Law : Room := { frames := 2, cells := 4, slots := 110, locals := 44 }
set_option maxHeartbeats 4000000 in
set_option maxRecDepth 20000 in
theorem cc_Law (l : Launch) (D : va_G) (cy : Nat → ClassId) (K : Nat) (q_t : Nat) (o : (Nat → Int32) × (Nat → Int32) × (Nat → Int32) × (Nat → Int32) × Int32 × Int32 × Int32 × Int32) (hf : sp_Law_clear K (fun _ => 0) (fun _ => 0) (fun _ => 0) (fun _ => 0) 0 0 0 0 = some o) : Cc l yX5_init cX5_init 1 rmc_Law D cy [.ref q_t] [ob q_t 5 [.null, .null, .null, .null, .int 0, .int 0, .int 0, .int 0]] (fun wo => ∃ a1 a2 a3 a4 : Nat, wo = [ob q_t 5 [.ref a1, .ref a2, .ref a3, .ref a4, .int o.2.2.2.2.1, .int o.2.2.2.2.2.1, .int o.2.2.2.2.2.2.1, .int o.2.2.2.2.2.2.2], aI cy a1 80 o.1, aI cy a2 10 o.2.1, aI cy a3 10 o.2.2.1, aI cy a4 10 o.2.2.2.1]) := by
  refine cc_of (by decide +kernel) (Nat.le_of_ble_eq_true rfl) (fun p e s m args below meth c C hA hr hlk hnm => ?_)
  refine v_aload_n C dX5_init_0 0 rfl rfl ?_
  refine v_objInit C oi_X5_3 oi_g ⟨Nat.le_of_ble_eq_true rfl, Nat.le_of_ble_eq_true rfl⟩ dX5_init_1 ?_
  refine v_aload_n C dX5_init_4 0 rfl rfl ?_
  refine v_bipush (v := 80) C dX5_init_5 (by decide) ?_
  refine v_newI (N := 80) C ac_int (by decide) (by decide) (by decide) (Nat.le_of_ble_eq_true rfl) (Nat.le_of_ble_eq_true rfl) dX5_init_7 (fun a1 => ?_)
  refine v_wse (ws' := [ob q_t 5 [.null, .null, .null, .null, .int 0, .int 0, .int 0, .int 0], aI cy a1 80 (fun _ => 0)]) rfl ?_
  refine v_putF (ws' := [ob q_t 5 [.ref a1, .null, .null, .null, .int 0, .int 0, .int 0, .int 0], aI cy a1 80 (fun _ => 0)]) C hnm ff_X5_9 0 rfl rfl rfl (Nat.le_of_ble_eq_true rfl) rfl dX5_init_9 ?_
  refine v_aload_n C dX5_init_12 0 rfl rfl ?_
  refine v_bipush (v := 10) C dX5_init_13 (by decide) ?_
  refine v_newI (N := 10) C ac_int (by decide) (by decide) (by decide) (Nat.le_of_ble_eq_true rfl) (Nat.le_of_ble_eq_true rfl) dX5_init_15 (fun a2 => ?_)
  refine v_wse (ws' := [ob q_t 5 [.ref a1, .null, .null, .null, .int 0, .int 0, .int 0, .int 0], aI cy a1 80 (fun _ => 0), aI cy a2 10 (fun _ => 0)]) rfl ?_
  refine v_putF (ws' := [ob q_t 5 [.ref a1, .ref a2, .null, .null, .int 0, .int 0, .int 0, .int 0], aI cy a1 80 (fun _ => 0), aI cy a2 10 (fun _ => 0)]) C hnm ff_X5_15 0 rfl rfl rfl (Nat.le_of_ble_eq_true rfl) rfl dX5_init_17 ?_
  refine v_aload_n C dX5_init_20 0 rfl rfl ?_
  refine v_bipush (v := 10) C dX5_init_21 (by decide) ?_
  refine v_newI (N := 10) C ac_int (by decide) (by decide) (by decide) (Nat.le_of_ble_eq_true rfl) (Nat.le_of_ble_eq_true rfl) dX5_init_23 (fun a3 => ?_)
  refine v_wse (ws' := [ob q_t 5 [.ref a1, .ref a2, .null, .null, .int 0, .int 0, .int 0, .int 0], aI cy a1 80 (fun _ => 0), aI cy a2 10 (fun _ => 0), aI cy a3 10 (fun _ => 0)]) rfl ?_
  refine v_putF (ws' := [ob q_t 5 [.ref a1, .ref a2, .ref a3, .null, .int 0, .int 0, .int 0, .int 0], aI cy a1 80 (fun _ => 0), aI cy a2 10 (fun _ => 0), aI cy a3 10 (fun _ => 0)]) C hnm ff_X5_18 0 rfl rfl rfl (Nat.le_of_ble_eq_true rfl) rfl dX5_init_25 ?_
  refine v_aload_n C dX5_init_28 0 rfl rfl ?_
  refine v_bipush (v := 10) C dX5_init_29 (by decide) ?_
  refine v_newI (N := 10) C ac_int (by decide) (by decide) (by decide) (Nat.le_of_ble_eq_true rfl) (Nat.le_of_ble_eq_true rfl) dX5_init_31 (fun a4 => ?_)
  refine v_wse (ws' := [ob q_t 5 [.ref a1, .ref a2, .ref a3, .null, .int 0, .int 0, .int 0, .int 0], aI cy a1 80 (fun _ => 0), aI cy a2 10 (fun _ => 0), aI cy a3 10 (fun _ => 0), aI cy a4 10 (fun _ => 0)]) rfl ?_
  refine v_putF (ws' := [ob q_t 5 [.ref a1, .ref a2, .ref a3, .ref a4, .int 0, .int 0, .int 0, .int 0], aI cy a1 80 (fun _ => 0), aI cy a2 10 (fun _ => 0), aI cy a3 10 (fun _ => 0), aI cy a4 10 (fun _ => 0)]) C hnm ff_X5_21 0 rfl rfl rfl (Nat.le_of_ble_eq_true rfl) rfl dX5_init_33 ?_
  refine v_aload_n C dX5_init_36 0 rfl rfl ?_
  refine v_callV (As := []) (wr := []) (ws' := [ob q_t 5 [.ref a1, .ref a2, .ref a3, .ref a4, .int o.2.2.2.2.1, .int o.2.2.2.2.2.1, .int o.2.2.2.2.2.2.1, .int o.2.2.2.2.2.2.2], aI cy a1 80 o.1, aI cy a2 10 o.2.1, aI cy a3 10 o.2.2.1, aI cy a4 10 o.2.2.2.1]) (st := []) (stk' := []) C (c_Law_clear l D cy K q_t a1 a2 a3 a4 (fun _ => 0) (fun _ => 0) (fun _ => 0) (fun _ => 0) 0 0 0 0 o hf) lv_X5_24 rfl (by decide) rfl 0 rfl rfl rfl dX5_init_37 [0, 1, 2, 3, 4] [] (by decide) rfl rfl (by decide) (by decide) (Nat.le_of_ble_eq_true rfl) rfl rfl ?_
  exact v_vretC C hr hlk dX5_init_40 rfl rfl ⟨a1, a2, a3, a4, rfl⟩

abbrev rmc_Run : Room := { frames := 1, cells := 2, slots := 110, locals := 12 }
set_option maxHeartbeats 4000000 in
set_option maxRecDepth 20000 in
theorem cc_Run (l : Launch) (D : va_G) (cy : Nat → ClassId) (K : Nat) (q_t p1 p2 : Nat) : Cc l yX6_init cX6_init 3 rmc_Run D cy [.ref q_t, .ref p1, .ref p2] [ob q_t 6 [.null, .null, .null, .null, .int 0, .int 0, .int 0]] (fun wo => ∃ a1 a2 : Nat, wo = [ob q_t 6 [.ref a1, .ref a2, .ref p1, .ref p2, .int 0, .int 0, .int 0], aI cy a1 100 (fun _ => 0), aI cy a2 10 (fun _ => 0)]) := by
  refine cc_of (by decide +kernel) (Nat.le_of_ble_eq_true rfl) (fun p e s m args below meth c C hA hr hlk hnm => ?_)
  refine v_aload_n C dX6_init_0 0 rfl rfl ?_
  refine v_objInit C oi_X6_3 oi_g ⟨Nat.le_of_ble_eq_true rfl, Nat.le_of_ble_eq_true rfl⟩ dX6_init_1 ?_
  refine v_aload_n C dX6_init_4 0 rfl rfl ?_
  refine v_bipush (v := 100) C dX6_init_5 (by decide) ?_
  refine v_newI (N := 100) C ac_int (by decide) (by decide) (by decide) (Nat.le_of_ble_eq_true rfl) (Nat.le_of_ble_eq_true rfl) dX6_init_7 (fun a1 => ?_)
  refine v_wse (ws' := [ob q_t 6 [.null, .null, .null, .null, .int 0, .int 0, .int 0], aI cy a1 100 (fun _ => 0)]) rfl ?_
  refine v_putF (ws' := [ob q_t 6 [.ref a1, .null, .null, .null, .int 0, .int 0, .int 0], aI cy a1 100 (fun _ => 0)]) C hnm ff_X6_9 0 rfl rfl rfl (Nat.le_of_ble_eq_true rfl) rfl dX6_init_9 ?_
  refine v_aload_n C dX6_init_12 0 rfl rfl ?_
  refine v_bipush (v := 10) C dX6_init_13 (by decide) ?_
  refine v_newI (N := 10) C ac_int (by decide) (by decide) (by decide) (Nat.le_of_ble_eq_true rfl) (Nat.le_of_ble_eq_true rfl) dX6_init_15 (fun a2 => ?_)
  refine v_wse (ws' := [ob q_t 6 [.ref a1, .null, .null, .null, .int 0, .int 0, .int 0], aI cy a1 100 (fun _ => 0), aI cy a2 10 (fun _ => 0)]) rfl ?_
  refine v_putF (ws' := [ob q_t 6 [.ref a1, .ref a2, .null, .null, .int 0, .int 0, .int 0], aI cy a1 100 (fun _ => 0), aI cy a2 10 (fun _ => 0)]) C hnm ff_X6_15 0 rfl rfl rfl (Nat.le_of_ble_eq_true rfl) rfl dX6_init_17 ?_
  refine v_aload_n C dX6_init_20 0 rfl rfl ?_
  refine v_aload_n C dX6_init_21 1 rfl rfl ?_
  refine v_put (ws' := [ob q_t 6 [.ref a1, .ref a2, .ref p1, .null, .int 0, .int 0, .int 0], aI cy a1 100 (fun _ => 0), aI cy a2 10 (fun _ => 0)]) C fp_X6_18 0 rfl rfl rfl (Nat.le_of_ble_eq_true rfl) rfl dX6_init_22 ?_
  refine v_aload_n C dX6_init_25 0 rfl rfl ?_
  refine v_aload_n C dX6_init_26 2 rfl rfl ?_
  refine v_put (ws' := [ob q_t 6 [.ref a1, .ref a2, .ref p1, .ref p2, .int 0, .int 0, .int 0], aI cy a1 100 (fun _ => 0), aI cy a2 10 (fun _ => 0)]) C fp_X6_22 0 rfl rfl rfl (Nat.le_of_ble_eq_true rfl) rfl dX6_init_27 ?_
  exact v_vretC C hr hlk dX6_init_30 rfl rfl ⟨a1, a2, rfl⟩
