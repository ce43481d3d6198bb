/-! the throw sites -/
theorem xa_0_115 : XA RX11 (EN 0) 115 := ⟨by decide +kernel, by decide +kernel, (gt_mem (tb1 (List.mem_of_getElem? (i := 18) rfl)) rfl), xa_words (by decide +kernel), fun w hw => List.all_eq_true.mp (show (vx_atS RX11 115 (EN 0) ENM).all vx_ot = true by decide +kernel) w hw⟩
theorem xk_111 : Cond.classLink RX11 111 (EN 0) ∈ GT := (gt_mem (tb2 (List.mem_of_getElem? (i := 185) rfl)) rfl)
theorem xo_111 : vx_ot (Cond.classLink RX11 111 (EN 0)) = true ∧ vx_ot (Cond.initialized (EN 0)) = true := ⟨rfl, rfl⟩
theorem xa_2_358 : XA RX11 (EN 2) 358 := ⟨by decide +kernel, by decide +kernel, (gt_mem (tb1 (List.mem_of_getElem? (i := 25) rfl)) rfl), xa_words (by decide +kernel), fun w hw => List.all_eq_true.mp (show (vx_atS RX11 358 (EN 2) ENM).all vx_ot = true by decide +kernel) w hw⟩
theorem xk_354 : Cond.classLink RX11 354 (EN 2) ∈ GT := (gt_mem (tb4 (List.mem_of_getElem? (i := 111) rfl)) rfl)
theorem xo_354 : vx_ot (Cond.classLink RX11 354 (EN 2)) = true ∧ vx_ot (Cond.initialized (EN 2)) = true := ⟨rfl, rfl⟩
theorem xh_363 : XH RX11 (EN 1) 363 13 prog_31_method_4_code := ⟨by decide +kernel, (gt_mem (tb1 (List.mem_of_getElem? (i := 24) rfl)) rfl), xh_words (by decide +kernel), fun w hw => List.all_eq_true.mp (show ((hAtoms RX11 363 (EN 1) 13 prog_31_method_4_code "java/lang/RuntimeException" ["java/lang/Exception"]).filter vx_no).all vx_ot = true by decide +kernel) w hw⟩
theorem xd_0 : decode prog_31_method_4_code 0 = .ok (.aload_n 0, 1) := by decide +kernel
theorem xd_1 : decode prog_31_method_4_code 1 = .ok (.aload_n 1, 1) := by decide +kernel
theorem xd_2 : decode prog_31_method_4_code 2 = .ok (.invokespecial 13, 3) := by decide +kernel
theorem xd_5 : decode prog_31_method_4_code 5 = .ok (.return_, 1) := by decide +kernel
theorem xk_359 : Cond.classLink RX11 359 (EN 1) ∈ GT := (gt_mem (tb4 (List.mem_of_getElem? (i := 9) rfl)) rfl)
theorem xo_359 : vx_ot (Cond.classLink RX11 359 (EN 1)) = true ∧ vx_ot (Cond.initialized (EN 1)) = true := ⟨rfl, rfl⟩
