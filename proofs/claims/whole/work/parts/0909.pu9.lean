set_option maxHeartbeats 2000000 in
theorem plT_cong (l : LA) {T T' : Nat → RS → RS} (h : ∀ i, runT l T i = runT l T' i) (F : Nat → Nat → Nat) : plT l T F = plT l T' F := by
  funext i; unfold plT; rw [h]
abbrev NS (l : LA) (n : Nat) (E : Nat → Nat → Nat) (q : Int) (fn : Nat) (F : Nat → Nat → Nat) : Nat := jS q (plT l (TA l n E) F) fn
abbrev NP (l : LA) (n : Nat) (E : Nat → Nat → Nat) (q : Int) (fn : Nat) (F : Nat → Nat → Nat) : Nat := jP (lta l) q (plT l (TA l n E) F) F fn
set_option maxHeartbeats 2000000 in
theorem NP_ch {l : LA} (hl : LOK l) (n : Nat) (E : Nat → Nat → Nat) (q : Int) {fn : Nat} (hfn : fn ≤ 8) (F : Nat → Nat → Nat) : CH (NP l n E q fn F) (NS l n E q fn F) := CH_j (by have := hl.2.2.2.2.2.2.2; omega) q (plT_le l _ F) F hfn
set_option maxHeartbeats 2000000 in
theorem m_numbers (K : Nat) (hK : 1000000 ≤ K) {l : LA} (hl : LOK l) {nr : Nat → Nat} {m1 : Nat → Nat → Int32} {m2 m3 m4 : Nat → Int32} {m5 m6 m7 : Int32} (Q : LM l nr m1 m2 m3 m4 m5 m6 m7) {j n : Nat} {E : Nat → Nat → Nat} (hE : SOK n E) {many : Nat → Int32} {ev : Nat → Nat → Int32} (hS : SM j n E many ev) (et eh se th : Int32) {fn : Nat} {F : Nat → Nat → Nat} {f1 f2 f3 f4 : Nat → Int32} {fs : Int32} {mf : Nat → Nat → Int32} {mfn : Int32} (hF : RFinds f1 f2 f3 f4 fs mf mfn fn F) {q : Int} (hq : -1 ≤ q ∧ q < 1000) {b : Nat} (hb : b < 3) (ly : Nat → Nat → Int32) (wo : Nat → Int32) (big : Nat → Nat → Int32) (sc : Int32) : ∃ ly' wo' big', sp_M_numbers K (J b) (J j) (J q) m5 m6 m7 m1 m2 m3 m4 many ev mfn mf ly wo (J (-1)) (J (-1)) et eh (J (-1)) se th big sc = some (ly', wo', big', J (NS l n E q fn F : Nat)) ∧ BR b (NP l n E q fn F) big' ∧ ∀ r, r ≠ b → big' r = big r := by
  have hn := hS.2.1
  have h := p_M_numbers K hK hl Q hE hS (cm := fun _ => true) (lo := J (-1)) (fi := J (-1)) (se := se) (th := th) (fun i hi => comes_plain K (by omega) i _ (by omega) ev se th) (x := none) (ef := J (-1)) (et := et) (eh := eh) rfl hF hq hb ly wo big sc
  rw [plT_cong l (T' := TA l n E) (run_plain l n E) F] at h
  exact h
set_option maxHeartbeats 2000000 in
theorem m_two (K : Nat) (hK : 1000000 ≤ K) {l : LA} {nr : Nat → Nat} {c1 c2 c3 c4 : Nat → Int32} {c5 c6 c7 : Int32} {m1 : Nat → Nat → Int32} {m2 m3 m4 : Nat → Int32} {m5 m6 m7 : Int32} (hL : HL l nr c1 c2 c3 c4 c5 c6 c7 m1 m2 m3 m4 m5 m6 m7) {many : Nat → Int32} {ev : Nat → Nat → Int32} {j1 n1 : Nat} {E1 : Nat → Nat → Nat} (hE1 : SOK n1 E1) (hS1 : SM j1 n1 E1 many ev) {j2 n2 : Nat} {E2 : Nat → Nat → Nat} (hE2 : SOK n2 E2) (hS2 : SM j2 n2 E2 many ev) (et eh se th : Int32) {fn : Nat} {F : Nat → Nat → Nat} {f1 f2 f3 f4 : Nat → Int32} {fs : Int32} {mf : Nat → Nat → Int32} {mfn : Int32} (hF : RFinds f1 f2 f3 f4 fs mf mfn fn F) {q : Int} (hq : -1 ≤ q ∧ q < 1000) (ly : Nat → Nat → Int32) (wo : Nat → Int32) (big : Nat → Nat → Int32) (sc : Int32) : ∃ ly' wo' big' sc', sp_M_two K (J j1) (J j2) (J q) m5 m6 m7 m1 m2 m3 m4 many ev mfn mf ly wo (J (-1)) (J (-1)) et eh (J (-1)) se th big sc = some (ly', wo', big', sc') ∧ BR 0 (NP l n1 E1 q fn F * 16 ^ NS l n2 E2 q fn F) big' ∧ BR 1 (NP l n2 E2 q fn F * 16 ^ NS l n1 E1 q fn F) big' ∧ NP l n2 E2 q fn F * 16 ^ NS l n1 E1 q fn F * 1000000 < 10000 ^ 330 := by
  obtain ⟨hl, R, Q⟩ := hL
  obtain ⟨a1, a2, a3, x1, x2, x3⟩ := m_numbers K hK hl Q hE1 hS1 et eh se th hF hq (b := 0) (by omega) ly wo big sc
  obtain ⟨b1, b2, b3, y1, y2, y3⟩ := m_numbers K hK hl Q hE2 hS2 et eh se th hF hq (b := 1) (by omega) a1 a2 a3 (J (NS l n1 E1 q fn F : Nat))
  have k1 := NP_ch hl n1 E1 q hF.1 F
  have k2 := NP_ch hl n2 E2 q hF.1 F
  have x2' : BR 0 (NP l n1 E1 q fn F) b3 := BR_congr x2 (fun i _ => by rw [y3 0 (by omega)])
  obtain ⟨G, z1, z2, z3, z4⟩ := p_M_levels K (by omega) x2' y2 k1 k2
  refine ⟨b1, b2, G, J (NS l n2 E2 q fn F : Nat), ?_, z2, z3, z4⟩
  rw [Int.natCast_zero] at x1
  rw [show J (1 : Nat) = J 1 from rfl] at y1
  clear z2 z3 z4 k1 k2 x2 x3 x2' y2 y3 hS1 hS2 hE1 hE2 hF R Q hl
  simp (disch := omega) only [sp_M_two, x1, y1, z1, J_lit, J_add, J_sub, J_mul, J_neg, J_nat, J_inb, J_div, ↓reduceIte, Int.toNat_natCast, Option.bind_some, J_le_t, J_le_f, J_lt_t, J_lt_f, J_eq_t, J_eq_f, L_lit, L_add, L_sub, L_mul, L_div, JL, LJ, Int.reduceToNat, Int.toNat_zero, Int.toNat_one, xb, xm, within_t, within_f, nb_t, nb_f, ni_t, ni_f, in_t, in_f, less_, bad_0, bad_1, not_true_eq_false, not_false_eq_true, L_lt_t, L_lt_f, L_eq_t, L_eq_f, lg_gt, lg_eq, lg_lt]
set_option maxHeartbeats 2000000 in
theorem m_worthOf (K : Nat) (hK : 1000000 ≤ K) {l : LA} {nr : Nat → Nat} {c1 c2 c3 c4 : Nat → Int32} {c5 c6 c7 : Int32} {m1 : Nat → Nat → Int32} {m2 m3 m4 : Nat → Int32} {m5 m6 m7 : Int32} (hL : HL l nr c1 c2 c3 c4 c5 c6 c7 m1 m2 m3 m4 m5 m6 m7) {many : Nat → Int32} {ev : Nat → Nat → Int32} {j1 n1 : Nat} {E1 : Nat → Nat → Nat} (hE1 : SOK n1 E1) (hS1 : SM j1 n1 E1 many ev) {j2 n2 : Nat} {E2 : Nat → Nat → Nat} (hE2 : SOK n2 E2) (hS2 : SM j2 n2 E2 many ev) (et eh se th : Int32) {fn : Nat} {F : Nat → Nat → Nat} {f1 f2 f3 f4 : Nat → Int32} {fs : Int32} {mf : Nat → Nat → Int32} {mfn : Int32} (hF : RFinds f1 f2 f3 f4 fs mf mfn fn F) {q : Int} (hq : -1 ≤ q ∧ q < 1000) (ly : Nat → Nat → Int32) (wo : Nat → Int32) (big : Nat → Nat → Int32) (sc : Int32) : ∃ ly' wo' big' sc', sp_M_worthOf K (J j1) (J j2) (J q) m5 m6 m7 m1 m2 m3 m4 many ev mfn mf ly wo (J (-1)) (J (-1)) et eh (J (-1)) se th big sc = some (J (WT (NP l n1 E1 q fn F * 16 ^ NS l n2 E2 q fn F) (NP l n2 E2 q fn F * 16 ^ NS l n1 E1 q fn F) : Nat), ly', wo', big', sc') := by
  obtain ⟨a, b, c, d, x1, x2, x3, x4⟩ := m_two K hK hL hE1 hS1 hE2 hS2 et eh se th hF hq ly wo big sc
  obtain ⟨G, y1⟩ := p_M_worthNow K (by omega) x2 x3 x4
  refine ⟨a, b, G, d, ?_⟩
  clear x2 x3 x4 hF hL hS1 hS2 hE1 hE2
  simp (disch := omega) only [sp_M_worthOf, x1, y1, J_lit, J_add, J_sub, J_mul, J_neg, J_nat, J_inb, J_div, ↓reduceIte, Int.toNat_natCast, Option.bind_some, J_le_t, J_le_f, J_lt_t, J_lt_f, J_eq_t, J_eq_f, L_lit, L_add, L_sub, L_mul, L_div, JL, LJ, Int.reduceToNat, Int.toNat_zero, Int.toNat_one, xb, xm, within_t, within_f, nb_t, nb_f, ni_t, ni_f, in_t, in_f, less_, bad_0, bad_1, not_true_eq_false, not_false_eq_true, L_lt_t, L_lt_f, L_eq_t, L_eq_f, lg_gt, lg_eq, lg_lt]
set_option maxHeartbeats 2000000 in
theorem pu_c_worthOf (K : Nat) (hK : 1000000 ≤ K) {l : LA} (hl : LOK l) {c1 c2 c3 c4 : Nat → Int32} {c5 c6 c7 : Int32} (R : LC l c1 c2 c3 c4 c5 c6 c7) {n1 : Nat} {E1 : Nat → Nat → Nat} (hE1 : SOK n1 E1) {p1 p2 p3 p4 : Nat → Int32} {pn : Int32} (hC1 : SC n1 E1 p1 p2 p3 p4 pn) {n2 : Nat} {E2 : Nat → Nat → Nat} (hE2 : SOK n2 E2) {q1 q2 q3 q4 : Nat → Int32} {qn : Int32} (hC2 : SC n2 E2 q1 q2 q3 q4 qn) {fn : Nat} {F : Nat → Nat → Nat} {f1 f2 f3 f4 : Nat → Int32} {fs : Int32} {mf : Nat → Nat → Int32} {mfn : Int32} (hF : RFinds f1 f2 f3 f4 fs mf mfn fn F) {q : Int} (hq : -1 ≤ q ∧ q < 1000) (pl ly wo : Nat → Int32) (a b c : Int32) (s1 : Int32) (l1 : Nat → Int32) (z1 s2 : Int32) (l2 : Nat → Int32) (z2 : Int32) (ll : Nat → Int32) (lz : Int32) (rl : Nat → Int32) (rz : Int32) (tl : Nat → Int32) (tz : Int32) : ∃ o, sp_worthOf K (J q) pl f1 f2 f3 f4 fs ly wo a b c s1 l1 z1 s2 l2 z2 ll lz rl rz tl tz c1 c2 c3 c4 c5 c6 c7 p1 p2 p3 p4 pn q1 q2 q3 q4 qn = some (J (WT (NP l n1 E1 q fn F * 16 ^ NS l n2 E2 q fn F) (NP l n2 E2 q fn F * 16 ^ NS l n1 E1 q fn F) : Nat), o) := by
  obtain ⟨u1, u2, u3, u4, u5, u6, u7, u8, x1, x2⟩ := p_judge K hK hl R hE1 hC1 hF hq pl ly wo a b c s1 l1 z1
  obtain ⟨v1, v2, v3, v4, v5, v6, v7, v8, y1, y2⟩ := p_judge K hK hl R hE2 hC2 hF hq u1 u2 u3 u4 u5 u6 s2 l2 z2
  have k1 := NP_ch hl n1 E1 q hF.1 F
  have k2 := NP_ch hl n2 E2 q hF.1 F
  obtain ⟨w1, w2, w3, w4, w5, w6, e1⟩ := p_ratio K (by omega) x2 y2 k1 k2 ll lz rl rz tl tz
  clear k1 k2 x2 y2 hF hE1 hE2 hC1 hC2 R hl
  exact ⟨_, by simp (disch := omega) only [sp_worthOf, x1, y1, e1, J_lit, J_add, J_sub, J_mul, J_neg, J_nat, J_inb, J_div, ↓reduceIte, Int.toNat_natCast, Option.bind_some, J_le_t, J_le_f, J_lt_t, J_lt_f, J_eq_t, J_eq_f, L_lit, L_add, L_sub, L_mul, L_div, JL, LJ, Int.reduceToNat, Int.toNat_zero, Int.toNat_one, xb, xm, within_t, within_f, nb_t, nb_f, ni_t, ni_f, in_t, in_f, less_, bad_0, bad_1, not_true_eq_false, not_false_eq_true, L_lt_t, L_lt_f, L_eq_t, L_eq_f, lg_gt, lg_eq, lg_lt]; rfl⟩
set_option maxHeartbeats 2000000 in
theorem pc_scale (K : Nat) (hK : 1000000 ≤ K) (p1 thr : Int32) {l : LA} {nr : Nat → Nat} {c1 c2 c3 c4 : Nat → Int32} {c5 c6 c7 : Int32} {m1 : Nat → Nat → Int32} {m2 m3 m4 : Nat → Int32} {m5 m6 m7 : Int32} (hL : HL l nr c1 c2 c3 c4 c5 c6 c7 m1 m2 m3 m4 m5 m6 m7) {m : Nat} {EN : Nat → Nat} {EE : Nat → Nat → Nat → Nat} {stories : Nat → Option Nat} {QS : Nat → Nat} {k1 k2 k3 k4 : Nat → Nat → Int32} {kn : Nat → Int32} {many : Nat → Int32} {ev : Nat → Nat → Int32} (hS : HS m EN EE stories QS k1 k2 k3 k4 kn many ev) {fn : Nat} {F : Nat → Nat → Nat} {f1 f2 f3 f4 : Nat → Int32} {fs : Int32} {mf : Nat → Nat → Int32} {mfn : Int32} (hF : RFinds f1 f2 f3 f4 fs mf mfn fn F) (j : Nat) (hj : SEL p1 m j) (ql a1 a2 : Nat) (pl ly wo : Nat → Int32) (x1 x2 x3 : Int32) (s1 : Int32) (l1 : Nat → Int32) (z1 : Int32) (mly : Nat → Nat → Int32) (mwo : Nat → Int32) (et eh se th : Int32) (big : Nat → Nat → Int32) (sc : Int32) (o : Nat → Int64) : ∃ oc om, sp_W_scale K p1 ql stories (QS j) pl (J m) (k1 j) (k2 j) (k3 j) (k4 j) (kn j) f1 f2 f3 f4 fs ly wo a1 a2 x1 x2 x3 s1 l1 z1 c1 c2 c3 c4 c5 c6 c7 o = some oc ∧ sp_M_scale K p1 thr m5 m6 m7 m1 m2 m3 m4 (J m) many ev mfn mf mly mwo (J (-1)) (J (-1)) et eh (J (-1)) se th big sc = some om ∧ AA oc.1 oc.2.2.2.2.2.2.2.2.2.2.2.2 om.1 om.2.1 := by
  obtain ⟨hl, R, Q⟩ := hL
  obtain ⟨hm, hq, hst⟩ := hS
  obtain ⟨z, rfl, hz⟩ := ex_J p1
  by_cases h : 0 ≤ z ∧ z < m
  · obtain ⟨z, rfl⟩ : ∃ x : Nat, z = x := ⟨z.toNat, by omega⟩
    obtain rfl : j = z := hj z (by omega) rfl
    have hjm : j < m := by omega
    obtain ⟨y1, y2, y3⟩ := hst j hjm
    have eS := storyAt_t K hjm hm (hq j (by omega))
    have eI := isStory_t K (a := j) (n := m) (by omega) (by omega)
    obtain ⟨u1, u2, u3, u4, u5, u6, u7, u8, e1, e2⟩ := p_judge K hK hl R y1 y2 hF (q := -1) (by omega) pl ly wo x1 x2 x3 s1 l1 z1
    obtain ⟨v1, v2, v3, g1, g2, g3⟩ := m_numbers K hK hl Q y1 y3 et eh se th hF (q := -1) (by omega) (b := 0) (by omega) mly mwo big sc
    rw [Int.natCast_zero] at g1
    have hS := (NP_ch hl (EN j) (EE j) (-1) hF.1 F).2
    obtain ⟨k, rfl⟩ : ∃ k, K = k + 1 := ⟨K - 1, by omega⟩
    clear e2 g2 g3 y1 y2 y3 hst hF R Q hl
    refine ⟨_, _, by simp (disch := omega) only [sp_W_scale, sp_scale, eS, e1, J_lit, J_add, J_sub, J_mul, J_neg, J_nat, J_inb, J_div, ↓reduceIte, Int.toNat_natCast, Option.bind_some, J_le_t, J_le_f, J_lt_t, J_lt_f, J_eq_t, J_eq_f, L_lit, L_add, L_sub, L_mul, L_div, JL, LJ, Int.reduceToNat, Int.toNat_zero, Int.toNat_one, xb, xm, within_t, within_f, nb_t, nb_f, ni_t, ni_f, in_t, in_f, less_, bad_0, bad_1, not_true_eq_false, not_false_eq_true, L_lt_t, L_lt_f, L_eq_t, L_eq_f, lg_gt, lg_eq, lg_lt]; rfl, by simp (disch := omega) only [sp_M_scale, f_M_scale, eI, g1, J_lit, J_add, J_sub, J_mul, J_neg, J_nat, J_inb, J_div, ↓reduceIte, Int.toNat_natCast, Option.bind_some, J_le_t, J_le_f, J_lt_t, J_lt_f, J_eq_t, J_eq_f, L_lit, L_add, L_sub, L_mul, L_div, JL, LJ, Int.reduceToNat, Int.toNat_zero, Int.toNat_one, xb, xm, within_t, within_f, nb_t, nb_f, ni_t, ni_f, in_t, in_f, less_, bad_0, bad_1, not_true_eq_false, not_false_eq_true, L_lt_t, L_lt_f, L_eq_t, L_eq_f, lg_gt, lg_eq, lg_lt]; rfl, (by first | exact AA_0 _ _ | exact AA_L _ (by omega))⟩
  · have eS := storyAt_f K hz hm (by omega) stories (QS j)
    have eI := isStory_f K hz h (by omega)
    obtain ⟨k, rfl⟩ : ∃ k, K = k + 1 := ⟨K - 1, by omega⟩
    exact ⟨_, _, by simp (disch := omega) only [sp_W_scale, sp_scale, eS, J_lit, J_add, J_sub, J_mul, J_neg, J_nat, J_inb, J_div, ↓reduceIte, Int.toNat_natCast, Option.bind_some, J_le_t, J_le_f, J_lt_t, J_lt_f, J_eq_t, J_eq_f, L_lit, L_add, L_sub, L_mul, L_div, JL, LJ, Int.reduceToNat, Int.toNat_zero, Int.toNat_one, xb, xm, within_t, within_f, nb_t, nb_f, ni_t, ni_f, in_t, in_f, less_, bad_0, bad_1, not_true_eq_false, not_false_eq_true, L_lt_t, L_lt_f, L_eq_t, L_eq_f, lg_gt, lg_eq, lg_lt]; rfl, by simp only [sp_M_scale, eI, f_M_scale, lbad1 (k + 1) (by omega), Option.bind_some, ↓reduceIte, lt10, lt20, lt00, lj00, lj10, lj20, xb, xm]; rfl, ⟨rfl, fun h => by cases h⟩⟩
set_option maxHeartbeats 2000000 in
theorem pc_digits (K : Nat) (hK : 1000000 ≤ K) (p1 thr : Int32) {l : LA} {nr : Nat → Nat} {c1 c2 c3 c4 : Nat → Int32} {c5 c6 c7 : Int32} {m1 : Nat → Nat → Int32} {m2 m3 m4 : Nat → Int32} {m5 m6 m7 : Int32} (hL : HL l nr c1 c2 c3 c4 c5 c6 c7 m1 m2 m3 m4 m5 m6 m7) {m : Nat} {EN : Nat → Nat} {EE : Nat → Nat → Nat → Nat} {stories : Nat → Option Nat} {QS : Nat → Nat} {k1 k2 k3 k4 : Nat → Nat → Int32} {kn : Nat → Int32} {many : Nat → Int32} {ev : Nat → Nat → Int32} (hS : HS m EN EE stories QS k1 k2 k3 k4 kn many ev) {fn : Nat} {F : Nat → Nat → Nat} {f1 f2 f3 f4 : Nat → Int32} {fs : Int32} {mf : Nat → Nat → Int32} {mfn : Int32} (hF : RFinds f1 f2 f3 f4 fs mf mfn fn F) (j : Nat) (hj : SEL p1 m j) (ql a1 a2 : Nat) (pl ly wo : Nat → Int32) (x1 x2 x3 : Int32) (s1 : Int32) (l1 : Nat → Int32) (z1 : Int32) (mly : Nat → Nat → Int32) (mwo : Nat → Int32) (et eh se th : Int32) (big : Nat → Nat → Int32) (sc : Int32) (o : Nat → Int64) : ∃ oc om, sp_W_digits K p1 ql stories (QS j) pl (J m) (k1 j) (k2 j) (k3 j) (k4 j) (kn j) f1 f2 f3 f4 fs ly wo a1 a2 x1 x2 x3 s1 l1 z1 c1 c2 c3 c4 c5 c6 c7 o = some oc ∧ sp_M_digits K p1 thr m5 m6 m7 m1 m2 m3 m4 (J m) many ev mfn mf mly mwo (J (-1)) (J (-1)) et eh (J (-1)) se th big sc = some om ∧ AA oc.1 oc.2.2.2.2.2.2.2.2.2.2.2.2 om.1 om.2.1 := by
  obtain ⟨hl, R, Q⟩ := hL
  obtain ⟨hm, hq, hst⟩ := hS
  obtain ⟨z, rfl, hz⟩ := ex_J p1
  by_cases h : 0 ≤ z ∧ z < m
  · obtain ⟨z, rfl⟩ : ∃ x : Nat, z = x := ⟨z.toNat, by omega⟩
    obtain rfl : j = z := hj z (by omega) rfl
    have hjm : j < m := by omega
    obtain ⟨y1, y2, y3⟩ := hst j hjm
    have eS := storyAt_t K hjm hm (hq j (by omega))
    have eI := isStory_t K (a := j) (n := m) (by omega) (by omega)
    obtain ⟨u1, u2, u3, u4, u5, u6, u7, u8, e1, e2⟩ := p_judge K hK hl R y1 y2 hF (q := -1) (by omega) pl ly wo x1 x2 x3 s1 l1 z1
    obtain ⟨v1, v2, v3, g1, g2, g3⟩ := m_numbers K hK hl Q y1 y3 et eh se th hF (q := -1) (by omega) (b := 0) (by omega) mly mwo big sc
    rw [Int.natCast_zero] at g1
    obtain ⟨D, d1, d2, d3⟩ := p_howMany K (by omega) e2
    obtain ⟨D', d4, d5, d6⟩ := p_M_digitsNow K (by omega) g2
    obtain rfl := DG_uniq d2 d5
    obtain ⟨k, rfl⟩ : ∃ k, K = k + 1 := ⟨K - 1, by omega⟩
    clear e2 g2 g3 y1 y2 y3 hst hF R Q hl d2 d5
    refine ⟨_, _, by simp (disch := omega) only [sp_W_digits, sp_digits, eS, e1, d1, J_lit, J_add, J_sub, J_mul, J_neg, J_nat, J_inb, J_div, ↓reduceIte, Int.toNat_natCast, Option.bind_some, J_le_t, J_le_f, J_lt_t, J_lt_f, J_eq_t, J_eq_f, L_lit, L_add, L_sub, L_mul, L_div, JL, LJ, Int.reduceToNat, Int.toNat_zero, Int.toNat_one, xb, xm, within_t, within_f, nb_t, nb_f, ni_t, ni_f, in_t, in_f, less_, bad_0, bad_1, not_true_eq_false, not_false_eq_true, L_lt_t, L_lt_f, L_eq_t, L_eq_f, lg_gt, lg_eq, lg_lt]; rfl, by simp (disch := omega) only [sp_M_digits, f_M_digits, eI, g1, d4, J_lit, J_add, J_sub, J_mul, J_neg, J_nat, J_inb, J_div, ↓reduceIte, Int.toNat_natCast, Option.bind_some, J_le_t, J_le_f, J_lt_t, J_lt_f, J_eq_t, J_eq_f, L_lit, L_add, L_sub, L_mul, L_div, JL, LJ, Int.reduceToNat, Int.toNat_zero, Int.toNat_one, xb, xm, within_t, within_f, nb_t, nb_f, ni_t, ni_f, in_t, in_f, less_, bad_0, bad_1, not_true_eq_false, not_false_eq_true, L_lt_t, L_lt_f, L_eq_t, L_eq_f, lg_gt, lg_eq, lg_lt]; rfl, (by first | exact AA_0 _ _ | exact AA_L _ (by omega))⟩
  · have eS := storyAt_f K hz hm (by omega) stories (QS j)
    have eI := isStory_f K hz h (by omega)
    obtain ⟨k, rfl⟩ : ∃ k, K = k + 1 := ⟨K - 1, by omega⟩
    exact ⟨_, _, by simp (disch := omega) only [sp_W_digits, sp_digits, eS, J_lit, J_add, J_sub, J_mul, J_neg, J_nat, J_inb, J_div, ↓reduceIte, Int.toNat_natCast, Option.bind_some, J_le_t, J_le_f, J_lt_t, J_lt_f, J_eq_t, J_eq_f, L_lit, L_add, L_sub, L_mul, L_div, JL, LJ, Int.reduceToNat, Int.toNat_zero, Int.toNat_one, xb, xm, within_t, within_f, nb_t, nb_f, ni_t, ni_f, in_t, in_f, less_, bad_0, bad_1, not_true_eq_false, not_false_eq_true, L_lt_t, L_lt_f, L_eq_t, L_eq_f, lg_gt, lg_eq, lg_lt]; rfl, by simp only [sp_M_digits, eI, f_M_digits, lbad1 (k + 1) (by omega), Option.bind_some, ↓reduceIte, lt10, lt20, lt00, lj00, lj10, lj20, xb, xm]; rfl, ⟨rfl, fun h => by cases h⟩⟩
set_option maxHeartbeats 2000000 in
theorem pc_digit (K : Nat) (hK : 1000000 ≤ K) (p1 p2 thr : Int32) {l : LA} {nr : Nat → Nat} {c1 c2 c3 c4 : Nat → Int32} {c5 c6 c7 : Int32} {m1 : Nat → Nat → Int32} {m2 m3 m4 : Nat → Int32} {m5 m6 m7 : Int32} (hL : HL l nr c1 c2 c3 c4 c5 c6 c7 m1 m2 m3 m4 m5 m6 m7) {m : Nat} {EN : Nat → Nat} {EE : Nat → Nat → Nat → Nat} {stories : Nat → Option Nat} {QS : Nat → Nat} {k1 k2 k3 k4 : Nat → Nat → Int32} {kn : Nat → Int32} {many : Nat → Int32} {ev : Nat → Nat → Int32} (hS : HS m EN EE stories QS k1 k2 k3 k4 kn many ev) {fn : Nat} {F : Nat → Nat → Nat} {f1 f2 f3 f4 : Nat → Int32} {fs : Int32} {mf : Nat → Nat → Int32} {mfn : Int32} (hF : RFinds f1 f2 f3 f4 fs mf mfn fn F) (j : Nat) (hj : SEL p1 m j) (ql a1 a2 : Nat) (pl ly wo : Nat → Int32) (x1 x2 x3 : Int32) (s1 : Int32) (l1 : Nat → Int32) (z1 : Int32) (mly : Nat → Nat → Int32) (mwo : Nat → Int32) (et eh se th : Int32) (big : Nat → Nat → Int32) (sc : Int32) (o : Nat → Int64) : ∃ oc om, sp_W_digit K p1 p2 ql stories (QS j) pl (J m) (k1 j) (k2 j) (k3 j) (k4 j) (kn j) f1 f2 f3 f4 fs ly wo a1 a2 x1 x2 x3 s1 l1 z1 c1 c2 c3 c4 c5 c6 c7 o = some oc ∧ sp_M_digit K p1 p2 thr m5 m6 m7 m1 m2 m3 m4 (J m) many ev mfn mf mly mwo (J (-1)) (J (-1)) et eh (J (-1)) se th big sc = some om ∧ AA oc.1 oc.2.2.2.2.2.2.2.2.2.2.2.2 om.1 om.2.1 := by
  obtain ⟨hl, R, Q⟩ := hL
  obtain ⟨hm, hq, hst⟩ := hS
  obtain ⟨z, rfl, hz⟩ := ex_J p1
  obtain ⟨w, rfl, hw⟩ := ex_J p2
  by_cases h : 0 ≤ z ∧ z < m
  · obtain ⟨z, rfl⟩ : ∃ x : Nat, z = x := ⟨z.toNat, by omega⟩
    obtain rfl : j = z := hj z (by omega) rfl
    have hjm : j < m := by omega
    obtain ⟨y1, y2, y3⟩ := hst j hjm
    have eS := storyAt_t K hjm hm (hq j (by omega))
    have eI := isStory_t K (a := j) (n := m) (by omega) (by omega)
    obtain ⟨u1, u2, u3, u4, u5, u6, u7, u8, e1, e2⟩ := p_judge K hK hl R y1 y2 hF (q := -1) (by omega) pl ly wo x1 x2 x3 s1 l1 z1
    obtain ⟨v1, v2, v3, g1, g2, g3⟩ := m_numbers K hK hl Q y1 y3 et eh se th hF (q := -1) (by omega) (b := 0) (by omega) mly mwo big sc
    rw [Int.natCast_zero] at g1
    obtain ⟨D, d1, d2, d3⟩ := p_howMany K (by omega) e2
    obtain ⟨D', d4, d5, d6⟩ := p_M_digitsNow K (by omega) g2
    obtain rfl := DG_uniq d2 d5
    have e3 := p_digitAt K (by omega) e2 d2 hw
    by_cases hwD : 0 ≤ w ∧ w < D
    · obtain ⟨w, rfl⟩ : ∃ x : Nat, w = x := ⟨w.toNat, by omega⟩
      rw [if_pos hwD, Int.toNat_natCast] at e3
      obtain ⟨qq, r, hwq, hr⟩ : ∃ qq r : Nat, w = 4 * qq + r ∧ r < 4 := ⟨w / 4, w % 4, by omega, by omega⟩
      obtain ⟨X, i1, i2, i3⟩ := M_dig _ g2 qq r (by omega) hr
      rw [← hwq] at i3
      have hdl : (jP (lta l) (-1) (plT l (TA l (EN j) (EE j)) F) F fn) / 10 ^ w % 10 < 10 := Nat.mod_lt _ (by omega)
      have key : ∀ (rr i : Nat), i + rr = r → ∀ (mm : Nat) (ly : Nat → Nat → Int32) (wo : Nat → Int32) (G : Nat → Nat → Int32) (s : Int32), rr + 1 ≤ mm → f_M_digit K m5 m6 m7 m1 m2 m3 m4 many ev mfn mf (J (-1)) (J (-1)) et eh (J (-1)) se th mm 1 (J 0, J w, J 0, J (X / 10 ^ i : Nat), J i, J 0, ly, wo, G, s) = some (J (X / 10 ^ r % 10 : Nat), J 0, ly, wo, G, s) := by
        intro rr
        induction rr with
        | zero =>
          intro i hi mm ly wo G s hmm
          obtain ⟨mm, rfl⟩ : ∃ q, mm = q + 1 := ⟨mm - 1, by omega⟩
          obtain rfl : i = r := by omega
          have hX : X / 10 ^ i ≤ X := Nat.div_le_self _ _
          generalize X / 10 ^ i = Y at *
          have t1 : (w : Int) / 4 = (qq : Int) := by omega
          have t2 : (w : Int) - (qq : Int) * 4 = (i : Int) := by omega
          have t3 : (Y : Int) - (Y : Int) / 10 * 10 = ((Y % 10 : Nat) : Int) := by omega
          clear e3 hdl g2 i3 d1 d2 d5 i1 e2
          simp (disch := omega) only [f_M_digit, t1, t2, t3, J_lit, J_add, J_sub, J_mul, J_neg, J_nat, J_inb, J_div, ↓reduceIte, Int.toNat_natCast, Option.bind_some, J_le_t, J_le_f, J_lt_t, J_lt_f, J_eq_t, J_eq_f, L_lit, L_add, L_sub, L_mul, L_div, JL, LJ, Int.reduceToNat, Int.toNat_zero, Int.toNat_one, xb, xm, within_t, within_f, nb_t, nb_f, ni_t, ni_f, in_t, in_f, less_, bad_0, bad_1, not_true_eq_false, not_false_eq_true, L_lt_t, L_lt_f, L_eq_t, L_eq_f, lg_gt, lg_eq, lg_lt]
        | succ rr ih =>
          intro i hi mm ly wo G s hmm
          obtain ⟨mm, rfl⟩ : ∃ q, mm = q + 1 := ⟨mm - 1, by omega⟩
          have hX : X / 10 ^ i ≤ X := Nat.div_le_self _ _
          rw [← ih (i + 1) (by omega) mm ly wo G s (by omega)]
          have eD : X / 10 ^ (i + 1) = X / 10 ^ i / 10 := by rw [Nat.pow_succ, Nat.div_div_eq_div_mul]
          rw [eD]
          clear ih
          generalize X / 10 ^ i = Y at *
          have t1 : (w : Int) / 4 = (qq : Int) := by omega
          have t2 : (w : Int) - (qq : Int) * 4 = (r : Int) := by omega
          have t3 : (Y : Int) / 10 = ((Y / 10 : Nat) : Int) := by omega
          clear e3 hdl g2 i3 d1 d2 d5 i1 eD e2
          simp (disch := omega) only [f_M_digit, t1, t2, t3, cast1, J_lit, J_add, J_sub, J_mul, J_neg, J_nat, J_inb, J_div, ↓reduceIte, Int.toNat_natCast, Option.bind_some, J_le_t, J_le_f, J_lt_t, J_lt_f, J_eq_t, J_eq_f, L_lit, L_add, L_sub, L_mul, L_div, JL, LJ, Int.reduceToNat, Int.toNat_zero, Int.toNat_one, xb, xm, within_t, within_f, nb_t, nb_f, ni_t, ni_f, in_t, in_f, less_, bad_0, bad_1, not_true_eq_false, not_false_eq_true, L_lt_t, L_lt_f, L_eq_t, L_eq_f, lg_gt, lg_eq, lg_lt]
      obtain ⟨k, rfl⟩ : ∃ k, K = k + 1 := ⟨K - 1, by omega⟩
      have kk := key r 0 (by omega) k v1 v2 v3 (J (NS l (EN j) (EE j) (-1) fn F : Nat)) (by omega)
      rw [Nat.pow_zero, Nat.div_one, Int.natCast_zero, i3] at kk
      have t1 : (w : Int) / 4 = (qq : Int) := by omega
      clear key i3 e2 g2 g3 y1 y2 y3 hst hF R Q hl d2 d5
      generalize jP (lta l) (-1) (plT l (TA l (EN j) (EE j)) F) F fn / 10 ^ w % 10 = Y at *
      generalize NS l (EN j) (EE j) (-1) fn F = Z at *
      have eM : ∀ kk : Nat, sp_M_digit (k + 1) (J j) (J w) thr m5 m6 m7 m1 m2 m3 m4 (J m) many ev mfn mf mly mwo (J (-1)) (J (-1)) et eh (J (-1)) se th big sc = f_M_digit (k + 1) m5 m6 m7 m1 m2 m3 m4 many ev mfn mf (J (-1)) (J (-1)) et eh (J (-1)) se th k 1 (J 0, J w, J 0, J X, J 0, J 0, v1, v2, v3, J Z) := fun kk => by
        simp (disch := omega) only [sp_M_digit, eI, J_lit, J_add, J_sub, J_mul, J_neg, J_nat, J_inb, J_div, ↓reduceIte, Int.toNat_natCast, Option.bind_some, J_le_t, J_le_f, J_lt_t, J_lt_f, J_eq_t, J_eq_f, L_lit, L_add, L_sub, L_mul, L_div, JL, LJ, Int.reduceToNat, Int.toNat_zero, Int.toNat_one, xb, xm, within_t, within_f, nb_t, nb_f, ni_t, ni_f, in_t, in_f, less_, bad_0, bad_1, not_true_eq_false, not_false_eq_true, L_lt_t, L_lt_f, L_eq_t, L_eq_f, lg_gt, lg_eq, lg_lt]
        rw [f_M_digit]
        simp (disch := omega) only [g1, d4, t1, J_lit, J_add, J_sub, J_mul, J_neg, J_nat, J_inb, J_div, ↓reduceIte, Int.toNat_natCast, Option.bind_some, J_le_t, J_le_f, J_lt_t, J_lt_f, J_eq_t, J_eq_f, L_lit, L_add, L_sub, L_mul, L_div, JL, LJ, Int.reduceToNat, Int.toNat_zero, Int.toNat_one, xb, xm, within_t, within_f, nb_t, nb_f, ni_t, ni_f, in_t, in_f, less_, bad_0, bad_1, not_true_eq_false, not_false_eq_true, L_lt_t, L_lt_f, L_eq_t, L_eq_f, lg_gt, lg_eq, lg_lt]
        rw [← i1]
      refine ⟨_, _, by simp (disch := omega) only [sp_W_digit, sp_digit, eS, e1, e3, J_lit, J_add, J_sub, J_mul, J_neg, J_nat, J_inb, J_div, ↓reduceIte, Int.toNat_natCast, Option.bind_some, J_le_t, J_le_f, J_lt_t, J_lt_f, J_eq_t, J_eq_f, L_lit, L_add, L_sub, L_mul, L_div, JL, LJ, Int.reduceToNat, Int.toNat_zero, Int.toNat_one, xb, xm, within_t, within_f, nb_t, nb_f, ni_t, ni_f, in_t, in_f, less_, bad_0, bad_1, not_true_eq_false, not_false_eq_true, L_lt_t, L_lt_f, L_eq_t, L_eq_f, lg_gt, lg_eq, lg_lt]; rfl, (eM 0).trans kk, (by first | exact AA_0 _ _ | exact AA_L _ (by omega))⟩
    · rw [if_neg hwD] at e3
      obtain ⟨k, rfl⟩ : ∃ k, K = k + 1 := ⟨K - 1, by omega⟩
      have eIn := in_f (k + 1) (a := w) (b := 0) (c := (D : Int) - 1) hw (by omega) (by omega) (by omega)
      clear e2 g2 g3 y1 y2 y3 hst hF R Q hl d2 d5 hwD
      refine ⟨_, _, by simp (disch := omega) only [sp_W_digit, sp_digit, eS, e1, e3, J_lit, J_add, J_sub, J_mul, J_neg, J_nat, J_inb, J_div, ↓reduceIte, Int.toNat_natCast, Option.bind_some, J_le_t, J_le_f, J_lt_t, J_lt_f, J_eq_t, J_eq_f, L_lit, L_add, L_sub, L_mul, L_div, JL, LJ, Int.reduceToNat, Int.toNat_zero, Int.toNat_one, xb, xm, within_t, within_f, nb_t, nb_f, ni_t, ni_f, in_t, in_f, less_, bad_0, bad_1, not_true_eq_false, not_false_eq_true, L_lt_t, L_lt_f, L_eq_t, L_eq_f, lg_gt, lg_eq, lg_lt]; rfl, by simp (disch := omega) only [sp_M_digit, f_M_digit, eI, g1, d4, eIn, J_lit, J_add, J_sub, J_mul, J_neg, J_nat, J_inb, J_div, ↓reduceIte, Int.toNat_natCast, Option.bind_some, J_le_t, J_le_f, J_lt_t, J_lt_f, J_eq_t, J_eq_f, L_lit, L_add, L_sub, L_mul, L_div, JL, LJ, Int.reduceToNat, Int.toNat_zero, Int.toNat_one, xb, xm, within_t, within_f, nb_t, nb_f, ni_t, ni_f, in_t, in_f, less_, bad_0, bad_1, not_true_eq_false, not_false_eq_true, L_lt_t, L_lt_f, L_eq_t, L_eq_f, lg_gt, lg_eq, lg_lt]; rfl, (by first | exact AA_0 _ _ | exact AA_L _ (by omega))⟩
  · have eS := storyAt_f K hz hm (by omega) stories (QS j)
    have eI := isStory_f K hz h (by omega)
    obtain ⟨k, rfl⟩ : ∃ k, K = k + 1 := ⟨K - 1, by omega⟩
    exact ⟨_, _, by simp (disch := omega) only [sp_W_digit, sp_digit, eS, J_lit, J_add, J_sub, J_mul, J_neg, J_nat, J_inb, J_div, ↓reduceIte, Int.toNat_natCast, Option.bind_some, J_le_t, J_le_f, J_lt_t, J_lt_f, J_eq_t, J_eq_f, L_lit, L_add, L_sub, L_mul, L_div, JL, LJ, Int.reduceToNat, Int.toNat_zero, Int.toNat_one, xb, xm, within_t, within_f, nb_t, nb_f, ni_t, ni_f, in_t, in_f, less_, bad_0, bad_1, not_true_eq_false, not_false_eq_true, L_lt_t, L_lt_f, L_eq_t, L_eq_f, lg_gt, lg_eq, lg_lt]; rfl, by simp only [sp_M_digit, eI, f_M_digit, lbad1 (k + 1) (by omega), Option.bind_some, ↓reduceIte, lt10, lt20, lt00, lj00, lj10, lj20, xb, xm]; rfl, ⟨rfl, fun h => by cases h⟩⟩
set_option maxHeartbeats 2000000 in
theorem cmp_rng (A B : Nat) : -1 ≤ cmpA A B ∧ cmpA A B ≤ 1 := by
  unfold cmpA
  split
  · omega
  · split <;> omega
set_option maxHeartbeats 2000000 in
theorem pc_weighed (K : Nat) (hK : 1000000 ≤ K) (p1 p2 thr : Int32) {l : LA} {nr : Nat → Nat} {c1 c2 c3 c4 : Nat → Int32} {c5 c6 c7 : Int32} {m1 : Nat → Nat → Int32} {m2 m3 m4 : Nat → Int32} {m5 m6 m7 : Int32} (hL : HL l nr c1 c2 c3 c4 c5 c6 c7 m1 m2 m3 m4 m5 m6 m7) {m : Nat} {EN : Nat → Nat} {EE : Nat → Nat → Nat → Nat} {stories : Nat → Option Nat} {QS : Nat → Nat} {k1 k2 k3 k4 : Nat → Nat → Int32} {kn : Nat → Int32} {many : Nat → Int32} {ev : Nat → Nat → Int32} (hS : HS m EN EE stories QS k1 k2 k3 k4 kn many ev) {fn : Nat} {F : Nat → Nat → Nat} {f1 f2 f3 f4 : Nat → Int32} {fs : Int32} {mf : Nat → Nat → Int32} {mfn : Int32} (hF : RFinds f1 f2 f3 f4 fs mf mfn fn F) (j i : Nat) (hj : SEL p1 m j) (hi : SEL p2 m i) (ql a1 a2 : Nat) (pl ly wo : Nat → Int32) (x1 x2 x3 : Int32) (s1 : Int32) (l1 : Nat → Int32) (z1 s2 : Int32) (l2 : Nat → Int32) (z2 : Int32) (ll : Nat → Int32) (lz : Int32) (rl : Nat → Int32) (rz : Int32) (mly : Nat → Nat → Int32) (mwo : Nat → Int32) (et eh se th : Int32) (big : Nat → Nat → Int32) (sc : Int32) (o : Nat → Int64) : ∃ oc om, sp_W_weighed K p1 p2 ql stories (QS j) (QS i) pl (J m) (k1 j) (k2 j) (k3 j) (k4 j) (kn j) (k1 i) (k2 i) (k3 i) (k4 i) (kn i) f1 f2 f3 f4 fs ly wo a1 a2 x1 x2 x3 s1 l1 z1 s2 l2 z2 ll lz rl rz c1 c2 c3 c4 c5 c6 c7 o = some oc ∧ sp_M_weighed K p1 p2 thr m5 m6 m7 m1 m2 m3 m4 (J m) many ev mfn mf mly mwo (J (-1)) (J (-1)) et eh (J (-1)) se th big sc = some om ∧ AA oc.1 oc.2.2.2.2.2.2.2.2.2.2.2.2.2.2.2.2.2.2.2 om.1 om.2.1 := by
  obtain ⟨hm, hq, hst⟩ := hS
  obtain ⟨z, rfl, hz⟩ := ex_J p1
  obtain ⟨y, rfl, hy⟩ := ex_J p2
  by_cases h : 0 ≤ z ∧ z < m
  · obtain ⟨z, rfl⟩ : ∃ x : Nat, z = x := ⟨z.toNat, by omega⟩
    obtain rfl : j = z := hj z (by omega) rfl
    have hjm : j < m := by omega
    have eS := storyAt_t K hjm hm (hq j (by omega))
    have eI := isStory_t K (a := j) (n := m) (by omega) (by omega)
    by_cases h' : 0 ≤ y ∧ y < m
    · obtain ⟨y, rfl⟩ : ∃ x : Nat, y = x := ⟨y.toNat, by omega⟩
      obtain rfl : i = y := hi y (by omega) rfl
      have him : i < m := by omega
      have eS' := storyAt_t K him hm (hq i (by omega))
      have eI' := isStory_t K (a := i) (n := m) (by omega) (by omega)
      obtain ⟨y1, y2, y3⟩ := hst j hjm
      obtain ⟨w1, w2, w3⟩ := hst i him
      obtain ⟨u1, u2, u3, u4, u5, u6, u7, u8, e1, e2⟩ := p_judge K hK hL.1 hL.2.1 y1 y2 hF (q := -1) (by omega) pl ly wo x1 x2 x3 s1 l1 z1
      obtain ⟨v1, v2, v3, v4, v5, v6, v7, v8, e3, e4⟩ := p_judge K hK hL.1 hL.2.1 w1 w2 hF (q := -1) (by omega) u1 u2 u3 u4 u5 u6 s2 l2 z2
      have n1 := NP_ch hL.1 (EN j) (EE j) (-1) hF.1 F
      have n2 := NP_ch hL.1 (EN i) (EE i) (-1) hF.1 F
      obtain ⟨t1, t2, t3, t4, e5⟩ := p_compared K (by omega) e2 e4 n1 n2 ll lz rl rz
      obtain ⟨g1, g2, g3, g4, e6, e7, e8, e9⟩ := m_two K hK hL y1 y3 w1 w3 et eh se th hF (q := -1) (by omega) mly mwo big sc
      have e10 := p_M_compare K (by omega) (b := 0) (c := 1) (by omega) (by omega) e7 e8
      rw [Int.natCast_zero, show J (1 : Nat) = J 1 from rfl] at e10
      have hr := cmp_rng (NP l (EN j) (EE j) (-1) fn F * 16 ^ NS l (EN i) (EE i) (-1) fn F) (NP l (EN i) (EE i) (-1) fn F * 16 ^ NS l (EN j) (EE j) (-1) fn F)
      obtain ⟨k, rfl⟩ : ∃ k, K = k + 1 := ⟨K - 1, by omega⟩
      clear e2 e4 n1 n2 e7 e8 e9 y1 y2 y3 w1 w2 w3 hst hF hL
      refine ⟨_, _, by simp (disch := omega) only [sp_W_weighed, sp_weighed, eS, eS', e1, e3, e5, J_lit, J_add, J_sub, J_mul, J_neg, J_nat, J_inb, J_div, ↓reduceIte, Int.toNat_natCast, Option.bind_some, J_le_t, J_le_f, J_lt_t, J_lt_f, J_eq_t, J_eq_f, L_lit, L_add, L_sub, L_mul, L_div, JL, LJ, Int.reduceToNat, Int.toNat_zero, Int.toNat_one, xb, xm, within_t, within_f, nb_t, nb_f, ni_t, ni_f, in_t, in_f, less_, bad_0, bad_1, not_true_eq_false, not_false_eq_true, L_lt_t, L_lt_f, L_eq_t, L_eq_f, lg_gt, lg_eq, lg_lt]; rfl, by simp (disch := omega) only [sp_M_weighed, f_M_weighed, eI, eI', e6, e10, J_lit, J_add, J_sub, J_mul, J_neg, J_nat, J_inb, J_div, ↓reduceIte, Int.toNat_natCast, Option.bind_some, J_le_t, J_le_f, J_lt_t, J_lt_f, J_eq_t, J_eq_f, L_lit, L_add, L_sub, L_mul, L_div, JL, LJ, Int.reduceToNat, Int.toNat_zero, Int.toNat_one, xb, xm, within_t, within_f, nb_t, nb_f, ni_t, ni_f, in_t, in_f, less_, bad_0, bad_1, not_true_eq_false, not_false_eq_true, L_lt_t, L_lt_f, L_eq_t, L_eq_f, lg_gt, lg_eq, lg_lt]; rfl, (by first | exact AA_0 _ _ | exact AA_L _ (by omega))⟩
    · have eS' := storyAt_f K hy hm (by omega) stories (QS i)
      have eI' := isStory_f K hy h' (by omega)
      obtain ⟨k, rfl⟩ : ∃ k, K = k + 2 := ⟨K - 2, by omega⟩
      exact ⟨_, _, by simp (disch := omega) only [sp_W_weighed, sp_weighed, eS, eS', J_lit, J_add, J_sub, J_mul, J_neg, J_nat, J_inb, J_div, ↓reduceIte, Int.toNat_natCast, Option.bind_some, J_le_t, J_le_f, J_lt_t, J_lt_f, J_eq_t, J_eq_f, L_lit, L_add, L_sub, L_mul, L_div, JL, LJ, Int.reduceToNat, Int.toNat_zero, Int.toNat_one, xb, xm, within_t, within_f, nb_t, nb_f, ni_t, ni_f, in_t, in_f, less_, bad_0, bad_1, not_true_eq_false, not_false_eq_true, L_lt_t, L_lt_f, L_eq_t, L_eq_f, lg_gt, lg_eq, lg_lt]; rfl, by simp only [sp_M_weighed, eI, eI', f_M_weighed, lbad1 (k + 2) (by omega), Option.bind_some, ↓reduceIte, lt10, lt20, lt00, lj00, lj10, lj20, xb, xm]; rfl, ⟨rfl, fun h => by cases h⟩⟩
  · have eS := storyAt_f K hz hm (by omega) stories (QS j)
    have eI := isStory_f K hz h (by omega)
    obtain ⟨k, rfl⟩ : ∃ k, K = k + 2 := ⟨K - 2, by omega⟩
    exact ⟨_, _, by simp (disch := omega) only [sp_W_weighed, sp_weighed, eS, J_lit, J_add, J_sub, J_mul, J_neg, J_nat, J_inb, J_div, ↓reduceIte, Int.toNat_natCast, Option.bind_some, J_le_t, J_le_f, J_lt_t, J_lt_f, J_eq_t, J_eq_f, L_lit, L_add, L_sub, L_mul, L_div, JL, LJ, Int.reduceToNat, Int.toNat_zero, Int.toNat_one, xb, xm, within_t, within_f, nb_t, nb_f, ni_t, ni_f, in_t, in_f, less_, bad_0, bad_1, not_true_eq_false, not_false_eq_true, L_lt_t, L_lt_f, L_eq_t, L_eq_f, lg_gt, lg_eq, lg_lt]; rfl, by simp only [sp_M_weighed, eI, f_M_weighed, lbad1 (k + 2) (by omega), Option.bind_some, ↓reduceIte, lt10, lt20, lt00, lj00, lj10, lj20, xb, xm]; rfl, ⟨rfl, fun h => by cases h⟩⟩
set_option maxHeartbeats 2000000 in
theorem pc_worth (K : Nat) (hK : 1000000 ≤ K) (p1 p2 thr : Int32) {l : LA} {nr : Nat → Nat} {c1 c2 c3 c4 : Nat → Int32} {c5 c6 c7 : Int32} {m1 : Nat → Nat → Int32} {m2 m3 m4 : Nat → Int32} {m5 m6 m7 : Int32} (hL : HL l nr c1 c2 c3 c4 c5 c6 c7 m1 m2 m3 m4 m5 m6 m7) {m : Nat} {EN : Nat → Nat} {EE : Nat → Nat → Nat → Nat} {stories : Nat → Option Nat} {QS : Nat → Nat} {k1 k2 k3 k4 : Nat → Nat → Int32} {kn : Nat → Int32} {many : Nat → Int32} {ev : Nat → Nat → Int32} (hS : HS m EN EE stories QS k1 k2 k3 k4 kn many ev) {fn : Nat} {F : Nat → Nat → Nat} {f1 f2 f3 f4 : Nat → Int32} {fs : Int32} {mf : Nat → Nat → Int32} {mfn : Int32} (hF : RFinds f1 f2 f3 f4 fs mf mfn fn F) (j i : Nat) (hj : SEL p1 m j) (hi : SEL p2 m i) (ql a1 a2 : Nat) (pl ly wo : Nat → Int32) (x1 x2 x3 : Int32) (s1 : Int32) (l1 : Nat → Int32) (z1 s2 : Int32) (l2 : Nat → Int32) (z2 : Int32) (ll : Nat → Int32) (lz : Int32) (rl : Nat → Int32) (rz : Int32) (tl : Nat → Int32) (tz : Int32) (mly : Nat → Nat → Int32) (mwo : Nat → Int32) (et eh se th : Int32) (big : Nat → Nat → Int32) (sc : Int32) (o : Nat → Int64) : ∃ oc om, sp_W_worth K p1 p2 ql stories (QS j) (QS i) pl (J m) (k1 j) (k2 j) (k3 j) (k4 j) (kn j) (k1 i) (k2 i) (k3 i) (k4 i) (kn i) f1 f2 f3 f4 fs ly wo a1 a2 x1 x2 x3 s1 l1 z1 s2 l2 z2 ll lz rl rz tl tz c1 c2 c3 c4 c5 c6 c7 o = some oc ∧ sp_M_worth K p1 p2 thr m5 m6 m7 m1 m2 m3 m4 (J m) many ev mfn mf mly mwo (J (-1)) (J (-1)) et eh (J (-1)) se th big sc = some om ∧ AA oc.1 oc.2.2.2.2.2.2.2.2.2.2.2.2.2.2.2.2.2.2.2.2.2 om.1 om.2.1 := by
  obtain ⟨hm, hq, hst⟩ := hS
  obtain ⟨z, rfl, hz⟩ := ex_J p1
  obtain ⟨y, rfl, hy⟩ := ex_J p2
  by_cases h : 0 ≤ z ∧ z < m
  · obtain ⟨z, rfl⟩ : ∃ x : Nat, z = x := ⟨z.toNat, by omega⟩
    obtain rfl : j = z := hj z (by omega) rfl
    have hjm : j < m := by omega
    have eS := storyAt_t K hjm hm (hq j (by omega))
    have eI := isStory_t K (a := j) (n := m) (by omega) (by omega)
    by_cases h' : 0 ≤ y ∧ y < m
    · obtain ⟨y, rfl⟩ : ∃ x : Nat, y = x := ⟨y.toNat, by omega⟩
      obtain rfl : i = y := hi y (by omega) rfl
      have him : i < m := by omega
      have eS' := storyAt_t K him hm (hq i (by omega))
      have eI' := isStory_t K (a := i) (n := m) (by omega) (by omega)
      obtain ⟨y1, y2, y3⟩ := hst j hjm
      obtain ⟨w1, w2, w3⟩ := hst i him
      obtain ⟨u, e1⟩ := pu_c_worthOf K hK hL.1 hL.2.1 y1 y2 w1 w2 hF (q := -1) (by omega) pl ly wo x1 x2 x3 s1 l1 z1 s2 l2 z2 ll lz rl rz tl tz
      obtain ⟨g1, g2, g3, g4, e6⟩ := m_worthOf K hK hL y1 y3 w1 w3 et eh se th hF (q := -1) (by omega) mly mwo big sc
      have hr := WT_le (NP l (EN j) (EE j) (-1) fn F * 16 ^ NS l (EN i) (EE i) (-1) fn F) (NP l (EN i) (EE i) (-1) fn F * 16 ^ NS l (EN j) (EE j) (-1) fn F)
      obtain ⟨k, rfl⟩ : ∃ k, K = k + 1 := ⟨K - 1, by omega⟩
      clear y1 y2 y3 w1 w2 w3 hst hF hL
      refine ⟨_, _, by simp (disch := omega) only [sp_W_worth, sp_worth, eS, eS', e1, J_lit, J_add, J_sub, J_mul, J_neg, J_nat, J_inb, J_div, ↓reduceIte, Int.toNat_natCast, Option.bind_some, J_le_t, J_le_f, J_lt_t, J_lt_f, J_eq_t, J_eq_f, L_lit, L_add, L_sub, L_mul, L_div, JL, LJ, Int.reduceToNat, Int.toNat_zero, Int.toNat_one, xb, xm, within_t, within_f, nb_t, nb_f, ni_t, ni_f, in_t, in_f, less_, bad_0, bad_1, not_true_eq_false, not_false_eq_true, L_lt_t, L_lt_f, L_eq_t, L_eq_f, lg_gt, lg_eq, lg_lt]; rfl, by simp (disch := omega) only [sp_M_worth, f_M_worth, eI, eI', e6, J_lit, J_add, J_sub, J_mul, J_neg, J_nat, J_inb, J_div, ↓reduceIte, Int.toNat_natCast, Option.bind_some, J_le_t, J_le_f, J_lt_t, J_lt_f, J_eq_t, J_eq_f, L_lit, L_add, L_sub, L_mul, L_div, JL, LJ, Int.reduceToNat, Int.toNat_zero, Int.toNat_one, xb, xm, within_t, within_f, nb_t, nb_f, ni_t, ni_f, in_t, in_f, less_, bad_0, bad_1, not_true_eq_false, not_false_eq_true, L_lt_t, L_lt_f, L_eq_t, L_eq_f, lg_gt, lg_eq, lg_lt]; rfl, (by first | exact AA_0 _ _ | exact AA_L _ (by omega))⟩
    · have eS' := storyAt_f K hy hm (by omega) stories (QS i)
      have eI' := isStory_f K hy h' (by omega)
      obtain ⟨k, rfl⟩ : ∃ k, K = k + 2 := ⟨K - 2, by omega⟩
      exact ⟨_, _, by simp (disch := omega) only [sp_W_worth, sp_worth, eS, eS', J_lit, J_add, J_sub, J_mul, J_neg, J_nat, J_inb, J_div, ↓reduceIte, Int.toNat_natCast, Option.bind_some, J_le_t, J_le_f, J_lt_t, J_lt_f, J_eq_t, J_eq_f, L_lit, L_add, L_sub, L_mul, L_div, JL, LJ, Int.reduceToNat, Int.toNat_zero, Int.toNat_one, xb, xm, within_t, within_f, nb_t, nb_f, ni_t, ni_f, in_t, in_f, less_, bad_0, bad_1, not_true_eq_false, not_false_eq_true, L_lt_t, L_lt_f, L_eq_t, L_eq_f, lg_gt, lg_eq, lg_lt]; rfl, by simp only [sp_M_worth, eI, eI', f_M_worth, lbad1 (k + 2) (by omega), Option.bind_some, ↓reduceIte, lt10, lt20, lt00, lj00, lj10, lj20, xb, xm]; rfl, ⟨rfl, fun h => by cases h⟩⟩
  · have eS := storyAt_f K hz hm (by omega) stories (QS j)
    have eI := isStory_f K hz h (by omega)
    obtain ⟨k, rfl⟩ : ∃ k, K = k + 2 := ⟨K - 2, by omega⟩
    exact ⟨_, _, by simp (disch := omega) only [sp_W_worth, sp_worth, eS, J_lit, J_add, J_sub, J_mul, J_neg, J_nat, J_inb, J_div, ↓reduceIte, Int.toNat_natCast, Option.bind_some, J_le_t, J_le_f, J_lt_t, J_lt_f, J_eq_t, J_eq_f, L_lit, L_add, L_sub, L_mul, L_div, JL, LJ, Int.reduceToNat, Int.toNat_zero, Int.toNat_one, xb, xm, within_t, within_f, nb_t, nb_f, ni_t, ni_f, in_t, in_f, less_, bad_0, bad_1, not_true_eq_false, not_false_eq_true, L_lt_t, L_lt_f, L_eq_t, L_eq_f, lg_gt, lg_eq, lg_lt]; rfl, by simp only [sp_M_worth, eI, f_M_worth, lbad1 (k + 2) (by omega), Option.bind_some, ↓reduceIte, lt10, lt20, lt00, lj00, lj10, lj20, xb, xm]; rfl, ⟨rfl, fun h => by cases h⟩⟩
set_option maxHeartbeats 2000000 in
theorem pc_part (K : Nat) (hK : 1000000 ≤ K) (p1 p2 p3 thr : Int32) {l : LA} {nr : Nat → Nat} {c1 c2 c3 c4 : Nat → Int32} {c5 c6 c7 : Int32} {m1 : Nat → Nat → Int32} {m2 m3 m4 : Nat → Int32} {m5 m6 m7 : Int32} (hL : HL l nr c1 c2 c3 c4 c5 c6 c7 m1 m2 m3 m4 m5 m6 m7) {m : Nat} {EN : Nat → Nat} {EE : Nat → Nat → Nat → Nat} {stories : Nat → Option Nat} {QS : Nat → Nat} {k1 k2 k3 k4 : Nat → Nat → Int32} {kn : Nat → Int32} {many : Nat → Int32} {ev : Nat → Nat → Int32} (hS : HS m EN EE stories QS k1 k2 k3 k4 kn many ev) {fn : Nat} {F : Nat → Nat → Nat} {f1 f2 f3 f4 : Nat → Int32} {fs : Int32} {mf : Nat → Nat → Int32} {mfn : Int32} (hF : RFinds f1 f2 f3 f4 fs mf mfn fn F) (j i : Nat) (hj : SEL p1 m j) (hi : SEL p2 m i) (ql a1 a2 : Nat) (pl ly wo : Nat → Int32) (x1 x2 x3 : Int32) (s1 : Int32) (l1 : Nat → Int32) (z1 s2 : Int32) (l2 : Nat → Int32) (z2 : Int32) (ll : Nat → Int32) (lz : Int32) (rl : Nat → Int32) (rz : Int32) (tl : Nat → Int32) (tz : Int32) (mly : Nat → Nat → Int32) (mwo : Nat → Int32) (et eh se th : Int32) (big : Nat → Nat → Int32) (sc : Int32) (o : Nat → Int64) : ∃ oc om, sp_W_part K p1 p2 p3 ql stories (QS j) (QS i) pl (J m) (k1 j) (k2 j) (k3 j) (k4 j) (kn j) (k1 i) (k2 i) (k3 i) (k4 i) (kn i) f1 f2 f3 f4 fs ly wo a1 a2 x1 x2 x3 s1 l1 z1 s2 l2 z2 ll lz rl rz tl tz c1 c2 c3 c4 c5 c6 c7 o = some oc ∧ sp_M_part K p1 p2 p3 thr m5 m6 m7 m1 m2 m3 m4 (J m) many ev mfn mf mly mwo (J (-1)) (J (-1)) et eh (J (-1)) se th big sc = some om ∧ AA oc.1 oc.2.2.2.2.2.2.2.2.2.2.2.2.2.2.2.2.2.2.2.2.2 om.1 om.2.1 := by
  obtain ⟨hm, hq, hst⟩ := hS
  obtain ⟨z, rfl, hz⟩ := ex_J p1
  obtain ⟨y, rfl, hy⟩ := ex_J p2
  obtain ⟨x, rfl, hx⟩ := ex_J p3
  by_cases h : 0 ≤ z ∧ z < m
  · obtain ⟨z, rfl⟩ : ∃ x : Nat, z = x := ⟨z.toNat, by omega⟩
    obtain rfl : j = z := hj z (by omega) rfl
    have hjm : j < m := by omega
    have eS := storyAt_t K hjm hm (hq j (by omega))
    have eI := isStory_t K (a := j) (n := m) (by omega) (by omega)
    by_cases h' : 0 ≤ y ∧ y < m
    · obtain ⟨y, rfl⟩ : ∃ x : Nat, y = x := ⟨y.toNat, by omega⟩
      obtain rfl : i = y := hi y (by omega) rfl
      have him : i < m := by omega
      have eS' := storyAt_t K him hm (hq i (by omega))
      have eI' := isStory_t K (a := i) (n := m) (by omega) (by omega)
      obtain ⟨y1, y2, y3⟩ := hst j hjm
      obtain ⟨w1, w2, w3⟩ := hst i him
      obtain ⟨hfn, hfs, hmn, hrest⟩ := hF
      have hF : RFinds f1 f2 f3 f4 fs mf mfn fn F := ⟨hfn, hfs, hmn, hrest⟩
      by_cases h'' : 0 ≤ x ∧ x < fn
      · obtain ⟨u, e1⟩ := pu_c_worthOf K hK hL.1 hL.2.1 y1 y2 w1 w2 hF (q := x) (by omega) pl ly wo x1 x2 x3 s1 l1 z1 s2 l2 z2 ll lz rl rz tl tz
        obtain ⟨g1, g2, g3, g4, e6⟩ := m_worthOf K hK hL y1 y3 w1 w3 et eh se th hF (q := x) (by omega) mly mwo big sc
        have hr := WT_le (NP l (EN j) (EE j) x fn F * 16 ^ NS l (EN i) (EE i) x fn F) (NP l (EN i) (EE i) x fn F * 16 ^ NS l (EN j) (EE j) x fn F)
        have eF := isFind_t K (a := x) (n := fn) h'' (by omega)
        obtain ⟨k, rfl⟩ : ∃ k, K = k + 2 := ⟨K - 2, by omega⟩
        clear y1 y2 y3 w1 w2 w3 hst hF hL hrest
        subst hfs hmn
        refine ⟨_, _, by simp (disch := omega) only [sp_W_part, sp_part, eS, eS', e1, J_lit, J_add, J_sub, J_mul, J_neg, J_nat, J_inb, J_div, ↓reduceIte, Int.toNat_natCast, Option.bind_some, J_le_t, J_le_f, J_lt_t, J_lt_f, J_eq_t, J_eq_f, L_lit, L_add, L_sub, L_mul, L_div, JL, LJ, Int.reduceToNat, Int.toNat_zero, Int.toNat_one, xb, xm, within_t, within_f, nb_t, nb_f, ni_t, ni_f, in_t, in_f, less_, bad_0, bad_1, not_true_eq_false, not_false_eq_true, L_lt_t, L_lt_f, L_eq_t, L_eq_f, lg_gt, lg_eq, lg_lt]; rfl, by simp (disch := omega) only [sp_M_part, f_M_part, eI, eI', eF, e6, J_lit, J_add, J_sub, J_mul, J_neg, J_nat, J_inb, J_div, ↓reduceIte, Int.toNat_natCast, Option.bind_some, J_le_t, J_le_f, J_lt_t, J_lt_f, J_eq_t, J_eq_f, L_lit, L_add, L_sub, L_mul, L_div, JL, LJ, Int.reduceToNat, Int.toNat_zero, Int.toNat_one, xb, xm, within_t, within_f, nb_t, nb_f, ni_t, ni_f, in_t, in_f, less_, bad_0, bad_1, not_true_eq_false, not_false_eq_true, L_lt_t, L_lt_f, L_eq_t, L_eq_f, lg_gt, lg_eq, lg_lt]; rfl, (by first | exact AA_0 _ _ | exact AA_L _ (by omega))⟩
      · have eF := isFind_f K hx h'' (n := fn) (by omega)
        have eN := ni_f K hx (b := fn) (by omega) (by omega)
        obtain ⟨k, rfl⟩ : ∃ k, K = k + 2 := ⟨K - 2, by omega⟩
        clear y1 y2 y3 w1 w2 w3 hst hF hL hrest
        subst hfs hmn
        exact ⟨_, _, by simp only [sp_W_part, sp_part, eS, eS', eN, Option.bind_some, ↓reduceIte, lt10, lt20, lt00, lj00, lj10, lj20, xb, xm]; rfl, by simp only [sp_M_part, eI, eI', f_M_part, lbad0 (k + 2) (by omega), eF, lbad2 (k + 2) (by omega), Option.bind_some, ↓reduceIte, lt10, lt20, lt00, lj00, lj10, lj20, xb, xm]; rfl, ⟨rfl, fun h => by cases h⟩⟩
    · have eS' := storyAt_f K hy hm (by omega) stories (QS i)
      have eI' := isStory_f K hy h' (by omega)
      obtain ⟨k, rfl⟩ : ∃ k, K = k + 2 := ⟨K - 2, by omega⟩
      exact ⟨_, _, by simp (disch := omega) only [sp_W_part, sp_part, eS, eS', J_lit, J_add, J_sub, J_mul, J_neg, J_nat, J_inb, J_div, ↓reduceIte, Int.toNat_natCast, Option.bind_some, J_le_t, J_le_f, J_lt_t, J_lt_f, J_eq_t, J_eq_f, L_lit, L_add, L_sub, L_mul, L_div, JL, LJ, Int.reduceToNat, Int.toNat_zero, Int.toNat_one, xb, xm, within_t, within_f, nb_t, nb_f, ni_t, ni_f, in_t, in_f, less_, bad_0, bad_1, not_true_eq_false, not_false_eq_true, L_lt_t, L_lt_f, L_eq_t, L_eq_f, lg_gt, lg_eq, lg_lt]; rfl, by simp only [sp_M_part, eI, eI', f_M_part, lbad1 (k + 2) (by omega), Option.bind_some, ↓reduceIte, lt10, lt20, lt00, lj00, lj10, lj20, xb, xm]; rfl, ⟨rfl, fun h => by cases h⟩⟩
  · have eS := storyAt_f K hz hm (by omega) stories (QS j)
    have eI := isStory_f K hz h (by omega)
    obtain ⟨k, rfl⟩ : ∃ k, K = k + 2 := ⟨K - 2, by omega⟩
    exact ⟨_, _, by simp (disch := omega) only [sp_W_part, sp_part, eS, J_lit, J_add, J_sub, J_mul, J_neg, J_nat, J_inb, J_div, ↓reduceIte, Int.toNat_natCast, Option.bind_some, J_le_t, J_le_f, J_lt_t, J_lt_f, J_eq_t, J_eq_f, L_lit, L_add, L_sub, L_mul, L_div, JL, LJ, Int.reduceToNat, Int.toNat_zero, Int.toNat_one, xb, xm, within_t, within_f, nb_t, nb_f, ni_t, ni_f, in_t, in_f, less_, bad_0, bad_1, not_true_eq_false, not_false_eq_true, L_lt_t, L_lt_f, L_eq_t, L_eq_f, lg_gt, lg_eq, lg_lt]; rfl, by simp only [sp_M_part, eI, f_M_part, lbad1 (k + 2) (by omega), Option.bind_some, ↓reduceIte, lt10, lt20, lt00, lj00, lj10, lj20, xb, xm]; rfl, ⟨rfl, fun h => by cases h⟩⟩
set_option maxHeartbeats 2000000 in
theorem pc_said (K : Nat) (hK : 1000000 ≤ K) (p1 p2 thr : Int32) {l : LA} {nr : Nat → Nat} {c1 c2 c3 c4 : Nat → Int32} {c5 c6 c7 : Int32} {m1 : Nat → Nat → Int32} {m2 m3 m4 : Nat → Int32} {m5 m6 m7 : Int32} (hL : HL l nr c1 c2 c3 c4 c5 c6 c7 m1 m2 m3 m4 m5 m6 m7) {m : Nat} {EN : Nat → Nat} {EE : Nat → Nat → Nat → Nat} {stories : Nat → Option Nat} {QS : Nat → Nat} {k1 k2 k3 k4 : Nat → Nat → Int32} {kn : Nat → Int32} {many : Nat → Int32} {ev : Nat → Nat → Int32} (hS : HS m EN EE stories QS k1 k2 k3 k4 kn many ev) {fn : Nat} {F : Nat → Nat → Nat} {f1 f2 f3 f4 : Nat → Int32} {fs : Int32} {mf : Nat → Nat → Int32} {mfn : Int32} (hF : RFinds f1 f2 f3 f4 fs mf mfn fn F) (j i : Nat) (hj : SEL p1 m j) (hi : SEL p2 m i) (ql a1 a2 : Nat) (pl ly wo : Nat → Int32) (x1 x2 x3 : Int32) (s1 : Int32) (l1 : Nat → Int32) (z1 s2 : Int32) (l2 : Nat → Int32) (z2 : Int32) (ll : Nat → Int32) (lz : Int32) (rl : Nat → Int32) (rz : Int32) (tl : Nat → Int32) (tz : Int32) (mly : Nat → Nat → Int32) (mwo : Nat → Int32) (et eh se th : Int32) (big : Nat → Nat → Int32) (sc : Int32) (o : Nat → Int64) : ∃ oc om, sp_W_said K p1 p2 ql stories (QS j) (QS i) pl (J m) (k1 j) (k2 j) (k3 j) (k4 j) (kn j) (k1 i) (k2 i) (k3 i) (k4 i) (kn i) f1 f2 f3 f4 fs ly wo a1 a2 x1 x2 x3 s1 l1 z1 s2 l2 z2 ll lz rl rz tl tz c1 c2 c3 c4 c5 c6 c7 o = some oc ∧ sp_M_said K p1 p2 thr m5 m6 m7 m1 m2 m3 m4 (J m) many ev mfn mf mly mwo (J (-1)) (J (-1)) et eh (J (-1)) se th big sc = some om ∧ AA oc.1 oc.2.2.2.2.2.2.2.2.2.2.2.2.2.2.2.2.2.2.2.2.2 om.1 om.2.1 := by
  obtain ⟨hm, hq, hst⟩ := hS
  obtain ⟨z, rfl, hz⟩ := ex_J p1
  obtain ⟨y, rfl, hy⟩ := ex_J p2
  by_cases h : 0 ≤ z ∧ z < m
  · obtain ⟨z, rfl⟩ : ∃ x : Nat, z = x := ⟨z.toNat, by omega⟩
    obtain rfl : j = z := hj z (by omega) rfl
    have hjm : j < m := by omega
    have eS := storyAt_t K hjm hm (hq j (by omega))
    have eI := isStory_t K (a := j) (n := m) (by omega) (by omega)
    by_cases h' : 0 ≤ y ∧ y < m
    · obtain ⟨y, rfl⟩ : ∃ x : Nat, y = x := ⟨y.toNat, by omega⟩
      obtain rfl : i = y := hi y (by omega) rfl
      have him : i < m := by omega
      have eS' := storyAt_t K him hm (hq i (by omega))
      have eI' := isStory_t K (a := i) (n := m) (by omega) (by omega)
      obtain ⟨y1, y2, y3⟩ := hst j hjm
      obtain ⟨w1, w2, w3⟩ := hst i him
      obtain ⟨u, e1⟩ := pu_c_worthOf K hK hL.1 hL.2.1 y1 y2 w1 w2 hF (q := -1) (by omega) pl ly wo x1 x2 x3 s1 l1 z1 s2 l2 z2 ll lz rl rz tl tz
      obtain ⟨g1, g2, g3, g4, e6⟩ := m_worthOf K hK hL y1 y3 w1 w3 et eh se th hF (q := -1) (by omega) mly mwo big sc
      have hr := WT_le (NP l (EN j) (EE j) (-1) fn F * 16 ^ NS l (EN i) (EE i) (-1) fn F) (NP l (EN i) (EE i) (-1) fn F * 16 ^ NS l (EN j) (EE j) (-1) fn F)
      generalize WT (NP l (EN j) (EE j) (-1) fn F * 16 ^ NS l (EN i) (EE i) (-1) fn F) (NP l (EN i) (EE i) (-1) fn F * 16 ^ NS l (EN j) (EE j) (-1) fn F) = Wv at *
      obtain ⟨k, rfl⟩ : ∃ k, K = k + 1 := ⟨K - 1, by omega⟩
      clear y1 y2 y3 w1 w2 w3 hst hF hL
      by_cases w1 : Wv < 10
      · refine ⟨_, _, by simp (disch := omega) only [sp_W_said, sp_said, eS, eS', e1, J_lit, J_add, J_sub, J_mul, J_neg, J_nat, J_inb, J_div, ↓reduceIte, Int.toNat_natCast, Option.bind_some, J_le_t, J_le_f, J_lt_t, J_lt_f, J_eq_t, J_eq_f, L_lit, L_add, L_sub, L_mul, L_div, JL, LJ, Int.reduceToNat, Int.toNat_zero, Int.toNat_one, xb, xm, within_t, within_f, nb_t, nb_f, ni_t, ni_f, in_t, in_f, less_, bad_0, bad_1, not_true_eq_false, not_false_eq_true, L_lt_t, L_lt_f, L_eq_t, L_eq_f, lg_gt, lg_eq, lg_lt]; rfl, by simp (disch := omega) only [sp_M_said, f_M_said, eI, eI', e6, J_lit, J_add, J_sub, J_mul, J_neg, J_nat, J_inb, J_div, ↓reduceIte, Int.toNat_natCast, Option.bind_some, J_le_t, J_le_f, J_lt_t, J_lt_f, J_eq_t, J_eq_f, L_lit, L_add, L_sub, L_mul, L_div, JL, LJ, Int.reduceToNat, Int.toNat_zero, Int.toNat_one, xb, xm, within_t, within_f, nb_t, nb_f, ni_t, ni_f, in_t, in_f, less_, bad_0, bad_1, not_true_eq_false, not_false_eq_true, L_lt_t, L_lt_f, L_eq_t, L_eq_f, lg_gt, lg_eq, lg_lt]; rfl, (by first | exact AA_0 _ _ | exact AA_L _ (by omega))⟩
      · by_cases w2 : Wv < 1000
        · refine ⟨_, _, by simp (disch := omega) only [sp_W_said, sp_said, eS, eS', e1, J_lit, J_add, J_sub, J_mul, J_neg, J_nat, J_inb, J_div, ↓reduceIte, Int.toNat_natCast, Option.bind_some, J_le_t, J_le_f, J_lt_t, J_lt_f, J_eq_t, J_eq_f, L_lit, L_add, L_sub, L_mul, L_div, JL, LJ, Int.reduceToNat, Int.toNat_zero, Int.toNat_one, xb, xm, within_t, within_f, nb_t, nb_f, ni_t, ni_f, in_t, in_f, less_, bad_0, bad_1, not_true_eq_false, not_false_eq_true, L_lt_t, L_lt_f, L_eq_t, L_eq_f, lg_gt, lg_eq, lg_lt]; rfl, by simp (disch := omega) only [sp_M_said, f_M_said, eI, eI', e6, J_lit, J_add, J_sub, J_mul, J_neg, J_nat, J_inb, J_div, ↓reduceIte, Int.toNat_natCast, Option.bind_some, J_le_t, J_le_f, J_lt_t, J_lt_f, J_eq_t, J_eq_f, L_lit, L_add, L_sub, L_mul, L_div, JL, LJ, Int.reduceToNat, Int.toNat_zero, Int.toNat_one, xb, xm, within_t, within_f, nb_t, nb_f, ni_t, ni_f, in_t, in_f, less_, bad_0, bad_1, not_true_eq_false, not_false_eq_true, L_lt_t, L_lt_f, L_eq_t, L_eq_f, lg_gt, lg_eq, lg_lt]; rfl, (by first | exact AA_0 _ _ | exact AA_L _ (by omega))⟩
        · by_cases w3 : Wv < 1000000
          · refine ⟨_, _, by simp (disch := omega) only [sp_W_said, sp_said, eS, eS', e1, J_lit, J_add, J_sub, J_mul, J_neg, J_nat, J_inb, J_div, ↓reduceIte, Int.toNat_natCast, Option.bind_some, J_le_t, J_le_f, J_lt_t, J_lt_f, J_eq_t, J_eq_f, L_lit, L_add, L_sub, L_mul, L_div, JL, LJ, Int.reduceToNat, Int.toNat_zero, Int.toNat_one, xb, xm, within_t, within_f, nb_t, nb_f, ni_t, ni_f, in_t, in_f, less_, bad_0, bad_1, not_true_eq_false, not_false_eq_true, L_lt_t, L_lt_f, L_eq_t, L_eq_f, lg_gt, lg_eq, lg_lt]; rfl, by simp (disch := omega) only [sp_M_said, f_M_said, eI, eI', e6, J_lit, J_add, J_sub, J_mul, J_neg, J_nat, J_inb, J_div, ↓reduceIte, Int.toNat_natCast, Option.bind_some, J_le_t, J_le_f, J_lt_t, J_lt_f, J_eq_t, J_eq_f, L_lit, L_add, L_sub, L_mul, L_div, JL, LJ, Int.reduceToNat, Int.toNat_zero, Int.toNat_one, xb, xm, within_t, within_f, nb_t, nb_f, ni_t, ni_f, in_t, in_f, less_, bad_0, bad_1, not_true_eq_false, not_false_eq_true, L_lt_t, L_lt_f, L_eq_t, L_eq_f, lg_gt, lg_eq, lg_lt]; rfl, (by first | exact AA_0 _ _ | exact AA_L _ (by omega))⟩
          · refine ⟨_, _, by simp (disch := omega) only [sp_W_said, sp_said, eS, eS', e1, J_lit, J_add, J_sub, J_mul, J_neg, J_nat, J_inb, J_div, ↓reduceIte, Int.toNat_natCast, Option.bind_some, J_le_t, J_le_f, J_lt_t, J_lt_f, J_eq_t, J_eq_f, L_lit, L_add, L_sub, L_mul, L_div, JL, LJ, Int.reduceToNat, Int.toNat_zero, Int.toNat_one, xb, xm, within_t, within_f, nb_t, nb_f, ni_t, ni_f, in_t, in_f, less_, bad_0, bad_1, not_true_eq_false, not_false_eq_true, L_lt_t, L_lt_f, L_eq_t, L_eq_f, lg_gt, lg_eq, lg_lt]; rfl, by simp (disch := omega) only [sp_M_said, f_M_said, eI, eI', e6, J_lit, J_add, J_sub, J_mul, J_neg, J_nat, J_inb, J_div, ↓reduceIte, Int.toNat_natCast, Option.bind_some, J_le_t, J_le_f, J_lt_t, J_lt_f, J_eq_t, J_eq_f, L_lit, L_add, L_sub, L_mul, L_div, JL, LJ, Int.reduceToNat, Int.toNat_zero, Int.toNat_one, xb, xm, within_t, within_f, nb_t, nb_f, ni_t, ni_f, in_t, in_f, less_, bad_0, bad_1, not_true_eq_false, not_false_eq_true, L_lt_t, L_lt_f, L_eq_t, L_eq_f, lg_gt, lg_eq, lg_lt]; rfl, (by first | exact AA_0 _ _ | exact AA_L _ (by omega))⟩
    · have eS' := storyAt_f K hy hm (by omega) stories (QS i)
      have eI' := isStory_f K hy h' (by omega)
      obtain ⟨k, rfl⟩ : ∃ k, K = k + 2 := ⟨K - 2, by omega⟩
      exact ⟨_, _, by simp (disch := omega) only [sp_W_said, sp_said, eS, eS', J_lit, J_add, J_sub, J_mul, J_neg, J_nat, J_inb, J_div, ↓reduceIte, Int.toNat_natCast, Option.bind_some, J_le_t, J_le_f, J_lt_t, J_lt_f, J_eq_t, J_eq_f, L_lit, L_add, L_sub, L_mul, L_div, JL, LJ, Int.reduceToNat, Int.toNat_zero, Int.toNat_one, xb, xm, within_t, within_f, nb_t, nb_f, ni_t, ni_f, in_t, in_f, less_, bad_0, bad_1, not_true_eq_false, not_false_eq_true, L_lt_t, L_lt_f, L_eq_t, L_eq_f, lg_gt, lg_eq, lg_lt]; rfl, by simp only [sp_M_said, eI, eI', f_M_said, lbad1 (k + 2) (by omega), Option.bind_some, ↓reduceIte, lt10, lt20, lt00, lj00, lj10, lj20, xb, xm]; rfl, ⟨rfl, fun h => by cases h⟩⟩
  · have eS := storyAt_f K hz hm (by omega) stories (QS j)
    have eI := isStory_f K hz h (by omega)
    obtain ⟨k, rfl⟩ : ∃ k, K = k + 2 := ⟨K - 2, by omega⟩
    exact ⟨_, _, by simp (disch := omega) only [sp_W_said, sp_said, eS, J_lit, J_add, J_sub, J_mul, J_neg, J_nat, J_inb, J_div, ↓reduceIte, Int.toNat_natCast, Option.bind_some, J_le_t, J_le_f, J_lt_t, J_lt_f, J_eq_t, J_eq_f, L_lit, L_add, L_sub, L_mul, L_div, JL, LJ, Int.reduceToNat, Int.toNat_zero, Int.toNat_one, xb, xm, within_t, within_f, nb_t, nb_f, ni_t, ni_f, in_t, in_f, less_, bad_0, bad_1, not_true_eq_false, not_false_eq_true, L_lt_t, L_lt_f, L_eq_t, L_eq_f, lg_gt, lg_eq, lg_lt]; rfl, by simp only [sp_M_said, eI, f_M_said, lbad1 (k + 2) (by omega), Option.bind_some, ↓reduceIte, lt10, lt20, lt00, lj00, lj10, lj20, xb, xm]; rfl, ⟨rfl, fun h => by cases h⟩⟩
set_option maxHeartbeats 2000000 in
theorem ch_pos : ∀ n k, k ≤ n → 0 < ch n k
  | n, 0, _ => by rw [ch_0]; omega
  | 0, k + 1, h => by omega
  | n + 1, k + 1, h => by
    have := ch_pos n k (by omega)
    rw [ch]; omega
set_option maxHeartbeats 2000000 in
theorem PF_zero {t : Nat} (ht : 1 ≤ t ∧ t ≤ 15) (n k : Nat) : PF t n k = 0 ↔ n < k := by
  constructor
  · intro h
    rcases Nat.lt_or_ge n k with h1 | h1
    · exact h1
    · have a := ch_pos n k h1
      have b : 0 < t ^ k := Nat.pow_pos (by omega)
      have c : 0 < (16 - t) ^ (n - k) := Nat.pow_pos (by omega)
      have := Nat.mul_pos (Nat.mul_pos a b) c
      unfold PF at h
      omega
  · intro h; rw [PF, ch_gt n k h, Nat.zero_mul, Nat.zero_mul]
set_option maxHeartbeats 2000000 in
theorem jP_zero {t : Nat} (ht : 1 ≤ t ∧ t ≤ 15) (P : Nat → Nat) (F : Nat → Nat → Nat) : ∀ n, jP t (-1) P F n = 0 ↔ ∃ i, i < n ∧ P i < F i 3
  | 0 => by
    constructor
    · intro h; simp [jP] at h
    · rintro ⟨i, h, _⟩; omega
  | n + 1 => by
    have hs : selB (-1) n = true := by simp [selB]
    rw [jP, if_pos hs, Nat.mul_eq_zero, jP_zero ht P F n, PF_zero ht]
    constructor
    · rintro (⟨i, h1, h2⟩ | h)
      · exact ⟨i, by omega, h2⟩
      · exact ⟨n, by omega, h⟩
    · rintro ⟨i, h1, h2⟩
      by_cases hin : i = n
      · subst hin; exact Or.inr h2
      · exact Or.inl ⟨i, by omega, h2⟩
set_option maxHeartbeats 2000000 in
theorem p_isLikely (K : Nat) (hK : 1000000 ≤ K) {l : LA} (hl : LOK l) {c1 c2 c3 c4 : Nat → Int32} {c5 c6 c7 : Int32} (R : LC l c1 c2 c3 c4 c5 c6 c7) {n : Nat} {E : Nat → Nat → Nat} (hE : SOK n E) {p1 p2 p3 p4 : Nat → Int32} {pn : Int32} (hC : SC n E p1 p2 p3 p4 pn) {fn : Nat} {F : Nat → Nat → Nat} {f1 f2 f3 f4 : Nat → Int32} {fs : Int32} {mf : Nat → Nat → Int32} {mfn : Int32} (hF : RFinds f1 f2 f3 f4 fs mf mfn fn F) (pl ly wo : Nat → Int32) (a b c : Int32) : ∃ pl' ly' wo' a' b' c', sp_isLikely K pl f1 f2 f3 f4 fs ly wo a b c c1 c2 c3 c4 c5 c6 p1 p2 p3 p4 pn = some (J (if NP l n E (-1) fn F = 0 then 0 else 1), pl', ly', wo', a', b', c') := by
  obtain ⟨hfn, rfl, rfl, hv, h1, h2, h3, h4, hg⟩ := hF
  obtain ⟨⟨pl1, ly1, wo1, a1, b1, d1⟩, x1, x2⟩ := p_fillPiles K hK hl R hE hC hfn hv h1 h2 h3 pl ly wo a b c
  obtain ⟨-, -, -, -, -, -, ht1, ht2⟩ := hl
  have hz := jP_zero ⟨ht1, ht2⟩ (plT l (TA l n E) F) F fn
  have hP : ∀ i, plT l (TA l n E) F i ≤ 60 := plT_le l (TA l n E) F
  unfold NP
  generalize jP (lta l) (-1) (plT l (TA l n E) F) F fn = N at *
  generalize plT l (TA l n E) F = P at *
  clear R hE hC
  simp only at x2
  have key : ∀ r i, i + r = fn → (∀ q, q < i → F q 3 ≤ P q) → ∀ m, r + 1 ≤ m → f_isLikely K f4 (J fn) m 0 (J i, pl1, ly1, wo1, a1, b1, d1) = some (J (if N = 0 then 0 else 1), pl1, ly1, wo1, a1, b1, d1) := by
    intro r
    induction r with
    | zero =>
      intro i hi hb m hm
      obtain ⟨m, rfl⟩ : ∃ k, m = k + 1 := ⟨m - 1, by omega⟩
      have hN : ¬ N = 0 := fun h0 => by
        obtain ⟨q, q1, q2⟩ := hz.mp h0
        have := hb q (by omega)
        omega
      rw [if_neg hN]
      clear hz hb
      simp (disch := omega) only [f_isLikely, J_lit, J_add, J_sub, J_mul, J_neg, J_nat, J_inb, J_div, ↓reduceIte, Int.toNat_natCast, Option.bind_some, J_le_t, J_le_f, J_lt_t, J_lt_f, J_eq_t, J_eq_f, L_lit, L_add, L_sub, L_mul, L_div, JL, LJ, Int.reduceToNat, Int.toNat_zero, Int.toNat_one, xb, xm, within_t, within_f, nb_t, nb_f, ni_t, ni_f, in_t, in_f, less_, bad_0, bad_1, not_true_eq_false, not_false_eq_true, L_lt_t, L_lt_f, L_eq_t, L_eq_f, lg_gt, lg_eq, lg_lt]
    | succ r ih =>
      intro i hi hb m hm
      obtain ⟨m, rfl⟩ : ∃ k, m = k + 1 := ⟨m - 1, by omega⟩
      have q4 := h4 i (by omega)
      have qp := x2 i (by omega)
      have w := (hv i (by omega)).2.2.2
      have hPi := hP i
      by_cases hc : F i 3 ≤ P i
      · rw [← ih (i + 1) (by omega) (fun q hq => by
          by_cases hqi : q = i
          · subst hqi; exact hc
          · exact hb q (by omega)) m (by omega)]
        clear hz hb ih
        simp (disch := omega) only [f_isLikely, q4, qp, cast1, J_lit, J_add, J_sub, J_mul, J_neg, J_nat, J_inb, J_div, ↓reduceIte, Int.toNat_natCast, Option.bind_some, J_le_t, J_le_f, J_lt_t, J_lt_f, J_eq_t, J_eq_f, L_lit, L_add, L_sub, L_mul, L_div, JL, LJ, Int.reduceToNat, Int.toNat_zero, Int.toNat_one, xb, xm, within_t, within_f, nb_t, nb_f, ni_t, ni_f, in_t, in_f, less_, bad_0, bad_1, not_true_eq_false, not_false_eq_true, L_lt_t, L_lt_f, L_eq_t, L_eq_f, lg_gt, lg_eq, lg_lt]
      · have hN : N = 0 := hz.mpr ⟨i, by omega, by omega⟩
        rw [if_pos hN]
        clear hz hb ih
        simp (disch := omega) only [f_isLikely, q4, qp, cast1, J_lit, J_add, J_sub, J_mul, J_neg, J_nat, J_inb, J_div, ↓reduceIte, Int.toNat_natCast, Option.bind_some, J_le_t, J_le_f, J_lt_t, J_lt_f, J_eq_t, J_eq_f, L_lit, L_add, L_sub, L_mul, L_div, JL, LJ, Int.reduceToNat, Int.toNat_zero, Int.toNat_one, xb, xm, within_t, within_f, nb_t, nb_f, ni_t, ni_f, in_t, in_f, less_, bad_0, bad_1, not_true_eq_false, not_false_eq_true, L_lt_t, L_lt_f, L_eq_t, L_eq_f, lg_gt, lg_eq, lg_lt]
  refine ⟨pl1, ly1, wo1, a1, b1, d1, ?_⟩
  rw [← key fn 0 (by omega) (fun q hq => by omega) K (by omega)]
  clear hz key
  simp (disch := omega) only [sp_isLikely, x1, J_lit, J_add, J_sub, J_mul, J_neg, J_nat, J_inb, J_div, ↓reduceIte, Int.toNat_natCast, Option.bind_some, J_le_t, J_le_f, J_lt_t, J_lt_f, J_eq_t, J_eq_f, L_lit, L_add, L_sub, L_mul, L_div, JL, LJ, Int.reduceToNat, Int.toNat_zero, Int.toNat_one, xb, xm, within_t, within_f, nb_t, nb_f, ni_t, ni_f, in_t, in_f, less_, bad_0, bad_1, not_true_eq_false, not_false_eq_true, L_lt_t, L_lt_f, L_eq_t, L_eq_f, lg_gt, lg_eq, lg_lt]
  rfl
set_option maxHeartbeats 2000000 in
theorem m_left (K : Nat) (hK : 1000000 ≤ K) {l : LA} (hl : LOK l) {nr : Nat → Nat} {m1 : Nat → Nat → Int32} {m2 m3 m4 : Nat → Int32} {m5 m6 m7 : Int32} (Q : LM l nr m1 m2 m3 m4 m5 m6 m7) {j n : Nat} {E : Nat → Nat → Nat} (hE : SOK n E) {many : Nat → Int32} {ev : Nat → Nat → Int32} (hS : SM j n E many ev) {e k : Nat} (he : e < 100) {E' : Nat → Nat → Nat} (hC : CI n n k E E' (fun i => decide (i ≠ e))) (et eh se th : Int32) {fn : Nat} {F : Nat → Nat → Nat} {f1 f2 f3 f4 : Nat → Int32} {fs : Int32} {mf : Nat → Nat → Int32} {mfn : Int32} (hF : RFinds f1 f2 f3 f4 fs mf mfn fn F) {q : Int} (hq : -1 ≤ q ∧ q < 1000) {b : Nat} (hb : b < 3) (ly : Nat → Nat → Int32) (wo : Nat → Int32) (big : Nat → Nat → Int32) (sc : Int32) : ∃ ly' wo' big', sp_M_numbers K (J b) (J j) (J q) m5 m6 m7 m1 m2 m3 m4 many ev mfn mf ly wo (J e) (J (-1)) et eh (J (-1)) se th big sc = some (ly', wo', big', J (NS l k E' q fn F : Nat)) ∧ BR b (NP l k E' q fn F) big' ∧ ∀ r, r ≠ b → big' r = big r := by
  have hn := hS.2.1
  have h := p_M_numbers K hK hl Q hE hS (cm := fun i => decide (i ≠ e)) (lo := J e) (fi := J (-1)) (se := se) (th := th) (fun i hi => comes_left K (by omega) i _ e (by omega) he ev se th) (x := none) (ef := J (-1)) (et := et) (eh := eh) rfl hF hq hb ly wo big sc
  rw [plT_cong l (T' := TA l k E') (way_run l hC) F] at h
  exact h
set_option maxHeartbeats 2000000 in
theorem plain_ (K : Nat) (a b c : Int32) : sp_M_plain K a b c = some (J (-1), J (-1), J (-1)) := rfl
set_option maxHeartbeats 2000000 in
theorem pc_counts (K : Nat) (hK : 1000000 ≤ K) (p1 p2 thr : Int32) {l : LA} {nr : Nat → Nat} {c1 c2 c3 c4 : Nat → Int32} {c5 c6 c7 : Int32} {m1 : Nat → Nat → Int32} {m2 m3 m4 : Nat → Int32} {m5 m6 m7 : Int32} (hL : HL l nr c1 c2 c3 c4 c5 c6 c7 m1 m2 m3 m4 m5 m6 m7) {m : Nat} {EN : Nat → Nat} {EE : Nat → Nat → Nat → Nat} {stories : Nat → Option Nat} {QS : Nat → Nat} {k1 k2 k3 k4 : Nat → Nat → Int32} {kn : Nat → Int32} {many : Nat → Int32} {ev : Nat → Nat → Int32} (hS : HS m EN EE stories QS k1 k2 k3 k4 kn many ev) {fn : Nat} {F : Nat → Nat → Nat} {f1 f2 f3 f4 : Nat → Int32} {fs : Int32} {mf : Nat → Nat → Int32} {mfn : Int32} (hF : RFinds f1 f2 f3 f4 fs mf mfn fn F) (j : Nat) (hj : SEL p1 m j) (qv ql a1 a2 : Nat) (v1 v2 v3 v4 : Nat → Int32) (vn : Int32) (pl ly wo : Nat → Int32) (x1 x2 x3 : Int32) (s1 : Int32) (l1 : Nat → Int32) (z1 s2 : Int32) (l2 : Nat → Int32) (z2 : Int32) (ll : Nat → Int32) (lz : Int32) (rl : Nat → Int32) (rz : Int32) (tl : Nat → Int32) (tz : Int32) (mly : Nat → Nat → Int32) (mwo : Nat → Int32) (et eh se th : Int32) (big : Nat → Nat → Int32) (sc : Int32) (o : Nat → Int64) : ∃ oc om, sp_W_counts K p1 p2 qv ql stories (QS j) pl (J m) (k1 j) (k2 j) (k3 j) (k4 j) (kn j) v1 v2 v3 v4 vn f1 f2 f3 f4 fs ly wo a1 a2 x1 x2 x3 s1 l1 z1 s2 l2 z2 ll lz rl rz tl tz c1 c2 c3 c4 c5 c6 c7 o = some oc ∧ sp_M_counts K p1 p2 thr m5 m6 m7 m1 m2 m3 m4 (J m) many ev mfn mf mly mwo (J (-1)) (J (-1)) et eh (J (-1)) se th big sc = some om ∧ AA oc.1 oc.2.2.2.2.2.2.2.2.2.2.2.2.2.2.2.2.2.2.2.2.2.2.2.2.2.2 om.1 om.2.1 ∧ om.2.2.2.2.1 = J (-1) ∧ om.2.2.2.2.2.1 = J (-1) ∧ om.2.2.2.2.2.2.1 = J (-1) := by
  obtain ⟨hm, hq, hst⟩ := hS
  obtain ⟨z, rfl, hz⟩ := ex_J p1
  obtain ⟨y, rfl, hy⟩ := ex_J p2
  by_cases h : 0 ≤ z ∧ z < m
  · obtain ⟨z, rfl⟩ : ∃ x : Nat, z = x := ⟨z.toNat, by omega⟩
    obtain rfl : j = z := hj z (by omega) rfl
    have hjm : j < m := by omega
    have eS := storyAt_t K hjm hm (hq j (by omega))
    have eI := isStory_t K (a := j) (n := m) (by omega) (by omega)
    obtain ⟨y1, y2, y3⟩ := hst j hjm
    have hn20 := y3.2.1
    have eM := y3.2.2.1
    have eKn := y2.1
    by_cases h' : 0 ≤ y ∧ y < EN j
    · obtain ⟨y, rfl⟩ : ∃ x : Nat, y = x := ⟨y.toNat, by omega⟩
      obtain ⟨kk, E', t1, t2, t3, t4, e1, e2, e3⟩ := p_copyWithout K (by omega) y1 y2 (e := y) (by omega) v1 v2 v3 v4 vn
      have hE' := CI_sok y1.1 e3
      obtain ⟨u, e4⟩ := pu_c_worthOf K hK hL.1 hL.2.1 y1 y2 hE' e2 hF (q := -1) (by omega) pl ly wo x1 x2 x3 s1 l1 z1 s2 l2 z2 ll lz rl rz tl tz
      obtain ⟨g1, g2, g3, e5, e6, e7⟩ := m_numbers K hK hL.1 hL.2.2 y1 y3 et eh se th hF (q := -1) (by omega) (b := 0) (by omega) mly mwo big sc
      obtain ⟨g4, g5, g6, e8, e9, e10⟩ := m_left K hK hL.1 hL.2.2 y1 y3 (by omega) e3 et eh se th hF (q := -1) (by omega) (b := 1) (by omega) g1 g2 g3 (J (NS l (EN j) (EE j) (-1) fn F : Nat))
      have n1 := NP_ch hL.1 (EN j) (EE j) (-1) hF.1 F
      have n2 := NP_ch hL.1 kk E' (-1) hF.1 F
      have e6' : BR 0 (NP l (EN j) (EE j) (-1) fn F) g6 := BR_congr e6 (fun i _ => by rw [e10 0 (by omega)])
      obtain ⟨G, w1, w2, w3, w4⟩ := p_M_levels K (by omega) e6' e9 n1 n2
      obtain ⟨G', w5⟩ := p_M_worthNow K (by omega) w2 w3 w4
      have hr := WT_le (NP l (EN j) (EE j) (-1) fn F * 16 ^ NS l kk E' (-1) fn F) (NP l kk E' (-1) fn F * 16 ^ NS l (EN j) (EE j) (-1) fn F)
      rw [Int.natCast_zero] at e5
      rw [show J (1 : Nat) = J 1 from rfl] at e8
      have eIn := in_t K (a := y) (b := 0) (c := ((EN j : Nat) : Int) - 1) (by omega) (by omega) (by omega) (by omega)
      obtain ⟨k, rfl⟩ : ∃ k, K = k + 2 := ⟨K - 2, by omega⟩
      clear e2 e3 hE' e6 e7 e9 e10 n1 n2 e6' w2 w3 w4 y1 y3 hst hF hL y2
      rw [eKn] at e1 e4
      refine ⟨_, _, by simp (disch := omega) only [sp_W_counts, sp_counts, eS, eKn, e1, e4, J_lit, J_add, J_sub, J_mul, J_neg, J_nat, J_inb, J_div, ↓reduceIte, Int.toNat_natCast, Option.bind_some, J_le_t, J_le_f, J_lt_t, J_lt_f, J_eq_t, J_eq_f, L_lit, L_add, L_sub, L_mul, L_div, JL, LJ, Int.reduceToNat, Int.toNat_zero, Int.toNat_one, xb, xm, within_t, within_f, nb_t, nb_f, ni_t, ni_f, in_t, in_f, less_, bad_0, bad_1, not_true_eq_false, not_false_eq_true, L_lt_t, L_lt_f, L_eq_t, L_eq_f, lg_gt, lg_eq, lg_lt]; rfl, by simp (disch := omega) only [sp_M_counts, f_M_counts, eI, eM, eIn, e5, e8, plain_, w1, w5, J_lit, J_add, J_sub, J_mul, J_neg, J_nat, J_inb, J_div, ↓reduceIte, Int.toNat_natCast, Option.bind_some, J_le_t, J_le_f, J_lt_t, J_lt_f, J_eq_t, J_eq_f, L_lit, L_add, L_sub, L_mul, L_div, JL, LJ, Int.reduceToNat, Int.toNat_zero, Int.toNat_one, xb, xm, within_t, within_f, nb_t, nb_f, ni_t, ni_f, in_t, in_f, less_, bad_0, bad_1, not_true_eq_false, not_false_eq_true, L_lt_t, L_lt_f, L_eq_t, L_eq_f, lg_gt, lg_eq, lg_lt]; rfl, (by first | exact AA_0 _ _ | exact AA_L _ (by omega)), rfl, rfl, rfl⟩
    · have eN := ni_f K hy (b := (EN j : Nat)) (by omega) (by omega)
      have eIn := in_f K (a := y) (b := 0) (c := ((EN j : Nat) : Int) - 1) hy (by omega) (by omega) (by omega)
      obtain ⟨k, rfl⟩ : ∃ k, K = k + 2 := ⟨K - 2, by omega⟩
      clear y1 y2 y3 hst hF hL h'
      exact ⟨_, _, by simp (disch := omega) only [sp_W_counts, sp_counts, eS, eKn, eN, J_lit, J_add, J_sub, J_mul, J_neg, J_nat, J_inb, J_div, ↓reduceIte, Int.toNat_natCast, Option.bind_some, J_le_t, J_le_f, J_lt_t, J_lt_f, J_eq_t, J_eq_f, L_lit, L_add, L_sub, L_mul, L_div, JL, LJ, Int.reduceToNat, Int.toNat_zero, Int.toNat_one, xb, xm, within_t, within_f, nb_t, nb_f, ni_t, ni_f, in_t, in_f, less_, bad_0, bad_1, not_true_eq_false, not_false_eq_true, L_lt_t, L_lt_f, L_eq_t, L_eq_f, lg_gt, lg_eq, lg_lt]; rfl, by simp (disch := omega) only [sp_M_counts, f_M_counts, eI, eM, eIn, J_lit, J_add, J_sub, J_mul, J_neg, J_nat, J_inb, J_div, ↓reduceIte, Int.toNat_natCast, Option.bind_some, J_le_t, J_le_f, J_lt_t, J_lt_f, J_eq_t, J_eq_f, L_lit, L_add, L_sub, L_mul, L_div, JL, LJ, Int.reduceToNat, Int.toNat_zero, Int.toNat_one, xb, xm, within_t, within_f, nb_t, nb_f, ni_t, ni_f, in_t, in_f, less_, bad_0, bad_1, not_true_eq_false, not_false_eq_true, L_lt_t, L_lt_f, L_eq_t, L_eq_f, lg_gt, lg_eq, lg_lt]; rfl, (by exact AA_e _ _ (by omega)), rfl, rfl, rfl⟩
  · have eS := storyAt_f K hz hm (by omega) stories (QS j)
    have eI := isStory_f K hz h (by omega)
    obtain ⟨k, rfl⟩ : ∃ k, K = k + 2 := ⟨K - 2, by omega⟩
    exact ⟨_, _, by simp (disch := omega) only [sp_W_counts, sp_counts, eS, J_lit, J_add, J_sub, J_mul, J_neg, J_nat, J_inb, J_div, ↓reduceIte, Int.toNat_natCast, Option.bind_some, J_le_t, J_le_f, J_lt_t, J_lt_f, J_eq_t, J_eq_f, L_lit, L_add, L_sub, L_mul, L_div, JL, LJ, Int.reduceToNat, Int.toNat_zero, Int.toNat_one, xb, xm, within_t, within_f, nb_t, nb_f, ni_t, ni_f, in_t, in_f, less_, bad_0, bad_1, not_true_eq_false, not_false_eq_true, L_lt_t, L_lt_f, L_eq_t, L_eq_f, lg_gt, lg_eq, lg_lt]; rfl, by simp only [sp_M_counts, eI, f_M_counts, lbad1 (k + 2) (by omega), Option.bind_some, ↓reduceIte, lt10, lt20, lt00, lj00, lj10, lj20, xb, xm]; rfl, ⟨rfl, fun h => by cases h⟩, rfl, rfl, rfl⟩
