def ndv (B : Nat → Bool) (w : Int) : Nat → Nat → Nat → Int
  | 0, _, _ => -1
  | r + 1, i, c => if B i = true then (if (c : Int) = w then (i : Int) else ndv B w r (i + 1) (c + 1)) else ndv B w r (i + 1) c
set_option maxHeartbeats 2000000 in
theorem ndv_neg (B : Nat → Bool) {w : Int} (hw : w < 0) : ∀ r i c, ndv B w r i c = -1
  | 0, _, _ => rfl
  | r + 1, i, c => by
    rw [ndv, if_neg (show ¬ (c : Int) = w by omega), ndv_neg B hw r, ndv_neg B hw r]; split <;> rfl
set_option maxHeartbeats 2000000 in
theorem ndv_rng (B : Nat → Bool) (w : Int) : ∀ r i c, -1 ≤ ndv B w r i c ∧ ndv B w r i c < i + r
  | 0, _, _ => ⟨Int.le_refl _, by show (-1 : Int) < _; omega⟩
  | r + 1, i, c => by
    have h1 := ndv_rng B w r (i + 1) (c + 1)
    have h2 := ndv_rng B w r (i + 1) c
    rw [ndv]; split
    · split
      · omega
      · omega
    · omega
abbrev cmL (e : Nat) : Nat → Bool := fun i => decide (i ≠ e)
def nlB (l : LA) (n : Nat) (E : Nat → Nat → Nat) (fn : Nat) (F : Nat → Nat → Nat) (e : Nat) : Bool := decide (jP (lta l) (-1) (plT l (TM l n E (cmL e) none) F) F fn = 0)
set_option maxHeartbeats 2000000 in
theorem pc_needed (K : Nat) (hK : 1000000 ≤ K) (p1 p2 thr : Int32) {l : LA} {nr : Nat → Nat} {c1 c2 c3 c4 : Nat → Int32} {c5 c6 c7 : Int32} {m1 : Nat → Nat → Int32} {m2 m3 m4 : Nat → Int32} {m5 m6 m7 : Int32} (hL : HL l nr c1 c2 c3 c4 c5 c6 c7 m1 m2 m3 m4 m5 m6 m7) {m : Nat} {EN : Nat → Nat} {EE : Nat → Nat → Nat → Nat} {stories : Nat → Option Nat} {QS : Nat → Nat} {k1 k2 k3 k4 : Nat → Nat → Int32} {kn : Nat → Int32} {many : Nat → Int32} {ev : Nat → Nat → Int32} (hS : HS m EN EE stories QS k1 k2 k3 k4 kn many ev) {fn : Nat} {F : Nat → Nat → Nat} {f1 f2 f3 f4 : Nat → Int32} {fs : Int32} {mf : Nat → Nat → Int32} {mfn : Int32} (hF : RFinds f1 f2 f3 f4 fs mf mfn fn F) (j : Nat) (hj : SEL p1 m j) (qv ql a1 a2 : Nat) (v1 v2 v3 v4 : Nat → Int32) (vn : Int32) (pl ly wo : Nat → Int32) (x1 x2 x3 : Int32) (mly : Nat → Nat → Int32) (mwo : Nat → Int32) (et eh se th : Int32) (big : Nat → Nat → Int32) (sc : Int32) (o : Nat → Int64) : ∃ oc om, sp_W_needed K p1 p2 qv ql stories (QS j) pl (J m) (k1 j) (k2 j) (k3 j) (k4 j) (kn j) v1 v2 v3 v4 vn f1 f2 f3 f4 fs ly wo a1 a2 x1 x2 x3 c1 c2 c3 c4 c5 c6 o = some oc ∧ sp_M_needed K p1 p2 thr m5 m6 m7 m1 m2 m3 m4 (J m) many ev mfn mf mly mwo (J (-1)) (J (-1)) et eh (J (-1)) se th big sc = some om ∧ AA oc.1 oc.2.2.2.2.2.2.2.2.2.2.2.2.2.2 om.1 om.2.1 ∧ om.2.2.2.2.1 = J (-1) ∧ om.2.2.2.2.2.1 = J (-1) ∧ om.2.2.2.2.2.2.1 = J (-1) := by
  obtain ⟨hm, hq, hst⟩ := hS
  obtain ⟨z, rfl, hz⟩ := ex_J p1
  obtain ⟨y, rfl, hy⟩ := ex_J p2
  by_cases h : 0 ≤ z ∧ z < m
  · obtain ⟨z, rfl⟩ : ∃ x : Nat, z = x := ⟨z.toNat, by omega⟩
    obtain rfl : j = z := hj z (by omega) rfl
    have hjm : j < m := by omega
    have eS := storyAt_t K hjm hm (hq j (by omega))
    have eI := isStory_t K (a := j) (n := m) (by omega) (by omega)
    obtain ⟨y1, y2, y3⟩ := hst j hjm
    have hn20 := y3.2.1
    have eM := y3.2.2.1
    have eKn := y2.1
    have keyM : ∀ (r i c : Nat), i + r = EN j → c ≤ i → ∀ (ly : Nat → Nat → Int32) (wo : Nat → Int32) (G : Nat → Nat → Int32) (s : Int32) (q : Nat), 2 * r + 1 ≤ q → ∃ ly' wo' G' s', f_M_needed K m5 m6 m7 m1 m2 m3 m4 many ev mfn mf et eh se th q 1 (J j, J y, J 0, J c, J i, J 0, ly, wo, J (-1), J (-1), J (-1), G, s) = some (J (ndv (nlB l (EN j) (EE j) fn F) y r i c), J 0, ly', wo', J (-1), J (-1), J (-1), G', s') := by
      intro r
      induction r with
      | zero =>
        intro i c hi hc ly wo G s q hq'
        obtain ⟨q, rfl⟩ : ∃ k, q = k + 1 := ⟨q - 1, by omega⟩
        refine ⟨ly, wo, G, s, ?_⟩
        rw [ndv]
        clear hst hF hL y1 y2 y3
        simp (disch := omega) only [f_M_needed, eM, J_lit, J_add, J_sub, J_mul, J_neg, J_nat, J_inb, J_div, ↓reduceIte, Int.toNat_natCast, Option.bind_some, J_le_t, J_le_f, J_lt_t, J_lt_f, J_eq_t, J_eq_f, L_lit, L_add, L_sub, L_mul, L_div, JL, LJ, Int.reduceToNat, Int.toNat_zero, Int.toNat_one, xb, xm, within_t, within_f, nb_t, nb_f, ni_t, ni_f, in_t, in_f, less_, bad_0, bad_1, not_true_eq_false, not_false_eq_true, L_lt_t, L_lt_f, L_eq_t, L_eq_f, lg_gt, lg_eq, lg_lt]
      | succ r ih =>
        intro i c hi hc ly wo G s q hq'
        obtain ⟨q, rfl⟩ : ∃ k, q = k + 2 := ⟨q - 2, by omega⟩
        have hM := p_M_numbers K hK hL.1 hL.2.2 y1 y3 (cm := cmL i) (lo := J i) (fi := J (-1)) (se := se) (th := th) (fun a ha => comes_left K (by omega) a _ i (by omega) (by omega) ev se th) (x := none) (ef := J (-1)) (et := et) (eh := eh) rfl hF (q := -1) (by omega) (b := 0) (by omega) ly wo G s
        obtain ⟨ly1, wo1, G1, g1, g2, g3⟩ := hM
        have g4 := p_M_isNothing K (by omega) (b := 0) (by omega) g2
        rw [Int.natCast_zero] at g1 g4
        rw [ndv]
        by_cases hB : nlB l (EN j) (EE j) fn F i = true
        · rw [if_pos hB]
          have hB' : jP (lta l) (-1) (plT l (TM l (EN j) (EE j) (cmL i) none) F) F fn = 0 := of_decide_eq_true hB
          rw [if_pos hB'] at g4
          by_cases hcw : (c : Int) = y
          · rw [if_pos hcw]
            clear hst hF hL y1 y2 y3 ih g2 g3 hB hB'
            exact ⟨ly1, wo1, G1, _, by simp (disch := omega) only [f_M_needed, eM, g1, plain_, g4, J_lit, J_add, J_sub, J_mul, J_neg, J_nat, J_inb, J_div, ↓reduceIte, Int.toNat_natCast, Option.bind_some, J_le_t, J_le_f, J_lt_t, J_lt_f, J_eq_t, J_eq_f, L_lit, L_add, L_sub, L_mul, L_div, JL, LJ, Int.reduceToNat, Int.toNat_zero, Int.toNat_one, xb, xm, within_t, within_f, nb_t, nb_f, ni_t, ni_f, in_t, in_f, less_, bad_0, bad_1, not_true_eq_false, not_false_eq_true, L_lt_t, L_lt_f, L_eq_t, L_eq_f, lg_gt, lg_eq, lg_lt]; rfl⟩
          · rw [if_neg hcw]
            obtain ⟨a1, a2, a3, a4, a5⟩ := ih (i + 1) (c + 1) (by omega) (by omega) ly1 wo1 G1 (J (jS (-1) (plT l (TM l (EN j) (EE j) (cmL i) none) F) fn : Nat)) q (by omega)
            refine ⟨a1, a2, a3, a4, ?_⟩
            rw [← a5]
            clear hst hF hL y1 y2 y3 ih g2 g3 hB hB' a5
            simp (disch := omega) only [f_M_needed, eM, g1, plain_, g4, cast1, J_lit, J_add, J_sub, J_mul, J_neg, J_nat, J_inb, J_div, ↓reduceIte, Int.toNat_natCast, Option.bind_some, J_le_t, J_le_f, J_lt_t, J_lt_f, J_eq_t, J_eq_f, L_lit, L_add, L_sub, L_mul, L_div, JL, LJ, Int.reduceToNat, Int.toNat_zero, Int.toNat_one, xb, xm, within_t, within_f, nb_t, nb_f, ni_t, ni_f, in_t, in_f, less_, bad_0, bad_1, not_true_eq_false, not_false_eq_true, L_lt_t, L_lt_f, L_eq_t, L_eq_f, lg_gt, lg_eq, lg_lt]
        · rw [if_neg hB]
          have hB' : ¬ jP (lta l) (-1) (plT l (TM l (EN j) (EE j) (cmL i) none) F) F fn = 0 := fun e => hB (decide_eq_true e)
          rw [if_neg hB'] at g4
          obtain ⟨a1, a2, a3, a4, a5⟩ := ih (i + 1) c (by omega) (by omega) ly1 wo1 G1 (J (jS (-1) (plT l (TM l (EN j) (EE j) (cmL i) none) F) fn : Nat)) q (by omega)
          refine ⟨a1, a2, a3, a4, ?_⟩
          rw [← a5]
          clear hst hF hL y1 y2 y3 ih g2 g3 hB hB' a5
          simp (disch := omega) only [f_M_needed, eM, g1, plain_, g4, cast1, J_lit, J_add, J_sub, J_mul, J_neg, J_nat, J_inb, J_div, ↓reduceIte, Int.toNat_natCast, Option.bind_some, J_le_t, J_le_f, J_lt_t, J_lt_f, J_eq_t, J_eq_f, L_lit, L_add, L_sub, L_mul, L_div, JL, LJ, Int.reduceToNat, Int.toNat_zero, Int.toNat_one, xb, xm, within_t, within_f, nb_t, nb_f, ni_t, ni_f, in_t, in_f, less_, bad_0, bad_1, not_true_eq_false, not_false_eq_true, L_lt_t, L_lt_f, L_eq_t, L_eq_f, lg_gt, lg_eq, lg_lt]
    have keyC : ∀ (r i c : Nat), i + r = EN j → c ≤ i → ∀ (pl u1 u2 u3 u4 : Nat → Int32) (un : Int32) (ly wo : Nat → Int32) (b1 b2 : Nat) (x1 x2 x3 : Int32) (q : Nat), 2 * r + 1 ≤ q → ∃ o, f_needed K qv ql (k1 j) (k2 j) (k3 j) (k4 j) (kn j) f1 f2 f3 f4 fs c1 c2 c3 c4 c5 c6 q 0 (J y, J c, J i, pl, u1, u2, u3, u4, un, ly, wo, b1, b2, x1, x2, x3) = some (.inr (J (ndv (nlB l (EN j) (EE j) fn F) y r i c), o)) := by
      intro r
      induction r with
      | zero =>
        intro i c hi hc pl u1 u2 u3 u4 un ly wo b1 b2 x1 x2 x3 q hq'
        obtain ⟨q, rfl⟩ : ∃ k, q = k + 1 := ⟨q - 1, by omega⟩
        rw [ndv, eKn]
        clear hst hF hL y1 y2 y3
        exact ⟨_, by simp (disch := omega) only [f_needed, J_lit, J_add, J_sub, J_mul, J_neg, J_nat, J_inb, J_div, ↓reduceIte, Int.toNat_natCast, Option.bind_some, J_le_t, J_le_f, J_lt_t, J_lt_f, J_eq_t, J_eq_f, L_lit, L_add, L_sub, L_mul, L_div, JL, LJ, Int.reduceToNat, Int.toNat_zero, Int.toNat_one, xb, xm, within_t, within_f, nb_t, nb_f, ni_t, ni_f, in_t, in_f, less_, bad_0, bad_1, not_true_eq_false, not_false_eq_true, L_lt_t, L_lt_f, L_eq_t, L_eq_f, lg_gt, lg_eq, lg_lt]; rfl⟩
      | succ r ih =>
        intro i c hi hc pl u1 u2 u3 u4 un ly wo b1 b2 x1 x2 x3 q hq'
        obtain ⟨q, rfl⟩ : ∃ k, q = k + 2 := ⟨q - 2, by omega⟩
        obtain ⟨kk, E', t1, t2, t3, t4, e1, e2, e3⟩ := p_copyWithout K (by omega) y1 y2 (e := i) (by omega) u1 u2 u3 u4 un
        have hE' := CI_sok y1.1 e3
        obtain ⟨w1, w2, w3, w4, w5, w6, e4⟩ := p_isLikely K hK hL.1 hL.2.1 hE' e2 hF pl ly wo x1 x2 x3
        have hNP : NP l kk E' (-1) fn F = jP (lta l) (-1) (plT l (TM l (EN j) (EE j) (cmL i) none) F) F fn := by
          show jP _ _ _ _ _ = _
          rw [plT_cong l (T' := TA l kk E') (way_run l e3) F]
        rw [hNP] at e4
        rw [eKn] at e1
        have hi20 : i < EN j := by omega
        rw [ndv, eKn]
        by_cases hB : nlB l (EN j) (EE j) fn F i = true
        · rw [if_pos hB]
          have hB' : jP (lta l) (-1) (plT l (TM l (EN j) (EE j) (cmL i) none) F) F fn = 0 := of_decide_eq_true hB
          rw [if_pos hB'] at e4
          by_cases hcw : (c : Int) = y
          · rw [if_pos hcw]
            clear hst hF hL y1 y2 y3 ih e2 e3 hE' hB hB' hNP keyM
            exact ⟨_, by simp (disch := omega) only [f_needed, e1, e4, J_lit, J_add, J_sub, J_mul, J_neg, J_nat, J_inb, J_div, ↓reduceIte, Int.toNat_natCast, Option.bind_some, J_le_t, J_le_f, J_lt_t, J_lt_f, J_eq_t, J_eq_f, L_lit, L_add, L_sub, L_mul, L_div, JL, LJ, Int.reduceToNat, Int.toNat_zero, Int.toNat_one, xb, xm, within_t, within_f, nb_t, nb_f, ni_t, ni_f, in_t, in_f, less_, bad_0, bad_1, not_true_eq_false, not_false_eq_true, L_lt_t, L_lt_f, L_eq_t, L_eq_f, lg_gt, lg_eq, lg_lt]; rfl⟩
          · rw [if_neg hcw]
            obtain ⟨oo, a5⟩ := ih (i + 1) (c + 1) (by omega) (by omega) w1 t1 t2 t3 t4 (J kk) w2 w3 ql qv w4 w5 w6 q (by omega)
            refine ⟨oo, ?_⟩
            rw [← a5]
            clear hst hF hL y1 y2 y3 ih e2 e3 hE' hB hB' hNP keyM a5
            simp (disch := omega) only [f_needed, e1, e4, cast1, eKn, J_lit, J_add, J_sub, J_mul, J_neg, J_nat, J_inb, J_div, ↓reduceIte, Int.toNat_natCast, Option.bind_some, J_le_t, J_le_f, J_lt_t, J_lt_f, J_eq_t, J_eq_f, L_lit, L_add, L_sub, L_mul, L_div, JL, LJ, Int.reduceToNat, Int.toNat_zero, Int.toNat_one, xb, xm, within_t, within_f, nb_t, nb_f, ni_t, ni_f, in_t, in_f, less_, bad_0, bad_1, not_true_eq_false, not_false_eq_true, L_lt_t, L_lt_f, L_eq_t, L_eq_f, lg_gt, lg_eq, lg_lt]
        · rw [if_neg hB]
          have hB' : ¬ jP (lta l) (-1) (plT l (TM l (EN j) (EE j) (cmL i) none) F) F fn = 0 := fun e => hB (decide_eq_true e)
          rw [if_neg hB'] at e4
          obtain ⟨oo, a5⟩ := ih (i + 1) c (by omega) (by omega) w1 t1 t2 t3 t4 (J kk) w2 w3 ql qv w4 w5 w6 q (by omega)
          refine ⟨oo, ?_⟩
          rw [← a5]
          clear hst hF hL y1 y2 y3 ih e2 e3 hE' hB hB' hNP keyM a5
          simp (disch := omega) only [f_needed, e1, e4, cast1, eKn, J_lit, J_add, J_sub, J_mul, J_neg, J_nat, J_inb, J_div, ↓reduceIte, Int.toNat_natCast, Option.bind_some, J_le_t, J_le_f, J_lt_t, J_lt_f, J_eq_t, J_eq_f, L_lit, L_add, L_sub, L_mul, L_div, JL, LJ, Int.reduceToNat, Int.toNat_zero, Int.toNat_one, xb, xm, within_t, within_f, nb_t, nb_f, ni_t, ni_f, in_t, in_f, less_, bad_0, bad_1, not_true_eq_false, not_false_eq_true, L_lt_t, L_lt_f, L_eq_t, L_eq_f, lg_gt, lg_eq, lg_lt]
    obtain ⟨g1, g2, g3, e5, e6, e7⟩ := m_numbers K hK hL.1 hL.2.2 y1 y3 et eh se th hF (q := -1) (by omega) (b := 0) (by omega) mly mwo big sc
    have g4 := p_M_isNothing K (by omega) (b := 0) (by omega) e6
    rw [Int.natCast_zero] at e5 g4
    obtain ⟨w1, w2, w3, w4, w5, w6, e4⟩ := p_isLikely K hK hL.1 hL.2.1 y1 y2 hF pl ly wo x1 x2 x3
    have hr := ndv_rng (nlB l (EN j) (EE j) fn F) y (EN j) 0 0
    by_cases hN : NP l (EN j) (EE j) (-1) fn F = 0
    · rw [if_pos hN] at g4 e4
      obtain ⟨k, rfl⟩ : ∃ k, K = k + 1 := ⟨K - 1, by omega⟩
      clear keyM keyC e6 e7 y1 y2 y3 hst hF hL
      by_cases hy0 : y < 0
      · refine ⟨_, _, by simp (disch := omega) only [sp_W_needed, sp_needed, eS, J_lit, J_add, J_sub, J_mul, J_neg, J_nat, J_inb, J_div, ↓reduceIte, Int.toNat_natCast, Option.bind_some, J_le_t, J_le_f, J_lt_t, J_lt_f, J_eq_t, J_eq_f, L_lit, L_add, L_sub, L_mul, L_div, JL, LJ, Int.reduceToNat, Int.toNat_zero, Int.toNat_one, xb, xm, within_t, within_f, nb_t, nb_f, ni_t, ni_f, in_t, in_f, less_, bad_0, bad_1, not_true_eq_false, not_false_eq_true, L_lt_t, L_lt_f, L_eq_t, L_eq_f, lg_gt, lg_eq, lg_lt]; rfl, by simp (disch := omega) only [sp_M_needed, f_M_needed, eI, e5, g4, J_lit, J_add, J_sub, J_mul, J_neg, J_nat, J_inb, J_div, ↓reduceIte, Int.toNat_natCast, Option.bind_some, J_le_t, J_le_f, J_lt_t, J_lt_f, J_eq_t, J_eq_f, L_lit, L_add, L_sub, L_mul, L_div, JL, LJ, Int.reduceToNat, Int.toNat_zero, Int.toNat_one, xb, xm, within_t, within_f, nb_t, nb_f, ni_t, ni_f, in_t, in_f, less_, bad_0, bad_1, not_true_eq_false, not_false_eq_true, L_lt_t, L_lt_f, L_eq_t, L_eq_f, lg_gt, lg_eq, lg_lt]; rfl, (by first | exact AA_0 _ _ | exact AA_L _ (by omega)), rfl, rfl, rfl⟩
      · refine ⟨_, _, by simp (disch := omega) only [sp_W_needed, sp_needed, eS, e4, J_lit, J_add, J_sub, J_mul, J_neg, J_nat, J_inb, J_div, ↓reduceIte, Int.toNat_natCast, Option.bind_some, J_le_t, J_le_f, J_lt_t, J_lt_f, J_eq_t, J_eq_f, L_lit, L_add, L_sub, L_mul, L_div, JL, LJ, Int.reduceToNat, Int.toNat_zero, Int.toNat_one, xb, xm, within_t, within_f, nb_t, nb_f, ni_t, ni_f, in_t, in_f, less_, bad_0, bad_1, not_true_eq_false, not_false_eq_true, L_lt_t, L_lt_f, L_eq_t, L_eq_f, lg_gt, lg_eq, lg_lt]; rfl, by simp (disch := omega) only [sp_M_needed, f_M_needed, eI, e5, g4, J_lit, J_add, J_sub, J_mul, J_neg, J_nat, J_inb, J_div, ↓reduceIte, Int.toNat_natCast, Option.bind_some, J_le_t, J_le_f, J_lt_t, J_lt_f, J_eq_t, J_eq_f, L_lit, L_add, L_sub, L_mul, L_div, JL, LJ, Int.reduceToNat, Int.toNat_zero, Int.toNat_one, xb, xm, within_t, within_f, nb_t, nb_f, ni_t, ni_f, in_t, in_f, less_, bad_0, bad_1, not_true_eq_false, not_false_eq_true, L_lt_t, L_lt_f, L_eq_t, L_eq_f, lg_gt, lg_eq, lg_lt]; rfl, (by first | exact AA_0 _ _ | exact AA_L _ (by omega)), rfl, rfl, rfl⟩
    · rw [if_neg hN] at g4 e4
      obtain ⟨k, rfl⟩ : ∃ k, K = k + 1 := ⟨K - 1, by omega⟩
      obtain ⟨a5, a6, a7, a8, a9⟩ := keyM (EN j) 0 0 (by omega) (by omega) g1 g2 g3 (J (NS l (EN j) (EE j) (-1) fn F : Nat)) k (by omega)
      have eR : sp_M_needed (k + 1) (J j) (J y) thr m5 m6 m7 m1 m2 m3 m4 (J m) many ev mfn mf mly mwo (J (-1)) (J (-1)) et eh (J (-1)) se th big sc = some (J (ndv (nlB l (EN j) (EE j) fn F) y (EN j) 0 0), J 0, a5, a6, J (-1), J (-1), J (-1), a7, a8) := by
        rw [← a9]
        clear keyM keyC e6 e7 y1 y2 y3 hst hF hL a9
        simp (disch := omega) only [sp_M_needed, eI, J_lit, J_add, J_sub, J_mul, J_neg, J_nat, J_inb, J_div, ↓reduceIte, Int.toNat_natCast, Option.bind_some, J_le_t, J_le_f, J_lt_t, J_lt_f, J_eq_t, J_eq_f, L_lit, L_add, L_sub, L_mul, L_div, JL, LJ, Int.reduceToNat, Int.toNat_zero, Int.toNat_one, xb, xm, within_t, within_f, nb_t, nb_f, ni_t, ni_f, in_t, in_f, less_, bad_0, bad_1, not_true_eq_false, not_false_eq_true, L_lt_t, L_lt_f, L_eq_t, L_eq_f, lg_gt, lg_eq, lg_lt]
        rw [f_M_needed]
        simp (disch := omega) only [e5, g4, Int.natCast_zero, J_lit, J_add, J_sub, J_mul, J_neg, J_nat, J_inb, J_div, ↓reduceIte, Int.toNat_natCast, Option.bind_some, J_le_t, J_le_f, J_lt_t, J_lt_f, J_eq_t, J_eq_f, L_lit, L_add, L_sub, L_mul, L_div, JL, LJ, Int.reduceToNat, Int.toNat_zero, Int.toNat_one, xb, xm, within_t, within_f, nb_t, nb_f, ni_t, ni_f, in_t, in_f, less_, bad_0, bad_1, not_true_eq_false, not_false_eq_true, L_lt_t, L_lt_f, L_eq_t, L_eq_f, lg_gt, lg_eq, lg_lt]
      by_cases hy0 : y < 0
      · rw [ndv_neg _ hy0] at eR
        clear keyM keyC e6 e7 y1 y2 y3 hst hF hL
        refine ⟨_, _, by simp (disch := omega) only [sp_W_needed, sp_needed, eS, J_lit, J_add, J_sub, J_mul, J_neg, J_nat, J_inb, J_div, ↓reduceIte, Int.toNat_natCast, Option.bind_some, J_le_t, J_le_f, J_lt_t, J_lt_f, J_eq_t, J_eq_f, L_lit, L_add, L_sub, L_mul, L_div, JL, LJ, Int.reduceToNat, Int.toNat_zero, Int.toNat_one, xb, xm, within_t, within_f, nb_t, nb_f, ni_t, ni_f, in_t, in_f, less_, bad_0, bad_1, not_true_eq_false, not_false_eq_true, L_lt_t, L_lt_f, L_eq_t, L_eq_f, lg_gt, lg_eq, lg_lt]; rfl, eR, (by first | exact AA_0 _ _ | exact AA_L _ (by omega)), rfl, rfl, rfl⟩
      · obtain ⟨oo, o1⟩ := keyC (EN j) 0 0 (by omega) (by omega) w1 v1 v2 v3 v4 vn w2 w3 ql (QS j) w4 w5 w6 (k + 1) (by omega)
        rw [Int.natCast_zero] at o1
        clear keyM keyC e6 e7 y1 y2 y3 hst hF hL
        refine ⟨_, _, by simp (disch := omega) only [sp_W_needed, sp_needed, eS, e4, o1, J_lit, J_add, J_sub, J_mul, J_neg, J_nat, J_inb, J_div, ↓reduceIte, Int.toNat_natCast, Option.bind_some, J_le_t, J_le_f, J_lt_t, J_lt_f, J_eq_t, J_eq_f, L_lit, L_add, L_sub, L_mul, L_div, JL, LJ, Int.reduceToNat, Int.toNat_zero, Int.toNat_one, xb, xm, within_t, within_f, nb_t, nb_f, ni_t, ni_f, in_t, in_f, less_, bad_0, bad_1, not_true_eq_false, not_false_eq_true, L_lt_t, L_lt_f, L_eq_t, L_eq_f, lg_gt, lg_eq, lg_lt]; rfl, eR, (by first | exact AA_0 _ _ | exact AA_L _ (by omega)), rfl, rfl, rfl⟩
  · have eS := storyAt_f K hz hm (by omega) stories (QS j)
    have eI := isStory_f K hz h (by omega)
    obtain ⟨k, rfl⟩ : ∃ k, K = k + 2 := ⟨K - 2, by omega⟩
    exact ⟨_, _, by simp (disch := omega) only [sp_W_needed, sp_needed, eS, J_lit, J_add, J_sub, J_mul, J_neg, J_nat, J_inb, J_div, ↓reduceIte, Int.toNat_natCast, Option.bind_some, J_le_t, J_le_f, J_lt_t, J_lt_f, J_eq_t, J_eq_f, L_lit, L_add, L_sub, L_mul, L_div, JL, LJ, Int.reduceToNat, Int.toNat_zero, Int.toNat_one, xb, xm, within_t, within_f, nb_t, nb_f, ni_t, ni_f, in_t, in_f, less_, bad_0, bad_1, not_true_eq_false, not_false_eq_true, L_lt_t, L_lt_f, L_eq_t, L_eq_f, lg_gt, lg_eq, lg_lt]; rfl, by simp only [sp_M_needed, eI, f_M_needed, lbad1 (k + 2) (by omega), Option.bind_some, ↓reduceIte, lt10, lt20, lt00, lj00, lj10, lj20, xb, xm]; rfl, ⟨rfl, fun h => by cases h⟩, rfl, rfl, rfl⟩
set_option maxHeartbeats 2000000 in
theorem m_extra (K : Nat) (hK : 1000000 ≤ K) {l : LA} (hl : LOK l) {nr : Nat → Nat} {m1 : Nat → Nat → Int32} {m2 m3 m4 : Nat → Int32} {m5 m6 m7 : Int32} (Q : LM l nr m1 m2 m3 m4 m5 m6 m7) {j n : Nat} {E : Nat → Nat → Nat} (hE : SOK n E) {many : Nat → Int32} {ev : Nat → Nat → Int32} (hS : SM j n E many ev) {a b H k : Nat} (ha : a < 10) (hb : b < 10) (hab : b ≠ a) (hH : H < 100) {E' : Nat → Nat → Nat} (hC : ∀ (l : LA) h st, stp l E' h st k = extr l (some (a, b, H)) h (stp l E h st n)) (se th : Int32) {fn : Nat} {F : Nat → Nat → Nat} {f1 f2 f3 f4 : Nat → Int32} {fs : Int32} {mf : Nat → Nat → Int32} {mfn : Int32} (hF : RFinds f1 f2 f3 f4 fs mf mfn fn F) {q : Int} (hq : -1 ≤ q ∧ q < 1000) {w : Nat} (hw : w < 3) (ly : Nat → Nat → Int32) (wo : Nat → Int32) (big : Nat → Nat → Int32) (sc : Int32) : ∃ ly' wo' big', sp_M_numbers K (J w) (J j) (J q) m5 m6 m7 m1 m2 m3 m4 many ev mfn mf ly wo (J (-1)) (J a) (J b) (J H) (J (-1)) se th big sc = some (ly', wo', big', J (NS l k E' q fn F : Nat)) ∧ BR w (NP l k E' q fn F) big' ∧ ∀ r, r ≠ w → big' r = big r := by
  have hn := hS.2.1
  have h := p_M_numbers K hK hl Q hE hS (cm := fun _ => true) (lo := J (-1)) (fi := J (-1)) (se := se) (th := th) (fun i hi => comes_plain K (by omega) i _ (by omega) ev se th) (x := some (a, b, H)) (ef := J a) (et := J b) (eh := J H) ⟨rfl, rfl, rfl, ha, hb, hab, hH⟩ hF hq hw ly wo big sc
  rw [plT_cong l (T' := TA l k E') (runT_cong l (fun h st => by
    show extr l (some (a, b, H)) h (stpF l E (fun _ => true) h st n) = stp l E' h st k
    rw [hC, stpF_true])) F] at h
  exact h
set_option maxHeartbeats 2000000 in
theorem bench_bad (K : Nat) (hK : 1000 ≤ K) {a b c : Int} (ha : -2147483648 ≤ a ∧ a < 2147483648) (hb : -2147483648 ≤ b ∧ b < 2147483648) (hc : -2147483648 ≤ c ∧ c < 2147483648) (h : ¬ ((0 ≤ a ∧ a < 10) ∧ (0 ≤ b ∧ b < 10) ∧ (0 ≤ c ∧ c < 100) ∧ a ≠ b)) (s : Int32) (stories : Nat → Option Nat) (q : Nat) (cnt : Int32) (hs : sp_storyAt K s stories q cnt = some (.inr ())) (k1 k2 k3 k4 : Nat → Int32) (kn : Int32) (v1 v2 v3 v4 : Nat → Int32) (vn : Int32) (f1 f2 f3 f4 : Nat → Int32) (fs : Int32) (pl ly wo : Nat → Int32) (x1 x2 x3 : Int32) (s1 : Int32) (l1 : Nat → Int32) (z1 s2 : Int32) (l2 : Nat → Int32) (z2 : Int32) (ll : Nat → Int32) (lz : Int32) (rl : Nat → Int32) (rz : Int32) (tl : Nat → Int32) (tz : Int32) (c1 c2 c3 c4 : Nat → Int32) (c5 c6 c7 : Int32) : sp_bench K s (J a) (J b) (J c) stories q pl cnt k1 k2 k3 k4 kn v1 v2 v3 v4 vn f1 f2 f3 f4 fs ly wo x1 x2 x3 s1 l1 z1 s2 l2 z2 ll lz rl rz tl tz c1 c2 c3 c4 c5 c6 c7 = some (.inl 0) := by
  by_cases h1 : 0 ≤ a ∧ a < 10
  · have n1 := nb_t K (a := a) (b := 10) (by omega)
    by_cases h2 : 0 ≤ b ∧ b < 10
    · have n2 := nb_t K (a := b) (b := 10) (by omega)
      by_cases h3 : 0 ≤ c ∧ c < 100
      · have n3 := nb_t K (a := c) (b := 100) (by omega)
        have h4 : a = b := by omega
        clear h
        subst h4
        simp only [sp_bench, hs, xb, show (10 : Int32) = J 10 from rfl, show (100 : Int32) = J 100 from rfl, n1, n2, n3, if_true]
      · have n3 := nb_f K hc (b := 100) (by omega) (by omega)
        clear h
        simp only [sp_bench, hs, xb, show (10 : Int32) = J 10 from rfl, show (100 : Int32) = J 100 from rfl, n1, n2, n3]
    · have n2 := nb_f K hb (b := 10) (by omega) (by omega)
      clear h
      simp only [sp_bench, hs, xb, show (10 : Int32) = J 10 from rfl, n1, n2]
  · have n1 := nb_f K ha (b := 10) (by omega) (by omega)
    clear h
    simp only [sp_bench, hs, xb, show (10 : Int32) = J 10 from rfl, n1]
set_option maxHeartbeats 2000000 in
theorem benchM_bad (K : Nat) (hK : 1000 ≤ K) {a b c : Int} (ha : -2147483648 ≤ a ∧ a < 2147483648) (hb : -2147483648 ≤ b ∧ b < 2147483648) (hc : -2147483648 ≤ c ∧ c < 2147483648) (h : ¬ ((0 ≤ a ∧ a < 10) ∧ (0 ≤ b ∧ b < 10) ∧ (0 ≤ c ∧ c < 100) ∧ a ≠ b)) (s thr m5 m6 m7 : Int32) (m1 : Nat → Nat → Int32) (m2 m3 m4 : Nat → Int32) (cnt : Int32) (hs : sp_M_isStory K s cnt = some (J 1)) (many : Nat → Int32) (ev : Nat → Nat → Int32) (mfn : Int32) (mf : Nat → Nat → Int32) (mly : Nat → Nat → Int32) (mwo : Nat → Int32) (lo ef et eh fi se th : Int32) (big : Nat → Nat → Int32) (sc : Int32) : sp_M_bench K s (J a) (J b) (J c) thr m5 m6 m7 m1 m2 m3 m4 cnt many ev mfn mf mly mwo lo ef et eh fi se th big sc = some (J 0, J 2, mly, mwo, lo, ef, et, eh, fi, big, sc) := by
  by_cases h1 : (0 ≤ a ∧ a < 10) ∧ (0 ≤ (0 : Int) ∧ (0 : Int) < 10) ∧ (0 ≤ c ∧ c < 100)
  · have eB := badPlace_t K hK (J 2) h1.1 h1.2.1 h1.2.2
    obtain ⟨k, rfl⟩ : ∃ k, K = k + 3 := ⟨K - 3, by omega⟩
    have eB' : sp_M_badPlace (k + 3) (J a) 0 (J c) 2 0 = some (0, 0) := eB
    by_cases h2 : 0 ≤ b ∧ b < 10
    · have i2 := in_t (k + 3) (a := b) (b := 0) (c := 9) hb (by omega) (by omega) (by omega)
      have i2' : sp_M_in (k + 3) (J b) 0 9 = some (1 : Int32) := i2
      have h4 : a = b := by omega
      clear h h1
      subst h4
      simp only [sp_M_bench, hs, f_M_bench, lbad0 (k + 3) (by omega), eB', i2', lbad2 (k + 3) (by omega), if_true, Option.bind_some, ↓reduceIte, lt10, lt20, lt00, lj00, lj10, lj20, xb, xm]
      rfl
    · have i2 := in_f (k + 3) (a := b) (b := 0) (c := 9) hb (by omega) (by omega) (by omega)
      have i2' : sp_M_in (k + 3) (J b) 0 9 = some (0 : Int32) := i2
      clear h h1
      simp only [sp_M_bench, hs, f_M_bench, lbad0 (k + 3) (by omega), eB', i2', lbad2 (k + 3) (by omega), Option.bind_some, ↓reduceIte, lt10, lt20, lt00, lj00, lj10, lj20, xb, xm]
      rfl
  · have eB := badPlace_f K hK (w := 2) (by omega) ha (b := 0) (by omega) hc h1
    obtain ⟨k, rfl⟩ : ∃ k, K = k + 1 := ⟨K - 1, by omega⟩
    have eB' : sp_M_badPlace (k + 1) (J a) 0 (J c) 2 0 = some (1, 2) := eB
    clear h h1
    simp only [sp_M_bench, hs, f_M_bench, lbad0 (k + 1) (by omega), eB', Option.bind_some, ↓reduceIte, lt10, lt20, lt00, lj00, lj10, lj20, xb, xm]
    rfl
set_option maxHeartbeats 2000000 in
theorem pc_bench (K : Nat) (hK : 1000000 ≤ K) (p1 p2 p3 p4 thr : Int32) {l : LA} {nr : Nat → Nat} {c1 c2 c3 c4 : Nat → Int32} {c5 c6 c7 : Int32} {m1 : Nat → Nat → Int32} {m2 m3 m4 : Nat → Int32} {m5 m6 m7 : Int32} (hL : HL l nr c1 c2 c3 c4 c5 c6 c7 m1 m2 m3 m4 m5 m6 m7) {m : Nat} {EN : Nat → Nat} {EE : Nat → Nat → Nat → Nat} {stories : Nat → Option Nat} {QS : Nat → Nat} {k1 k2 k3 k4 : Nat → Nat → Int32} {kn : Nat → Int32} {many : Nat → Int32} {ev : Nat → Nat → Int32} (hS : HS m EN EE stories QS k1 k2 k3 k4 kn many ev) {fn : Nat} {F : Nat → Nat → Nat} {f1 f2 f3 f4 : Nat → Int32} {fs : Int32} {mf : Nat → Nat → Int32} {mfn : Int32} (hF : RFinds f1 f2 f3 f4 fs mf mfn fn F) (j : Nat) (hj : SEL p1 m j) (ql a1 a2 : Nat) (v1 v2 v3 v4 : Nat → Int32) (vn : Int32) (pl ly wo : Nat → Int32) (x1 x2 x3 : Int32) (s1 : Int32) (l1 : Nat → Int32) (z1 s2 : Int32) (l2 : Nat → Int32) (z2 : Int32) (ll : Nat → Int32) (lz : Int32) (rl : Nat → Int32) (rz : Int32) (tl : Nat → Int32) (tz : Int32) (mly : Nat → Nat → Int32) (mwo : Nat → Int32) (et eh se th : Int32) (big : Nat → Nat → Int32) (sc : Int32) (o : Nat → Int64) : ∃ oc om, sp_W_bench K p1 p2 p3 p4 ql stories (QS j) pl (J m) (k1 j) (k2 j) (k3 j) (k4 j) (kn j) v1 v2 v3 v4 vn f1 f2 f3 f4 fs ly wo a1 a2 x1 x2 x3 s1 l1 z1 s2 l2 z2 ll lz rl rz tl tz c1 c2 c3 c4 c5 c6 c7 o = some oc ∧ sp_M_bench K p1 p2 p3 p4 thr m5 m6 m7 m1 m2 m3 m4 (J m) many ev mfn mf mly mwo (J (-1)) (J (-1)) et eh (J (-1)) se th big sc = some om ∧ AA oc.1 oc.2.2.2.2.2.2.2.2.2.2.2.2.2.2.2.2.2.2.2.2.2.2.2.2.2.2 om.1 om.2.1 ∧ om.2.2.2.2.1 = J (-1) ∧ om.2.2.2.2.2.1 = J (-1) ∧ om.2.2.2.2.2.2.2.2.1 = J (-1) := by
  obtain ⟨hm, hq, hst⟩ := hS
  obtain ⟨z, rfl, hz⟩ := ex_J p1
  obtain ⟨a, rfl, ha⟩ := ex_J p2
  obtain ⟨b, rfl, hb⟩ := ex_J p3
  obtain ⟨c, rfl, hc⟩ := ex_J p4
  by_cases h : 0 ≤ z ∧ z < m
  · obtain ⟨z, rfl⟩ : ∃ x : Nat, z = x := ⟨z.toNat, by omega⟩
    obtain rfl : j = z := hj z (by omega) rfl
    have hjm : j < m := by omega
    have eS := storyAt_t K hjm hm (hq j (by omega))
    have eI := isStory_t K (a := j) (n := m) (by omega) (by omega)
    obtain ⟨y1, y2, y3⟩ := hst j hjm
    have hn20 := y3.2.1
    by_cases h' : (0 ≤ a ∧ a < 10) ∧ (0 ≤ b ∧ b < 10) ∧ (0 ≤ c ∧ c < 100) ∧ a ≠ b
    · obtain ⟨a, rfl⟩ : ∃ x : Nat, a = x := ⟨a.toNat, by omega⟩
      obtain ⟨b, rfl⟩ : ∃ x : Nat, b = x := ⟨b.toNat, by omega⟩
      obtain ⟨c, rfl⟩ : ∃ x : Nat, c = x := ⟨c.toNat, by omega⟩
      obtain ⟨h1, h2, h3, h4⟩ := h'
      obtain ⟨kk, E', t1, t2, t3, t4, e1, e2, hE', e3⟩ := p_copyWithTouch K (by omega) hn20 y1 y2 (a := a) (b := b) (H := c) (by omega) (by omega) (by omega) (by omega) v1 v2 v3 v4 vn
      obtain ⟨u, e4⟩ := pu_c_worthOf K hK hL.1 hL.2.1 hE' e2 y1 y2 hF (q := -1) (by omega) pl ly wo x1 x2 x3 s1 l1 z1 s2 l2 z2 ll lz rl rz tl tz
      obtain ⟨g1, g2, g3, e5, e6, e7⟩ := m_extra K hK hL.1 hL.2.2 y1 y3 (a := a) (b := b) (H := c) (by omega) (by omega) (by omega) (by omega) e3 se th hF (q := -1) (by omega) (w := 0) (by omega) mly mwo big sc
      obtain ⟨g4, g5, g6, e8, e9, e10⟩ := m_numbers K hK hL.1 hL.2.2 y1 y3 (J b) (J c) se th hF (q := -1) (by omega) (b := 1) (by omega) g1 g2 g3 (J (NS l kk E' (-1) fn F : Nat))
      have n2 := NP_ch hL.1 (EN j) (EE j) (-1) hF.1 F
      have n1 := NP_ch hL.1 kk E' (-1) hF.1 F
      have e6' : BR 0 (NP l kk E' (-1) fn F) g6 := BR_congr e6 (fun i _ => by rw [e10 0 (by omega)])
      obtain ⟨G, w1, w2, w3, w4⟩ := p_M_levels K (by omega) e6' e9 n1 n2
      obtain ⟨G', w5⟩ := p_M_worthNow K (by omega) w2 w3 w4
      have hr := WT_le (NP l kk E' (-1) fn F * 16 ^ NS l (EN j) (EE j) (-1) fn F) (NP l (EN j) (EE j) (-1) fn F * 16 ^ NS l kk E' (-1) fn F)
      rw [Int.natCast_zero] at e5
      rw [show J (1 : Nat) = J 1 from rfl] at e8
      have eB := badPlace_t K (by omega) (J 2) (a := a) (b := 0) (c := c) (by omega) (by omega) (by omega)
      obtain ⟨k, rfl⟩ : ∃ k, K = k + 2 := ⟨K - 2, by omega⟩
      clear e2 e3 hE' e6 e7 e9 e10 n1 n2 e6' w2 w3 w4 y1 y3 hst hF hL y2
      refine ⟨_, _, by simp (disch := omega) only [sp_W_bench, sp_bench, eS, e1, e4, J_lit, J_add, J_sub, J_mul, J_neg, J_nat, J_inb, J_div, ↓reduceIte, Int.toNat_natCast, Option.bind_some, J_le_t, J_le_f, J_lt_t, J_lt_f, J_eq_t, J_eq_f, L_lit, L_add, L_sub, L_mul, L_div, JL, LJ, Int.reduceToNat, Int.toNat_zero, Int.toNat_one, xb, xm, within_t, within_f, nb_t, nb_f, ni_t, ni_f, in_t, in_f, less_, bad_0, bad_1, not_true_eq_false, not_false_eq_true, L_lt_t, L_lt_f, L_eq_t, L_eq_f, lg_gt, lg_eq, lg_lt]; rfl, by simp (disch := omega) only [sp_M_bench, f_M_bench, eI, eB, e5, e8, plain_, w1, w5, J_lit, J_add, J_sub, J_mul, J_neg, J_nat, J_inb, J_div, ↓reduceIte, Int.toNat_natCast, Option.bind_some, J_le_t, J_le_f, J_lt_t, J_lt_f, J_eq_t, J_eq_f, L_lit, L_add, L_sub, L_mul, L_div, JL, LJ, Int.reduceToNat, Int.toNat_zero, Int.toNat_one, xb, xm, within_t, within_f, nb_t, nb_f, ni_t, ni_f, in_t, in_f, less_, bad_0, bad_1, not_true_eq_false, not_false_eq_true, L_lt_t, L_lt_f, L_eq_t, L_eq_f, lg_gt, lg_eq, lg_lt]; rfl, (by first | exact AA_0 _ _ | exact AA_L _ (by omega)), rfl, rfl, rfl⟩
    · have x1' := bench_bad K (by omega) ha hb hc h' (J j) stories (QS j) (J m) eS (k1 j) (k2 j) (k3 j) (k4 j) (kn j) v1 v2 v3 v4 vn f1 f2 f3 f4 fs pl ly wo x1 x2 x3 s1 l1 z1 s2 l2 z2 ll lz rl rz tl tz c1 c2 c3 c4 c5 c6 c7
      have x2' := benchM_bad K (by omega) ha hb hc h' (J j) thr m5 m6 m7 m1 m2 m3 m4 (J m) eI many ev mfn mf mly mwo (J (-1)) (J (-1)) et eh (J (-1)) se th big sc
      clear h'
      exact ⟨_, _, by simp (disch := omega) only [sp_W_bench, x1', J_lit, J_add, J_sub, J_mul, J_neg, J_nat, J_inb, J_div, ↓reduceIte, Int.toNat_natCast, Option.bind_some, J_le_t, J_le_f, J_lt_t, J_lt_f, J_eq_t, J_eq_f, L_lit, L_add, L_sub, L_mul, L_div, JL, LJ, Int.reduceToNat, Int.toNat_zero, Int.toNat_one, xb, xm, within_t, within_f, nb_t, nb_f, ni_t, ni_f, in_t, in_f, less_, bad_0, bad_1, not_true_eq_false, not_false_eq_true, L_lt_t, L_lt_f, L_eq_t, L_eq_f, lg_gt, lg_eq, lg_lt]; rfl, x2', (by exact AA_e _ _ (by omega)), rfl, rfl, rfl⟩
  · have eS := storyAt_f K hz hm (by omega) stories (QS j)
    have eI := isStory_f K hz h (by omega)
    obtain ⟨k, rfl⟩ : ∃ k, K = k + 2 := ⟨K - 2, by omega⟩
    exact ⟨_, _, by simp (disch := omega) only [sp_W_bench, sp_bench, eS, J_lit, J_add, J_sub, J_mul, J_neg, J_nat, J_inb, J_div, ↓reduceIte, Int.toNat_natCast, Option.bind_some, J_le_t, J_le_f, J_lt_t, J_lt_f, J_eq_t, J_eq_f, L_lit, L_add, L_sub, L_mul, L_div, JL, LJ, Int.reduceToNat, Int.toNat_zero, Int.toNat_one, xb, xm, within_t, within_f, nb_t, nb_f, ni_t, ni_f, in_t, in_f, less_, bad_0, bad_1, not_true_eq_false, not_false_eq_true, L_lt_t, L_lt_f, L_eq_t, L_eq_f, lg_gt, lg_eq, lg_lt]; rfl, by simp only [sp_M_bench, eI, f_M_bench, lbad1 (k + 2) (by omega), Option.bind_some, ↓reduceIte, lt10, lt20, lt00, lj00, lj10, lj20, xb, xm]; rfl, ⟨rfl, fun h => by cases h⟩, rfl, rfl, rfl⟩
def lf (a : Nat) : Nat → Nat → Nat
  | x, 0 => x
  | x, n + 1 => lf a (x * a / 16) n
set_option maxHeartbeats 2000000 in
theorem lf_le {a : Nat} (ha : a ≤ 16) : ∀ n x, lf a x n ≤ x
  | 0, x => Nat.le_refl _
  | n + 1, x => Nat.le_trans (lf_le ha n _) (mul16 x a ha)
set_option maxHeartbeats 2000000 in
theorem lf_0 (a : Nat) : ∀ n, lf a 0 n = 0
  | 0 => rfl
  | n + 1 => by rw [lf, Nat.zero_mul, Nat.zero_div]; exact lf_0 a n
set_option maxHeartbeats 2000000 in
theorem p_leftOf (K : Nat) (hK : 1000 ≤ K) {x a n : Nat} (hx : x ≤ 100000) (ha : a ≤ 16) (hn : n ≤ 60) : sp_leftOf K (J x) (J a) (J n) = some (J (lf a x n : Nat)) := by
  have key : ∀ (r i x : Nat), i + r = n → x ≤ 100000 → ∀ m, r + 1 ≤ m → f_leftOf K m 0 (J a, J n, J x, J i) = some (J (lf a x r : Nat)) := by
    intro r
    induction r with
    | zero =>
      intro i x hi hx m hm
      obtain ⟨m, rfl⟩ : ∃ k, m = k + 1 := ⟨m - 1, by omega⟩
      rw [lf]
      simp (disch := omega) only [f_leftOf, J_lit, J_add, J_sub, J_mul, J_neg, J_nat, J_inb, J_div, ↓reduceIte, Int.toNat_natCast, Option.bind_some, J_le_t, J_le_f, J_lt_t, J_lt_f, J_eq_t, J_eq_f, L_lit, L_add, L_sub, L_mul, L_div, JL, LJ, Int.reduceToNat, Int.toNat_zero, Int.toNat_one, xb, xm, within_t, within_f, nb_t, nb_f, ni_t, ni_f, in_t, in_f, less_, bad_0, bad_1, not_true_eq_false, not_false_eq_true, L_lt_t, L_lt_f, L_eq_t, L_eq_f, lg_gt, lg_eq, lg_lt]
    | succ r ih =>
      intro i x hi hx m hm
      obtain ⟨m, rfl⟩ : ∃ k, m = k + 1 := ⟨m - 1, by omega⟩
      have h1 := mul16 x a ha
      have h2 : x * a ≤ 100000 * 16 := Nat.mul_le_mul hx ha
      have e1 : (x : Int) * (a : Int) = ((x * a : Nat) : Int) := (Int.natCast_mul _ _).symm
      have e2 : ((x * a : Nat) : Int) / 16 = ((x * a / 16 : Nat) : Int) := by omega
      rw [lf, ← ih (i + 1) (x * a / 16) (by omega) (by omega) m (by omega)]
      clear ih
      simp (disch := omega) only [f_leftOf, e1, e2, cast1, J_lit, J_add, J_sub, J_mul, J_neg, J_nat, J_inb, J_div, ↓reduceIte, Int.toNat_natCast, Option.bind_some, J_le_t, J_le_f, J_lt_t, J_lt_f, J_eq_t, J_eq_f, L_lit, L_add, L_sub, L_mul, L_div, JL, LJ, Int.reduceToNat, Int.toNat_zero, Int.toNat_one, xb, xm, within_t, within_f, nb_t, nb_f, ni_t, ni_f, in_t, in_f, less_, bad_0, bad_1, not_true_eq_false, not_false_eq_true, L_lt_t, L_lt_f, L_eq_t, L_eq_f, lg_gt, lg_eq, lg_lt]
  rw [← key n 0 x (by omega) hx K (by omega)]
  simp (disch := omega) only [sp_leftOf, J_lit, J_add, J_sub, J_mul, J_neg, J_nat, J_inb, J_div, ↓reduceIte, Int.toNat_natCast, Option.bind_some, J_le_t, J_le_f, J_lt_t, J_lt_f, J_eq_t, J_eq_f, L_lit, L_add, L_sub, L_mul, L_div, JL, LJ, Int.reduceToNat, Int.toNat_zero, Int.toNat_one, xb, xm, within_t, within_f, nb_t, nb_f, ni_t, ni_f, in_t, in_f, less_, bad_0, bad_1, not_true_eq_false, not_false_eq_true, L_lt_t, L_lt_f, L_eq_t, L_eq_f, lg_gt, lg_eq, lg_lt]
  rfl
set_option maxHeartbeats 2000000 in
theorem p_M_leftBehind (K : Nat) (hK : 1000 ≤ K) {x a n s : Nat} (hx : x ≤ 100000) (ha : a ≤ 16) (hn : n ≤ 60) (hs : s < 10) {m2 : Nat → Int32} (h2 : m2 s = J a) : sp_M_leftBehind K (J x) (J s) (J n) m2 = some (J (lf a x n : Nat)) := by
  have key : ∀ (r i x : Nat), i + r = n → x ≤ 100000 → ∀ m, r + 1 ≤ m → f_M_leftBehind K m2 m 0 (J s, J n, J x, J i) = some (J (lf a x r : Nat)) := by
    intro r
    induction r with
    | zero =>
      intro i x hi hx m hm
      obtain ⟨m, rfl⟩ : ∃ k, m = k + 1 := ⟨m - 1, by omega⟩
      rw [lf]
      simp (disch := omega) only [f_M_leftBehind, J_lit, J_add, J_sub, J_mul, J_neg, J_nat, J_inb, J_div, ↓reduceIte, Int.toNat_natCast, Option.bind_some, J_le_t, J_le_f, J_lt_t, J_lt_f, J_eq_t, J_eq_f, L_lit, L_add, L_sub, L_mul, L_div, JL, LJ, Int.reduceToNat, Int.toNat_zero, Int.toNat_one, xb, xm, within_t, within_f, nb_t, nb_f, ni_t, ni_f, in_t, in_f, less_, bad_0, bad_1, not_true_eq_false, not_false_eq_true, L_lt_t, L_lt_f, L_eq_t, L_eq_f, lg_gt, lg_eq, lg_lt]
    | succ r ih =>
      intro i x hi hx m hm
      obtain ⟨m, rfl⟩ : ∃ k, m = k + 1 := ⟨m - 1, by omega⟩
      have h1 := mul16 x a ha
      have h3 : x * a ≤ 100000 * 16 := Nat.mul_le_mul hx ha
      have e1 : (x : Int) * (a : Int) = ((x * a : Nat) : Int) := (Int.natCast_mul _ _).symm
      have e2 : ((x * a : Nat) : Int) / 16 = ((x * a / 16 : Nat) : Int) := by omega
      rw [lf, ← ih (i + 1) (x * a / 16) (by omega) (by omega) m (by omega)]
      clear ih
      simp (disch := omega) only [f_M_leftBehind, h2, e1, e2, cast1, J_lit, J_add, J_sub, J_mul, J_neg, J_nat, J_inb, J_div, ↓reduceIte, Int.toNat_natCast, Option.bind_some, J_le_t, J_le_f, J_lt_t, J_lt_f, J_eq_t, J_eq_f, L_lit, L_add, L_sub, L_mul, L_div, JL, LJ, Int.reduceToNat, Int.toNat_zero, Int.toNat_one, xb, xm, within_t, within_f, nb_t, nb_f, ni_t, ni_f, in_t, in_f, less_, bad_0, bad_1, not_true_eq_false, not_false_eq_true, L_lt_t, L_lt_f, L_eq_t, L_eq_f, lg_gt, lg_eq, lg_lt]
  rw [← key n 0 x (by omega) hx K (by omega)]
  simp (disch := omega) only [sp_M_leftBehind, J_lit, J_add, J_sub, J_mul, J_neg, J_nat, J_inb, J_div, ↓reduceIte, Int.toNat_natCast, Option.bind_some, J_le_t, J_le_f, J_lt_t, J_lt_f, J_eq_t, J_eq_f, L_lit, L_add, L_sub, L_mul, L_div, JL, LJ, Int.reduceToNat, Int.toNat_zero, Int.toNat_one, xb, xm, within_t, within_f, nb_t, nb_f, ni_t, ni_f, in_t, in_f, less_, bad_0, bad_1, not_true_eq_false, not_false_eq_true, L_lt_t, L_lt_f, L_eq_t, L_eq_f, lg_gt, lg_eq, lg_lt]
  rfl
def bs (f : Nat → Nat) (x0 : Nat) : Nat → Nat → Nat → Nat
  | 0, lo, _ => lo
  | r + 1, lo, hi => if hi ≤ lo then lo else if f ((lo + hi) / 2) < x0 then bs f x0 r ((lo + hi) / 2 + 1) hi else bs f x0 r lo ((lo + hi) / 2)
set_option maxHeartbeats 2000000 in
theorem bs_rng (f : Nat → Nat) (x0 : Nat) : ∀ r lo hi, lo ≤ hi → lo ≤ bs f x0 r lo hi ∧ bs f x0 r lo hi ≤ hi
  | 0, lo, hi, h => ⟨Nat.le_refl _, h⟩
  | r + 1, lo, hi, h => by
    rw [bs]
    by_cases hc : hi ≤ lo
    · rw [if_pos hc]; omega
    · rw [if_neg hc]
      split
      · have := bs_rng f x0 r ((lo + hi) / 2 + 1) hi (by omega); omega
      · have := bs_rng f x0 r lo ((lo + hi) / 2) (by omega); omega
set_option maxHeartbeats 2000000 in
theorem bs_hi (f : Nat → Nat) (x0 : Nat) : ∀ r lo hi, lo ≤ hi → hi - lo < 2 ^ r → bs f x0 r lo hi = hi ∨ x0 ≤ f (bs f x0 r lo hi)
  | 0, lo, hi, h, h2 => by rw [Nat.pow_zero] at h2; left; rw [bs]; omega
  | r + 1, lo, hi, h, h2 => by
    rw [bs]
    have hp : 2 ^ (r + 1) = 2 * 2 ^ r := by rw [Nat.pow_succ]; omega
    by_cases hc : hi ≤ lo
    · rw [if_pos hc]; left; omega
    · rw [if_neg hc]
      split
      · exact bs_hi f x0 r ((lo + hi) / 2 + 1) hi (by omega) (by omega)
      · next hf =>
        rcases bs_hi f x0 r lo ((lo + hi) / 2) (by omega) (by omega) with h3 | h3
        · right; rw [h3]; omega
        · right; exact h3
set_option maxHeartbeats 2000000 in
theorem p_leastLeaving (K : Nat) (hK : 1000 ≤ K) {x0 a n : Nat} (hx : x0 ≤ 10000) (ha : a ≤ 16) (hn : n ≤ 60) : sp_leastLeaving K (J x0) (J a) (J n) = some (J (bs (fun x => lf a x n) x0 17 0 100000 : Nat)) := by
  have key : ∀ (r lo hi i : Nat), lo ≤ hi → hi ≤ 100000 → hi - lo < 2 ^ r → r + i ≤ 17 → ∀ m, 2 * r + 1 ≤ m → f_leastLeaving K m 0 (J x0, J a, J n, J lo, J hi, J i) = some (J (bs (fun x => lf a x n) x0 r lo hi : Nat)) := by
    intro r
    induction r with
    | zero =>
      intro lo hi i h1 h2 h3 h4 m hm
      obtain ⟨m, rfl⟩ : ∃ k, m = k + 1 := ⟨m - 1, by omega⟩
      rw [Nat.pow_zero] at h3
      obtain rfl : hi = lo := by omega
      rw [bs]
      simp (disch := omega) only [f_leastLeaving, J_lit, J_add, J_sub, J_mul, J_neg, J_nat, J_inb, J_div, ↓reduceIte, Int.toNat_natCast, Option.bind_some, J_le_t, J_le_f, J_lt_t, J_lt_f, J_eq_t, J_eq_f, L_lit, L_add, L_sub, L_mul, L_div, JL, LJ, Int.reduceToNat, Int.toNat_zero, Int.toNat_one, xb, xm, within_t, within_f, nb_t, nb_f, ni_t, ni_f, in_t, in_f, less_, bad_0, bad_1, not_true_eq_false, not_false_eq_true, L_lt_t, L_lt_f, L_eq_t, L_eq_f, lg_gt, lg_eq, lg_lt]
    | succ r ih =>
      intro lo hi i h1 h2 h3 h4 m hm
      obtain ⟨m, rfl⟩ : ∃ k, m = k + 2 := ⟨m - 2, by omega⟩
      rw [bs]
      have hp : 2 ^ (r + 1) = 2 * 2 ^ r := by rw [Nat.pow_succ]; omega
      by_cases hc : hi ≤ lo
      · rw [if_pos hc]
        clear ih h3 hp
        simp (disch := omega) only [f_leastLeaving, J_lit, J_add, J_sub, J_mul, J_neg, J_nat, J_inb, J_div, ↓reduceIte, Int.toNat_natCast, Option.bind_some, J_le_t, J_le_f, J_lt_t, J_lt_f, J_eq_t, J_eq_f, L_lit, L_add, L_sub, L_mul, L_div, JL, LJ, Int.reduceToNat, Int.toNat_zero, Int.toNat_one, xb, xm, within_t, within_f, nb_t, nb_f, ni_t, ni_f, in_t, in_f, less_, bad_0, bad_1, not_true_eq_false, not_false_eq_true, L_lt_t, L_lt_f, L_eq_t, L_eq_f, lg_gt, lg_eq, lg_lt]
      · rw [if_neg hc]
        obtain ⟨md, hmd⟩ : ∃ md : Nat, md = (lo + hi) / 2 := ⟨_, rfl⟩
        have em : ((lo : Int) + (hi : Int)) / 2 = (md : Int) := by omega
        rw [← hmd]
        have e1 := p_leftOf K hK (x := md) (a := a) (n := n) (by omega) ha hn
        have e2 := lf_le ha n md
        by_cases hf : lf a md n < x0
        · rw [if_pos hf, ← ih (md + 1) hi (i + 1) (by omega) h2 (by omega) (by omega) m (by omega)]
          clear ih h3 hp hmd
          simp (disch := omega) only [f_leastLeaving, em, e1, cast1, J_lit, J_add, J_sub, J_mul, J_neg, J_nat, J_inb, J_div, ↓reduceIte, Int.toNat_natCast, Option.bind_some, J_le_t, J_le_f, J_lt_t, J_lt_f, J_eq_t, J_eq_f, L_lit, L_add, L_sub, L_mul, L_div, JL, LJ, Int.reduceToNat, Int.toNat_zero, Int.toNat_one, xb, xm, within_t, within_f, nb_t, nb_f, ni_t, ni_f, in_t, in_f, less_, bad_0, bad_1, not_true_eq_false, not_false_eq_true, L_lt_t, L_lt_f, L_eq_t, L_eq_f, lg_gt, lg_eq, lg_lt]
        · rw [if_neg hf, ← ih lo md (i + 1) (by omega) (by omega) (by omega) (by omega) m (by omega)]
          clear ih h3 hp hmd
          simp (disch := omega) only [f_leastLeaving, em, e1, cast1, J_lit, J_add, J_sub, J_mul, J_neg, J_nat, J_inb, J_div, ↓reduceIte, Int.toNat_natCast, Option.bind_some, J_le_t, J_le_f, J_lt_t, J_lt_f, J_eq_t, J_eq_f, L_lit, L_add, L_sub, L_mul, L_div, JL, LJ, Int.reduceToNat, Int.toNat_zero, Int.toNat_one, xb, xm, within_t, within_f, nb_t, nb_f, ni_t, ni_f, in_t, in_f, less_, bad_0, bad_1, not_true_eq_false, not_false_eq_true, L_lt_t, L_lt_f, L_eq_t, L_eq_f, lg_gt, lg_eq, lg_lt]
  rw [← key 17 0 100000 0 (by omega) (by omega) (by decide) (by omega) K (by omega)]
  simp (disch := omega) only [sp_leastLeaving, J_lit, J_add, J_sub, J_mul, J_neg, J_nat, J_inb, J_div, ↓reduceIte, Int.toNat_natCast, Option.bind_some, J_le_t, J_le_f, J_lt_t, J_lt_f, J_eq_t, J_eq_f, L_lit, L_add, L_sub, L_mul, L_div, JL, LJ, Int.reduceToNat, Int.toNat_zero, Int.toNat_one, xb, xm, within_t, within_f, nb_t, nb_f, ni_t, ni_f, in_t, in_f, less_, bad_0, bad_1, not_true_eq_false, not_false_eq_true, L_lt_t, L_lt_f, L_eq_t, L_eq_f, lg_gt, lg_eq, lg_lt]
  rfl
set_option maxHeartbeats 2000000 in
theorem M_least (K : Nat) (hK : 1000 ≤ K) {x0 a n s : Nat} (hx : x0 ≤ 10000) (ha : a ≤ 16) (hn : n ≤ 60) (hs : s < 10) {m2 : Nat → Int32} (h2 : m2 s = J a) (p2 p4 : Int32) : ∀ (r lo hi : Nat), lo ≤ hi → hi ≤ 100000 → hi - lo < 2 ^ r → r ≤ 17 → ∀ m, 2 * r + 1 ≤ m → ∃ m', m ≤ m' + 2 * r ∧ f_M_after K m2 m 4 (J s, p2, J n, p4, J 0, J lo, J hi, J x0, J 0) = f_M_after K m2 m' 4 (J s, p2, J n, p4, J 0, J (bs (fun x => lf a x n) x0 r lo hi : Nat), J (bs (fun x => lf a x n) x0 r lo hi : Nat), J x0, J 0) := by
  intro r
  induction r with
  | zero =>
    intro lo hi i h1 h2' h3 m hm
    rw [Nat.pow_zero] at h2'
    obtain rfl : hi = lo := by omega
    exact ⟨m, by omega, by rw [bs]⟩
  | succ r ih =>
    intro lo hi i h1 h3 h4 m hm
    rw [bs]
    have hp : 2 ^ (r + 1) = 2 * 2 ^ r := by rw [Nat.pow_succ]; omega
    by_cases hc : hi ≤ lo
    · obtain rfl : hi = lo := by omega
      rw [if_pos hc]
      exact ⟨m, by omega, rfl⟩
    · obtain ⟨m, rfl⟩ : ∃ k, m = k + 2 := ⟨m - 2, by omega⟩
      rw [if_neg hc]
      obtain ⟨md, hmd⟩ : ∃ md : Nat, md = (lo + hi) / 2 := ⟨_, rfl⟩
      have em : ((lo : Int) + (hi : Int)) / 2 = (md : Int) := by omega
      rw [← hmd]
      have e1 := p_M_leftBehind K hK (x := md) (a := a) (n := n) (by omega) ha hn hs h2
      have e2 := lf_le ha n md
      by_cases hf : lf a md n < x0
      · obtain ⟨m', q1, q2⟩ := ih (md + 1) hi (by omega) h1 (by omega) (by omega) m (by omega)
        refine ⟨m', by omega, ?_⟩
        rw [if_pos hf, ← q2]
        clear ih h3 hp hmd q2
        simp (disch := omega) only [f_M_after, em, e1, cast1, J_lit, J_add, J_sub, J_mul, J_neg, J_nat, J_inb, J_div, ↓reduceIte, Int.toNat_natCast, Option.bind_some, J_le_t, J_le_f, J_lt_t, J_lt_f, J_eq_t, J_eq_f, L_lit, L_add, L_sub, L_mul, L_div, JL, LJ, Int.reduceToNat, Int.toNat_zero, Int.toNat_one, xb, xm, within_t, within_f, nb_t, nb_f, ni_t, ni_f, in_t, in_f, less_, bad_0, bad_1, not_true_eq_false, not_false_eq_true, L_lt_t, L_lt_f, L_eq_t, L_eq_f, lg_gt, lg_eq, lg_lt]
      · obtain ⟨m', q1, q2⟩ := ih lo md (by omega) (by omega) (by omega) (by omega) m (by omega)
        refine ⟨m', by omega, ?_⟩
        rw [if_neg hf, ← q2]
        clear ih h3 hp hmd q2
        simp (disch := omega) only [f_M_after, em, e1, cast1, J_lit, J_add, J_sub, J_mul, J_neg, J_nat, J_inb, J_div, ↓reduceIte, Int.toNat_natCast, Option.bind_some, J_le_t, J_le_f, J_lt_t, J_lt_f, J_eq_t, J_eq_f, L_lit, L_add, L_sub, L_mul, L_div, JL, LJ, Int.reduceToNat, Int.toNat_zero, Int.toNat_one, xb, xm, within_t, within_f, nb_t, nb_f, ni_t, ni_f, in_t, in_f, less_, bad_0, bad_1, not_true_eq_false, not_false_eq_true, L_lt_t, L_lt_f, L_eq_t, L_eq_f, lg_gt, lg_eq, lg_lt]
set_option maxHeartbeats 2000000 in
theorem pc_after (K : Nat) (hK : 1000000 ≤ K) (p1 p2 p3 p4 thr : Int32) {l : LA} {nr : Nat → Nat} {c1 c2 c3 c4 : Nat → Int32} {c5 c6 c7 : Int32} {m1 : Nat → Nat → Int32} {m2 m3 m4 : Nat → Int32} {m5 m6 m7 : Int32} (hL : HL l nr c1 c2 c3 c4 c5 c6 c7 m1 m2 m3 m4 m5 m6 m7) (o : Nat → Int64) : ∃ oc om, sp_W_after K p1 p2 p3 p4 c2 o = some oc ∧ sp_M_after K p1 p2 p3 p4 thr m2 = some om ∧ AA oc.1 oc.2 om.1 om.2 := by
  obtain ⟨hl, R, Q⟩ := hL
  obtain ⟨a, rfl, ha⟩ := ex_J p1
  obtain ⟨b, rfl, hb⟩ := ex_J p2
  obtain ⟨c, rfl, hc⟩ := ex_J p3
  obtain ⟨d, rfl, hd⟩ := ex_J p4
  obtain ⟨k, rfl⟩ : ∃ k, K = k + 2 := ⟨K - 2, by omega⟩
  have bad : ∀ (x y z w : Int32), f_M_after (k + 2) m2 (k + 2) 0 (x, y, z, w, 0, 0, 0, 0, 0) = some (0, 1) := fun x y z w => by
    simp only [f_M_after, lbad1 (k + 2) (by omega), Option.bind_some, ↓reduceIte, lt10, lt20, lt00, lj00, lj10, lj20, xb, xm]
  by_cases h1 : 0 ≤ a ∧ a < 10
  · have n1 := nb_t (k + 2) (a := a) (b := 10) (by omega)
    have i1 := in_t (k + 2) (a := a) (b := 0) (c := 9) (by omega) (by omega) (by omega) (by omega)
    by_cases h2 : 0 ≤ b ∧ b < 10000
    · have n2 := nb_t (k + 2) (a := b) (b := 10000) (by omega)
      have i2 := in_t (k + 2) (a := b) (b := 0) (c := 9999) (by omega) (by omega) (by omega) (by omega)
      by_cases h3 : 0 ≤ c ∧ c < 61
      · have n3 := nb_t (k + 2) (a := c) (b := 61) (by omega)
        have i3 := in_t (k + 2) (a := c) (b := 0) (c := 60) (by omega) (by omega) (by omega) (by omega)
        obtain ⟨a, rfl⟩ : ∃ x : Nat, a = x := ⟨a.toNat, by omega⟩
        obtain ⟨b, rfl⟩ : ∃ x : Nat, b = x := ⟨b.toNat, by omega⟩
        obtain ⟨c, rfl⟩ : ∃ x : Nat, c = x := ⟨c.toNat, by omega⟩
        have r2 := R.2.1 a (by omega)
        have q2 := Q.2.1 a (by omega)
        have hh := hl.2.1 a (by omega)
        have hold := holdOf_t (k + 2) (s := a) (by omega) c2
        rw [r2] at hold
        generalize lho l a = H at *
        clear R Q hl
        by_cases hH : H = 0
        · subst hH
          refine ⟨_, (J 0, J 1), by simp (disch := omega) only [sp_W_after, sp_after, n1, n2, n3, hold, J_lit, J_add, J_sub, J_mul, J_neg, J_nat, J_inb, J_div, ↓reduceIte, Int.toNat_natCast, Option.bind_some, J_le_t, J_le_f, J_lt_t, J_lt_f, J_eq_t, J_eq_f, L_lit, L_add, L_sub, L_mul, L_div, JL, LJ, Int.reduceToNat, Int.toNat_zero, Int.toNat_one, xb, xm, within_t, within_f, nb_t, nb_f, ni_t, ni_f, in_t, in_f, less_, bad_0, bad_1, not_true_eq_false, not_false_eq_true, L_lt_t, L_lt_f, L_eq_t, L_eq_f, lg_gt, lg_eq, lg_lt]; rfl, ?_, AA_e _ (J 0) (k := 1) (by omega)⟩
          simp (disch := omega) only [sp_M_after, i1, i2, i3, J_lit, J_add, J_sub, J_mul, J_neg, J_nat, J_inb, J_div, ↓reduceIte, Int.toNat_natCast, Option.bind_some, J_le_t, J_le_f, J_lt_t, J_lt_f, J_eq_t, J_eq_f, L_lit, L_add, L_sub, L_mul, L_div, JL, LJ, Int.reduceToNat, Int.toNat_zero, Int.toNat_one, xb, xm, within_t, within_f, nb_t, nb_f, ni_t, ni_f, in_t, in_f, less_, bad_0, bad_1, not_true_eq_false, not_false_eq_true, L_lt_t, L_lt_f, L_eq_t, L_eq_f, lg_gt, lg_eq, lg_lt]
          clear bad
          simp (disch := omega) only [f_M_after, q2, J_lit, J_add, J_sub, J_mul, J_neg, J_nat, J_inb, J_div, ↓reduceIte, Int.toNat_natCast, Option.bind_some, J_le_t, J_le_f, J_lt_t, J_lt_f, J_eq_t, J_eq_f, L_lit, L_add, L_sub, L_mul, L_div, JL, LJ, Int.reduceToNat, Int.toNat_zero, Int.toNat_one, xb, xm, within_t, within_f, nb_t, nb_f, ni_t, ni_f, in_t, in_f, less_, bad_0, bad_1, not_true_eq_false, not_false_eq_true, L_lt_t, L_lt_f, L_eq_t, L_eq_f, lg_gt, lg_eq, lg_lt]
        ·
          obtain ⟨x0, hx0, hx1⟩ : ∃ x0 : Nat, x0 ≤ 10000 ∧ ((d = 0 ∧ x0 = b) ∨ (d ≠ 0 ∧ x0 = b + 1)) := by
            by_cases hd0 : d = 0
            · exact ⟨b, by omega, Or.inl ⟨hd0, rfl⟩⟩
            · exact ⟨b + 1, by omega, Or.inr ⟨hd0, rfl⟩⟩
          have eC := p_leastLeaving (k + 2) (by omega) hx0 hh (n := c) (by omega)
          have hr := bs_rng (fun x => lf H x c) x0 17 0 100000 (by omega)
          have hz := bs_hi (fun x => lf H x c) x0 17 0 100000 (by omega) (by decide)
          generalize hV : bs (fun x => lf H x c) x0 17 0 100000 = V at *
          obtain ⟨y, hy, hyd⟩ : ∃ y : Nat, y ≤ 100000 ∧ ((d = 0 ∧ y = V) ∨ (d ≠ 0 ∧ V = y + 1)) := by
            by_cases hd0 : d = 0
            · exact ⟨V, by omega, Or.inl ⟨hd0, rfl⟩⟩
            · have hV0 : V ≠ 0 := by
                intro h0
                rcases hz with hz | hz
                · omega
                · simp only [h0, lf_0] at hz
                  omega
              exact ⟨V - 1, by omega, Or.inr ⟨hd0, by omega⟩⟩
          have e5 := p_leftOf (k + 2) (by omega) (x := y) (a := H) (n := c) (by omega) hh (by omega)
          have e6 := p_M_leftBehind (k + 2) (by omega) (x := y) (a := H) (n := c) (by omega) hh (by omega) (by omega) q2
          have e7 := lf_le hh c y
          have endC : f_after (k + 2) (k + 2) 0 (J b, J c, J H, J y) = some (.inr (J (if y ≤ 99999 ∧ lf H y c = b then (y : Int) else -1))) := by
            clear hz hV hx1 hyd eC bad
            by_cases hy9 : y ≤ 99999
            · by_cases hl' : lf H y c = b
              · rw [if_pos ⟨hy9, hl'⟩]
                simp (disch := omega) only [f_after, e5, J_lit, J_add, J_sub, J_mul, J_neg, J_nat, J_inb, J_div, ↓reduceIte, Int.toNat_natCast, Option.bind_some, J_le_t, J_le_f, J_lt_t, J_lt_f, J_eq_t, J_eq_f, L_lit, L_add, L_sub, L_mul, L_div, JL, LJ, Int.reduceToNat, Int.toNat_zero, Int.toNat_one, xb, xm, within_t, within_f, nb_t, nb_f, ni_t, ni_f, in_t, in_f, less_, bad_0, bad_1, not_true_eq_false, not_false_eq_true, L_lt_t, L_lt_f, L_eq_t, L_eq_f, lg_gt, lg_eq, lg_lt]
              · rw [if_neg (fun h => hl' h.2)]
                simp (disch := omega) only [f_after, e5, J_lit, J_add, J_sub, J_mul, J_neg, J_nat, J_inb, J_div, ↓reduceIte, Int.toNat_natCast, Option.bind_some, J_le_t, J_le_f, J_lt_t, J_lt_f, J_eq_t, J_eq_f, L_lit, L_add, L_sub, L_mul, L_div, JL, LJ, Int.reduceToNat, Int.toNat_zero, Int.toNat_one, xb, xm, within_t, within_f, nb_t, nb_f, ni_t, ni_f, in_t, in_f, less_, bad_0, bad_1, not_true_eq_false, not_false_eq_true, L_lt_t, L_lt_f, L_eq_t, L_eq_f, lg_gt, lg_eq, lg_lt]
            · rw [if_neg (fun h => hy9 h.1)]
              simp (disch := omega) only [f_after, J_lit, J_add, J_sub, J_mul, J_neg, J_nat, J_inb, J_div, ↓reduceIte, Int.toNat_natCast, Option.bind_some, J_le_t, J_le_f, J_lt_t, J_lt_f, J_eq_t, J_eq_f, L_lit, L_add, L_sub, L_mul, L_div, JL, LJ, Int.reduceToNat, Int.toNat_zero, Int.toNat_one, xb, xm, within_t, within_f, nb_t, nb_f, ni_t, ni_f, in_t, in_f, less_, bad_0, bad_1, not_true_eq_false, not_false_eq_true, L_lt_t, L_lt_f, L_eq_t, L_eq_f, lg_gt, lg_eq, lg_lt]
          have endM : ∀ q x, f_M_after (k + 2) m2 (q + 1) 6 (J a, J b, J c, J 0, J y, J 0, J 0, x, J 0) = some (J (if y ≤ 99999 ∧ lf H y c = b then (y : Int) else -1), J 0) := fun q x => by
            clear hz hV hx1 hyd eC bad endC
            by_cases hy9 : y ≤ 99999
            · by_cases hl' : lf H y c = b
              · rw [if_pos ⟨hy9, hl'⟩]
                simp (disch := omega) only [f_M_after, e6, J_lit, J_add, J_sub, J_mul, J_neg, J_nat, J_inb, J_div, ↓reduceIte, Int.toNat_natCast, Option.bind_some, J_le_t, J_le_f, J_lt_t, J_lt_f, J_eq_t, J_eq_f, L_lit, L_add, L_sub, L_mul, L_div, JL, LJ, Int.reduceToNat, Int.toNat_zero, Int.toNat_one, xb, xm, within_t, within_f, nb_t, nb_f, ni_t, ni_f, in_t, in_f, less_, bad_0, bad_1, not_true_eq_false, not_false_eq_true, L_lt_t, L_lt_f, L_eq_t, L_eq_f, lg_gt, lg_eq, lg_lt]
              · rw [if_neg (fun h => hl' h.2)]
                simp (disch := omega) only [f_M_after, e6, J_lit, J_add, J_sub, J_mul, J_neg, J_nat, J_inb, J_div, ↓reduceIte, Int.toNat_natCast, Option.bind_some, J_le_t, J_le_f, J_lt_t, J_lt_f, J_eq_t, J_eq_f, L_lit, L_add, L_sub, L_mul, L_div, JL, LJ, Int.reduceToNat, Int.toNat_zero, Int.toNat_one, xb, xm, within_t, within_f, nb_t, nb_f, ni_t, ni_f, in_t, in_f, less_, bad_0, bad_1, not_true_eq_false, not_false_eq_true, L_lt_t, L_lt_f, L_eq_t, L_eq_f, lg_gt, lg_eq, lg_lt]
            · rw [if_neg (fun h => hy9 h.1)]
              have := in_f (k + 2) (a := y) (b := 0) (c := 99999) (by omega) (by omega) (by omega) (by omega)
              simp (disch := omega) only [f_M_after, this, J_lit, J_add, J_sub, J_mul, J_neg, J_nat, J_inb, J_div, ↓reduceIte, Int.toNat_natCast, Option.bind_some, J_le_t, J_le_f, J_lt_t, J_lt_f, J_eq_t, J_eq_f, L_lit, L_add, L_sub, L_mul, L_div, JL, LJ, Int.reduceToNat, Int.toNat_zero, Int.toNat_one, xb, xm, within_t, within_f, nb_t, nb_f, ni_t, ni_f, in_t, in_f, less_, bad_0, bad_1, not_true_eq_false, not_false_eq_true, L_lt_t, L_lt_f, L_eq_t, L_eq_f, lg_gt, lg_eq, lg_lt]
          have hrr : -2147483648 ≤ (if y ≤ 99999 ∧ lf H y c = b then (y : Int) else -1) ∧ (if y ≤ 99999 ∧ lf H y c = b then (y : Int) else -1) < 2147483648 := by
            split <;> omega
          obtain ⟨m', q1, q3⟩ := M_least (k + 2) (by omega) hx0 hh (n := c) (by omega) (s := a) (by omega) q2 (J b) (J d) 17 0 100000 (by omega) (by omega) (by decide) (by omega) (k - 1) (by omega)
          rw [hV] at q3
          obtain ⟨m', rfl⟩ : ∃ z, m' = z + 2 := ⟨m' - 2, by omega⟩
          obtain ⟨k, rfl⟩ : ∃ z, k = z + 1 := ⟨k - 1, by omega⟩
          refine ⟨(J 0, vp_updL o 0 (L (if y ≤ 99999 ∧ lf H y c = b then (y : Int) else -1))), (J (if y ≤ 99999 ∧ lf H y c = b then (y : Int) else -1), J 0), ?_, ?_, AA_L o hrr⟩
          · generalize (if y ≤ 99999 ∧ lf H y c = b then (y : Int) else -1) = A at *
            rcases hx1 with ⟨hd0, hxb⟩ | ⟨hd0, hxb⟩
            · have : y = V := by omega
              subst hd0 hxb this
              clear q3 bad endM hz hV hyd
              simp (disch := omega) only [sp_W_after, sp_after, n1, n2, n3, hold, eC, endC, J_lit, J_add, J_sub, J_mul, J_neg, J_nat, J_inb, J_div, ↓reduceIte, Int.toNat_natCast, Option.bind_some, J_le_t, J_le_f, J_lt_t, J_lt_f, J_eq_t, J_eq_f, L_lit, L_add, L_sub, L_mul, L_div, JL, LJ, Int.reduceToNat, Int.toNat_zero, Int.toNat_one, xb, xm, within_t, within_f, nb_t, nb_f, ni_t, ni_f, in_t, in_f, less_, bad_0, bad_1, not_true_eq_false, not_false_eq_true, L_lt_t, L_lt_f, L_eq_t, L_eq_f, lg_gt, lg_eq, lg_lt]
            · have : (V : Int) - 1 = y := by omega
              subst hxb
              clear q3 bad endM hz hV hyd
              simp (disch := omega) only [sp_W_after, sp_after, n1, n2, n3, hold, cast1, eC, this, endC, J_lit, J_add, J_sub, J_mul, J_neg, J_nat, J_inb, J_div, ↓reduceIte, Int.toNat_natCast, Option.bind_some, J_le_t, J_le_f, J_lt_t, J_lt_f, J_eq_t, J_eq_f, L_lit, L_add, L_sub, L_mul, L_div, JL, LJ, Int.reduceToNat, Int.toNat_zero, Int.toNat_one, xb, xm, within_t, within_f, nb_t, nb_f, ni_t, ni_f, in_t, in_f, less_, bad_0, bad_1, not_true_eq_false, not_false_eq_true, L_lt_t, L_lt_f, L_eq_t, L_eq_f, lg_gt, lg_eq, lg_lt]
          · generalize (if y ≤ 99999 ∧ lf H y c = b then (y : Int) else -1) = A at *
            rw [show k + 1 - 1 = k by omega] at q3
            rcases hx1 with ⟨hd0, hxb⟩ | ⟨hd0, hxb⟩
            · have : y = V := by omega
              subst hd0 hxb this
              have s1 : sp_M_after (k + 1 + 2) (J a) (J x0) (J c) (J 0) thr m2 = f_M_after (k + 1 + 2) m2 k 4 (J a, J x0, J c, J 0, J 0, J (0 : Nat), J (100000 : Nat), J x0, J 0) := by
                clear q3 bad endM hz hV hyd endC
                simp (disch := omega) only [sp_M_after, i1, i2, i3, f_M_after, q2, J_lit, J_add, J_sub, J_mul, J_neg, J_nat, J_inb, J_div, ↓reduceIte, Int.toNat_natCast, Option.bind_some, J_le_t, J_le_f, J_lt_t, J_lt_f, J_eq_t, J_eq_f, L_lit, L_add, L_sub, L_mul, L_div, JL, LJ, Int.reduceToNat, Int.toNat_zero, Int.toNat_one, xb, xm, within_t, within_f, nb_t, nb_f, ni_t, ni_f, in_t, in_f, less_, bad_0, bad_1, not_true_eq_false, not_false_eq_true, L_lt_t, L_lt_f, L_eq_t, L_eq_f, lg_gt, lg_eq, lg_lt]
                rfl
              rw [s1, q3, ← endM m' (J 0)]
              clear q3 bad endM hz hV hyd endC s1
              rw [f_M_after]
              simp (disch := omega) only [J_lit, J_add, J_sub, J_mul, J_neg, J_nat, J_inb, J_div, ↓reduceIte, Int.toNat_natCast, Option.bind_some, J_le_t, J_le_f, J_lt_t, J_lt_f, J_eq_t, J_eq_f, L_lit, L_add, L_sub, L_mul, L_div, JL, LJ, Int.reduceToNat, Int.toNat_zero, Int.toNat_one, xb, xm, within_t, within_f, nb_t, nb_f, ni_t, ni_f, in_t, in_f, less_, bad_0, bad_1, not_true_eq_false, not_false_eq_true, L_lt_t, L_lt_f, L_eq_t, L_eq_f, lg_gt, lg_eq, lg_lt]
            · have : (V : Int) - 1 = y := by omega
              subst hxb
              have s1 : sp_M_after (k + 1 + 2) (J a) (J b) (J c) (J d) thr m2 = f_M_after (k + 1 + 2) m2 k 4 (J a, J b, J c, J d, J 0, J (0 : Nat), J (100000 : Nat), J (b + 1 : Nat), J 0) := by
                clear q3 bad endM hz hV hyd endC
                simp (disch := omega) only [sp_M_after, i1, i2, i3, f_M_after, q2, cast1, J_lit, J_add, J_sub, J_mul, J_neg, J_nat, J_inb, J_div, ↓reduceIte, Int.toNat_natCast, Option.bind_some, J_le_t, J_le_f, J_lt_t, J_lt_f, J_eq_t, J_eq_f, L_lit, L_add, L_sub, L_mul, L_div, JL, LJ, Int.reduceToNat, Int.toNat_zero, Int.toNat_one, xb, xm, within_t, within_f, nb_t, nb_f, ni_t, ni_f, in_t, in_f, less_, bad_0, bad_1, not_true_eq_false, not_false_eq_true, L_lt_t, L_lt_f, L_eq_t, L_eq_f, lg_gt, lg_eq, lg_lt]
                rfl
              rw [s1, q3, ← endM m' (J 0)]
              clear q3 bad endM hz hV hyd endC s1
              rw [f_M_after]
              simp (disch := omega) only [this, J_lit, J_add, J_sub, J_mul, J_neg, J_nat, J_inb, J_div, ↓reduceIte, Int.toNat_natCast, Option.bind_some, J_le_t, J_le_f, J_lt_t, J_lt_f, J_eq_t, J_eq_f, L_lit, L_add, L_sub, L_mul, L_div, JL, LJ, Int.reduceToNat, Int.toNat_zero, Int.toNat_one, xb, xm, within_t, within_f, nb_t, nb_f, ni_t, ni_f, in_t, in_f, less_, bad_0, bad_1, not_true_eq_false, not_false_eq_true, L_lt_t, L_lt_f, L_eq_t, L_eq_f, lg_gt, lg_eq, lg_lt]
      · have n3 := nb_f (k + 2) hc (b := 61) (by omega) (by omega)
        have i3 := in_f (k + 2) (a := c) (b := 0) (c := 60) hc (by omega) (by omega) (by omega)
        exact ⟨_, _, by simp (disch := omega) only [sp_W_after, sp_after, n1, n2, n3, J_lit, J_add, J_sub, J_mul, J_neg, J_nat, J_inb, J_div, ↓reduceIte, Int.toNat_natCast, Option.bind_some, J_le_t, J_le_f, J_lt_t, J_lt_f, J_eq_t, J_eq_f, L_lit, L_add, L_sub, L_mul, L_div, JL, LJ, Int.reduceToNat, Int.toNat_zero, Int.toNat_one, xb, xm, within_t, within_f, nb_t, nb_f, ni_t, ni_f, in_t, in_f, less_, bad_0, bad_1, not_true_eq_false, not_false_eq_true, L_lt_t, L_lt_f, L_eq_t, L_eq_f, lg_gt, lg_eq, lg_lt]; rfl, by
          rw [show (J 0 : Int32) = 0 from rfl] at i1 i2 i3
          rw [show (J 9 : Int32) = 9 from rfl] at i1
          rw [show (J 9999 : Int32) = 9999 from rfl] at i2
          rw [show (J 60 : Int32) = 60 from rfl] at i3
          simp only [sp_M_after, i1, i2, i3, bad, Option.bind_some, ↓reduceIte, lt10, lt20, lt00, lj00, lj10, lj20, xb, xm]; rfl, ⟨rfl, fun h => by cases h⟩⟩
    · have n2 := nb_f (k + 2) hb (b := 10000) (by omega) (by omega)
      have i2 := in_f (k + 2) (a := b) (b := 0) (c := 9999) hb (by omega) (by omega) (by omega)
      exact ⟨_, _, by simp (disch := omega) only [sp_W_after, sp_after, n1, n2, J_lit, J_add, J_sub, J_mul, J_neg, J_nat, J_inb, J_div, ↓reduceIte, Int.toNat_natCast, Option.bind_some, J_le_t, J_le_f, J_lt_t, J_lt_f, J_eq_t, J_eq_f, L_lit, L_add, L_sub, L_mul, L_div, JL, LJ, Int.reduceToNat, Int.toNat_zero, Int.toNat_one, xb, xm, within_t, within_f, nb_t, nb_f, ni_t, ni_f, in_t, in_f, less_, bad_0, bad_1, not_true_eq_false, not_false_eq_true, L_lt_t, L_lt_f, L_eq_t, L_eq_f, lg_gt, lg_eq, lg_lt]; rfl, by
        rw [show (J 0 : Int32) = 0 from rfl] at i1 i2
        rw [show (J 9 : Int32) = 9 from rfl] at i1
        rw [show (J 9999 : Int32) = 9999 from rfl] at i2
        simp only [sp_M_after, i1, i2, bad, Option.bind_some, ↓reduceIte, lt10, lt20, lt00, lj00, lj10, lj20, xb, xm]; rfl, ⟨rfl, fun h => by cases h⟩⟩
  · have n1 := nb_f (k + 2) ha (b := 10) (by omega) (by omega)
    have i1 := in_f (k + 2) (a := a) (b := 0) (c := 9) ha (by omega) (by omega) (by omega)
    exact ⟨_, _, by simp (disch := omega) only [sp_W_after, sp_after, n1, J_lit, J_add, J_sub, J_mul, J_neg, J_nat, J_inb, J_div, ↓reduceIte, Int.toNat_natCast, Option.bind_some, J_le_t, J_le_f, J_lt_t, J_lt_f, J_eq_t, J_eq_f, L_lit, L_add, L_sub, L_mul, L_div, JL, LJ, Int.reduceToNat, Int.toNat_zero, Int.toNat_one, xb, xm, within_t, within_f, nb_t, nb_f, ni_t, ni_f, in_t, in_f, less_, bad_0, bad_1, not_true_eq_false, not_false_eq_true, L_lt_t, L_lt_f, L_eq_t, L_eq_f, lg_gt, lg_eq, lg_lt]; rfl, by
      rw [show (J 0 : Int32) = 0 from rfl] at i1
      rw [show (J 9 : Int32) = 9 from rfl] at i1
      simp only [sp_M_after, i1, bad, Option.bind_some, ↓reduceIte, lt10, lt20, lt00, lj00, lj10, lj20, xb, xm]; rfl, ⟨rfl, fun h => by cases h⟩⟩
