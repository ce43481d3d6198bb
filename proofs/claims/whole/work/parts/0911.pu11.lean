def sgv (c : Nat → Bool) : Nat → Nat → Int
  | 0, _ => 0
  | r + 1, i => if c i = true then 1 else sgv c r (i + 1)
set_option maxHeartbeats 2000000 in
theorem sgv_rng (c : Nat → Bool) : ∀ r i, sgv c r i = 0 ∨ sgv c r i = 1
  | 0, _ => Or.inl rfl
  | r + 1, i => by
    rw [sgv]; split
    · exact Or.inr rfl
    · exact sgv_rng c r (i + 1)
def sgc (l : LA) (F : Nat → Nat → Nat) (w : Int) (p h i : Nat) : Bool := decide (F i 0 = p ∧ h ≤ F i 1 ∧ 0 < F i 3 ∧ 0 < shd l w (F i 2))
set_option maxHeartbeats 2000000 in
theorem p_showsOn (K : Nat) (hK : 1000 ≤ K) {l : LA} (hl : LOK l) {c1 : Nat → Int32} (hA : ∀ g, g < 8 → ∀ s, s < 10 → c1 (g * 10 + s) = J (lsh l g s)) {fn : Nat} {F : Nat → Nat → Nat} {f1 f2 f3 f4 : Nat → Int32} {fs : Int32} {mf : Nat → Nat → Int32} {mfn : Int32} (hF : RFinds f1 f2 f3 f4 fs mf mfn fn F) {w : Int} (hw : -1 ≤ w ∧ w ≤ 7) {p h : Nat} (hp : p < 10) (hh : h < 100) : sp_showsOn K (J p) (J w) (J h) f1 f2 f3 f4 fs c1 = some (J (sgv (sgc l F w p h) fn 0)) := by
  obtain ⟨hfn, rfl, rfl, hv, h1, h2, h3, h4, hg⟩ := hF
  have key : ∀ (r i : Nat), i + r = fn → ∀ m, 4 * r + 1 ≤ m → f_showsOn K f1 f2 f3 f4 (J fn) c1 m 0 (J p, J w, J h, J i, J 0) = some (J (sgv (sgc l F w p h) r i)) := by
    intro r
    induction r with
    | zero =>
      intro i hi m hm
      obtain ⟨m, rfl⟩ : ∃ k, m = k + 1 := ⟨m - 1, by omega⟩
      rw [sgv]
      simp (disch := omega) only [f_showsOn, J_lit, J_add, J_sub, J_mul, J_neg, J_nat, J_inb, J_div, ↓reduceIte, Int.toNat_natCast, Option.bind_some, J_le_t, J_le_f, J_lt_t, J_lt_f, J_eq_t, J_eq_f, L_lit, L_add, L_sub, L_mul, L_div, JL, LJ, Int.reduceToNat, Int.toNat_zero, Int.toNat_one, xb, xm, within_t, within_f, nb_t, nb_f, ni_t, ni_f, in_t, in_f, less_, bad_0, bad_1, not_true_eq_false, not_false_eq_true, L_lt_t, L_lt_f, L_eq_t, L_eq_f, lg_gt, lg_eq, lg_lt]
    | succ r ih =>
      intro i hi m hm
      have q1 := h1 i (by omega)
      have q2 := h2 i (by omega)
      have q3 := h3 i (by omega)
      have q4 := h4 i (by omega)
      obtain ⟨w0, w1, w2, w3⟩ := hv i (by omega)
      rw [sgv]
      by_cases c0 : F i 0 = p ∧ h ≤ F i 1 ∧ 0 < F i 3
      · obtain ⟨b0, b1, b3⟩ := c0
        have eS := shedBy_ K hK hw w2 hA
        have hS := shd_le hl hw w2
        obtain ⟨m, rfl⟩ : ∃ k, m = k + 3 := ⟨m - 3, by omega⟩
        by_cases c1' : 0 < shd l w (F i 2)
        · rw [if_pos (show sgc l F w p h i = true from decide_eq_true ⟨b0, b1, b3, c1'⟩)]
          clear ih hv hg
          simp (disch := omega) only [f_showsOn, q1, q2, q3, q4, b0, eS, J_lit, J_add, J_sub, J_mul, J_neg, J_nat, J_inb, J_div, ↓reduceIte, Int.toNat_natCast, Option.bind_some, J_le_t, J_le_f, J_lt_t, J_lt_f, J_eq_t, J_eq_f, L_lit, L_add, L_sub, L_mul, L_div, JL, LJ, Int.reduceToNat, Int.toNat_zero, Int.toNat_one, xb, xm, within_t, within_f, nb_t, nb_f, ni_t, ni_f, in_t, in_f, less_, bad_0, bad_1, not_true_eq_false, not_false_eq_true, L_lt_t, L_lt_f, L_eq_t, L_eq_f, lg_gt, lg_eq, lg_lt]
        · have hc : ¬ sgc l F w p h i = true := fun e => c1' (of_decide_eq_true e).2.2.2
          rw [if_neg hc, ← ih (i + 1) (by omega) m (by omega)]
          clear ih hv hg hc
          simp (disch := omega) only [f_showsOn, q1, q2, q3, q4, b0, eS, cast1, J_lit, J_add, J_sub, J_mul, J_neg, J_nat, J_inb, J_div, ↓reduceIte, Int.toNat_natCast, Option.bind_some, J_le_t, J_le_f, J_lt_t, J_lt_f, J_eq_t, J_eq_f, L_lit, L_add, L_sub, L_mul, L_div, JL, LJ, Int.reduceToNat, Int.toNat_zero, Int.toNat_one, xb, xm, within_t, within_f, nb_t, nb_f, ni_t, ni_f, in_t, in_f, less_, bad_0, bad_1, not_true_eq_false, not_false_eq_true, L_lt_t, L_lt_f, L_eq_t, L_eq_f, lg_gt, lg_eq, lg_lt]
      · have hc : ¬ sgc l F w p h i = true := fun e => c0 ⟨(of_decide_eq_true e).1, (of_decide_eq_true e).2.1, (of_decide_eq_true e).2.2.1⟩
        obtain ⟨m, rfl⟩ : ∃ k, m = k + 4 := ⟨m - 4, by omega⟩
        rw [if_neg hc, ← ih (i + 1) (by omega) m (by omega)]
        clear ih hv hg hc
        by_cases b0 : F i 0 = p
        · by_cases b1 : h ≤ F i 1
          · have b3 : F i 3 = 0 := by omega
            clear c0
            simp (disch := omega) only [f_showsOn, q1, q2, q3, q4, b0, b3, cast1, J_lit, J_add, J_sub, J_mul, J_neg, J_nat, J_inb, J_div, ↓reduceIte, Int.toNat_natCast, Option.bind_some, J_le_t, J_le_f, J_lt_t, J_lt_f, J_eq_t, J_eq_f, L_lit, L_add, L_sub, L_mul, L_div, JL, LJ, Int.reduceToNat, Int.toNat_zero, Int.toNat_one, xb, xm, within_t, within_f, nb_t, nb_f, ni_t, ni_f, in_t, in_f, less_, bad_0, bad_1, not_true_eq_false, not_false_eq_true, L_lt_t, L_lt_f, L_eq_t, L_eq_f, lg_gt, lg_eq, lg_lt]
          · clear c0
            simp (disch := omega) only [f_showsOn, q1, q2, q3, q4, b0, cast1, J_lit, J_add, J_sub, J_mul, J_neg, J_nat, J_inb, J_div, ↓reduceIte, Int.toNat_natCast, Option.bind_some, J_le_t, J_le_f, J_lt_t, J_lt_f, J_eq_t, J_eq_f, L_lit, L_add, L_sub, L_mul, L_div, JL, LJ, Int.reduceToNat, Int.toNat_zero, Int.toNat_one, xb, xm, within_t, within_f, nb_t, nb_f, ni_t, ni_f, in_t, in_f, less_, bad_0, bad_1, not_true_eq_false, not_false_eq_true, L_lt_t, L_lt_f, L_eq_t, L_eq_f, lg_gt, lg_eq, lg_lt]
        · clear c0
          simp (disch := omega) only [f_showsOn, q1, q2, q3, q4, cast1, J_lit, J_add, J_sub, J_mul, J_neg, J_nat, J_inb, J_div, ↓reduceIte, Int.toNat_natCast, Option.bind_some, J_le_t, J_le_f, J_lt_t, J_lt_f, J_eq_t, J_eq_f, L_lit, L_add, L_sub, L_mul, L_div, JL, LJ, Int.reduceToNat, Int.toNat_zero, Int.toNat_one, xb, xm, within_t, within_f, nb_t, nb_f, ni_t, ni_f, in_t, in_f, less_, bad_0, bad_1, not_true_eq_false, not_false_eq_true, L_lt_t, L_lt_f, L_eq_t, L_eq_f, lg_gt, lg_eq, lg_lt]
  rw [← key fn 0 (by omega) K (by omega)]
  simp (disch := omega) only [sp_showsOn, J_lit, J_add, J_sub, J_mul, J_neg, J_nat, J_inb, J_div, ↓reduceIte, Int.toNat_natCast, Option.bind_some, J_le_t, J_le_f, J_lt_t, J_lt_f, J_eq_t, J_eq_f, L_lit, L_add, L_sub, L_mul, L_div, JL, LJ, Int.reduceToNat, Int.toNat_zero, Int.toNat_one, xb, xm, within_t, within_f, nb_t, nb_f, ni_t, ni_f, in_t, in_f, less_, bad_0, bad_1, not_true_eq_false, not_false_eq_true, L_lt_t, L_lt_f, L_eq_t, L_eq_f, lg_gt, lg_eq, lg_lt]
  rfl
set_option maxHeartbeats 2000000 in
theorem p_M_isSign (K : Nat) (hK : 1000 ≤ K) {l : LA} (hl : LOK l) {m1 : Nat → Nat → Int32} (hA : ∀ g, g < 8 → ∀ s, s < 10 → m1 g s = J (lsh l g s)) {fn : Nat} {F : Nat → Nat → Nat} {f1 f2 f3 f4 : Nat → Int32} {fs : Int32} {mf : Nat → Nat → Int32} {mfn : Int32} (hF : RFinds f1 f2 f3 f4 fs mf mfn fn F) {w : Int} (hw : -1 ≤ w ∧ w ≤ 7) {p h : Nat} (hp : p < 10) (hh : h < 100) : sp_M_isSign K (J w) (J p) (J h) m1 mfn mf = some (J (sgv (sgc l F w p h) fn 0)) := by
  obtain ⟨hfn, rfl, rfl, hv, h1, h2, h3, h4, hg⟩ := hF
  have key : ∀ (r i : Nat), i + r = fn → ∀ m, 2 * r + 1 ≤ m → f_M_isSign K m1 (J fn) mf m 0 (J w, J p, J h, J i) = some (J (sgv (sgc l F w p h) r i)) := by
    intro r
    induction r with
    | zero =>
      intro i hi m hm
      obtain ⟨m, rfl⟩ : ∃ k, m = k + 1 := ⟨m - 1, by omega⟩
      rw [sgv]
      simp (disch := omega) only [f_M_isSign, J_lit, J_add, J_sub, J_mul, J_neg, J_nat, J_inb, J_div, ↓reduceIte, Int.toNat_natCast, Option.bind_some, J_le_t, J_le_f, J_lt_t, J_lt_f, J_eq_t, J_eq_f, L_lit, L_add, L_sub, L_mul, L_div, JL, LJ, Int.reduceToNat, Int.toNat_zero, Int.toNat_one, xb, xm, within_t, within_f, nb_t, nb_f, ni_t, ni_f, in_t, in_f, less_, bad_0, bad_1, not_true_eq_false, not_false_eq_true, L_lt_t, L_lt_f, L_eq_t, L_eq_f, lg_gt, lg_eq, lg_lt]
    | succ r ih =>
      intro i hi m hm
      have q1 := hg i (by omega) 0 (by omega)
      have q2 := hg i (by omega) 1 (by omega)
      have q3 := hg i (by omega) 2 (by omega)
      have q4 := hg i (by omega) 3 (by omega)
      obtain ⟨w0, w1, w2, w3⟩ := hv i (by omega)
      obtain ⟨m, rfl⟩ : ∃ k, m = k + 2 := ⟨m - 2, by omega⟩
      rw [sgv]
      by_cases c0 : 0 ≤ w ∧ F i 0 = p ∧ h ≤ F i 1 ∧ 0 < F i 3
      · obtain ⟨bw, b0, b1, b3⟩ := c0
        obtain ⟨w, rfl⟩ : ∃ x : Nat, w = x := ⟨w.toNat, by omega⟩
        have eS := hA w (by omega) (F i 2) w2
        have hS := hl.1 w (by omega) (F i 2) w2
        have hsh : shd l w (F i 2) = lsh l w (F i 2) := by unfold shd; rw [if_neg (by omega), Int.toNat_natCast]
        by_cases c1' : 0 < shd l w (F i 2)
        · rw [if_pos (show sgc l F w p h i = true from decide_eq_true ⟨b0, b1, b3, c1'⟩)]
          rw [hsh] at c1'
          clear ih hv hg hA hsh
          simp (disch := omega) only [f_M_isSign, q1, q2, q3, q4, b0, eS, J_lit, J_add, J_sub, J_mul, J_neg, J_nat, J_inb, J_div, ↓reduceIte, Int.toNat_natCast, Option.bind_some, J_le_t, J_le_f, J_lt_t, J_lt_f, J_eq_t, J_eq_f, L_lit, L_add, L_sub, L_mul, L_div, JL, LJ, Int.reduceToNat, Int.toNat_zero, Int.toNat_one, xb, xm, within_t, within_f, nb_t, nb_f, ni_t, ni_f, in_t, in_f, less_, bad_0, bad_1, not_true_eq_false, not_false_eq_true, L_lt_t, L_lt_f, L_eq_t, L_eq_f, lg_gt, lg_eq, lg_lt]
        · have hc : ¬ sgc l F w p h i = true := fun e => c1' (of_decide_eq_true e).2.2.2
          rw [if_neg hc, ← ih (i + 1) (by omega) m (by omega)]
          rw [hsh] at c1'
          clear ih hv hg hc hA hsh
          simp (disch := omega) only [f_M_isSign, q1, q2, q3, q4, b0, eS, cast1, J_lit, J_add, J_sub, J_mul, J_neg, J_nat, J_inb, J_div, ↓reduceIte, Int.toNat_natCast, Option.bind_some, J_le_t, J_le_f, J_lt_t, J_lt_f, J_eq_t, J_eq_f, L_lit, L_add, L_sub, L_mul, L_div, JL, LJ, Int.reduceToNat, Int.toNat_zero, Int.toNat_one, xb, xm, within_t, within_f, nb_t, nb_f, ni_t, ni_f, in_t, in_f, less_, bad_0, bad_1, not_true_eq_false, not_false_eq_true, L_lt_t, L_lt_f, L_eq_t, L_eq_f, lg_gt, lg_eq, lg_lt]
      · have hc : ¬ sgc l F w p h i = true := fun e => c0 ⟨by
          rcases Int.lt_or_le w 0 with h0 | h0
          · have := (of_decide_eq_true e).2.2.2
            unfold shd at this
            rw [if_pos h0] at this
            omega
          · exact h0, (of_decide_eq_true e).1, (of_decide_eq_true e).2.1, (of_decide_eq_true e).2.2.1⟩
        rw [if_neg hc, ← ih (i + 1) (by omega) m (by omega)]
        clear ih hv hg hc hA
        by_cases bw : w = -1
        · subst bw
          clear c0
          simp (disch := omega) only [f_M_isSign, cast1, J_lit, J_add, J_sub, J_mul, J_neg, J_nat, J_inb, J_div, ↓reduceIte, Int.toNat_natCast, Option.bind_some, J_le_t, J_le_f, J_lt_t, J_lt_f, J_eq_t, J_eq_f, L_lit, L_add, L_sub, L_mul, L_div, JL, LJ, Int.reduceToNat, Int.toNat_zero, Int.toNat_one, xb, xm, within_t, within_f, nb_t, nb_f, ni_t, ni_f, in_t, in_f, less_, bad_0, bad_1, not_true_eq_false, not_false_eq_true, L_lt_t, L_lt_f, L_eq_t, L_eq_f, lg_gt, lg_eq, lg_lt]
        · by_cases b3 : F i 3 = 0
          · clear c0
            simp (disch := omega) only [f_M_isSign, q4, b3, cast1, J_lit, J_add, J_sub, J_mul, J_neg, J_nat, J_inb, J_div, ↓reduceIte, Int.toNat_natCast, Option.bind_some, J_le_t, J_le_f, J_lt_t, J_lt_f, J_eq_t, J_eq_f, L_lit, L_add, L_sub, L_mul, L_div, JL, LJ, Int.reduceToNat, Int.toNat_zero, Int.toNat_one, xb, xm, within_t, within_f, nb_t, nb_f, ni_t, ni_f, in_t, in_f, less_, bad_0, bad_1, not_true_eq_false, not_false_eq_true, L_lt_t, L_lt_f, L_eq_t, L_eq_f, lg_gt, lg_eq, lg_lt]
          · by_cases b0 : F i 0 = p
            · have b1 : F i 1 < h := by omega
              clear c0
              simp (disch := omega) only [f_M_isSign, q1, q2, q4, b0, cast1, J_lit, J_add, J_sub, J_mul, J_neg, J_nat, J_inb, J_div, ↓reduceIte, Int.toNat_natCast, Option.bind_some, J_le_t, J_le_f, J_lt_t, J_lt_f, J_eq_t, J_eq_f, L_lit, L_add, L_sub, L_mul, L_div, JL, LJ, Int.reduceToNat, Int.toNat_zero, Int.toNat_one, xb, xm, within_t, within_f, nb_t, nb_f, ni_t, ni_f, in_t, in_f, less_, bad_0, bad_1, not_true_eq_false, not_false_eq_true, L_lt_t, L_lt_f, L_eq_t, L_eq_f, lg_gt, lg_eq, lg_lt]
            · clear c0
              simp (disch := omega) only [f_M_isSign, q1, q4, cast1, J_lit, J_add, J_sub, J_mul, J_neg, J_nat, J_inb, J_div, ↓reduceIte, Int.toNat_natCast, Option.bind_some, J_le_t, J_le_f, J_lt_t, J_lt_f, J_eq_t, J_eq_f, L_lit, L_add, L_sub, L_mul, L_div, JL, LJ, Int.reduceToNat, Int.toNat_zero, Int.toNat_one, xb, xm, within_t, within_f, nb_t, nb_f, ni_t, ni_f, in_t, in_f, less_, bad_0, bad_1, not_true_eq_false, not_false_eq_true, L_lt_t, L_lt_f, L_eq_t, L_eq_f, lg_gt, lg_eq, lg_lt]
  rw [← key fn 0 (by omega) K (by omega)]
  simp (disch := omega) only [sp_M_isSign, J_lit, J_add, J_sub, J_mul, J_neg, J_nat, J_inb, J_div, ↓reduceIte, Int.toNat_natCast, Option.bind_some, J_le_t, J_le_f, J_lt_t, J_lt_f, J_eq_t, J_eq_f, L_lit, L_add, L_sub, L_mul, L_div, JL, LJ, Int.reduceToNat, Int.toNat_zero, Int.toNat_one, xb, xm, within_t, within_f, nb_t, nb_f, ni_t, ni_f, in_t, in_f, less_, bad_0, bad_1, not_true_eq_false, not_false_eq_true, L_lt_t, L_lt_f, L_eq_t, L_eq_f, lg_gt, lg_eq, lg_lt]
  rfl
set_option maxHeartbeats 2000000 in
theorem pc_signs (K : Nat) (hK : 1000000 ≤ K) (p1 p2 thr : Int32) {l : LA} {nr : Nat → Nat} {c1 c2 c3 c4 : Nat → Int32} {c5 c6 c7 : Int32} {m1 : Nat → Nat → Int32} {m2 m3 m4 : Nat → Int32} {m5 m6 m7 : Int32} (hL : HL l nr c1 c2 c3 c4 c5 c6 c7 m1 m2 m3 m4 m5 m6 m7) {m : Nat} {EN : Nat → Nat} {EE : Nat → Nat → Nat → Nat} {stories : Nat → Option Nat} {QS : Nat → Nat} {k1 k2 k3 k4 : Nat → Nat → Int32} {kn : Nat → Int32} {many : Nat → Int32} {ev : Nat → Nat → Int32} (hS : HS m EN EE stories QS k1 k2 k3 k4 kn many ev) {fn : Nat} {F : Nat → Nat → Nat} {f1 f2 f3 f4 : Nat → Int32} {fs : Int32} {mf : Nat → Nat → Int32} {mfn : Int32} (hF : RFinds f1 f2 f3 f4 fs mf mfn fn F) (j : Nat) (hj : SEL p1 m j) (o : Nat → Int64) : ∃ oc om, sp_W_signs K p1 p2 stories (QS j) (J m) (k1 j) (k2 j) (k3 j) (k4 j) (kn j) f1 f2 f3 f4 fs c1 o = some oc ∧ sp_M_signs K p1 p2 thr m1 (J m) many ev mfn mf = some om ∧ AA oc.1 oc.2 om.1 om.2 := by
  obtain ⟨hl, R, Q⟩ := hL
  obtain ⟨hm, hq, hst⟩ := hS
  obtain ⟨z, rfl, hz⟩ := ex_J p1
  obtain ⟨y, rfl, hy⟩ := ex_J p2
  by_cases h : 0 ≤ z ∧ z < m
  · obtain ⟨z, rfl⟩ : ∃ x : Nat, z = x := ⟨z.toNat, by omega⟩
    obtain rfl : j = z := hj z (by omega) rfl
    have hjm : j < m := by omega
    have eS := storyAt_t K hjm hm (hq j (by omega))
    have eI := isStory_t K (a := j) (n := m) (by omega) (by omega)
    obtain ⟨y1, y2, y3⟩ := hst j hjm
    have hn20 := y3.2.1
    have eM := y3.2.2.1
    have eKn := y2.1
    by_cases h' : 0 ≤ y ∧ y < EN j
    · obtain ⟨y, rfl⟩ : ∃ x : Nat, y = x := ⟨y.toNat, by omega⟩
      have hyn : y < EN j := by omega
      obtain ⟨o1, o2, o3, o4, o5, o6⟩ := y1.2.1 y hyn
      have v0 := y3.2.2.2 y hyn 0 (by omega)
      have v1 := y3.2.2.2 y hyn 1 (by omega)
      have v2 := y3.2.2.2 y hyn 2 (by omega)
      have v3 := y3.2.2.2 y hyn 3 (by omega)
      have t0 := y2.2.1 y hyn
      have t1 := y2.2.2.1 y hyn
      have t2 := y2.2.2.2.1 y hyn
      have t3 := y2.2.2.2.2 y hyn
      have eIn := in_t K (a := y) (b := 0) (c := ((EN j : Nat) : Int) - 1) (by omega) (by omega) (by omega) (by omega)
      have eIx : (20 : Int) * (j : Int) + (y : Int) = ((20 * j + y : Nat) : Int) := by omega
      by_cases hk : EE j y 0 = 2
      · obtain ⟨ho2, hne⟩ := o4 hk
        have a1 := p_wornBehind K (by omega) y1 y2 (a := EE j y 1) (m := y) o2 (by omega)
        have a2 := p_wornBehind K (by omega) y1 y2 (a := EE j y 2) (m := y) ho2 (by omega)
        have wr1 := wornA_le y1.2.1 (EE j y 1) y (by omega)
        have wr2 := wornA_le y1.2.1 (EE j y 2) y (by omega)
        have b1 := p_showsOn K (by omega) hl R.1 hF wr1 (p := EE j y 2) (h := EE j y 3) ho2 o6
        have b2 := p_showsOn K (by omega) hl R.1 hF wr2 (p := EE j y 1) (h := EE j y 3) o2 o6
        have d1 := p_M_isSign K (by omega) hl Q.1 hF wr1 (p := EE j y 2) (h := EE j y 3) ho2 o6
        have d2 := p_M_isSign K (by omega) hl Q.1 hF wr2 (p := EE j y 1) (h := EE j y 3) o2 o6
        have r1 := sgv_rng (sgc l F (wornA (EE j) (EE j y 1) y) (EE j y 2) (EE j y 3)) fn 0
        have r2 := sgv_rng (sgc l F (wornA (EE j) (EE j y 2) y) (EE j y 1) (EE j y 3)) fn 0
        obtain ⟨mm, s', z1, ⟨q1, q2, rfl⟩, z3⟩ := lp (fun k s => f_M_signs K m1 many ev mfn mf k 2 s) (fun i s => ∃ (e1 : i ≤ y) (e2 : i ≤ y), s = (J j, J y, J 0, 20 * j + y, J (wornA (EE j) (EE j y 1) i), J (wornA (EE j) (EE j y 2) i), J i, 0, J 0, J 0)) 5 y (by
          rintro i hi s ⟨e1, e2, rfl⟩ k
          obtain ⟨w1, w2, w3, w4, w5, w6⟩ := y1.2.1 i (by omega)
          have u0 := y3.2.2.2 i (by omega) 0 (by omega)
          have u1 := y3.2.2.2 i (by omega) 1 (by omega)
          have u2 := y3.2.2.2 i (by omega) 2 (by omega)
          have eIi : (20 : Int) * (j : Int) + (i : Int) = ((20 * j + i : Nat) : Int) := by omega
          have g1 : 20 * j + y < 80 := by omega
          have g2 : 20 * j + i < 80 := by omega
          clear r1 r2 b1 b2 d1 d2 a1 a2 hst R Q hF hl
          have hne' : ¬ EE j y 1 = EE j y 2 := fun e => hne e.symm
          have stp4 : ∀ (A B : Int), (∀ k, f_M_signs K m1 many ev mfn mf (k + 4) 2 (J j, J y, J 0, 20 * j + y, J (wornA (EE j) (EE j y 1) i), J (wornA (EE j) (EE j y 2) i), J i, 0, J 0, J 0) = f_M_signs K m1 many ev mfn mf k 2 (J j, J y, J 0, 20 * j + y, J A, J B, J (i + 1 : Nat), 0, J 0, J 0)) → wornA (EE j) (EE j y 1) (i + 1) = A → wornA (EE j) (EE j y 2) (i + 1) = B → ∃ n' s', k ≤ n' ∧ (∃ (e1 : i + 1 ≤ y) (e2 : i + 1 ≤ y), s' = (J j, J y, J 0, 20 * j + y, J (wornA (EE j) (EE j y 1) (i + 1)), J (wornA (EE j) (EE j y 2) (i + 1)), J (i + 1 : Nat), 0, J 0, J 0)) ∧ f_M_signs K m1 many ev mfn mf (k + 5) 2 (J j, J y, J 0, 20 * j + y, J (wornA (EE j) (EE j y 1) i), J (wornA (EE j) (EE j y 2) i), J i, 0, J 0, J 0) = f_M_signs K m1 many ev mfn mf n' 2 s' := fun A B hs hA hB => ⟨k + 1, _, by omega, ⟨by omega, by omega, rfl⟩, by rw [hA, hB]; exact hs (k + 1)⟩
          by_cases hk1 : EE j i 0 ≤ 1
          · by_cases ha : EE j i 1 = EE j y 1
            · by_cases hk0 : EE j i 0 = 0
              · refine stp4 (EE j i 2 : Nat) (wornA (EE j) (EE j y 2) i) (fun k => ?_) ?_ ?_
                · simp (disch := omega) only [f_M_signs, eIi, u0, u1, u2, v1, v2, ha, cast1, J_lit, J_add, J_sub, J_mul, J_neg, J_nat, J_inb, J_div, ↓reduceIte, Int.toNat_natCast, Option.bind_some, J_le_t, J_le_f, J_lt_t, J_lt_f, J_eq_t, J_eq_f, L_lit, L_add, L_sub, L_mul, L_div, JL, LJ, Int.reduceToNat, Int.toNat_zero, Int.toNat_one, xb, xm, within_t, within_f, nb_t, nb_f, ni_t, ni_f, in_t, in_f, less_, bad_0, bad_1, not_true_eq_false, not_false_eq_true, L_lt_t, L_lt_f, L_eq_t, L_eq_f, lg_gt, lg_eq, lg_lt]
                  simp only [hk0, g1, g2, ↓reduceIte, Int.natCast_zero]
                · rw [wornA, if_pos ⟨ha, hk0⟩]
                · rw [wornA, if_neg (by omega), if_neg (by omega)]
              · refine stp4 (-1) (wornA (EE j) (EE j y 2) i) (fun k => ?_) ?_ ?_
                · simp (disch := omega) only [f_M_signs, eIi, u0, u1, u2, v1, v2, ha, cast1, J_lit, J_add, J_sub, J_mul, J_neg, J_nat, J_inb, J_div, ↓reduceIte, Int.toNat_natCast, Option.bind_some, J_le_t, J_le_f, J_lt_t, J_lt_f, J_eq_t, J_eq_f, L_lit, L_add, L_sub, L_mul, L_div, JL, LJ, Int.reduceToNat, Int.toNat_zero, Int.toNat_one, xb, xm, within_t, within_f, nb_t, nb_f, ni_t, ni_f, in_t, in_f, less_, bad_0, bad_1, not_true_eq_false, not_false_eq_true, L_lt_t, L_lt_f, L_eq_t, L_eq_f, lg_gt, lg_eq, lg_lt]
                  simp only [hk0, g1, g2, ↓reduceIte, Int.natCast_zero]
                · rw [wornA, if_neg (by omega), if_pos (by omega)]
                · rw [wornA, if_neg (by omega), if_neg (by omega)]
            · by_cases hb : EE j i 1 = EE j y 2
              · by_cases hk0 : EE j i 0 = 0
                · refine stp4 (wornA (EE j) (EE j y 1) i) (EE j i 2 : Nat) (fun k => ?_) ?_ ?_
                  · simp (disch := omega) only [f_M_signs, eIi, u0, u1, u2, v1, v2, hb, cast1, J_lit, J_add, J_sub, J_mul, J_neg, J_nat, J_inb, J_div, ↓reduceIte, Int.toNat_natCast, Option.bind_some, J_le_t, J_le_f, J_lt_t, J_lt_f, J_eq_t, J_eq_f, L_lit, L_add, L_sub, L_mul, L_div, JL, LJ, Int.reduceToNat, Int.toNat_zero, Int.toNat_one, xb, xm, within_t, within_f, nb_t, nb_f, ni_t, ni_f, in_t, in_f, less_, bad_0, bad_1, not_true_eq_false, not_false_eq_true, L_lt_t, L_lt_f, L_eq_t, L_eq_f, lg_gt, lg_eq, lg_lt]
                    simp only [hk0, g1, g2, ↓reduceIte, Int.natCast_zero]
                  · rw [wornA, if_neg (by omega), if_neg (by omega)]
                  · rw [wornA, if_pos ⟨hb, hk0⟩]
                · refine stp4 (wornA (EE j) (EE j y 1) i) (-1) (fun k => ?_) ?_ ?_
                  · simp (disch := omega) only [f_M_signs, eIi, u0, u1, u2, v1, v2, hb, cast1, J_lit, J_add, J_sub, J_mul, J_neg, J_nat, J_inb, J_div, ↓reduceIte, Int.toNat_natCast, Option.bind_some, J_le_t, J_le_f, J_lt_t, J_lt_f, J_eq_t, J_eq_f, L_lit, L_add, L_sub, L_mul, L_div, JL, LJ, Int.reduceToNat, Int.toNat_zero, Int.toNat_one, xb, xm, within_t, within_f, nb_t, nb_f, ni_t, ni_f, in_t, in_f, less_, bad_0, bad_1, not_true_eq_false, not_false_eq_true, L_lt_t, L_lt_f, L_eq_t, L_eq_f, lg_gt, lg_eq, lg_lt]
                    simp only [hk0, g1, g2, ↓reduceIte, Int.natCast_zero]
                  · rw [wornA, if_neg (by omega), if_neg (by omega)]
                  · rw [wornA, if_neg (by omega), if_pos (by omega)]
              · have st3 : ∀ k, f_M_signs K m1 many ev mfn mf (k + 3) 2 (J j, J y, J 0, 20 * j + y, J (wornA (EE j) (EE j y 1) i), J (wornA (EE j) (EE j y 2) i), J i, 0, J 0, J 0) = f_M_signs K m1 many ev mfn mf k 2 (J j, J y, J 0, 20 * j + y, J (wornA (EE j) (EE j y 1) i), J (wornA (EE j) (EE j y 2) i), J (i + 1 : Nat), 0, J 0, J 0) := fun k => by
                  simp (disch := omega) only [f_M_signs, eIi, u0, u1, u2, v1, v2, cast1, J_lit, J_add, J_sub, J_mul, J_neg, J_nat, J_inb, J_div, ↓reduceIte, Int.toNat_natCast, Option.bind_some, J_le_t, J_le_f, J_lt_t, J_lt_f, J_eq_t, J_eq_f, L_lit, L_add, L_sub, L_mul, L_div, JL, LJ, Int.reduceToNat, Int.toNat_zero, Int.toNat_one, xb, xm, within_t, within_f, nb_t, nb_f, ni_t, ni_f, in_t, in_f, less_, bad_0, bad_1, not_true_eq_false, not_false_eq_true, L_lt_t, L_lt_f, L_eq_t, L_eq_f, lg_gt, lg_eq, lg_lt]
                  simp only [g1, g2, ↓reduceIte]
                exact ⟨k + 2, _, by omega, ⟨by omega, by omega, rfl⟩, by rw [wornA, if_neg (by omega), if_neg (by omega), wornA, if_neg (by omega), if_neg (by omega)]; exact st3 (k + 2)⟩
          · have st2 : ∀ k, f_M_signs K m1 many ev mfn mf (k + 2) 2 (J j, J y, J 0, 20 * j + y, J (wornA (EE j) (EE j y 1) i), J (wornA (EE j) (EE j y 2) i), J i, 0, J 0, J 0) = f_M_signs K m1 many ev mfn mf k 2 (J j, J y, J 0, 20 * j + y, J (wornA (EE j) (EE j y 1) i), J (wornA (EE j) (EE j y 2) i), J (i + 1 : Nat), 0, J 0, J 0) := fun k => by
              simp (disch := omega) only [f_M_signs, eIi, u0, u1, u2, v1, v2, cast1, J_lit, J_add, J_sub, J_mul, J_neg, J_nat, J_inb, J_div, ↓reduceIte, Int.toNat_natCast, Option.bind_some, J_le_t, J_le_f, J_lt_t, J_lt_f, J_eq_t, J_eq_f, L_lit, L_add, L_sub, L_mul, L_div, JL, LJ, Int.reduceToNat, Int.toNat_zero, Int.toNat_one, xb, xm, within_t, within_f, nb_t, nb_f, ni_t, ni_f, in_t, in_f, less_, bad_0, bad_1, not_true_eq_false, not_false_eq_true, L_lt_t, L_lt_f, L_eq_t, L_eq_f, lg_gt, lg_eq, lg_lt]
            exact ⟨k + 3, _, by omega, ⟨by omega, by omega, rfl⟩, by rw [wornA, if_neg (by omega), if_neg (by omega), wornA, if_neg (by omega), if_neg (by omega)]; exact st2 (k + 3)⟩) (J j, J y, J 0, 20 * j + y, J (-1), J (-1), J (0 : Nat), 0, J 0, J 0) ⟨by omega, by omega, rfl⟩ (K - 2) (by omega)
        obtain ⟨mm, rfl⟩ : ∃ q, mm = q + 3 := ⟨mm - 3, by omega⟩
        obtain ⟨k, rfl⟩ : ∃ k, K = k + 2 := ⟨K - 2, by omega⟩
        rw [show k + 2 - 2 = k by omega] at z3
        have g1 : 20 * j + y < 80 := by omega
        have eM1 : sp_M_signs (k + 2) (J j) (J y) thr m1 (J m) many ev mfn mf = f_M_signs (k + 2) m1 many ev mfn mf k 2 (J j, J y, J 0, 20 * j + y, J (-1), J (-1), J (0 : Nat), 0, J 0, J 0) := by
          clear z3 r1 r2 b1 b2 d1 d2 a1 a2 hst R Q hF hl y1 y2 y3
          simp (disch := omega) only [sp_M_signs, f_M_signs, eI, eM, eIn, eIx, v0, hk, J_lit, J_add, J_sub, J_mul, J_neg, J_nat, J_inb, J_div, ↓reduceIte, Int.toNat_natCast, Option.bind_some, J_le_t, J_le_f, J_lt_t, J_lt_f, J_eq_t, J_eq_f, L_lit, L_add, L_sub, L_mul, L_div, JL, LJ, Int.reduceToNat, Int.toNat_zero, Int.toNat_one, xb, xm, within_t, within_f, nb_t, nb_f, ni_t, ni_f, in_t, in_f, less_, bad_0, bad_1, not_true_eq_false, not_false_eq_true, L_lt_t, L_lt_f, L_eq_t, L_eq_f, lg_gt, lg_eq, lg_lt]
          rfl
        generalize sgv (sgc l F (wornA (EE j) (EE j y 1) y) (EE j y 2) (EE j y 3)) fn 0 = S1 at *
        generalize sgv (sgc l F (wornA (EE j) (EE j y 2) y) (EE j y 1) (EE j y 3)) fn 0 = S2 at *
        have eM2 : f_M_signs (k + 2) m1 many ev mfn mf (mm + 3) 2 (J j, J y, J 0, 20 * j + y, J (wornA (EE j) (EE j y 1) y), J (wornA (EE j) (EE j y 2) y), J y, 0, J 0, J 0) = some (J (S1 + 2 * S2), J 0) := by
          clear z3 b1 b2 a1 a2 hst R Q hF hl y1 y2 y3 eM1
          rcases r1 with r1 | r1 <;> rcases r2 with r2 | r2 <;> subst r1 <;> subst r2 <;> (simp (disch := omega) only [f_M_signs, v1, v2, v3, d1, d2, J_lit, J_add, J_sub, J_mul, J_neg, J_nat, J_inb, J_div, ↓reduceIte, Int.toNat_natCast, Option.bind_some, J_le_t, J_le_f, J_lt_t, J_lt_f, J_eq_t, J_eq_f, L_lit, L_add, L_sub, L_mul, L_div, JL, LJ, Int.reduceToNat, Int.toNat_zero, Int.toNat_one, xb, xm, within_t, within_f, nb_t, nb_f, ni_t, ni_f, in_t, in_f, less_, bad_0, bad_1, not_true_eq_false, not_false_eq_true, L_lt_t, L_lt_f, L_eq_t, L_eq_f, lg_gt, lg_eq, lg_lt]; simp only [g1, ↓reduceIte]; try rfl)
        have eC : sp_W_signs (k + 2) (J j) (J y) stories (QS j) (J m) (k1 j) (k2 j) (k3 j) (k4 j) (kn j) f1 f2 f3 f4 fs c1 o = some (J 0, vp_updL o 0 (L (S1 + 2 * S2))) := by
          clear z3 d1 d2 hst R Q hF hl y1 y2 y3 eM1 eM2
          rw [eKn] at a1 a2
          rcases r1 with r1 | r1 <;> rcases r2 with r2 | r2 <;> subst r1 <;> subst r2 <;> (simp (disch := omega) only [sp_W_signs, sp_signs, f_signs, eS, eKn, t0, t1, t2, t3, hk, a1, a2, b1, b2, J_lit, J_add, J_sub, J_mul, J_neg, J_nat, J_inb, J_div, ↓reduceIte, Int.toNat_natCast, Option.bind_some, J_le_t, J_le_f, J_lt_t, J_lt_f, J_eq_t, J_eq_f, L_lit, L_add, L_sub, L_mul, L_div, JL, LJ, Int.reduceToNat, Int.toNat_zero, Int.toNat_one, xb, xm, within_t, within_f, nb_t, nb_f, ni_t, ni_f, in_t, in_f, less_, bad_0, bad_1, not_true_eq_false, not_false_eq_true, L_lt_t, L_lt_f, L_eq_t, L_eq_f, lg_gt, lg_eq, lg_lt]; try rfl)
        exact ⟨_, _, eC, eM1.trans (Eq.trans z3 eM2), AA_L o (by omega)⟩
      · obtain ⟨k, rfl⟩ : ∃ k, K = k + 2 := ⟨K - 2, by omega⟩
        clear hst R Q hF hl y1 y2 y3
        refine ⟨_, _, by simp (disch := omega) only [sp_W_signs, sp_signs, eS, eKn, t0, J_lit, J_add, J_sub, J_mul, J_neg, J_nat, J_inb, J_div, ↓reduceIte, Int.toNat_natCast, Option.bind_some, J_le_t, J_le_f, J_lt_t, J_lt_f, J_eq_t, J_eq_f, L_lit, L_add, L_sub, L_mul, L_div, JL, LJ, Int.reduceToNat, Int.toNat_zero, Int.toNat_one, xb, xm, within_t, within_f, nb_t, nb_f, ni_t, ni_f, in_t, in_f, less_, bad_0, bad_1, not_true_eq_false, not_false_eq_true, L_lt_t, L_lt_f, L_eq_t, L_eq_f, lg_gt, lg_eq, lg_lt]; rfl, by simp (disch := omega) only [sp_M_signs, f_M_signs, eI, eM, eIn, eIx, v0, J_lit, J_add, J_sub, J_mul, J_neg, J_nat, J_inb, J_div, ↓reduceIte, Int.toNat_natCast, Option.bind_some, J_le_t, J_le_f, J_lt_t, J_lt_f, J_eq_t, J_eq_f, L_lit, L_add, L_sub, L_mul, L_div, JL, LJ, Int.reduceToNat, Int.toNat_zero, Int.toNat_one, xb, xm, within_t, within_f, nb_t, nb_f, ni_t, ni_f, in_t, in_f, less_, bad_0, bad_1, not_true_eq_false, not_false_eq_true, L_lt_t, L_lt_f, L_eq_t, L_eq_f, lg_gt, lg_eq, lg_lt]; rfl, (by first | exact AA_0 _ _ | exact AA_L _ (by omega))⟩
    · have eN := ni_f K hy (b := (EN j : Nat)) (by omega) (by omega)
      have eIn := in_f K (a := y) (b := 0) (c := ((EN j : Nat) : Int) - 1) hy (by omega) (by omega) (by omega)
      obtain ⟨k, rfl⟩ : ∃ k, K = k + 2 := ⟨K - 2, by omega⟩
      clear y1 y2 y3 hst hF R Q hl h'
      exact ⟨_, _, by simp (disch := omega) only [sp_W_signs, sp_signs, eS, eKn, eN, J_lit, J_add, J_sub, J_mul, J_neg, J_nat, J_inb, J_div, ↓reduceIte, Int.toNat_natCast, Option.bind_some, J_le_t, J_le_f, J_lt_t, J_lt_f, J_eq_t, J_eq_f, L_lit, L_add, L_sub, L_mul, L_div, JL, LJ, Int.reduceToNat, Int.toNat_zero, Int.toNat_one, xb, xm, within_t, within_f, nb_t, nb_f, ni_t, ni_f, in_t, in_f, less_, bad_0, bad_1, not_true_eq_false, not_false_eq_true, L_lt_t, L_lt_f, L_eq_t, L_eq_f, lg_gt, lg_eq, lg_lt]; rfl, by simp (disch := omega) only [sp_M_signs, f_M_signs, eI, eM, eIn, J_lit, J_add, J_sub, J_mul, J_neg, J_nat, J_inb, J_div, ↓reduceIte, Int.toNat_natCast, Option.bind_some, J_le_t, J_le_f, J_lt_t, J_lt_f, J_eq_t, J_eq_f, L_lit, L_add, L_sub, L_mul, L_div, JL, LJ, Int.reduceToNat, Int.toNat_zero, Int.toNat_one, xb, xm, within_t, within_f, nb_t, nb_f, ni_t, ni_f, in_t, in_f, less_, bad_0, bad_1, not_true_eq_false, not_false_eq_true, L_lt_t, L_lt_f, L_eq_t, L_eq_f, lg_gt, lg_eq, lg_lt]; rfl, (by exact AA_e _ _ (by omega))⟩
  · have eS := storyAt_f K hz hm (by omega) stories (QS j)
    have eI := isStory_f K hz h (by omega)
    obtain ⟨k, rfl⟩ : ∃ k, K = k + 2 := ⟨K - 2, by omega⟩
    exact ⟨_, _, by simp (disch := omega) only [sp_W_signs, sp_signs, eS, J_lit, J_add, J_sub, J_mul, J_neg, J_nat, J_inb, J_div, ↓reduceIte, Int.toNat_natCast, Option.bind_some, J_le_t, J_le_f, J_lt_t, J_lt_f, J_eq_t, J_eq_f, L_lit, L_add, L_sub, L_mul, L_div, JL, LJ, Int.reduceToNat, Int.toNat_zero, Int.toNat_one, xb, xm, within_t, within_f, nb_t, nb_f, ni_t, ni_f, in_t, in_f, less_, bad_0, bad_1, not_true_eq_false, not_false_eq_true, L_lt_t, L_lt_f, L_eq_t, L_eq_f, lg_gt, lg_eq, lg_lt]; rfl, by simp only [sp_M_signs, eI, f_M_signs, lbad1 (k + 2) (by omega), Option.bind_some, ↓reduceIte, lt10, lt20, lt00, lj00, lj10, lj20, xb, xm]; rfl, ⟨rfl, fun h => by cases h⟩⟩
def lkc (F : Nat → Nat → Nat) (p h g i : Nat) : Bool := decide (F i 0 = p ∧ F i 1 = h ∧ g.testBit (F i 2) = true)
set_option maxHeartbeats 2000000 in
theorem p_lookedAt (K : Nat) (hK : 1000 ≤ K) {fn : Nat} {F : Nat → Nat → Nat} {f1 f2 f3 f4 : Nat → Int32} {fs : Int32} {mf : Nat → Nat → Int32} {mfn : Int32} (hF : RFinds f1 f2 f3 f4 fs mf mfn fn F) {p h g : Nat} (hp : p < 10) (hh : h < 100) (hg' : g < 1024) : sp_Finds_lookedAt K (J p) (J h) (J g) f1 f2 f3 fs = some (J (sgv (lkc F p h g) fn 0)) := by
  obtain ⟨hfn, rfl, rfl, hv, h1, h2, h3, h4, hg⟩ := hF
  have key : ∀ (r i : Nat), i + r = fn → ∀ m, 2 * r + 1 ≤ m → f_Finds_lookedAt K f1 f2 f3 (J fn) m 0 (J p, J h, J g, J i) = some (J (sgv (lkc F p h g) r i)) := by
    intro r
    induction r with
    | zero =>
      intro i hi m hm
      obtain ⟨m, rfl⟩ : ∃ k, m = k + 1 := ⟨m - 1, by omega⟩
      rw [sgv]
      simp (disch := omega) only [f_Finds_lookedAt, J_lit, J_add, J_sub, J_mul, J_neg, J_nat, J_inb, J_div, ↓reduceIte, Int.toNat_natCast, Option.bind_some, J_le_t, J_le_f, J_lt_t, J_lt_f, J_eq_t, J_eq_f, L_lit, L_add, L_sub, L_mul, L_div, JL, LJ, Int.reduceToNat, Int.toNat_zero, Int.toNat_one, xb, xm, within_t, within_f, nb_t, nb_f, ni_t, ni_f, in_t, in_f, less_, bad_0, bad_1, not_true_eq_false, not_false_eq_true, L_lt_t, L_lt_f, L_eq_t, L_eq_f, lg_gt, lg_eq, lg_lt]
    | succ r ih =>
      intro i hi m hm
      obtain ⟨m, rfl⟩ : ∃ k, m = k + 2 := ⟨m - 2, by omega⟩
      have q1 := h1 i (by omega)
      have q2 := h2 i (by omega)
      have q3 := h3 i (by omega)
      obtain ⟨w0, w1, w2, w3⟩ := hv i (by omega)
      have eb := bitJ (a := g) (s := F i 2) (by omega)
      rw [sgv]
      by_cases b0 : F i 0 = p
      · by_cases b1 : F i 1 = h
        · by_cases b2 : g.testBit (F i 2) = true
          · rw [if_pos (show lkc F p h g i = true from decide_eq_true ⟨b0, b1, b2⟩)]
            clear ih hv hg
            simp (disch := omega) only [f_Finds_lookedAt, q1, q2, q3, b0, b1, eb, b2, J_lit, J_add, J_sub, J_mul, J_neg, J_nat, J_inb, J_div, ↓reduceIte, Int.toNat_natCast, Option.bind_some, J_le_t, J_le_f, J_lt_t, J_lt_f, J_eq_t, J_eq_f, L_lit, L_add, L_sub, L_mul, L_div, JL, LJ, Int.reduceToNat, Int.toNat_zero, Int.toNat_one, xb, xm, within_t, within_f, nb_t, nb_f, ni_t, ni_f, in_t, in_f, less_, bad_0, bad_1, not_true_eq_false, not_false_eq_true, L_lt_t, L_lt_f, L_eq_t, L_eq_f, lg_gt, lg_eq, lg_lt]
          · have hc : ¬ lkc F p h g i = true := fun e => b2 (of_decide_eq_true e).2.2
            rw [if_neg hc, ← ih (i + 1) (by omega) m (by omega)]
            clear ih hv hg hc
            simp (disch := omega) only [f_Finds_lookedAt, q1, q2, q3, b0, b1, eb, b2, Bool.false_eq_true, cast1, J_lit, J_add, J_sub, J_mul, J_neg, J_nat, J_inb, J_div, ↓reduceIte, Int.toNat_natCast, Option.bind_some, J_le_t, J_le_f, J_lt_t, J_lt_f, J_eq_t, J_eq_f, L_lit, L_add, L_sub, L_mul, L_div, JL, LJ, Int.reduceToNat, Int.toNat_zero, Int.toNat_one, xb, xm, within_t, within_f, nb_t, nb_f, ni_t, ni_f, in_t, in_f, less_, bad_0, bad_1, not_true_eq_false, not_false_eq_true, L_lt_t, L_lt_f, L_eq_t, L_eq_f, lg_gt, lg_eq, lg_lt]
        · have hc : ¬ lkc F p h g i = true := fun e => b1 (of_decide_eq_true e).2.1
          rw [if_neg hc, ← ih (i + 1) (by omega) m (by omega)]
          clear ih hv hg hc
          simp (disch := omega) only [f_Finds_lookedAt, q1, q2, q3, b0, cast1, J_lit, J_add, J_sub, J_mul, J_neg, J_nat, J_inb, J_div, ↓reduceIte, Int.toNat_natCast, Option.bind_some, J_le_t, J_le_f, J_lt_t, J_lt_f, J_eq_t, J_eq_f, L_lit, L_add, L_sub, L_mul, L_div, JL, LJ, Int.reduceToNat, Int.toNat_zero, Int.toNat_one, xb, xm, within_t, within_f, nb_t, nb_f, ni_t, ni_f, in_t, in_f, less_, bad_0, bad_1, not_true_eq_false, not_false_eq_true, L_lt_t, L_lt_f, L_eq_t, L_eq_f, lg_gt, lg_eq, lg_lt]
      · have hc : ¬ lkc F p h g i = true := fun e => b0 (of_decide_eq_true e).1
        rw [if_neg hc, ← ih (i + 1) (by omega) m (by omega)]
        clear ih hv hg hc
        simp (disch := omega) only [f_Finds_lookedAt, q1, q2, q3, cast1, J_lit, J_add, J_sub, J_mul, J_neg, J_nat, J_inb, J_div, ↓reduceIte, Int.toNat_natCast, Option.bind_some, J_le_t, J_le_f, J_lt_t, J_lt_f, J_eq_t, J_eq_f, L_lit, L_add, L_sub, L_mul, L_div, JL, LJ, Int.reduceToNat, Int.toNat_zero, Int.toNat_one, xb, xm, within_t, within_f, nb_t, nb_f, ni_t, ni_f, in_t, in_f, less_, bad_0, bad_1, not_true_eq_false, not_false_eq_true, L_lt_t, L_lt_f, L_eq_t, L_eq_f, lg_gt, lg_eq, lg_lt]
  rw [← key fn 0 (by omega) K (by omega)]
  simp (disch := omega) only [sp_Finds_lookedAt, J_lit, J_add, J_sub, J_mul, J_neg, J_nat, J_inb, J_div, ↓reduceIte, Int.toNat_natCast, Option.bind_some, J_le_t, J_le_f, J_lt_t, J_lt_f, J_eq_t, J_eq_f, L_lit, L_add, L_sub, L_mul, L_div, JL, LJ, Int.reduceToNat, Int.toNat_zero, Int.toNat_one, xb, xm, within_t, within_f, nb_t, nb_f, ni_t, ni_f, in_t, in_f, less_, bad_0, bad_1, not_true_eq_false, not_false_eq_true, L_lt_t, L_lt_f, L_eq_t, L_eq_f, lg_gt, lg_eq, lg_lt]
  rfl
set_option maxHeartbeats 2000000 in
theorem p_M_isLookedAt (K : Nat) (hK : 1000000 ≤ K) {l : LA} (hl : LOK l) {nr : Nat → Nat} {m4 : Nat → Int32} (hN : ∀ s, s < 10 → m4 s = J (nr s)) (hA : AL nr (lal l)) {fn : Nat} {F : Nat → Nat → Nat} {f1 f2 f3 f4 : Nat → Int32} {fs : Int32} {mf : Nat → Nat → Int32} {mfn : Int32} (hF : RFinds f1 f2 f3 f4 fs mf mfn fn F) {p h s : Nat} (hp : p < 10) (hh : h < 100) (hs : s < 10) : sp_M_isLookedAt K (J p) (J h) (J s) m4 mfn mf = some (J (sgv (lkc F p h (lal l s)) fn 0)) := by
  have eA := p_M_alikeOf K hK m4 nr (lal l) hA hN s hs
  have hg' := hl.2.2.2.1 s hs
  generalize lal l s = g at *
  clear hA hN hl
  obtain ⟨hfn, rfl, rfl, hv, h1, h2, h3, h4, hg⟩ := hF
  have key : ∀ (r i : Nat), i + r = fn → ∀ m, 2 * r + 1 ≤ m → f_M_isLookedAt K m4 (J fn) mf m 0 (J p, J h, J s, J i) = some (J (sgv (lkc F p h g) r i)) := by
    intro r
    induction r with
    | zero =>
      intro i hi m hm
      obtain ⟨m, rfl⟩ : ∃ k, m = k + 1 := ⟨m - 1, by omega⟩
      rw [sgv]
      simp (disch := omega) only [f_M_isLookedAt, J_lit, J_add, J_sub, J_mul, J_neg, J_nat, J_inb, J_div, ↓reduceIte, Int.toNat_natCast, Option.bind_some, J_le_t, J_le_f, J_lt_t, J_lt_f, J_eq_t, J_eq_f, L_lit, L_add, L_sub, L_mul, L_div, JL, LJ, Int.reduceToNat, Int.toNat_zero, Int.toNat_one, xb, xm, within_t, within_f, nb_t, nb_f, ni_t, ni_f, in_t, in_f, less_, bad_0, bad_1, not_true_eq_false, not_false_eq_true, L_lt_t, L_lt_f, L_eq_t, L_eq_f, lg_gt, lg_eq, lg_lt]
    | succ r ih =>
      intro i hi m hm
      obtain ⟨m, rfl⟩ : ∃ k, m = k + 2 := ⟨m - 2, by omega⟩
      have q1 := hg i (by omega) 0 (by omega)
      have q2 := hg i (by omega) 1 (by omega)
      have q3 := hg i (by omega) 2 (by omega)
      obtain ⟨w0, w1, w2, w3⟩ := hv i (by omega)
      have eb := bitJ (a := g) (s := F i 2) (by omega)
      rw [sgv]
      by_cases b0 : F i 0 = p
      · by_cases b1 : F i 1 = h
        · by_cases b2 : g.testBit (F i 2) = true
          · rw [if_pos (show lkc F p h g i = true from decide_eq_true ⟨b0, b1, b2⟩)]
            clear ih hv hg
            simp (disch := omega) only [f_M_isLookedAt, q1, q2, q3, b0, b1, eA, eb, b2, J_lit, J_add, J_sub, J_mul, J_neg, J_nat, J_inb, J_div, ↓reduceIte, Int.toNat_natCast, Option.bind_some, J_le_t, J_le_f, J_lt_t, J_lt_f, J_eq_t, J_eq_f, L_lit, L_add, L_sub, L_mul, L_div, JL, LJ, Int.reduceToNat, Int.toNat_zero, Int.toNat_one, xb, xm, within_t, within_f, nb_t, nb_f, ni_t, ni_f, in_t, in_f, less_, bad_0, bad_1, not_true_eq_false, not_false_eq_true, L_lt_t, L_lt_f, L_eq_t, L_eq_f, lg_gt, lg_eq, lg_lt]
          · have hc : ¬ lkc F p h g i = true := fun e => b2 (of_decide_eq_true e).2.2
            rw [if_neg hc, ← ih (i + 1) (by omega) m (by omega)]
            clear ih hv hg hc
            simp (disch := omega) only [f_M_isLookedAt, q1, q2, q3, b0, b1, eA, eb, b2, Bool.false_eq_true, cast1, J_lit, J_add, J_sub, J_mul, J_neg, J_nat, J_inb, J_div, ↓reduceIte, Int.toNat_natCast, Option.bind_some, J_le_t, J_le_f, J_lt_t, J_lt_f, J_eq_t, J_eq_f, L_lit, L_add, L_sub, L_mul, L_div, JL, LJ, Int.reduceToNat, Int.toNat_zero, Int.toNat_one, xb, xm, within_t, within_f, nb_t, nb_f, ni_t, ni_f, in_t, in_f, less_, bad_0, bad_1, not_true_eq_false, not_false_eq_true, L_lt_t, L_lt_f, L_eq_t, L_eq_f, lg_gt, lg_eq, lg_lt]
        · have hc : ¬ lkc F p h g i = true := fun e => b1 (of_decide_eq_true e).2.1
          rw [if_neg hc, ← ih (i + 1) (by omega) m (by omega)]
          clear ih hv hg hc
          simp (disch := omega) only [f_M_isLookedAt, q1, q2, q3, b0, cast1, J_lit, J_add, J_sub, J_mul, J_neg, J_nat, J_inb, J_div, ↓reduceIte, Int.toNat_natCast, Option.bind_some, J_le_t, J_le_f, J_lt_t, J_lt_f, J_eq_t, J_eq_f, L_lit, L_add, L_sub, L_mul, L_div, JL, LJ, Int.reduceToNat, Int.toNat_zero, Int.toNat_one, xb, xm, within_t, within_f, nb_t, nb_f, ni_t, ni_f, in_t, in_f, less_, bad_0, bad_1, not_true_eq_false, not_false_eq_true, L_lt_t, L_lt_f, L_eq_t, L_eq_f, lg_gt, lg_eq, lg_lt]
      · have hc : ¬ lkc F p h g i = true := fun e => b0 (of_decide_eq_true e).1
        rw [if_neg hc, ← ih (i + 1) (by omega) m (by omega)]
        clear ih hv hg hc
        simp (disch := omega) only [f_M_isLookedAt, q1, q2, q3, cast1, J_lit, J_add, J_sub, J_mul, J_neg, J_nat, J_inb, J_div, ↓reduceIte, Int.toNat_natCast, Option.bind_some, J_le_t, J_le_f, J_lt_t, J_lt_f, J_eq_t, J_eq_f, L_lit, L_add, L_sub, L_mul, L_div, JL, LJ, Int.reduceToNat, Int.toNat_zero, Int.toNat_one, xb, xm, within_t, within_f, nb_t, nb_f, ni_t, ni_f, in_t, in_f, less_, bad_0, bad_1, not_true_eq_false, not_false_eq_true, L_lt_t, L_lt_f, L_eq_t, L_eq_f, lg_gt, lg_eq, lg_lt]
  rw [← key fn 0 (by omega) K (by omega)]
  simp (disch := omega) only [sp_M_isLookedAt, J_lit, J_add, J_sub, J_mul, J_neg, J_nat, J_inb, J_div, ↓reduceIte, Int.toNat_natCast, Option.bind_some, J_le_t, J_le_f, J_lt_t, J_lt_f, J_eq_t, J_eq_f, L_lit, L_add, L_sub, L_mul, L_div, JL, LJ, Int.reduceToNat, Int.toNat_zero, Int.toNat_one, xb, xm, within_t, within_f, nb_t, nb_f, ni_t, ni_f, in_t, in_f, less_, bad_0, bad_1, not_true_eq_false, not_false_eq_true, L_lt_t, L_lt_f, L_eq_t, L_eq_f, lg_gt, lg_eq, lg_lt]
  rfl
def nxU (D : Nat → Nat → Nat) (Lk : Nat → Nat → Int) (p s : Nat) (x : Nat × Int) : Nat × Int := if Lk p s = 0 ∧ x.1 < D p s then (D p s, 100 * (D p s : Int) + 10 * p + s) else x
def nxI (D : Nat → Nat → Nat) (Lk : Nat → Nat → Int) (p : Nat) : Nat → Nat × Int → Nat × Int
  | 0, x => x
  | s + 1, x => nxU D Lk p s (nxI D Lk p s x)
def nxO (D : Nat → Nat → Nat) (Lk : Nat → Nat → Int) : Nat → Nat × Int
  | 0 => (0, -1)
  | p + 1 => nxI D Lk p 10 (nxO D Lk p)
def nxOK (x : Nat × Int) : Prop := x.1 ≤ 60 ∧ -1 ≤ x.2 ∧ x.2 ≤ 7000
set_option maxHeartbeats 2000000 in
theorem nxU_ok {D : Nat → Nat → Nat} (hD : ∀ p s, D p s ≤ 60) (Lk : Nat → Nat → Int) {p s : Nat} (hp : p < 10) (hs : s < 10) {x : Nat × Int} (h : nxOK x) : nxOK (nxU D Lk p s x) := by
  unfold nxU
  split
  · have := hD p s
    exact ⟨this, by simp only; omega, by simp only; omega⟩
  · exact h
set_option maxHeartbeats 2000000 in
theorem nxI_ok {D : Nat → Nat → Nat} (hD : ∀ p s, D p s ≤ 60) (Lk : Nat → Nat → Int) {p : Nat} (hp : p < 10) {x : Nat × Int} (h : nxOK x) : ∀ s, s ≤ 10 → nxOK (nxI D Lk p s x)
  | 0, _ => h
  | s + 1, hs => nxU_ok hD Lk hp (by omega) (nxI_ok hD Lk hp h s (by omega))
set_option maxHeartbeats 2000000 in
theorem nxO_ok {D : Nat → Nat → Nat} (hD : ∀ p s, D p s ≤ 60) (Lk : Nat → Nat → Int) : ∀ p, p ≤ 10 → nxOK (nxO D Lk p)
  | 0, _ => ⟨Nat.zero_le _, Int.le_refl _, by show (-1 : Int) ≤ 7000; decide⟩
  | p + 1, hp => nxI_ok hD Lk (by omega) (nxO_ok hD Lk p (by omega)) 10 (Nat.le_refl _)
set_option maxHeartbeats 2000000 in
theorem pileA_le (l : LA) (st : RS) (p s : Nat) : pileA l st p s ≤ 60 := Nat.min_le_right _ _
set_option maxHeartbeats 2000000 in
theorem next_C (K : Nat) (hK : 1000000 ≤ K) {l : LA} (hl : LOK l) {c1 c2 c3 c4 : Nat → Int32} {c5 c6 c7 : Int32} (R : LC l c1 c2 c3 c4 c5 c6 c7) {fn : Nat} {F : Nat → Nat → Nat} {f1 f2 f3 f4 : Nat → Int32} {fs : Int32} {mf : Nat → Nat → Int32} {mfn : Int32} (hF : RFinds f1 f2 f3 f4 fs mf mfn fn F) {h : Nat} (hh : h < 100) {st1 st2 : RS} (o1 : RSOK st1) (o2 : RSOK st2) {ly1 wo1 ly2 wo2 : Nat → Int32} {ld1 ld2 : Int32} (R1 : RC st1 ly1 wo1 ld1) (R2 : RC st2 ly2 wo2 ld2) (h1 d1 h2 d2 : Int32) : ∃ o, f_next K f1 f2 f3 fs c3 c4 K 0 (J h, J 0, J (-1), J 0, J 0, ly1, wo1, ld1, h1, d1, ly2, wo2, ld2, h2, d2) = some (.inr (J (nxO (fun p s => (pileA l st1 p s - pileA l st2 p s) + (pileA l st2 p s - pileA l st1 p s)) (fun p s => sgv (lkc F p h (lal l s)) fn 0) 10).2, o)) := by
  obtain ⟨D, hD⟩ : ∃ D : Nat → Nat → Nat, D = fun p s => (pileA l st1 p s - pileA l st2 p s) + (pileA l st2 p s - pileA l st1 p s) := ⟨_, rfl⟩
  obtain ⟨Lk, hLk⟩ : ∃ Lk : Nat → Nat → Int, Lk = fun p s => sgv (lkc F p h (lal l s)) fn 0 := ⟨_, rfl⟩
  rw [← hD, ← hLk]
  have hD60 : ∀ p s, D p s ≤ 60 := fun p s => by
    have := pileA_le l st1 p s
    have := pileA_le l st2 p s
    rw [hD]; simp only; omega
  obtain ⟨m, g1, g3⟩ := lpe (fun k s => f_next K f1 f2 f3 fs c3 c4 k 0 s) (fun p => (J h, J (nxO D Lk p).1, J (nxO D Lk p).2, J p, J 0, ly1, wo1, ld1, h1, d1, ly2, wo2, ld2, h2, d2)) 22 10 (by
    intro p hp m
    have ok := nxO_ok hD60 Lk p (by omega)
    obtain ⟨m', g1, g3⟩ := lpe (fun k s => f_next K f1 f2 f3 fs c3 c4 k 1 s) (fun s => (J h, J (nxI D Lk p s (nxO D Lk p)).1, J (nxI D Lk p s (nxO D Lk p)).2, J p, J s, ly1, wo1, ld1, h1, d1, ly2, wo2, ld2, h2, d2)) 2 10 (by
      intro s hs m
      refine ⟨m, by omega, ?_⟩
      have ok2 := nxI_ok hD60 Lk hp ok s (by omega)
      have e1 := p_pileOn K (by omega) hl R.2.2.1 R.2.2.2.1 o1 R1 (p := p) (s := s) hp hs
      have e2 := p_pileOn K (by omega) hl R.2.2.1 R.2.2.2.1 o2 R2 (p := p) (s := s) hp hs
      have a1 := pileA_le l st1 p s
      have a2 := pileA_le l st2 p s
      have e3 := alikeWith_t K hs c4
      rw [R.2.2.2.1 s hs] at e3
      have e4 := p_lookedAt K (by omega) hF (p := p) (h := h) (g := lal l s) hp hh (hl.2.2.2.1 s hs)
      have hDe : D p s = (pileA l st1 p s - pileA l st2 p s) + (pileA l st2 p s - pileA l st1 p s) := by rw [hD]
      have hLe : Lk p s = sgv (lkc F p h (lal l s)) fn 0 := by rw [hLk]
      have hL01 := sgv_rng (lkc F p h (lal l s)) fn 0
      rw [← hLe] at e4 hL01
      rw [nxI]
      generalize nxI D Lk p s (nxO D Lk p) = x at *
      obtain ⟨b, a⟩ := x
      obtain ⟨k1, k2, k3⟩ := ok2
      simp only at k1 k2 k3
      unfold nxU
      simp only
      generalize Lk p s = lk at *
      generalize D p s = dd at *
      clear hD hLk hD60 ok o1 o2 R1 R2 hF R hl hLe
      generalize pileA l st1 p s = A at *
      generalize pileA l st2 p s = B at *
      obtain ⟨ab, hab⟩ : ∃ x : Int32, (if J 0 ≤ J ((A : Int) - (B : Int)) then J ((A : Int) - (B : Int)) else J (0 - ((A : Int) - (B : Int)))) = x ∧ x = J dd := by
        by_cases hAB : B ≤ A
        · have : (A : Int) - (B : Int) = (dd : Int) := by omega
          exact ⟨_, rfl, by rw [this]; simp (disch := omega) only [J_lit, J_add, J_sub, J_mul, J_neg, J_nat, J_inb, J_div, ↓reduceIte, Int.toNat_natCast, Option.bind_some, J_le_t, J_le_f, J_lt_t, J_lt_f, J_eq_t, J_eq_f, L_lit, L_add, L_sub, L_mul, L_div, JL, LJ, Int.reduceToNat, Int.toNat_zero, Int.toNat_one, xb, xm, within_t, within_f, nb_t, nb_f, ni_t, ni_f, in_t, in_f, less_, bad_0, bad_1, not_true_eq_false, not_false_eq_true, L_lt_t, L_lt_f, L_eq_t, L_eq_f, lg_gt, lg_eq, lg_lt]⟩
        · have : (0 : Int) - ((A : Int) - (B : Int)) = (dd : Int) := by omega
          exact ⟨_, rfl, by rw [this]; simp (disch := omega) only [J_lit, J_add, J_sub, J_mul, J_neg, J_nat, J_inb, J_div, ↓reduceIte, Int.toNat_natCast, Option.bind_some, J_le_t, J_le_f, J_lt_t, J_lt_f, J_eq_t, J_eq_f, L_lit, L_add, L_sub, L_mul, L_div, JL, LJ, Int.reduceToNat, Int.toNat_zero, Int.toNat_one, xb, xm, within_t, within_f, nb_t, nb_f, ni_t, ni_f, in_t, in_f, less_, bad_0, bad_1, not_true_eq_false, not_false_eq_true, L_lt_t, L_lt_f, L_eq_t, L_eq_f, lg_gt, lg_eq, lg_lt]⟩
      obtain ⟨hab, rfl⟩ := hab
      have hdd : dd ≤ 60 := by omega
      by_cases hc : b < dd
      · rcases hL01 with hz | hz
        · subst hz
          have hcc : 100 * (dd : Int) + 10 * (p : Int) + (s : Int) = 100 * (dd : Int) + 10 * p + s := rfl
          rw [if_pos ⟨rfl, hc⟩]
          clear hDe
          simp (disch := omega) only [f_next, e1, e2, e3, e4, J_lit, J_sub, hab, J_le_t, J_le_f, J_eq_t, J_eq_f, ↓reduceIte, Option.bind_some, J_mul, J_add, cast1, if_true, if_false]
        · subst hz
          rw [if_neg (by omega)]
          clear hDe
          simp (disch := omega) only [f_next, e1, e2, e3, e4, J_lit, J_sub, hab, J_le_t, J_le_f, J_eq_t, J_eq_f, ↓reduceIte, Option.bind_some, J_mul, J_add, cast1]
      · rw [if_neg (by omega)]
        clear hDe
        simp (disch := omega) only [f_next, e1, e2, J_lit, J_sub, hab, J_le_t, J_le_f, ↓reduceIte, Option.bind_some, J_add, cast1]) (m + 21) (by omega)
    refine ⟨m', by omega, ?_⟩
    have e1 : ∀ m, f_next K f1 f2 f3 fs c3 c4 (m + 1) 0 (J h, J (nxO D Lk p).1, J (nxO D Lk p).2, J p, J 0, ly1, wo1, ld1, h1, d1, ly2, wo2, ld2, h2, d2) = f_next K f1 f2 f3 fs c3 c4 m 1 (J h, J (nxO D Lk p).1, J (nxO D Lk p).2, J p, J (0 : Nat), ly1, wo1, ld1, h1, d1, ly2, wo2, ld2, h2, d2) := fun m => by
      simp (disch := omega) only [f_next, J_lit, J_add, J_sub, J_mul, J_neg, J_nat, J_inb, J_div, ↓reduceIte, Int.toNat_natCast, Option.bind_some, J_le_t, J_le_f, J_lt_t, J_lt_f, J_eq_t, J_eq_f, L_lit, L_add, L_sub, L_mul, L_div, JL, LJ, Int.reduceToNat, Int.toNat_zero, Int.toNat_one, xb, xm, within_t, within_f, nb_t, nb_f, ni_t, ni_f, in_t, in_f, less_, bad_0, bad_1, not_true_eq_false, not_false_eq_true, L_lt_t, L_lt_f, L_eq_t, L_eq_f, lg_gt, lg_eq, lg_lt]
      rfl
    refine (e1 (m + 21)).trans (Eq.trans g3 ?_)
    have e2 : ∀ m, f_next K f1 f2 f3 fs c3 c4 (m + 1) 1 (J h, J (nxI D Lk p 10 (nxO D Lk p)).1, J (nxI D Lk p 10 (nxO D Lk p)).2, J p, J (10 : Nat), ly1, wo1, ld1, h1, d1, ly2, wo2, ld2, h2, d2) = f_next K f1 f2 f3 fs c3 c4 m 0 (J h, J (nxO D Lk (p + 1)).1, J (nxO D Lk (p + 1)).2, J (p + 1 : Nat), J 0, ly1, wo1, ld1, h1, d1, ly2, wo2, ld2, h2, d2) := fun m => by
      rw [nxO]
      simp (disch := omega) only [f_next, cast1, J_lit, J_add, J_sub, J_mul, J_neg, J_nat, J_inb, J_div, ↓reduceIte, Int.toNat_natCast, Option.bind_some, J_le_t, J_le_f, J_lt_t, J_lt_f, J_eq_t, J_eq_f, L_lit, L_add, L_sub, L_mul, L_div, JL, LJ, Int.reduceToNat, Int.toNat_zero, Int.toNat_one, xb, xm, within_t, within_f, nb_t, nb_f, ni_t, ni_f, in_t, in_f, less_, bad_0, bad_1, not_true_eq_false, not_false_eq_true, L_lt_t, L_lt_f, L_eq_t, L_eq_f, lg_gt, lg_eq, lg_lt]
    exact e2 m') K (by omega)
  have e0 : f_next K f1 f2 f3 fs c3 c4 K 0 (J h, J 0, J (-1), J 0, J 0, ly1, wo1, ld1, h1, d1, ly2, wo2, ld2, h2, d2) = f_next K f1 f2 f3 fs c3 c4 K 0 (J h, J (nxO D Lk 0).1, J (nxO D Lk 0).2, J (0 : Nat), J 0, ly1, wo1, ld1, h1, d1, ly2, wo2, ld2, h2, d2) := rfl
  rw [e0]
  exact ⟨_, Eq.trans g3 (by simp (disch := omega) only [f_next, J_lit, J_add, J_sub, J_mul, J_neg, J_nat, J_inb, J_div, ↓reduceIte, Int.toNat_natCast, Option.bind_some, J_le_t, J_le_f, J_lt_t, J_lt_f, J_eq_t, J_eq_f, L_lit, L_add, L_sub, L_mul, L_div, JL, LJ, Int.reduceToNat, Int.toNat_zero, Int.toNat_one, xb, xm, within_t, within_f, nb_t, nb_f, ni_t, ni_f, in_t, in_f, less_, bad_0, bad_1, not_true_eq_false, not_false_eq_true, L_lt_t, L_lt_f, L_eq_t, L_eq_f, lg_gt, lg_eq, lg_lt]; rfl)⟩
