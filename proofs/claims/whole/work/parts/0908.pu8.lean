set_option maxHeartbeats 2000000 in
theorem p_lastHour (K : Nat) (hK : 1000 ≤ K) {n : Nat} (hn : n ≤ 8) {F : Nat → Nat → Nat} (hF : ∀ i, i < n → F i 1 < 100) {f2 : Nat → Int32} (h2 : ∀ i, i < n → f2 i = J (F i 1)) : ∃ N : Nat, sp_Finds_lastHour K f2 (J n) = some (J ((N : Int) - 1)) ∧ N ≤ 100 ∧ ∀ i, i < n → F i 1 < N := by
  obtain ⟨m, s, g1, ⟨N, rfl, hN, hN2⟩, g3⟩ := lp (fun m s => f_Finds_lastHour K f2 (J n) m 0 s) (fun i s => ∃ N : Nat, s = (J ((N : Int) - 1), J i) ∧ N ≤ 100 ∧ ∀ a, a < i → F a 1 < N) 1 n (by
    rintro i hi s ⟨N, rfl, hN, hN2⟩ m
    have q := h2 i hi
    have q2 := hF i hi
    by_cases hc : N ≤ F i 1
    · refine ⟨m, (J (((F i 1 + 1 : Nat) : Int) - 1), J (i + 1 : Nat)), by omega, ⟨F i 1 + 1, rfl, by omega, fun a ha => ?_⟩, ?_⟩
      · by_cases hai : a = i
        · subst hai; omega
        · have := hN2 a (by omega); omega
      · have e : ((F i 1 + 1 : Nat) : Int) - 1 = (F i 1 : Nat) := by omega
        simp (disch := omega) only [f_Finds_lastHour, q, cast1, e, J_lit, J_add, J_sub, J_mul, J_neg, J_nat, J_inb, J_div, ↓reduceIte, Int.toNat_natCast, Option.bind_some, J_le_t, J_le_f, J_lt_t, J_lt_f, J_eq_t, J_eq_f, L_lit, L_add, L_sub, L_mul, L_div, JL, LJ, Int.reduceToNat, Int.toNat_zero, Int.toNat_one, xb, xm, within_t, within_f, nb_t, nb_f, ni_t, ni_f, in_t, in_f, less_, bad_0, bad_1, not_true_eq_false, not_false_eq_true, L_lt_t, L_lt_f, L_eq_t, L_eq_f, lg_gt, lg_eq, lg_lt]
    · refine ⟨m, (J ((N : Int) - 1), J (i + 1 : Nat)), by omega, ⟨N, rfl, hN, fun a ha => ?_⟩, ?_⟩
      · by_cases hai : a = i
        · subst hai; omega
        · exact hN2 a (by omega)
      · simp (disch := omega) only [f_Finds_lastHour, q, cast1, J_lit, J_add, J_sub, J_mul, J_neg, J_nat, J_inb, J_div, ↓reduceIte, Int.toNat_natCast, Option.bind_some, J_le_t, J_le_f, J_lt_t, J_lt_f, J_eq_t, J_eq_f, L_lit, L_add, L_sub, L_mul, L_div, JL, LJ, Int.reduceToNat, Int.toNat_zero, Int.toNat_one, xb, xm, within_t, within_f, nb_t, nb_f, ni_t, ni_f, in_t, in_f, less_, bad_0, bad_1, not_true_eq_false, not_false_eq_true, L_lt_t, L_lt_f, L_eq_t, L_eq_f, lg_gt, lg_eq, lg_lt]) (J (((0 : Nat) : Int) - 1), J (0 : Nat)) ⟨0, rfl, by omega, fun a ha => by omega⟩ K (by omega)
  obtain ⟨m, rfl⟩ : ∃ q, m = q + 1 := ⟨m - 1, by omega⟩
  refine ⟨N, ?_, hN, hN2⟩
  unfold sp_Finds_lastHour
  refine Eq.trans g3 ?_
  simp (disch := omega) only [f_Finds_lastHour, J_lit, J_add, J_sub, J_mul, J_neg, J_nat, J_inb, J_div, ↓reduceIte, Int.toNat_natCast, Option.bind_some, J_le_t, J_le_f, J_lt_t, J_lt_f, J_eq_t, J_eq_f, L_lit, L_add, L_sub, L_mul, L_div, JL, LJ, Int.reduceToNat, Int.toNat_zero, Int.toNat_one, xb, xm, within_t, within_f, nb_t, nb_f, ni_t, ni_f, in_t, in_f, less_, bad_0, bad_1, not_true_eq_false, not_false_eq_true, L_lt_t, L_lt_f, L_eq_t, L_eq_f, lg_gt, lg_eq, lg_lt]
def plT (l : LA) (T : Nat → RS → RS) (F : Nat → Nat → Nat) (i : Nat) : Nat := pileA l (runT l T (F i 1)) (F i 0) (F i 2)
abbrev TA (l : LA) (n : Nat) (E : Nat → Nat → Nat) : Nat → RS → RS := fun h st => stp l E h st n
set_option maxHeartbeats 2000000 in
theorem plT_le (l : LA) (T : Nat → RS → RS) (F : Nat → Nat → Nat) (i : Nat) : plT l T F i ≤ 60 := Nat.min_le_right _ _
def selB (q : Int) (i : Nat) : Bool := decide (q = -1) || decide (q = (i : Int))
def jS (q : Int) (P : Nat → Nat) : Nat → Nat
  | 0 => 0
  | i + 1 => jS q P i + if selB q i = true then P i else 0
def jP (t : Nat) (q : Int) (P : Nat → Nat) (F : Nat → Nat → Nat) : Nat → Nat
  | 0 => 1
  | i + 1 => jP t q P F i * if selB q i = true then PF t (P i) (F i 3) else 1
set_option maxHeartbeats 2000000 in
theorem jS_le (q : Int) {P : Nat → Nat} (hP : ∀ i, P i ≤ 60) : ∀ i, jS q P i ≤ 60 * i
  | 0 => Nat.le_refl _
  | i + 1 => by
    have h1 := jS_le q hP i
    have h2 := hP i
    rw [jS]; split <;> omega
set_option maxHeartbeats 2000000 in
theorem jP_le {t : Nat} (ht : t ≤ 16) (q : Int) (P : Nat → Nat) (F : Nat → Nat → Nat) : ∀ i, jP t q P F i ≤ 16 ^ jS q P i
  | 0 => Nat.le_refl _
  | i + 1 => by
    rw [jP, jS]
    split
    · rw [Nat.pow_add]; exact Nat.mul_le_mul (jP_le ht q P F i) (PF_le ht _ _)
    · rw [Nat.mul_one, Nat.add_zero]; exact jP_le ht q P F i
set_option maxHeartbeats 2000000 in
theorem jP_lt {t : Nat} (ht : t ≤ 16) (q : Int) {P : Nat → Nat} (hP : ∀ i, P i ≤ 60) (F : Nat → Nat → Nat) {i : Nat} (hi : i ≤ 8) : jP t q P F i ≤ 16 ^ 480 := by
  refine Nat.le_trans (jP_le ht q P F i) (Nat.pow_le_pow_right (by omega) ?_)
  have := jS_le q hP i
  omega
set_option maxHeartbeats 2000000 in
theorem p_fillPiles (K : Nat) (hK : 1000000 ≤ K) {l : LA} (hl : LOK l) {c1 c2 c3 c4 : Nat → Int32} {c5 c6 c7 : Int32} (R : LC l c1 c2 c3 c4 c5 c6 c7) {n : Nat} {E : Nat → Nat → Nat} (hE : SOK n E) {p1 p2 p3 p4 : Nat → Int32} {pn : Int32} (hC : SC n E p1 p2 p3 p4 pn) {fn : Nat} {F : Nat → Nat → Nat} (hfn : fn ≤ 8) (hF : ∀ i, i < fn → F i 0 < 10 ∧ F i 1 < 100 ∧ F i 2 < 10 ∧ F i 3 ≤ 60) {f1 f2 f3 : Nat → Int32} (h1 : ∀ i, i < fn → f1 i = J (F i 0)) (h2 : ∀ i, i < fn → f2 i = J (F i 1)) (h3 : ∀ i, i < fn → f3 i = J (F i 2)) (pl ly wo : Nat → Int32) (a b c : Int32) : ∃ o, sp_fillPiles K pl f1 f2 f3 (J fn) ly wo a b c c1 c2 c3 c4 c5 c6 p1 p2 p3 p4 pn = some o ∧ ∀ i, i < fn → o.1 i = J (plT l (TA l n E) F i) := by
  obtain ⟨N, x1, x2, x3⟩ := p_lastHour K (by omega) hfn (fun i hi => (hF i hi).2.1) h2
  obtain ⟨ly0, wo0, y1, y2, y3⟩ := p_begin K (by omega) l n E ly wo a b c
  obtain ⟨m, s, g1, ⟨h0, d, st, pl', ly', wo', ld', rfl, hh0, hGQ, hRC, hpl⟩, g3⟩ := lp (fun m s => f_fillPiles K f1 f2 f3 (J fn) c1 c2 c3 c4 c5 c6 p1 p2 p3 p4 pn m 0 s) (fun h s => ∃ (h0 d : Nat) (st : RS) (pl ly wo : Nat → Int32) (ld : Int32), s = (J ((N : Int) - 1), J h, J 0, pl, ly, wo, ld, J h0, J d) ∧ h0 ≤ h ∧ GQ l n E h0 d st ∧ RC st ly wo ld ∧ ∀ i, i < fn → F i 1 < h → pl i = J (plT l (TA l n E) F i)) 30 N (by
    rintro h hh s ⟨h0, d, st, pl, ly, wo, ld, rfl, hh0, hGQ, hRC, hpl⟩ m
    obtain ⟨ly1, wo1, ld1, d1, z1, z2, z3⟩ := p_goTo K hK hl R.1 R.2.1 R.2.2.2.2.1 R.2.2.2.2.2.1 hE hC (h := h) (by omega) hh0 hGQ hRC
    obtain ⟨m1, s1, k1, ⟨pl1, rfl, hpl1⟩, k3⟩ := lp (fun m s => f_fillPiles K f1 f2 f3 (J fn) c1 c2 c3 c4 c5 c6 p1 p2 p3 p4 pn m 1 s) (fun q s => ∃ pl : Nat → Int32, s = (J ((N : Int) - 1), J h, J q, pl, ly1, wo1, ld1, J h, J d1) ∧ ∀ i, i < fn → (F i 1 < h ∨ (F i 1 = h ∧ i < q)) → pl i = J (plT l (TA l n E) F i)) 2 fn (by
      rintro q hq s ⟨pl, rfl, hpl⟩ m
      have q1 := h1 q hq
      have q2 := h2 q hq
      have q3 := h3 q hq
      obtain ⟨w0, w1, w2, w3⟩ := hF q hq
      by_cases he : F q 1 = h
      · have eP := p_pileOn K (by omega) hl R.2.2.1 R.2.2.2.1 (runA_ok hl hE.2.1 h) z2 (p := F q 0) (s := F q 2) w0 w2
        refine ⟨m, _, by omega, ⟨upd pl q (J (plT l (TA l n E) F q)), rfl, fun i hi hc => ?_⟩, ?_⟩
        · unfold upd; split
          · next h => rw [h]
          · exact hpl i hi (by omega)
        · have ePl : plT l (TA l n E) F q = pileA l (runA l n E h) (F q 0) (F q 2) := by unfold plT; rw [he]
          rw [ePl]
          clear hpl
          simp (disch := omega) only [f_fillPiles, q1, q2, q3, he, eP, cast1, J_lit, J_add, J_sub, J_mul, J_neg, J_nat, J_inb, J_div, ↓reduceIte, Int.toNat_natCast, Option.bind_some, J_le_t, J_le_f, J_lt_t, J_lt_f, J_eq_t, J_eq_f, L_lit, L_add, L_sub, L_mul, L_div, JL, LJ, Int.reduceToNat, Int.toNat_zero, Int.toNat_one, xb, xm, within_t, within_f, nb_t, nb_f, ni_t, ni_f, in_t, in_f, less_, bad_0, bad_1, not_true_eq_false, not_false_eq_true, L_lt_t, L_lt_f, L_eq_t, L_eq_f, lg_gt, lg_eq, lg_lt]
      · refine ⟨m, _, by omega, ⟨pl, rfl, fun i hi hc => ?_⟩, ?_⟩
        · refine hpl i hi ?_
          rcases hc with hc | hc
          · exact Or.inl hc
          · refine Or.inr ⟨hc.1, ?_⟩
            rcases Nat.lt_or_ge i q with hiq | hiq
            · exact hiq
            · obtain rfl : i = q := by omega
              exact absurd hc.1 he
        · clear hpl
          simp (disch := omega) only [f_fillPiles, q2, cast1, J_lit, J_add, J_sub, J_mul, J_neg, J_nat, J_inb, J_div, ↓reduceIte, Int.toNat_natCast, Option.bind_some, J_le_t, J_le_f, J_lt_t, J_lt_f, J_eq_t, J_eq_f, L_lit, L_add, L_sub, L_mul, L_div, JL, LJ, Int.reduceToNat, Int.toNat_zero, Int.toNat_one, xb, xm, within_t, within_f, nb_t, nb_f, ni_t, ni_f, in_t, in_f, less_, bad_0, bad_1, not_true_eq_false, not_false_eq_true, L_lt_t, L_lt_f, L_eq_t, L_eq_f, lg_gt, lg_eq, lg_lt]) (J ((N : Int) - 1), J h, J (0 : Nat), pl, ly1, wo1, ld1, J h, J d1) ⟨pl, rfl, fun i hi hc => by
            rcases hc with hc | hc
            · exact hpl i hi hc
            · omega⟩ (m + 29) (by omega)
    obtain ⟨m1, rfl⟩ : ∃ q, m1 = q + 2 := ⟨m1 - 2, by omega⟩
    refine ⟨m1, (J ((N : Int) - 1), J (h + 1 : Nat), J 0, pl1, ly1, wo1, ld1, J h, J d1), by omega, ⟨h, d1, _, pl1, ly1, wo1, ld1, rfl, by omega, z3, z2, fun i hi hc => hpl1 i hi (by omega)⟩, ?_⟩
    have e1 : ∀ q, f_fillPiles K f1 f2 f3 (J fn) c1 c2 c3 c4 c5 c6 p1 p2 p3 p4 pn (q + 1) 0 (J ((N : Int) - 1), J h, J 0, pl, ly, wo, ld, J h0, J d) = f_fillPiles K f1 f2 f3 (J fn) c1 c2 c3 c4 c5 c6 p1 p2 p3 p4 pn q 1 (J ((N : Int) - 1), J h, J (0 : Nat), pl, ly1, wo1, ld1, J h, J d1) := fun q => by
      clear hpl hpl1 k3
      simp (disch := omega) only [f_fillPiles, z1, J_lit, J_add, J_sub, J_mul, J_neg, J_nat, J_inb, J_div, ↓reduceIte, Int.toNat_natCast, Option.bind_some, J_le_t, J_le_f, J_lt_t, J_lt_f, J_eq_t, J_eq_f, L_lit, L_add, L_sub, L_mul, L_div, JL, LJ, Int.reduceToNat, Int.toNat_zero, Int.toNat_one, xb, xm, within_t, within_f, nb_t, nb_f, ni_t, ni_f, in_t, in_f, less_, bad_0, bad_1, not_true_eq_false, not_false_eq_true, L_lt_t, L_lt_f, L_eq_t, L_eq_f, lg_gt, lg_eq, lg_lt]
      rfl
    refine Eq.trans (e1 (m + 29)) (Eq.trans k3 ?_)
    clear hpl hpl1 k3
    simp (disch := omega) only [f_fillPiles, cast1, J_lit, J_add, J_sub, J_mul, J_neg, J_nat, J_inb, J_div, ↓reduceIte, Int.toNat_natCast, Option.bind_some, J_le_t, J_le_f, J_lt_t, J_lt_f, J_eq_t, J_eq_f, L_lit, L_add, L_sub, L_mul, L_div, JL, LJ, Int.reduceToNat, Int.toNat_zero, Int.toNat_one, xb, xm, within_t, within_f, nb_t, nb_f, ni_t, ni_f, in_t, in_f, less_, bad_0, bad_1, not_true_eq_false, not_false_eq_true, L_lt_t, L_lt_f, L_eq_t, L_eq_f, lg_gt, lg_eq, lg_lt]) (J ((N : Int) - 1), J (0 : Nat), J 0, pl, ly0, wo0, J 0, J (0 : Nat), J (0 : Nat)) ⟨0, 0, init, pl, ly0, wo0, J 0, rfl, Nat.le_refl _, y3, y2, fun i hi hc => by omega⟩ K (by omega)
  obtain ⟨m, rfl⟩ : ∃ q, m = q + 1 := ⟨m - 1, by omega⟩
  refine ⟨(pl', ly', wo', ld', J h0, J d), ?_, fun i hi => hpl i hi (x3 i hi)⟩
  have e0 : sp_fillPiles K pl f1 f2 f3 (J fn) ly wo a b c c1 c2 c3 c4 c5 c6 p1 p2 p3 p4 pn = f_fillPiles K f1 f2 f3 (J fn) c1 c2 c3 c4 c5 c6 p1 p2 p3 p4 pn K 0 (J ((N : Int) - 1), J (0 : Nat), J 0, pl, ly0, wo0, J 0, J (0 : Nat), J (0 : Nat)) := by
    clear hpl g3
    simp (disch := omega) only [sp_fillPiles, x1, y1, J_lit, J_add, J_sub, J_mul, J_neg, J_nat, J_inb, J_div, ↓reduceIte, Int.toNat_natCast, Option.bind_some, J_le_t, J_le_f, J_lt_t, J_lt_f, J_eq_t, J_eq_f, L_lit, L_add, L_sub, L_mul, L_div, JL, LJ, Int.reduceToNat, Int.toNat_zero, Int.toNat_one, xb, xm, within_t, within_f, nb_t, nb_f, ni_t, ni_f, in_t, in_f, less_, bad_0, bad_1, not_true_eq_false, not_false_eq_true, L_lt_t, L_lt_f, L_eq_t, L_eq_f, lg_gt, lg_eq, lg_lt]
    rfl
  rw [e0]
  refine Eq.trans g3 ?_
  clear hpl g3
  simp (disch := omega) only [f_fillPiles, J_lit, J_add, J_sub, J_mul, J_neg, J_nat, J_inb, J_div, ↓reduceIte, Int.toNat_natCast, Option.bind_some, J_le_t, J_le_f, J_lt_t, J_lt_f, J_eq_t, J_eq_f, L_lit, L_add, L_sub, L_mul, L_div, JL, LJ, Int.reduceToNat, Int.toNat_zero, Int.toNat_one, xb, xm, within_t, within_f, nb_t, nb_f, ni_t, ni_f, in_t, in_f, less_, bad_0, bad_1, not_true_eq_false, not_false_eq_true, L_lt_t, L_lt_f, L_eq_t, L_eq_f, lg_gt, lg_eq, lg_lt]
set_option maxHeartbeats 2000000 in
theorem p_judge (K : Nat) (hK : 1000000 ≤ K) {l : LA} (hl : LOK l) {c1 c2 c3 c4 : Nat → Int32} {c5 c6 c7 : Int32} (R : LC l c1 c2 c3 c4 c5 c6 c7) {n : Nat} {E : Nat → Nat → Nat} (hE : SOK n E) {p1 p2 p3 p4 : Nat → Int32} {pn : Int32} (hC : SC n E p1 p2 p3 p4 pn) {fn : Nat} {F : Nat → Nat → Nat} {f1 f2 f3 f4 : Nat → Int32} {fs : Int32} {mf : Nat → Nat → Int32} {mfn : Int32} (hF : RFinds f1 f2 f3 f4 fs mf mfn fn F) {q : Int} (hq : -1 ≤ q ∧ q < 1000) (pl ly wo : Nat → Int32) (a b c : Int32) (sc : Int32) (limbs : Nat → Int32) (size : Int32) : ∃ pl' ly' wo' a' b' c' limbs' size', sp_judge K (J q) pl f1 f2 f3 f4 fs ly wo a b c c1 c2 c3 c4 c5 c6 c7 p1 p2 p3 p4 pn sc limbs size = some (pl', ly', wo', a', b', c', J (jS q (plT l (TA l n E) F) fn : Nat), limbs', size') ∧ GR (jP (lta l) q (plT l (TA l n E) F) F fn) limbs' size' := by
  obtain ⟨hfn, rfl, rfl, hv, h1, h2, h3, h4, hg⟩ := hF
  obtain ⟨⟨pl1, ly1, wo1, a1, b1, d1⟩, x1, x2⟩ := p_fillPiles K hK hl R hE hC hfn hv h1 h2 h3 pl ly wo a b c
  obtain ⟨l0, s0, y1, y2⟩ := p_Chance_begin K sc limbs size
  obtain ⟨-, -, -, -, -, -, ht1, ht2⟩ := hl
  have r7 := R.2.2.2.2.2.2
  have hP : ∀ i, plT l (TA l n E) F i ≤ 60 := plT_le l (TA l n E) F
  generalize plT l (TA l n E) F = P at *
  generalize hst : lta l = t at *
  clear R hE hC hst
  subst r7
  simp only at x2
  obtain ⟨m, s, g1, ⟨lim, sz, rfl, hG⟩, g3⟩ := lp (fun m s => f_judge K f4 (J fn) (J t) m 0 s) (fun i s => ∃ (lim : Nat → Int32) (sz : Int32), s = (J q, J i, pl1, ly1, wo1, a1, b1, d1, J (jS q P i : Nat), lim, sz) ∧ GR (jP t q P F i) lim sz) 3 fn (by
    rintro i hi s ⟨lim, sz, rfl, hG⟩ m
    have q4 := h4 i hi
    have qp := x2 i hi
    have w := (hv i hi).2.2.2
    have hPi := hP i
    have hS := jS_le q hP i
    by_cases hs : selB q i = true
    · have eP : jP t q P F (i + 1) = jP t q P F i * PF t (P i) (F i 3) := by rw [jP, if_pos hs]
      have eJ : jS q P (i + 1) = jS q P i + P i := by rw [jS, if_pos hs]
      have hB : jP t q P F i * PF t (P i) (F i 3) < GB ^ 136 := by
        rw [← eP]
        exact Nat.lt_of_le_of_lt (jP_lt (by omega) q hP F (by omega)) (big1 (by omega))
      obtain ⟨l2, s2, z1, z2⟩ := p_Chance_times K (by omega) (n := P i) (k := F i 3) (t := t) (S := jS q P i) hPi w ⟨ht1, ht2⟩ (by omega) hG hB
      refine ⟨m, _, by omega, ⟨l2, s2, rfl, by rw [eP]; exact z2⟩, ?_⟩
      rw [eJ]
      clear hB eP eJ x1 y1 hG
      simp only [selB, Bool.or_eq_true, decide_eq_true_eq] at hs
      by_cases hq1 : q = -1
      · subst hq1
        clear hs
        simp (disch := omega) only [f_judge, qp, q4, z1, cast1, J_lit, J_add, J_sub, J_mul, J_neg, J_nat, J_inb, J_div, ↓reduceIte, Int.toNat_natCast, Option.bind_some, J_le_t, J_le_f, J_lt_t, J_lt_f, J_eq_t, J_eq_f, L_lit, L_add, L_sub, L_mul, L_div, JL, LJ, Int.reduceToNat, Int.toNat_zero, Int.toNat_one, xb, xm, within_t, within_f, nb_t, nb_f, ni_t, ni_f, in_t, in_f, less_, bad_0, bad_1, not_true_eq_false, not_false_eq_true, L_lt_t, L_lt_f, L_eq_t, L_eq_f, lg_gt, lg_eq, lg_lt]
      · have hq2 : q = i := by omega
        subst hq2
        clear hs
        simp (disch := omega) only [f_judge, qp, q4, z1, cast1, J_lit, J_add, J_sub, J_mul, J_neg, J_nat, J_inb, J_div, ↓reduceIte, Int.toNat_natCast, Option.bind_some, J_le_t, J_le_f, J_lt_t, J_lt_f, J_eq_t, J_eq_f, L_lit, L_add, L_sub, L_mul, L_div, JL, LJ, Int.reduceToNat, Int.toNat_zero, Int.toNat_one, xb, xm, within_t, within_f, nb_t, nb_f, ni_t, ni_f, in_t, in_f, less_, bad_0, bad_1, not_true_eq_false, not_false_eq_true, L_lt_t, L_lt_f, L_eq_t, L_eq_f, lg_gt, lg_eq, lg_lt]
    · have eP : jP t q P F (i + 1) = jP t q P F i := by rw [jP, if_neg hs, Nat.mul_one]
      have eJ : jS q P (i + 1) = jS q P i := by rw [jS, if_neg hs, Nat.add_zero]
      refine ⟨m + 1, _, by omega, ⟨lim, sz, rfl, by rw [eP]; exact hG⟩, ?_⟩
      rw [eJ]
      clear eP eJ x1 y1 hG
      simp only [selB, Bool.or_eq_true, decide_eq_true_eq, not_or] at hs
      have hs1 := hs.1
      have hs2 := hs.2
      clear hs
      have : ∀ m, f_judge K f4 (J fn) (J t) (m + 2) 0 (J q, J i, pl1, ly1, wo1, a1, b1, d1, J (jS q P i : Nat), lim, sz) = f_judge K f4 (J fn) (J t) m 0 (J q, J (i + 1 : Nat), pl1, ly1, wo1, a1, b1, d1, J (jS q P i : Nat), lim, sz) := fun m => by
        simp (disch := omega) only [f_judge, cast1, J_lit, J_add, J_sub, J_mul, J_neg, J_nat, J_inb, J_div, ↓reduceIte, Int.toNat_natCast, Option.bind_some, J_le_t, J_le_f, J_lt_t, J_lt_f, J_eq_t, J_eq_f, L_lit, L_add, L_sub, L_mul, L_div, JL, LJ, Int.reduceToNat, Int.toNat_zero, Int.toNat_one, xb, xm, within_t, within_f, nb_t, nb_f, ni_t, ni_f, in_t, in_f, less_, bad_0, bad_1, not_true_eq_false, not_false_eq_true, L_lt_t, L_lt_f, L_eq_t, L_eq_f, lg_gt, lg_eq, lg_lt]
      exact this (m + 1)) (J q, J (0 : Nat), pl1, ly1, wo1, a1, b1, d1, J (0 : Nat), l0, s0) ⟨l0, s0, rfl, y2⟩ K (by omega)
  obtain ⟨m, rfl⟩ : ∃ q, m = q + 1 := ⟨m - 1, by omega⟩
  refine ⟨pl1, ly1, wo1, a1, b1, d1, lim, sz, ?_, hG⟩
  have e0 : sp_judge K (J q) pl f1 f2 f3 f4 (J fn) ly wo a b c c1 c2 c3 c4 c5 c6 (J t) p1 p2 p3 p4 pn sc limbs size = f_judge K f4 (J fn) (J t) K 0 (J q, J (0 : Nat), pl1, ly1, wo1, a1, b1, d1, J (0 : Nat), l0, s0) := by
    simp (disch := omega) only [sp_judge, x1, y1, J_lit, J_add, J_sub, J_mul, J_neg, J_nat, J_inb, J_div, ↓reduceIte, Int.toNat_natCast, Option.bind_some, J_le_t, J_le_f, J_lt_t, J_lt_f, J_eq_t, J_eq_f, L_lit, L_add, L_sub, L_mul, L_div, JL, LJ, Int.reduceToNat, Int.toNat_zero, Int.toNat_one, xb, xm, within_t, within_f, nb_t, nb_f, ni_t, ni_f, in_t, in_f, less_, bad_0, bad_1, not_true_eq_false, not_false_eq_true, L_lt_t, L_lt_f, L_eq_t, L_eq_f, lg_gt, lg_eq, lg_lt]
    rfl
  rw [e0]
  refine Eq.trans g3 ?_
  simp (disch := omega) only [f_judge, J_lit, J_add, J_sub, J_mul, J_neg, J_nat, J_inb, J_div, ↓reduceIte, Int.toNat_natCast, Option.bind_some, J_le_t, J_le_f, J_lt_t, J_lt_f, J_eq_t, J_eq_f, L_lit, L_add, L_sub, L_mul, L_div, JL, LJ, Int.reduceToNat, Int.toNat_zero, Int.toNat_one, xb, xm, within_t, within_f, nb_t, nb_f, ni_t, ni_f, in_t, in_f, less_, bad_0, bad_1, not_true_eq_false, not_false_eq_true, L_lt_t, L_lt_f, L_eq_t, L_eq_f, lg_gt, lg_eq, lg_lt]
set_option maxHeartbeats 2000000 in
theorem BR_one {b : Nat} {G : Nat → Nat → Int32} (h : ∀ i, i < 330 → G b i = J (if i = 0 then 1 else 0)) : BR b 1 G := by
  refine ⟨fun i => if i = 0 then 1 else 0, fun i hi => ?_, fun i _ => ?_, ?_⟩
  · rw [h i hi]
    simp only
    split <;> rfl
  · simp only; split <;> omega
  · rw [val_zero 1 330 (by omega) (fun i h1 _ => if_neg (by omega))]; rfl
set_option maxHeartbeats 2000000 in
theorem bnd3 : (16 ^ 480) * 10000000000000000000 < 10000 ^ 330 := by decide +kernel
set_option maxHeartbeats 2000000 in
theorem p_M_numbers (K : Nat) (hK : 1000000 ≤ K) {l : LA} (hl : LOK l) {nr : Nat → Nat} {m1 : Nat → Nat → Int32} {m2 m3 m4 : Nat → Int32} {m5 m6 m7 : Int32} (Q : LM l nr m1 m2 m3 m4 m5 m6 m7) {j n : Nat} {E : Nat → Nat → Nat} (hE : SOK n E) {many : Nat → Int32} {ev : Nat → Nat → Int32} (hS : SM j n E many ev) {lo ef et eh fi se th : Int32} {cm : Nat → Bool} (hcm : ∀ i, i < n → sp_M_comes K (J i) (20 * j + i) ev lo fi se th = some (J (if cm i = true then 1 else 0))) {x : Option (Nat × Nat × Nat)} (hx : XOK x ef et eh) {fn : Nat} {F : Nat → Nat → Nat} {f1 f2 f3 f4 : Nat → Int32} {fs : Int32} {mf : Nat → Nat → Int32} {mfn : Int32} (hF : RFinds f1 f2 f3 f4 fs mf mfn fn F) {q : Int} (hq : -1 ≤ q ∧ q < 1000) {b : Nat} (hb : b < 3) (ly : Nat → Nat → Int32) (wo : Nat → Int32) (big : Nat → Nat → Int32) (sc : Int32) : ∃ ly' wo' big', sp_M_numbers K (J b) (J j) (J q) m5 m6 m7 m1 m2 m3 m4 many ev mfn mf ly wo lo ef et eh fi se th big sc = some (ly', wo', big', J (jS q (plT l (TM l n E cm x) F) fn : Nat)) ∧ BR b (jP (lta l) q (plT l (TM l n E cm x) F) F fn) big' ∧ ∀ r, r ≠ b → big' r = big r := by
  obtain ⟨hfn, rfl, rfl, hv, h1, h2, h3, h4, hg⟩ := hF
  obtain ⟨q1, q2, q3, q4, q5, q6, q7, q8⟩ := Q
  have hP : ∀ i, plT l (TM l n E cm x) F i ≤ 60 := plT_le l (TM l n E cm x) F
  obtain ⟨ht1, ht2⟩ : 1 ≤ lta l ∧ lta l ≤ 15 := hl.2.2.2.2.2.2
  obtain ⟨m, s, g1, ⟨G, rfl, hG, hot⟩, g3⟩ := lp (fun m s => f_M_numbers K m5 m6 m7 m1 m2 m3 m4 many ev (J fn) mf lo ef et eh fi se th m 0 s) (fun i s => ∃ G : Nat → Nat → Int32, s = (J b, J j, J q, J i, J 0, J 0, 0, ly, wo, G, J 0) ∧ (∀ r, r < i → G b r = J (if r = 0 then 1 else 0)) ∧ ∀ r, r ≠ b → G r = big r) 2 330 (by
    rintro i hi s ⟨G, rfl, hG, hot⟩ m
    refine ⟨m, _, by omega, ⟨va_up G b (upd (G b) i (J (if i = 0 then 1 else 0))), rfl, fun r hr => ?_, fun r hr => ?_⟩, ?_⟩
    · rw [va_up_eq]
      unfold upd; split
      · next h => rw [h]
      · exact hG r (by omega)
    · rw [pu_up_ne _ _ hr]; exact hot r hr
    · by_cases h0 : i = 0
      · subst h0
        rw [if_pos rfl]
        clear hcm hx hv hg hG hot
        simp (disch := omega) only [f_M_numbers, Int.natCast_zero, cast1, J_lit, J_add, J_sub, J_mul, J_neg, J_nat, J_inb, J_div, ↓reduceIte, Int.toNat_natCast, Option.bind_some, J_le_t, J_le_f, J_lt_t, J_lt_f, J_eq_t, J_eq_f, L_lit, L_add, L_sub, L_mul, L_div, JL, LJ, Int.reduceToNat, Int.toNat_zero, Int.toNat_one, xb, xm, within_t, within_f, nb_t, nb_f, ni_t, ni_f, in_t, in_f, less_, bad_0, bad_1, not_true_eq_false, not_false_eq_true, L_lt_t, L_lt_f, L_eq_t, L_eq_f, lg_gt, lg_eq, lg_lt]
        rw [if_pos hb]; rfl
      · rw [if_neg h0]
        clear hcm hx hv hg hG hot
        simp (disch := omega) only [f_M_numbers, cast1, J_lit, J_add, J_sub, J_mul, J_neg, J_nat, J_inb, J_div, ↓reduceIte, Int.toNat_natCast, Option.bind_some, J_le_t, J_le_f, J_lt_t, J_lt_f, J_eq_t, J_eq_f, L_lit, L_add, L_sub, L_mul, L_div, JL, LJ, Int.reduceToNat, Int.toNat_zero, Int.toNat_one, xb, xm, within_t, within_f, nb_t, nb_f, ni_t, ni_f, in_t, in_f, less_, bad_0, bad_1, not_true_eq_false, not_false_eq_true, L_lt_t, L_lt_f, L_eq_t, L_eq_f, lg_gt, lg_eq, lg_lt]
        rw [if_pos hb]) (J b, J j, J q, J (0 : Nat), J 0, J 0, 0, ly, wo, big, J 0) ⟨big, rfl, fun r hr => by omega, fun _ _ => rfl⟩ K (by omega)
  obtain ⟨m, rfl⟩ : ∃ q, m = q + 1 := ⟨m - 1, by omega⟩
  have hj := hS.1
  obtain ⟨m', s', z1, ⟨ly', wo', G', rfl, hG', hot'⟩, z3⟩ := lp (fun m s => f_M_numbers K m5 m6 m7 m1 m2 m3 m4 many ev (J fn) mf lo ef et eh fi se th m 2 s) (fun i s => ∃ (ly : Nat → Nat → Int32) (wo : Nat → Int32) (G : Nat → Nat → Int32), s = (J b, J j, J q, J i, J 0, J 0, 0, ly, wo, G, J (jS q (plT l (TM l n E cm x) F) i : Nat)) ∧ BR b (jP (lta l) q (plT l (TM l n E cm x) F) F i) G ∧ ∀ r, r ≠ b → G r = big r) 3 fn (by
    rintro i hi s ⟨ly, wo, G, rfl, hG, hot⟩ m
    obtain ⟨w0, w1, w2, w3⟩ := hv i hi
    have e0 := hg i hi 0 (by omega)
    have e1 := hg i hi 1 (by omega)
    have e2 := hg i hi 2 (by omega)
    have e3 := hg i hi 3 (by omega)
    obtain ⟨ly1, wo1, y1, y2⟩ := p_M_runs K hK hl q1 q2 q5 q6 hE hS hcm hx w1 ly wo
    have hok := runM_ok hl hE.2.1 cm x (F i 1)
    have eP := p_M_pileAt K hK hl q3 q4 q8 hok y2 w0 w2
    have ePl : pileA l (runT l (TM l n E cm x) (F i 1)) (F i 0) (F i 2) = plT l (TM l n E cm x) F i := rfl
    rw [ePl] at eP
    clear ePl
    generalize plT l (TM l n E cm x) F = P at *
    have hPi := hP i
    have hS' := jS_le q hP i
    by_cases hs : selB q i = true
    · have eJP : jP (lta l) q P F (i + 1) = jP (lta l) q P F i * PF (lta l) (P i) (F i 3) := by rw [jP, if_pos hs]
      have eJ : jS q P (i + 1) = jS q P i + P i := by rw [jS, if_pos hs]
      have hB : jP (lta l) q P F i * PF (lta l) (P i) (F i 3) < 10000 ^ 330 := by
        rw [← eJP]
        exact Nat.lt_trans (Nat.lt_of_le_of_lt (jP_lt (by omega) q hP F (by omega)) (big1 (by omega))) big2
      have hB2 : jP (lta l) q P F i * 10000000000000000000 < 10000 ^ 330 := Nat.lt_of_le_of_lt (Nat.mul_le_mul_right _ (jP_lt (by omega) q hP F (by omega))) bnd3
      obtain ⟨G1, k1, k2, k3⟩ := p_M_countsIn K (by omega) hb (n := P i) (k := F i 3) (t := lta l) (S := jS q P i) hPi w3 ⟨ht1, ht2⟩ (by omega) hG hB hB2
      refine ⟨m, _, by omega, ⟨ly1, wo1, G1, rfl, by rw [eJP]; exact k2, fun r hr => by rw [k3 r hr, hot r hr]⟩, ?_⟩
      rw [eJ]
      rw [← q7] at k1
      clear hB hB2 eJP eJ hcm hx hv hg hG hot k2 k3 hS hE y2 hok hl q1 q2 q3 q4 q8
      simp only [selB, Bool.or_eq_true, decide_eq_true_eq] at hs
      by_cases hq1 : q = -1
      · subst hq1
        clear hs
        simp (disch := omega) only [f_M_numbers, e0, e1, e2, e3, y1, eP, k1, cast1, J_lit, J_add, J_sub, J_mul, J_neg, J_nat, J_inb, J_div, ↓reduceIte, Int.toNat_natCast, Option.bind_some, J_le_t, J_le_f, J_lt_t, J_lt_f, J_eq_t, J_eq_f, L_lit, L_add, L_sub, L_mul, L_div, JL, LJ, Int.reduceToNat, Int.toNat_zero, Int.toNat_one, xb, xm, within_t, within_f, nb_t, nb_f, ni_t, ni_f, in_t, in_f, less_, bad_0, bad_1, not_true_eq_false, not_false_eq_true, L_lt_t, L_lt_f, L_eq_t, L_eq_f, lg_gt, lg_eq, lg_lt]
      · have hq2 : q = i := by omega
        subst hq2
        clear hs
        simp (disch := omega) only [f_M_numbers, e0, e1, e2, e3, y1, eP, k1, cast1, J_lit, J_add, J_sub, J_mul, J_neg, J_nat, J_inb, J_div, ↓reduceIte, Int.toNat_natCast, Option.bind_some, J_le_t, J_le_f, J_lt_t, J_lt_f, J_eq_t, J_eq_f, L_lit, L_add, L_sub, L_mul, L_div, JL, LJ, Int.reduceToNat, Int.toNat_zero, Int.toNat_one, xb, xm, within_t, within_f, nb_t, nb_f, ni_t, ni_f, in_t, in_f, less_, bad_0, bad_1, not_true_eq_false, not_false_eq_true, L_lt_t, L_lt_f, L_eq_t, L_eq_f, lg_gt, lg_eq, lg_lt]
    · have eJP : jP (lta l) q P F (i + 1) = jP (lta l) q P F i := by rw [jP, if_neg hs, Nat.mul_one]
      have eJ : jS q P (i + 1) = jS q P i := by rw [jS, if_neg hs, Nat.add_zero]
      refine ⟨m + 1, _, by omega, ⟨ly, wo, G, rfl, by rw [eJP]; exact hG, hot⟩, ?_⟩
      rw [eJ]
      clear eJP eJ hcm hx hv hg hG hot hS hE y2 hok hl q1 q2 q3 q4 q8 y1 eP
      simp only [selB, Bool.or_eq_true, decide_eq_true_eq, not_or] at hs
      have hs1 := hs.1
      have hs2 := hs.2
      clear hs
      have : ∀ m, f_M_numbers K m5 m6 m7 m1 m2 m3 m4 many ev (J fn) mf lo ef et eh fi se th (m + 2) 2 (J b, J j, J q, J i, J 0, J 0, 0, ly, wo, G, J (jS q P i : Nat)) = f_M_numbers K m5 m6 m7 m1 m2 m3 m4 many ev (J fn) mf lo ef et eh fi se th m 2 (J b, J j, J q, J (i + 1 : Nat), J 0, J 0, 0, ly, wo, G, J (jS q P i : Nat)) := fun m => by
        simp (disch := omega) only [f_M_numbers, cast1, J_lit, J_add, J_sub, J_mul, J_neg, J_nat, J_inb, J_div, ↓reduceIte, Int.toNat_natCast, Option.bind_some, J_le_t, J_le_f, J_lt_t, J_lt_f, J_eq_t, J_eq_f, L_lit, L_add, L_sub, L_mul, L_div, JL, LJ, Int.reduceToNat, Int.toNat_zero, Int.toNat_one, xb, xm, within_t, within_f, nb_t, nb_f, ni_t, ni_f, in_t, in_f, less_, bad_0, bad_1, not_true_eq_false, not_false_eq_true, L_lt_t, L_lt_f, L_eq_t, L_eq_f, lg_gt, lg_eq, lg_lt]
      exact this (m + 1)) (J b, J j, J q, J (0 : Nat), J 0, J 0, 0, ly, wo, G, J (0 : Nat)) ⟨ly, wo, G, rfl, BR_one (fun i hi => hG i hi), hot⟩ m (by omega)
  obtain ⟨m', rfl⟩ : ∃ q, m' = q + 1 := ⟨m' - 1, by omega⟩
  refine ⟨ly', wo', G', ?_, hG', hot'⟩
  have e0 : sp_M_numbers K (J b) (J j) (J q) m5 m6 m7 m1 m2 m3 m4 many ev (J fn) mf ly wo lo ef et eh fi se th big sc = f_M_numbers K m5 m6 m7 m1 m2 m3 m4 many ev (J fn) mf lo ef et eh fi se th K 0 (J b, J j, J q, J (0 : Nat), J 0, J 0, 0, ly, wo, big, J 0) := rfl
  rw [e0]
  refine Eq.trans g3 ?_
  have e1 : f_M_numbers K m5 m6 m7 m1 m2 m3 m4 many ev (J fn) mf lo ef et eh fi se th (m + 1) 0 (J b, J j, J q, J (330 : Nat), J 0, J 0, 0, ly, wo, G, J 0) = f_M_numbers K m5 m6 m7 m1 m2 m3 m4 many ev (J fn) mf lo ef et eh fi se th m 2 (J b, J j, J q, J (0 : Nat), J 0, J 0, 0, ly, wo, G, J (0 : Nat)) := by
    clear hcm hx hv hg hG hot
    simp (disch := omega) only [f_M_numbers, J_lit, J_add, J_sub, J_mul, J_neg, J_nat, J_inb, J_div, ↓reduceIte, Int.toNat_natCast, Option.bind_some, J_le_t, J_le_f, J_lt_t, J_lt_f, J_eq_t, J_eq_f, L_lit, L_add, L_sub, L_mul, L_div, JL, LJ, Int.reduceToNat, Int.toNat_zero, Int.toNat_one, xb, xm, within_t, within_f, nb_t, nb_f, ni_t, ni_f, in_t, in_f, less_, bad_0, bad_1, not_true_eq_false, not_false_eq_true, L_lt_t, L_lt_f, L_eq_t, L_eq_f, lg_gt, lg_eq, lg_lt]
    rfl
  refine Eq.trans e1 (Eq.trans z3 ?_)
  clear hcm hx hv hg hG hot
  simp (disch := omega) only [f_M_numbers, J_lit, J_add, J_sub, J_mul, J_neg, J_nat, J_inb, J_div, ↓reduceIte, Int.toNat_natCast, Option.bind_some, J_le_t, J_le_f, J_lt_t, J_lt_f, J_eq_t, J_eq_f, L_lit, L_add, L_sub, L_mul, L_div, JL, LJ, Int.reduceToNat, Int.toNat_zero, Int.toNat_one, xb, xm, within_t, within_f, nb_t, nb_f, ni_t, ni_f, in_t, in_f, less_, bad_0, bad_1, not_true_eq_false, not_false_eq_true, L_lt_t, L_lt_f, L_eq_t, L_eq_f, lg_gt, lg_eq, lg_lt]
def CH (N S : Nat) : Prop := N ≤ 16 ^ S ∧ S ≤ 480
set_option maxHeartbeats 2000000 in
theorem CH_j {t : Nat} (ht : t ≤ 16) (q : Int) {P : Nat → Nat} (hP : ∀ i, P i ≤ 60) (F : Nat → Nat → Nat) {i : Nat} (hi : i ≤ 8) : CH (jP t q P F i) (jS q P i) := by
  have := jS_le q hP i
  exact ⟨jP_le ht q P F i, by omega⟩
def WT (X Y : Nat) : Nat := if Y = 0 then (if X = 0 then 0 else 1000000) else min 1000000 (X / Y)
set_option maxHeartbeats 2000000 in
theorem WT_le (X Y : Nat) : WT X Y ≤ 1000000 := by
  unfold WT; split
  · split <;> omega
  · exact Nat.min_le_left _ _
set_option maxHeartbeats 2000000 in
theorem mul_pos16 (c : Nat) : 0 < 16 ^ c := Nat.pow_pos (by omega)
set_option maxHeartbeats 2000000 in
theorem cmp_mul (A B : Nat) {c : Nat} (hc : 0 < c) : cmpA (A * c) (B * c) = cmpA A B := by
  unfold cmpA
  have h1 : (A * c = B * c) ↔ A = B := ⟨fun h => Nat.eq_of_mul_eq_mul_right hc h, fun h => by rw [h]⟩
  have h2 : (A * c < B * c) ↔ A < B := Nat.mul_lt_mul_right hc
  simp only [h1, h2]
set_option maxHeartbeats 2000000 in
theorem WT_mul (A B : Nat) {c : Nat} (hc : 0 < c) : WT (A * c) (B * c) = WT A B := by
  unfold WT
  have h1 : ∀ A, (A * c = 0) ↔ A = 0 := fun A => by
    rw [Nat.mul_eq_zero]; omega
  rw [Nat.mul_div_mul_right A B hc]
  simp only [h1]
set_option maxHeartbeats 2000000 in
theorem lev_eq {N1 N2 S1 S2 : Nat} : ∃ c, 0 < c ∧ N1 * 16 ^ S2 = N1 * 16 ^ (S2 - S1) * c ∧ N2 * 16 ^ S1 = N2 * 16 ^ (S1 - S2) * c := by
  refine ⟨16 ^ (min S1 S2), mul_pos16 _, ?_, ?_⟩
  · rw [Nat.mul_assoc, ← Nat.pow_add]; congr 2; omega
  · rw [Nat.mul_assoc, ← Nat.pow_add]; congr 2; omega
set_option maxHeartbeats 2000000 in
theorem lev_le {N1 S1 S2 : Nat} (h1 : CH N1 S1) (h2 : S2 ≤ 480) : N1 * 16 ^ (S2 - S1) ≤ 16 ^ 480 := by
  refine Nat.le_trans (Nat.mul_le_mul_right _ h1.1) ?_
  rw [← Nat.pow_add]
  exact Nat.pow_le_pow_right (by omega) (by have := h1.2; omega)
set_option maxHeartbeats 2000000 in
theorem b480 : 16 ^ 480 * 1000000 < GB ^ 136 := by decide +kernel
set_option maxHeartbeats 2000000 in
theorem b960 : 16 ^ 960 * 1000000 < 10000 ^ 330 := by decide +kernel
set_option maxHeartbeats 2000000 in
theorem p_level (K : Nat) (hK : 2000 ≤ K) {N1 S1 N2 S2 : Nat} {l1 l2 : Nat → Int32} {z1 z2 : Int32} (h1 : GR N1 l1 z1) (h2 : GR N2 l2 z2) (k1 : CH N1 S1) (k2 : CH N2 S2) (ll : Nat → Int32) (lz : Int32) (rl : Nat → Int32) (rz : Int32) : ∃ ll' lz' rl' rz', sp_Balance_level K (J S1) l1 z1 (J S2) l2 z2 ll lz rl rz = some (ll', lz', rl', rz') ∧ GR (N1 * 16 ^ (S2 - S1)) ll' lz' ∧ GR (N2 * 16 ^ (S1 - S2)) rl' rz' := by
  obtain ⟨a1, b1, x1, x2⟩ := p_Great_copy K h1 ll lz
  obtain ⟨a2, b2, y1, y2⟩ := p_Great_copy K h2 rl rz
  have c1 := lev_le k1 k2.2
  have c2 := lev_le k2 k1.2
  have b0 := b480
  have hp : ∀ {N N' e d : Nat} {lm : Nat → Int32} {s : Int32}, GR N lm s → N * 16 ^ e ≤ 16 ^ 480 → e ≤ 480 → (∀ q : Int, (q = (e : Int) ∨ (e = 0 ∧ q ≤ 0 ∧ -1000 ≤ q)) → ∃ lm' s', sp_Great_timesPower K (J 16) (J q) lm s = some (lm', s') ∧ GR (N * 16 ^ e) lm' s') := by
    intro N N' e d lm s hG hl he q hq
    rcases hq with rfl | ⟨h0, h1, h2⟩
    · exact p_Great_timesPower K hK (b := 16) (e := e) (by omega) he hG (by omega)
    · subst h0
      refine ⟨lm, s, p_Great_timesPower_n K hK _ (by omega) lm s, ?_⟩
      rw [Nat.pow_zero, Nat.mul_one]; exact hG
  have e1 := k1.2
  have e2 := k2.2
  obtain ⟨a3, b3, u1, u2⟩ := hp (N' := 0) (d := 0) x2 c1 (by omega) ((S2 : Int) - S1) (by omega)
  obtain ⟨a4, b4, v1, v2⟩ := hp (N' := 0) (d := 0) y2 c2 (by omega) ((S1 : Int) - S2) (by omega)
  refine ⟨a3, b3, a4, b4, ?_, u2, v2⟩
  clear c1 c2 b0 hp k1 k2 u2 v2 h1 h2 x2 y2
  simp (disch := omega) only [sp_Balance_level, x1, y1, u1, v1, J_lit, J_add, J_sub, J_mul, J_neg, J_nat, J_inb, J_div, ↓reduceIte, Int.toNat_natCast, Option.bind_some, J_le_t, J_le_f, J_lt_t, J_lt_f, J_eq_t, J_eq_f, L_lit, L_add, L_sub, L_mul, L_div, JL, LJ, Int.reduceToNat, Int.toNat_zero, Int.toNat_one, xb, xm, within_t, within_f, nb_t, nb_f, ni_t, ni_f, in_t, in_f, less_, bad_0, bad_1, not_true_eq_false, not_false_eq_true, L_lt_t, L_lt_f, L_eq_t, L_eq_f, lg_gt, lg_eq, lg_lt]
set_option maxHeartbeats 2000000 in
theorem p_compared (K : Nat) (hK : 2000 ≤ K) {N1 S1 N2 S2 : Nat} {l1 l2 : Nat → Int32} {z1 z2 : Int32} (h1 : GR N1 l1 z1) (h2 : GR N2 l2 z2) (k1 : CH N1 S1) (k2 : CH N2 S2) (ll : Nat → Int32) (lz : Int32) (rl : Nat → Int32) (rz : Int32) : ∃ ll' lz' rl' rz', sp_Balance_compared K (J S1) l1 z1 (J S2) l2 z2 ll lz rl rz = some (J (cmpA (N1 * 16 ^ S2) (N2 * 16 ^ S1)), ll', lz', rl', rz') := by
  obtain ⟨a, b, c, d, x1, x2, x3⟩ := p_level K hK h1 h2 k1 k2 ll lz rl rz
  have x4 := p_Great_compareWith K (by omega) x2 x3
  obtain ⟨e, he, e1, e2⟩ := lev_eq (N1 := N1) (N2 := N2) (S1 := S1) (S2 := S2)
  rw [e1, e2, cmp_mul _ _ he]
  refine ⟨a, b, c, d, ?_⟩
  clear h1 h2 k1 k2 x2 x3 e1 e2
  simp (disch := omega) only [sp_Balance_compared, x1, x4, J_lit, J_add, J_sub, J_mul, J_neg, J_nat, J_inb, J_div, ↓reduceIte, Int.toNat_natCast, Option.bind_some, J_le_t, J_le_f, J_lt_t, J_lt_f, J_eq_t, J_eq_f, L_lit, L_add, L_sub, L_mul, L_div, JL, LJ, Int.reduceToNat, Int.toNat_zero, Int.toNat_one, xb, xm, within_t, within_f, nb_t, nb_f, ni_t, ni_f, in_t, in_f, less_, bad_0, bad_1, not_true_eq_false, not_false_eq_true, L_lt_t, L_lt_f, L_eq_t, L_eq_f, lg_gt, lg_eq, lg_lt]
set_option maxHeartbeats 2000000 in
theorem W_lt {X Y d : Nat} (hY : 0 < Y) (hd : d ≤ 1000000) : min 1000000 (X / Y) < d ↔ X < Y * d := by
  have h := Nat.div_lt_iff_lt_mul (x := X) (y := d) hY
  rw [Nat.mul_comm Y d, ← h]
  omega
set_option maxHeartbeats 2000000 in
theorem p_ratio (K : Nat) (hK : 2000 ≤ K) {N1 S1 N2 S2 : Nat} {l1 l2 : Nat → Int32} {z1 z2 : Int32} (h1 : GR N1 l1 z1) (h2 : GR N2 l2 z2) (k1 : CH N1 S1) (k2 : CH N2 S2) (ll : Nat → Int32) (lz : Int32) (rl : Nat → Int32) (rz : Int32) (tl : Nat → Int32) (tz : Int32) : ∃ ll' lz' rl' rz' tl' tz', sp_Balance_ratio K (J S1) l1 z1 (J S2) l2 z2 ll lz rl rz tl tz = some (J (WT (N1 * 16 ^ S2) (N2 * 16 ^ S1) : Nat), ll', lz', rl', rz', tl', tz') := by
  obtain ⟨a, b, c, d, x1, x2, x3⟩ := p_level K hK h1 h2 k1 k2 ll lz rl rz
  obtain ⟨e, he, e1, e2⟩ := lev_eq (N1 := N1) (N2 := N2) (S1 := S1) (S2 := S2)
  have c2 := lev_le k2 k1.2
  rw [e1, e2, WT_mul _ _ he]
  clear e1 e2
  generalize N1 * 16 ^ (S2 - S1) = X at *
  generalize N2 * 16 ^ (S1 - S2) = Y at *
  obtain ⟨B, c2, b0⟩ : ∃ B, Y ≤ B ∧ B * 1000000 < GB ^ 136 := ⟨_, c2, b480⟩
  have z1' := p_Great_isZero K x3
  have z2' := p_Great_isZero K x2
  by_cases hY : Y = 0
  · rw [if_pos hY] at z1'
    by_cases hX : X = 0
    · rw [if_pos hX] at z2'
      refine ⟨a, b, c, d, tl, tz, ?_⟩
      rw [WT, if_pos hY, if_pos hX]
      clear h1 h2 k1 k2 x2 x3 c2
      simp (disch := omega) only [sp_Balance_ratio, x1, z1', z2', J_lit, J_add, J_sub, J_mul, J_neg, J_nat, J_inb, J_div, ↓reduceIte, Int.toNat_natCast, Option.bind_some, J_le_t, J_le_f, J_lt_t, J_lt_f, J_eq_t, J_eq_f, L_lit, L_add, L_sub, L_mul, L_div, JL, LJ, Int.reduceToNat, Int.toNat_zero, Int.toNat_one, xb, xm, within_t, within_f, nb_t, nb_f, ni_t, ni_f, in_t, in_f, less_, bad_0, bad_1, not_true_eq_false, not_false_eq_true, L_lt_t, L_lt_f, L_eq_t, L_eq_f, lg_gt, lg_eq, lg_lt]
      rfl
    · rw [if_neg hX] at z2'
      refine ⟨a, b, c, d, tl, tz, ?_⟩
      rw [WT, if_pos hY, if_neg hX]
      clear h1 h2 k1 k2 x2 x3 c2
      simp (disch := omega) only [sp_Balance_ratio, x1, z1', z2', J_lit, J_add, J_sub, J_mul, J_neg, J_nat, J_inb, J_div, ↓reduceIte, Int.toNat_natCast, Option.bind_some, J_le_t, J_le_f, J_lt_t, J_lt_f, J_eq_t, J_eq_f, L_lit, L_add, L_sub, L_mul, L_div, JL, LJ, Int.reduceToNat, Int.toNat_zero, Int.toNat_one, xb, xm, within_t, within_f, nb_t, nb_f, ni_t, ni_f, in_t, in_f, less_, bad_0, bad_1, not_true_eq_false, not_false_eq_true, L_lt_t, L_lt_f, L_eq_t, L_eq_f, lg_gt, lg_eq, lg_lt]
      rfl
  · rw [if_neg hY] at z1'
    have hW : WT X Y = min 1000000 (X / Y) := if_neg hY
    have key : ∀ (r lo hi i : Nat), hi - lo < 2 ^ r → r + i ≤ 32 → lo ≤ WT X Y → WT X Y ≤ hi → hi ≤ 1000000 → ∀ (tl : Nat → Int32) (tz : Int32) (m : Nat), 2 * r + 1 ≤ m → ∃ tl' tz', f_Balance_ratio K m 0 (J lo, J hi, J i, a, b, c, d, tl, tz) = some (J (WT X Y : Nat), a, b, c, d, tl', tz') := by
      intro r
      induction r with
      | zero =>
        intro lo hi i h1 h2 h3 h4 h5 tl tz m hm
        obtain ⟨m, rfl⟩ : ∃ k, m = k + 1 := ⟨m - 1, by omega⟩
        have h1' : hi = lo := by rw [Nat.pow_zero] at h1; omega
        have h6 : WT X Y = lo := by omega
        rw [h6]
        subst h1'
        refine ⟨tl, tz, ?_⟩
        clear h6 hW h1 h3 h4 x2 x3 c2
        by_cases hi32 : i = 32
        · subst hi32
          simp (disch := omega) only [f_Balance_ratio, J_lit, J_add, J_sub, J_mul, J_neg, J_nat, J_inb, J_div, ↓reduceIte, Int.toNat_natCast, Option.bind_some, J_le_t, J_le_f, J_lt_t, J_lt_f, J_eq_t, J_eq_f, L_lit, L_add, L_sub, L_mul, L_div, JL, LJ, Int.reduceToNat, Int.toNat_zero, Int.toNat_one, xb, xm, within_t, within_f, nb_t, nb_f, ni_t, ni_f, in_t, in_f, less_, bad_0, bad_1, not_true_eq_false, not_false_eq_true, L_lt_t, L_lt_f, L_eq_t, L_eq_f, lg_gt, lg_eq, lg_lt]
        · simp (disch := omega) only [f_Balance_ratio, J_lit, J_add, J_sub, J_mul, J_neg, J_nat, J_inb, J_div, ↓reduceIte, Int.toNat_natCast, Option.bind_some, J_le_t, J_le_f, J_lt_t, J_lt_f, J_eq_t, J_eq_f, L_lit, L_add, L_sub, L_mul, L_div, JL, LJ, Int.reduceToNat, Int.toNat_zero, Int.toNat_one, xb, xm, within_t, within_f, nb_t, nb_f, ni_t, ni_f, in_t, in_f, less_, bad_0, bad_1, not_true_eq_false, not_false_eq_true, L_lt_t, L_lt_f, L_eq_t, L_eq_f, lg_gt, lg_eq, lg_lt]
      | succ r ih =>
        intro lo hi i h1 h2 h3 h4 h5 tl tz m hm
        obtain ⟨m, rfl⟩ : ∃ k, m = k + 2 := ⟨m - 2, by omega⟩
        have hlo : lo ≤ 1000000 := by omega
        by_cases hlh : hi ≤ lo
        · have h6 : WT X Y = lo := by omega
          rw [h6]
          refine ⟨tl, tz, ?_⟩
          clear h6 hW h1 h3 h4 x2 x3 ih c2
          simp (disch := omega) only [f_Balance_ratio, J_lit, J_add, J_sub, J_mul, J_neg, J_nat, J_inb, J_div, ↓reduceIte, Int.toNat_natCast, Option.bind_some, J_le_t, J_le_f, J_lt_t, J_lt_f, J_eq_t, J_eq_f, L_lit, L_add, L_sub, L_mul, L_div, JL, LJ, Int.reduceToNat, Int.toNat_zero, Int.toNat_one, xb, xm, within_t, within_f, nb_t, nb_f, ni_t, ni_f, in_t, in_f, less_, bad_0, bad_1, not_true_eq_false, not_false_eq_true, L_lt_t, L_lt_f, L_eq_t, L_eq_f, lg_gt, lg_eq, lg_lt]
        · obtain ⟨md, hmd⟩ : ∃ md : Nat, md = (lo + hi + 1) / 2 := ⟨_, rfl⟩
          have em : ((lo : Int) + (hi : Int) + 1) / 2 = (md : Int) := by omega
          obtain ⟨t1, s1, u1, u2⟩ := p_Great_copy K x3 tl tz
          have hmd1 : md ≤ 1000000 := by omega
          have hYm : Y * md < GB ^ 136 := Nat.lt_of_le_of_lt (Nat.mul_le_mul c2 hmd1) b0
          have hmd2 : md < GB * GB := by
            have : GB * GB = 1000000000000000000 := rfl
            omega
          obtain ⟨t2, s2, v1, v2⟩ := p_Great_times K (by omega) u2 hmd2 hYm
          have v3 := p_Great_compareWith K (by omega) v2 x2
          have hlt := W_lt (X := X) (Y := Y) (d := md) (by omega) (by omega)
          rw [← hW] at hlt
          have hp : 2 ^ (r + 1) = 2 * 2 ^ r := by rw [Nat.pow_succ]; omega
          by_cases hc : X < Y * md
          · have hw := hlt.mpr hc
            obtain ⟨tl', tz', w1⟩ := ih lo (md - 1) (i + 1) (by omega) (by omega) h3 (by omega) (by omega) t2 s2 m (by omega)
            refine ⟨tl', tz', ?_⟩
            rw [← w1]
            have hcmp : cmpA (Y * md) X = 1 := by unfold cmpA; rw [if_neg (by omega), if_neg (by omega)]
            rw [hcmp] at v3
            have e3 : (md : Int) - 1 = ((md - 1 : Nat) : Int) := by omega
            clear w1 hcmp hc hlt hYm hmd2 b0 h1 h3 h4 x2 x3 ih c2 hp hw hW hmd u2 v2
            simp (disch := omega) only [f_Balance_ratio, em, u1, v1, v3, cast1, e3, J_lit, J_add, J_sub, J_mul, J_neg, J_nat, J_inb, J_div, ↓reduceIte, Int.toNat_natCast, Option.bind_some, J_le_t, J_le_f, J_lt_t, J_lt_f, J_eq_t, J_eq_f, L_lit, L_add, L_sub, L_mul, L_div, JL, LJ, Int.reduceToNat, Int.toNat_zero, Int.toNat_one, xb, xm, within_t, within_f, nb_t, nb_f, ni_t, ni_f, in_t, in_f, less_, bad_0, bad_1, not_true_eq_false, not_false_eq_true, L_lt_t, L_lt_f, L_eq_t, L_eq_f, lg_gt, lg_eq, lg_lt]
          · have hw : md ≤ WT X Y := by
              have := fun h => hc (hlt.mp h)
              omega
            obtain ⟨tl', tz', w1⟩ := ih md hi (i + 1) (by omega) (by omega) hw h4 h5 t2 s2 m (by omega)
            refine ⟨tl', tz', ?_⟩
            rw [← w1]
            obtain ⟨q, hcmp, hq⟩ : ∃ q : Int, cmpA (Y * md) X = q ∧ (q ≤ 0 ∧ -1 ≤ q) := ⟨_, rfl, by
              unfold cmpA
              by_cases hA : Y * md = X
              · rw [if_pos hA]; omega
              · rw [if_neg hA, if_pos (by omega)]; omega⟩
            rw [hcmp] at v3
            clear w1 hcmp hc hlt hYm hmd2 b0 h1 h3 h4 x2 x3 ih c2 hp hw hW hmd u2 v2
            simp (disch := omega) only [f_Balance_ratio, em, u1, v1, v3, cast1, J_lit, J_add, J_sub, J_mul, J_neg, J_nat, J_inb, J_div, ↓reduceIte, Int.toNat_natCast, Option.bind_some, J_le_t, J_le_f, J_lt_t, J_lt_f, J_eq_t, J_eq_f, L_lit, L_add, L_sub, L_mul, L_div, JL, LJ, Int.reduceToNat, Int.toNat_zero, Int.toNat_one, xb, xm, within_t, within_f, nb_t, nb_f, ni_t, ni_f, in_t, in_f, less_, bad_0, bad_1, not_true_eq_false, not_false_eq_true, L_lt_t, L_lt_f, L_eq_t, L_eq_f, lg_gt, lg_eq, lg_lt]
    obtain ⟨tl', tz', w1⟩ := key 20 0 1000000 0 (by decide) (by omega) (Nat.zero_le _) (WT_le _ _) (Nat.le_refl _) tl tz K (by omega)
    refine ⟨a, b, c, d, tl', tz', ?_⟩
    rw [← w1]
    clear h1 h2 k1 k2 x2 x3 c2 key w1
    simp (disch := omega) only [sp_Balance_ratio, x1, z1', J_lit, J_add, J_sub, J_mul, J_neg, J_nat, J_inb, J_div, ↓reduceIte, Int.toNat_natCast, Option.bind_some, J_le_t, J_le_f, J_lt_t, J_lt_f, J_eq_t, J_eq_f, L_lit, L_add, L_sub, L_mul, L_div, JL, LJ, Int.reduceToNat, Int.toNat_zero, Int.toNat_one, xb, xm, within_t, within_f, nb_t, nb_f, ni_t, ni_f, in_t, in_f, less_, bad_0, bad_1, not_true_eq_false, not_false_eq_true, L_lt_t, L_lt_f, L_eq_t, L_eq_f, lg_gt, lg_eq, lg_lt]
    rfl
set_option maxHeartbeats 2000000 in
theorem p_M_levels (K : Nat) (hK : 2000 ≤ K) {N1 S1 N2 S2 : Nat} {big : Nat → Nat → Int32} (h1 : BR 0 N1 big) (h2 : BR 1 N2 big) (k1 : CH N1 S1) (k2 : CH N2 S2) : ∃ big', sp_M_levels K (J S1) (J S2) big = some big' ∧ BR 0 (N1 * 16 ^ S2) big' ∧ BR 1 (N2 * 16 ^ S1) big' ∧ N2 * 16 ^ S1 * 1000000 < 10000 ^ 330 := by
  have hb : ∀ {N S i : Nat}, CH N S → i ≤ 480 → N * 16 ^ i * 1000000 < 10000 ^ 330 := by
    intro N S i hc hi
    refine Nat.lt_of_le_of_lt (Nat.mul_le_mul_right _ ?_) b960
    refine Nat.le_trans (Nat.mul_le_mul_right _ hc.1) ?_
    rw [← Nat.pow_add]
    exact Nat.pow_le_pow_right (by omega) (by have := hc.2; omega)
  have e1 := k1.2
  have e2 := k2.2
  have hlt : ∀ {A : Nat}, A * 1000000 < 10000 ^ 330 → A < 10000 ^ 330 := fun {A} h => by
    generalize 10000 ^ 330 = Q at *
    omega
  obtain ⟨m, s, g1, ⟨G, rfl, hG, hG1⟩, g3⟩ := lp (fun m s => f_M_levels K m 0 s) (fun i s => ∃ G : Nat → Nat → Int32, s = (J S1, J S2, J i, G) ∧ BR 0 (N1 * 16 ^ i) G ∧ BR 1 N2 G) 1 S2 (by
    rintro i hi s ⟨G, rfl, hG, hG1⟩ m
    have hl : N1 * 16 ^ i * 16 < 10000 ^ 330 := by
      rw [Nat.mul_assoc, ← Nat.pow_succ]; exact hlt (hb k1 (by omega))
    obtain ⟨G1, x1, x2, x3⟩ := p_M_times K (by omega) (b := 0) (v := 16) (by omega) (by omega) hG hl
    rw [Nat.mul_assoc, ← Nat.pow_succ] at x2
    refine ⟨m, _, by omega, ⟨G1, rfl, x2, BR_congr hG1 (fun i _ => by rw [x3 1 (by omega)])⟩, ?_⟩
    rw [Int.natCast_zero] at x1
    clear hl hlt hb x2 x3 hG hG1 k1 k2 h1 h2
    simp (disch := omega) only [f_M_levels, cast1, J_lit, J_add, J_sub, J_mul, J_neg, J_nat, J_inb, J_div, ↓reduceIte, Int.toNat_natCast, Option.bind_some, J_le_t, J_le_f, J_lt_t, J_lt_f, J_eq_t, J_eq_f, L_lit, L_add, L_sub, L_mul, L_div, JL, LJ, Int.reduceToNat, Int.toNat_zero, Int.toNat_one, xb, xm, within_t, within_f, nb_t, nb_f, ni_t, ni_f, in_t, in_f, less_, bad_0, bad_1, not_true_eq_false, not_false_eq_true, L_lt_t, L_lt_f, L_eq_t, L_eq_f, lg_gt, lg_eq, lg_lt]
    rw [show J 16 = J (16 : Nat) from rfl, x1]
    simp (disch := omega) only [J_lit, J_add, J_sub, J_mul, J_neg, J_nat, J_inb, J_div, ↓reduceIte, Int.toNat_natCast, Option.bind_some, J_le_t, J_le_f, J_lt_t, J_lt_f, J_eq_t, J_eq_f, L_lit, L_add, L_sub, L_mul, L_div, JL, LJ, Int.reduceToNat, Int.toNat_zero, Int.toNat_one, xb, xm, within_t, within_f, nb_t, nb_f, ni_t, ni_f, in_t, in_f, less_, bad_0, bad_1, not_true_eq_false, not_false_eq_true, L_lt_t, L_lt_f, L_eq_t, L_eq_f, lg_gt, lg_eq, lg_lt]) (J S1, J S2, J (0 : Nat), big) ⟨big, rfl, by rw [Nat.pow_zero, Nat.mul_one]; exact h1, h2⟩ K (by omega)
  obtain ⟨m, rfl⟩ : ∃ q, m = q + 1 := ⟨m - 1, by omega⟩
  obtain ⟨m', s', z1, ⟨G', rfl, hG', hG1'⟩, z3⟩ := lp (fun m s => f_M_levels K m 1 s) (fun i s => ∃ G : Nat → Nat → Int32, s = (J S1, J 0, J i, G) ∧ BR 0 (N1 * 16 ^ S2) G ∧ BR 1 (N2 * 16 ^ i) G) 1 S1 (by
    rintro i hi s ⟨G, rfl, hG, hG1⟩ m
    have hl : N2 * 16 ^ i * 16 < 10000 ^ 330 := by
      rw [Nat.mul_assoc, ← Nat.pow_succ]; exact hlt (hb k2 (by omega))
    obtain ⟨G1, x1, x2, x3⟩ := p_M_times K (by omega) (b := 1) (v := 16) (by omega) (by omega) hG1 hl
    rw [Nat.mul_assoc, ← Nat.pow_succ] at x2
    refine ⟨m, _, by omega, ⟨G1, rfl, BR_congr hG (fun i _ => by rw [x3 0 (by omega)]), x2⟩, ?_⟩
    clear hl hlt hb x2 x3 hG hG1 k1 k2 h1 h2
    simp (disch := omega) only [f_M_levels, cast1, J_lit, J_add, J_sub, J_mul, J_neg, J_nat, J_inb, J_div, ↓reduceIte, Int.toNat_natCast, Option.bind_some, J_le_t, J_le_f, J_lt_t, J_lt_f, J_eq_t, J_eq_f, L_lit, L_add, L_sub, L_mul, L_div, JL, LJ, Int.reduceToNat, Int.toNat_zero, Int.toNat_one, xb, xm, within_t, within_f, nb_t, nb_f, ni_t, ni_f, in_t, in_f, less_, bad_0, bad_1, not_true_eq_false, not_false_eq_true, L_lt_t, L_lt_f, L_eq_t, L_eq_f, lg_gt, lg_eq, lg_lt]
    rw [show J 16 = J (16 : Nat) from rfl, show J 1 = J (1 : Nat) from rfl, x1]
    simp (disch := omega) only [J_lit, J_add, J_sub, J_mul, J_neg, J_nat, J_inb, J_div, ↓reduceIte, Int.toNat_natCast, Option.bind_some, J_le_t, J_le_f, J_lt_t, J_lt_f, J_eq_t, J_eq_f, L_lit, L_add, L_sub, L_mul, L_div, JL, LJ, Int.reduceToNat, Int.toNat_zero, Int.toNat_one, xb, xm, within_t, within_f, nb_t, nb_f, ni_t, ni_f, in_t, in_f, less_, bad_0, bad_1, not_true_eq_false, not_false_eq_true, L_lt_t, L_lt_f, L_eq_t, L_eq_f, lg_gt, lg_eq, lg_lt]) (J S1, J 0, J (0 : Nat), G) ⟨G, rfl, hG, by rw [Nat.pow_zero, Nat.mul_one]; exact hG1⟩ m (by omega)
  obtain ⟨m', rfl⟩ : ∃ q, m' = q + 1 := ⟨m' - 1, by omega⟩
  refine ⟨G', ?_, hG', hG1', hb k2 (by omega)⟩
  unfold sp_M_levels
  refine Eq.trans g3 ?_
  have e1 : f_M_levels K (m + 1) 0 (J S1, J S2, J S2, G) = f_M_levels K m 1 (J S1, J 0, J (0 : Nat), G) := by
    clear hlt hb k1 k2
    simp (disch := omega) only [f_M_levels, J_lit, J_add, J_sub, J_mul, J_neg, J_nat, J_inb, J_div, ↓reduceIte, Int.toNat_natCast, Option.bind_some, J_le_t, J_le_f, J_lt_t, J_lt_f, J_eq_t, J_eq_f, L_lit, L_add, L_sub, L_mul, L_div, JL, LJ, Int.reduceToNat, Int.toNat_zero, Int.toNat_one, xb, xm, within_t, within_f, nb_t, nb_f, ni_t, ni_f, in_t, in_f, less_, bad_0, bad_1, not_true_eq_false, not_false_eq_true, L_lt_t, L_lt_f, L_eq_t, L_eq_f, lg_gt, lg_eq, lg_lt]
    rfl
  refine Eq.trans e1 (Eq.trans z3 ?_)
  clear hlt hb k1 k2
  simp (disch := omega) only [f_M_levels, J_lit, J_add, J_sub, J_mul, J_neg, J_nat, J_inb, J_div, ↓reduceIte, Int.toNat_natCast, Option.bind_some, J_le_t, J_le_f, J_lt_t, J_lt_f, J_eq_t, J_eq_f, L_lit, L_add, L_sub, L_mul, L_div, JL, LJ, Int.reduceToNat, Int.toNat_zero, Int.toNat_one, xb, xm, within_t, within_f, nb_t, nb_f, ni_t, ni_f, in_t, in_f, less_, bad_0, bad_1, not_true_eq_false, not_false_eq_true, L_lt_t, L_lt_f, L_eq_t, L_eq_f, lg_gt, lg_eq, lg_lt]
set_option maxHeartbeats 2000000 in
theorem p_M_worthNow (K : Nat) (hK : 100000 ≤ K) {X Y : Nat} {big : Nat → Nat → Int32} (h1 : BR 0 X big) (h2 : BR 1 Y big) (hY : Y * 1000000 < 10000 ^ 330) : ∃ big', sp_M_worthNow K big = some (J (WT X Y : Nat), big') := by
  have z1 := p_M_isNothing K (by omega) (b := 0) (by omega) h1
  have z2 := p_M_isNothing K (by omega) (b := 1) (by omega) h2
  rw [Int.natCast_zero] at z1
  rw [show J (1 : Nat) = J 1 from rfl] at z2
  by_cases hX0 : X = 0
  · rw [if_pos hX0] at z1
    refine ⟨big, ?_⟩
    have : WT X Y = 0 := by
      rw [WT, hX0]; split
      · rfl
      · rw [Nat.zero_div]; rfl
    rw [this]
    clear hY
    simp (disch := omega) only [sp_M_worthNow, z1, J_lit, J_add, J_sub, J_mul, J_neg, J_nat, J_inb, J_div, ↓reduceIte, Int.toNat_natCast, Option.bind_some, J_le_t, J_le_f, J_lt_t, J_lt_f, J_eq_t, J_eq_f, L_lit, L_add, L_sub, L_mul, L_div, JL, LJ, Int.reduceToNat, Int.toNat_zero, Int.toNat_one, xb, xm, within_t, within_f, nb_t, nb_f, ni_t, ni_f, in_t, in_f, less_, bad_0, bad_1, not_true_eq_false, not_false_eq_true, L_lt_t, L_lt_f, L_eq_t, L_eq_f, lg_gt, lg_eq, lg_lt]
    rfl
  · rw [if_neg hX0] at z1
    by_cases hY0 : Y = 0
    · rw [if_pos hY0] at z2
      refine ⟨big, ?_⟩
      rw [WT, if_pos hY0, if_neg hX0]
      clear hY
      simp (disch := omega) only [sp_M_worthNow, z1, z2, J_lit, J_add, J_sub, J_mul, J_neg, J_nat, J_inb, J_div, ↓reduceIte, Int.toNat_natCast, Option.bind_some, J_le_t, J_le_f, J_lt_t, J_lt_f, J_eq_t, J_eq_f, L_lit, L_add, L_sub, L_mul, L_div, JL, LJ, Int.reduceToNat, Int.toNat_zero, Int.toNat_one, xb, xm, within_t, within_f, nb_t, nb_f, ni_t, ni_f, in_t, in_f, less_, bad_0, bad_1, not_true_eq_false, not_false_eq_true, L_lt_t, L_lt_f, L_eq_t, L_eq_f, lg_gt, lg_eq, lg_lt]
      rfl
    · rw [if_neg hY0] at z2
      have hW : WT X Y = min 1000000 (X / Y) := if_neg hY0
      have key : ∀ (r lo hi : Nat), hi - lo < 2 ^ r → r ≤ 20 → lo ≤ WT X Y → WT X Y ≤ hi → hi ≤ 1000000 → ∀ (G : Nat → Nat → Int32), BR 0 X G → BR 1 Y G → ∀ m, 400 * r + 1 ≤ m → ∃ G', f_M_worthNow K m 0 (J lo, J hi, J 0, J 0, G) = some (J (WT X Y : Nat), G') := by
        intro r
        induction r with
        | zero =>
          intro lo hi i1 i2 i3 i4 i5 G g1 g2 m hm
          obtain ⟨m, rfl⟩ : ∃ k, m = k + 1 := ⟨m - 1, by omega⟩
          have h1' : hi = lo := by rw [Nat.pow_zero] at i1; omega
          have h6 : WT X Y = lo := by omega
          rw [h6]
          subst h1'
          refine ⟨G, ?_⟩
          clear h6 hW i1 i3 i4 hY g1 g2
          simp (disch := omega) only [f_M_worthNow, J_lit, J_add, J_sub, J_mul, J_neg, J_nat, J_inb, J_div, ↓reduceIte, Int.toNat_natCast, Option.bind_some, J_le_t, J_le_f, J_lt_t, J_lt_f, J_eq_t, J_eq_f, L_lit, L_add, L_sub, L_mul, L_div, JL, LJ, Int.reduceToNat, Int.toNat_zero, Int.toNat_one, xb, xm, within_t, within_f, nb_t, nb_f, ni_t, ni_f, in_t, in_f, less_, bad_0, bad_1, not_true_eq_false, not_false_eq_true, L_lt_t, L_lt_f, L_eq_t, L_eq_f, lg_gt, lg_eq, lg_lt]
        | succ r ih =>
          intro lo hi i1 i2 i3 i4 i5 G g1 g2 m hm
          obtain ⟨m, rfl⟩ : ∃ k, m = k + 1 := ⟨m - 1, by omega⟩
          have hlo : lo ≤ 1000000 := by omega
          by_cases hlh : hi ≤ lo
          · have h6 : WT X Y = lo := by omega
            rw [h6]
            refine ⟨G, ?_⟩
            clear h6 hW i1 i3 i4 hY g1 g2 ih
            simp (disch := omega) only [f_M_worthNow, J_lit, J_add, J_sub, J_mul, J_neg, J_nat, J_inb, J_div, ↓reduceIte, Int.toNat_natCast, Option.bind_some, J_le_t, J_le_f, J_lt_t, J_lt_f, J_eq_t, J_eq_f, L_lit, L_add, L_sub, L_mul, L_div, JL, LJ, Int.reduceToNat, Int.toNat_zero, Int.toNat_one, xb, xm, within_t, within_f, nb_t, nb_f, ni_t, ni_f, in_t, in_f, less_, bad_0, bad_1, not_true_eq_false, not_false_eq_true, L_lt_t, L_lt_f, L_eq_t, L_eq_f, lg_gt, lg_eq, lg_lt]
          · obtain ⟨md, hmd⟩ : ∃ md : Nat, md = (lo + hi + 1) / 2 := ⟨_, rfl⟩
            have em : ((lo : Int) + (hi : Int) + 1) / 2 = (md : Int) := by omega
            have hmd1 : md ≤ 1000000 := by omega
            obtain ⟨m', s', z1, ⟨G', rfl, hG0, hG1, hG2⟩, z3⟩ := lp (fun m s => f_M_worthNow K m 1 s) (fun i s => ∃ H : Nat → Nat → Int32, s = (J lo, J hi, J md, J i, H) ∧ H 0 = G 0 ∧ H 1 = G 1 ∧ ∀ r, r < i → H 2 r = G 1 r) 1 330 (by
              rintro i hi s ⟨H, rfl, hH0, hH1, hH2⟩ m
              refine ⟨m, _, by omega, ⟨va_up H 2 (upd (H 2) i (H 1 i)), rfl, by rw [pu_up_ne _ _ (by omega)]; exact hH0, by rw [pu_up_ne _ _ (by omega)]; exact hH1, fun r hr => ?_⟩, ?_⟩
              · rw [va_up_eq]; unfold upd; split
                · next h => rw [h, hH1]
                · exact hH2 r (by omega)
              · clear hW i1 i3 i4 hY g1 g2 ih hmd em
                simp (disch := omega) only [f_M_worthNow, cast1, J_lit, J_add, J_sub, J_mul, J_neg, J_nat, J_inb, J_div, ↓reduceIte, Int.toNat_natCast, Option.bind_some, J_le_t, J_le_f, J_lt_t, J_lt_f, J_eq_t, J_eq_f, L_lit, L_add, L_sub, L_mul, L_div, JL, LJ, Int.reduceToNat, Int.toNat_zero, Int.toNat_one, xb, xm, within_t, within_f, nb_t, nb_f, ni_t, ni_f, in_t, in_f, less_, bad_0, bad_1, not_true_eq_false, not_false_eq_true, L_lt_t, L_lt_f, L_eq_t, L_eq_f, lg_gt, lg_eq, lg_lt]) (J lo, J hi, J md, J (0 : Nat), G) ⟨G, rfl, rfl, rfl, fun r hr => by omega⟩ m (by omega)
            obtain ⟨m', rfl⟩ : ∃ k, m' = k + 2 := ⟨m' - 2, by omega⟩
            have b2 : BR 2 Y G' := by
              obtain ⟨a, ha, hl, hv⟩ := g2
              exact ⟨a, fun i hi => by rw [hG2 i hi, ha i hi], hl, hv⟩
            have hYm : Y * md < 10000 ^ 330 := Nat.lt_of_le_of_lt (Nat.mul_le_mul_left _ hmd1) hY
            obtain ⟨G1, x1, x2, x3⟩ := p_M_times K (by omega) (b := 2) (v := md) (by omega) (by omega) b2 hYm
            have c0 : BR 0 X G1 := BR_congr g1 (fun i _ => by rw [x3 0 (by omega), hG0])
            have c1 : BR 1 Y G1 := BR_congr g2 (fun i _ => by rw [x3 1 (by omega), hG1])
            have v3 := p_M_compare K (by omega) (b := 0) (c := 2) (by omega) (by omega) c0 x2
            rw [Int.natCast_zero, show J (2 : Nat) = J 2 from rfl] at v3
            rw [show J (2 : Nat) = J 2 from rfl] at x1
            have e1 : f_M_worthNow K (m + 1) 0 (J lo, J hi, J 0, J 0, G) = f_M_worthNow K m 1 (J lo, J hi, J md, J (0 : Nat), G) := by
              clear hW i1 i3 i4 hY g1 g2 ih hmd z3 hYm
              simp (disch := omega) only [f_M_worthNow, em, J_lit, J_add, J_sub, J_mul, J_neg, J_nat, J_inb, J_div, ↓reduceIte, Int.toNat_natCast, Option.bind_some, J_le_t, J_le_f, J_lt_t, J_lt_f, J_eq_t, J_eq_f, L_lit, L_add, L_sub, L_mul, L_div, JL, LJ, Int.reduceToNat, Int.toNat_zero, Int.toNat_one, xb, xm, within_t, within_f, nb_t, nb_f, ni_t, ni_f, in_t, in_f, less_, bad_0, bad_1, not_true_eq_false, not_false_eq_true, L_lt_t, L_lt_f, L_eq_t, L_eq_f, lg_gt, lg_eq, lg_lt]
              rfl
            have hlt := W_lt (X := X) (Y := Y) (d := md) (by omega) (by omega)
            rw [← hW] at hlt
            have hp : 2 ^ (r + 1) = 2 * 2 ^ r := by rw [Nat.pow_succ]; omega
            by_cases hc : X < Y * md
            · have hw := hlt.mpr hc
              obtain ⟨G2, w1⟩ := ih lo (md - 1) (by omega) (by omega) i3 (by omega) (by omega) G1 c0 c1 m' (by omega)
              refine ⟨G2, ?_⟩
              rw [← w1, e1]
              refine Eq.trans z3 ?_
              have hcmp : cmpA X (Y * md) = -1 := by unfold cmpA; rw [if_neg (by omega), if_pos (by omega)]
              rw [hcmp] at v3
              have e3 : (md : Int) - 1 = ((md - 1 : Nat) : Int) := by omega
              clear w1 hcmp hc hlt hYm i1 i3 i4 x2 x3 ih hp hw hW hmd hY g1 g2 b2 c0 c1 z3 e1
              simp (disch := omega) only [f_M_worthNow, x1, v3, e3, J_lit, J_add, J_sub, J_mul, J_neg, J_nat, J_inb, J_div, ↓reduceIte, Int.toNat_natCast, Option.bind_some, J_le_t, J_le_f, J_lt_t, J_lt_f, J_eq_t, J_eq_f, L_lit, L_add, L_sub, L_mul, L_div, JL, LJ, Int.reduceToNat, Int.toNat_zero, Int.toNat_one, xb, xm, within_t, within_f, nb_t, nb_f, ni_t, ni_f, in_t, in_f, less_, bad_0, bad_1, not_true_eq_false, not_false_eq_true, L_lt_t, L_lt_f, L_eq_t, L_eq_f, lg_gt, lg_eq, lg_lt]
            · have hw : md ≤ WT X Y := by
                have := fun h => hc (hlt.mp h)
                omega
              obtain ⟨G2, w1⟩ := ih md hi (by omega) (by omega) hw i4 i5 G1 c0 c1 m' (by omega)
              refine ⟨G2, ?_⟩
              rw [← w1, e1]
              refine Eq.trans z3 ?_
              obtain ⟨q, hcmp, hq⟩ : ∃ q : Int, cmpA X (Y * md) = q ∧ (0 ≤ q ∧ q ≤ 1) := ⟨_, rfl, by
                unfold cmpA
                by_cases hA : X = Y * md
                · rw [if_pos hA]; omega
                · rw [if_neg hA, if_neg (by omega)]; omega⟩
              rw [hcmp] at v3
              clear w1 hcmp hc hlt hYm i1 i3 i4 x2 x3 ih hp hw hW hmd hY g1 g2 b2 c0 c1 z3 e1
              simp (disch := omega) only [f_M_worthNow, x1, v3, J_lit, J_add, J_sub, J_mul, J_neg, J_nat, J_inb, J_div, ↓reduceIte, Int.toNat_natCast, Option.bind_some, J_le_t, J_le_f, J_lt_t, J_lt_f, J_eq_t, J_eq_f, L_lit, L_add, L_sub, L_mul, L_div, JL, LJ, Int.reduceToNat, Int.toNat_zero, Int.toNat_one, xb, xm, within_t, within_f, nb_t, nb_f, ni_t, ni_f, in_t, in_f, less_, bad_0, bad_1, not_true_eq_false, not_false_eq_true, L_lt_t, L_lt_f, L_eq_t, L_eq_f, lg_gt, lg_eq, lg_lt]
      obtain ⟨G', w1⟩ := key 20 0 1000000 (by decide) (by omega) (Nat.zero_le _) (WT_le _ _) (Nat.le_refl _) big h1 h2 K (by omega)
      refine ⟨G', ?_⟩
      rw [← w1]
      clear h1 h2 hY key w1
      simp (disch := omega) only [sp_M_worthNow, z1, z2, J_lit, J_add, J_sub, J_mul, J_neg, J_nat, J_inb, J_div, ↓reduceIte, Int.toNat_natCast, Option.bind_some, J_le_t, J_le_f, J_lt_t, J_lt_f, J_eq_t, J_eq_f, L_lit, L_add, L_sub, L_mul, L_div, JL, LJ, Int.reduceToNat, Int.toNat_zero, Int.toNat_one, xb, xm, within_t, within_f, nb_t, nb_f, ni_t, ni_f, in_t, in_f, less_, bad_0, bad_1, not_true_eq_false, not_false_eq_true, L_lt_t, L_lt_f, L_eq_t, L_eq_f, lg_gt, lg_eq, lg_lt]
      rfl
