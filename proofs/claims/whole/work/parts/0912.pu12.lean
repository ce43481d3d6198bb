set_option maxHeartbeats 2000000 in
theorem next_M (K : Nat) (hK : 1000000 ≤ K) {l : LA} (hl : LOK l) {nr : Nat → Nat} {m1 : Nat → Nat → Int32} {m2 m3 m4 : Nat → Int32} {m5 m6 m7 : Int32} (Q : LM l nr m1 m2 m3 m4 m5 m6 m7) {many : Nat → Int32} {ev : Nat → Nat → Int32} {j1 n1 : Nat} {E1 : Nat → Nat → Nat} (hE1 : SOK n1 E1) (hS1 : SM j1 n1 E1 many ev) {j2 n2 : Nat} {E2 : Nat → Nat → Nat} (hE2 : SOK n2 E2) (hS2 : SM j2 n2 E2 many ev) {fn : Nat} {F : Nat → Nat → Nat} {f1 f2 f3 f4 : Nat → Int32} {fs : Int32} {mf : Nat → Nat → Int32} {mfn : Int32} (hF : RFinds f1 f2 f3 f4 fs mf mfn fn F) {h : Nat} (hh : h < 100) (et eh se th : Int32) (ly : Nat → Nat → Int32) (wo : Nat → Int32) (n : Nat) (hn : 500 ≤ n) : ∃ ly' wo', f_M_next K m5 m6 m1 m2 m3 m4 many ev mfn mf (J (-1)) (J (-1)) et eh (J (-1)) se th n 2 (J j1, J j2, J h, J 0, J (-1), J 0, J 0, J 0, J 0, ly, wo) = some (J (nxO (fun p s => (pileA l (runA l n1 E1 h) p s - pileA l (runA l n2 E2 h) p s) + (pileA l (runA l n2 E2 h) p s - pileA l (runA l n1 E1 h) p s)) (fun p s => sgv (lkc F p h (lal l s)) fn 0) 10).2, J 0, ly', wo') := by
  obtain ⟨D, hD⟩ : ∃ D : Nat → Nat → Nat, D = fun p s => (pileA l (runA l n1 E1 h) p s - pileA l (runA l n2 E2 h) p s) + (pileA l (runA l n2 E2 h) p s - pileA l (runA l n1 E1 h) p s) := ⟨_, rfl⟩
  obtain ⟨Lk, hLk⟩ : ∃ Lk : Nat → Nat → Int, Lk = fun p s => sgv (lkc F p h (lal l s)) fn 0 := ⟨_, rfl⟩
  rw [← hD, ← hLk]
  have hD60 : ∀ p s, D p s ≤ 60 := fun p s => by
    have := pileA_le l (runA l n1 E1 h) p s
    have := pileA_le l (runA l n2 E2 h) p s
    rw [hD]; simp only; omega
  obtain ⟨q1, q2, q3, q4, q5, q6, q7, q8⟩ := Q
  have Q : LM l nr m1 m2 m3 m4 m5 m6 m7 := ⟨q1, q2, q3, q4, q5, q6, q7, q8⟩
  have ok1 := runA_ok hl hE1.2.1 h
  have ok2 := runA_ok hl hE2.2.1 h
  obtain ⟨m, s, g1, ⟨ly1, wo1, rfl⟩, g3⟩ := lp (fun k s => f_M_next K m5 m6 m1 m2 m3 m4 many ev mfn mf (J (-1)) (J (-1)) et eh (J (-1)) se th k 2 s) (fun p s => ∃ (ly : Nat → Nat → Int32) (wo : Nat → Int32), s = (J j1, J j2, J h, J 0, J (nxO D Lk p).2, J (nxO D Lk p).1, J p, J 0, J 0, ly, wo)) 33 10 (by
    rintro p hp s ⟨ly, wo, rfl⟩ m
    have ok := nxO_ok hD60 Lk p (by omega)
    obtain ⟨m', s', g1, ⟨ly1, wo1, rfl⟩, g3⟩ := lp (fun k s => f_M_next K m5 m6 m1 m2 m3 m4 many ev mfn mf (J (-1)) (J (-1)) et eh (J (-1)) se th k 3 s) (fun s t => ∃ (ly : Nat → Nat → Int32) (wo : Nat → Int32), t = (J j1, J j2, J h, J 0, J (nxI D Lk p s (nxO D Lk p)).2, J (nxI D Lk p s (nxO D Lk p)).1, J p, J s, J 0, ly, wo)) 3 10 (by
      rintro s hs t ⟨ly, wo, rfl⟩ m
      have okk := nxI_ok hD60 Lk hp ok s (by omega)
      have e4 := p_M_isLookedAt K hK hl q4 q8 hF (p := p) (h := h) (s := s) hp hh hs
      have hLe : Lk p s = sgv (lkc F p h (lal l s)) fn 0 := by rw [hLk]
      have hL01 := sgv_rng (lkc F p h (lal l s)) fn 0
      rw [← hLe] at e4 hL01
      rcases hL01 with hz | hz
      · obtain ⟨lyA, woA, y1, y2⟩ := m_run K hK hl Q hE1 hS1 et eh se th hh ly wo
        obtain ⟨lyB, woB, y3, y4⟩ := m_run K hK hl Q hE2 hS2 et eh se th hh lyA woA
        have e1 := p_M_pileAt K hK hl q3 q4 q8 ok1 y2 (p := p) (s := s) hp hs
        have e2 := p_M_pileAt K hK hl q3 q4 q8 ok2 y4 (p := p) (s := s) hp hs
        have a1 := pileA_le l (runA l n1 E1 h) p s
        have a2 := pileA_le l (runA l n2 E2 h) p s
        have hDe : D p s = (pileA l (runA l n1 E1 h) p s - pileA l (runA l n2 E2 h) p s) + (pileA l (runA l n2 E2 h) p s - pileA l (runA l n1 E1 h) p s) := by rw [hD]
        refine ⟨m, _, by omega, ⟨lyB, woB, rfl⟩, ?_⟩
        rw [nxI]
        generalize nxI D Lk p s (nxO D Lk p) = x at *
        obtain ⟨b, a⟩ := x
        obtain ⟨k1, k2, k3⟩ := okk
        simp only at k1 k2 k3
        unfold nxU
        simp only
        rw [hz] at e4
        generalize Lk p s = lk at *
        generalize D p s = dd at *
        clear hD hLk hD60 ok ok1 ok2 y2 y4 hF Q q1 q2 q3 q4 q5 q6 q7 q8 hl hLe hS1 hS2 hE1 hE2
        generalize pileA l (runA l n1 E1 h) p s = A at *
        generalize pileA l (runA l n2 E2 h) p s = B at *
        subst hz
        by_cases hAB : B ≤ A
        · have e5 : (A : Int) - (B : Int) = (dd : Int) := by omega
          by_cases hc : b < dd
          · rw [if_pos ⟨rfl, hc⟩]
            simp (disch := omega) only [f_M_next, e4, y1, e1, y3, e2, e5, cast1, J_lit, J_add, J_sub, J_mul, J_neg, J_nat, J_inb, J_div, ↓reduceIte, Int.toNat_natCast, Option.bind_some, J_le_t, J_le_f, J_lt_t, J_lt_f, J_eq_t, J_eq_f, L_lit, L_add, L_sub, L_mul, L_div, JL, LJ, Int.reduceToNat, Int.toNat_zero, Int.toNat_one, xb, xm, within_t, within_f, nb_t, nb_f, ni_t, ni_f, in_t, in_f, less_, bad_0, bad_1, not_true_eq_false, not_false_eq_true, L_lt_t, L_lt_f, L_eq_t, L_eq_f, lg_gt, lg_eq, lg_lt]
          · rw [if_neg (by omega)]
            simp (disch := omega) only [f_M_next, e4, y1, e1, y3, e2, e5, cast1, J_lit, J_add, J_sub, J_mul, J_neg, J_nat, J_inb, J_div, ↓reduceIte, Int.toNat_natCast, Option.bind_some, J_le_t, J_le_f, J_lt_t, J_lt_f, J_eq_t, J_eq_f, L_lit, L_add, L_sub, L_mul, L_div, JL, LJ, Int.reduceToNat, Int.toNat_zero, Int.toNat_one, xb, xm, within_t, within_f, nb_t, nb_f, ni_t, ni_f, in_t, in_f, less_, bad_0, bad_1, not_true_eq_false, not_false_eq_true, L_lt_t, L_lt_f, L_eq_t, L_eq_f, lg_gt, lg_eq, lg_lt]
        · have e5 : -((A : Int) - (B : Int)) = (dd : Int) := by omega
          by_cases hc : b < dd
          · rw [if_pos ⟨rfl, hc⟩]
            simp (disch := omega) only [f_M_next, e4, y1, e1, y3, e2, e5, cast1, J_lit, J_add, J_sub, J_mul, J_neg, J_nat, J_inb, J_div, ↓reduceIte, Int.toNat_natCast, Option.bind_some, J_le_t, J_le_f, J_lt_t, J_lt_f, J_eq_t, J_eq_f, L_lit, L_add, L_sub, L_mul, L_div, JL, LJ, Int.reduceToNat, Int.toNat_zero, Int.toNat_one, xb, xm, within_t, within_f, nb_t, nb_f, ni_t, ni_f, in_t, in_f, less_, bad_0, bad_1, not_true_eq_false, not_false_eq_true, L_lt_t, L_lt_f, L_eq_t, L_eq_f, lg_gt, lg_eq, lg_lt]
          · rw [if_neg (by omega)]
            simp (disch := omega) only [f_M_next, e4, y1, e1, y3, e2, e5, cast1, J_lit, J_add, J_sub, J_mul, J_neg, J_nat, J_inb, J_div, ↓reduceIte, Int.toNat_natCast, Option.bind_some, J_le_t, J_le_f, J_lt_t, J_lt_f, J_eq_t, J_eq_f, L_lit, L_add, L_sub, L_mul, L_div, JL, LJ, Int.reduceToNat, Int.toNat_zero, Int.toNat_one, xb, xm, within_t, within_f, nb_t, nb_f, ni_t, ni_f, in_t, in_f, less_, bad_0, bad_1, not_true_eq_false, not_false_eq_true, L_lt_t, L_lt_f, L_eq_t, L_eq_f, lg_gt, lg_eq, lg_lt]
      · have e6 : nxI D Lk p (s + 1) (nxO D Lk p) = nxI D Lk p s (nxO D Lk p) := by
          rw [nxI, nxU, if_neg (by omega)]
        refine ⟨m + 1, _, by omega, ⟨ly, wo, rfl⟩, ?_⟩
        rw [e6]
        rw [hz] at e4
        have st2 : ∀ m A B, f_M_next K m5 m6 m1 m2 m3 m4 many ev mfn mf (J (-1)) (J (-1)) et eh (J (-1)) se th (m + 2) 3 (J j1, J j2, J h, J 0, A, B, J p, J s, J 0, ly, wo) = f_M_next K m5 m6 m1 m2 m3 m4 many ev mfn mf (J (-1)) (J (-1)) et eh (J (-1)) se th m 3 (J j1, J j2, J h, J 0, A, B, J p, J (s + 1 : Nat), J 0, ly, wo) := fun m A B => by
          clear hD hLk hD60 ok ok1 ok2 hF Q q1 q2 q3 q4 q5 q6 q7 q8 hl hLe hS1 hS2 hE1 hE2
          simp (disch := omega) only [f_M_next, e4, cast1, J_lit, J_add, J_sub, J_mul, J_neg, J_nat, J_inb, J_div, ↓reduceIte, Int.toNat_natCast, Option.bind_some, J_le_t, J_le_f, J_lt_t, J_lt_f, J_eq_t, J_eq_f, L_lit, L_add, L_sub, L_mul, L_div, JL, LJ, Int.reduceToNat, Int.toNat_zero, Int.toNat_one, xb, xm, within_t, within_f, nb_t, nb_f, ni_t, ni_f, in_t, in_f, less_, bad_0, bad_1, not_true_eq_false, not_false_eq_true, L_lt_t, L_lt_f, L_eq_t, L_eq_f, lg_gt, lg_eq, lg_lt]
        exact st2 (m + 1) _ _) (J j1, J j2, J h, J 0, J (nxO D Lk p).2, J (nxO D Lk p).1, J p, J (0 : Nat), J 0, ly, wo) ⟨ly, wo, rfl⟩ (m + 32) (by omega)
    obtain ⟨m', rfl⟩ : ∃ k, m' = k + 1 := ⟨m' - 1, by omega⟩
    refine ⟨m', (J j1, J j2, J h, J 0, J (nxO D Lk (p + 1)).2, J (nxO D Lk (p + 1)).1, J (p + 1 : Nat), J 0, J 0, ly1, wo1), by omega, ⟨ly1, wo1, rfl⟩, ?_⟩
    have e1 : ∀ m A B, f_M_next K m5 m6 m1 m2 m3 m4 many ev mfn mf (J (-1)) (J (-1)) et eh (J (-1)) se th (m + 1) 2 (J j1, J j2, J h, J 0, A, B, J p, J 0, J 0, ly, wo) = f_M_next K m5 m6 m1 m2 m3 m4 many ev mfn mf (J (-1)) (J (-1)) et eh (J (-1)) se th m 3 (J j1, J j2, J h, J 0, A, B, J p, J (0 : Nat), J 0, ly, wo) := fun m A B => by
      simp (disch := omega) only [f_M_next, J_lit, J_add, J_sub, J_mul, J_neg, J_nat, J_inb, J_div, ↓reduceIte, Int.toNat_natCast, Option.bind_some, J_le_t, J_le_f, J_lt_t, J_lt_f, J_eq_t, J_eq_f, L_lit, L_add, L_sub, L_mul, L_div, JL, LJ, Int.reduceToNat, Int.toNat_zero, Int.toNat_one, xb, xm, within_t, within_f, nb_t, nb_f, ni_t, ni_f, in_t, in_f, less_, bad_0, bad_1, not_true_eq_false, not_false_eq_true, L_lt_t, L_lt_f, L_eq_t, L_eq_f, lg_gt, lg_eq, lg_lt]
      rfl
    refine (e1 (m + 32) _ _).trans (Eq.trans g3 ?_)
    have e2 : ∀ m A B, f_M_next K m5 m6 m1 m2 m3 m4 many ev mfn mf (J (-1)) (J (-1)) et eh (J (-1)) se th (m + 1) 3 (J j1, J j2, J h, J 0, A, B, J p, J (10 : Nat), J 0, ly1, wo1) = f_M_next K m5 m6 m1 m2 m3 m4 many ev mfn mf (J (-1)) (J (-1)) et eh (J (-1)) se th m 2 (J j1, J j2, J h, J 0, A, B, J (p + 1 : Nat), J 0, J 0, ly1, wo1) := fun m A B => by
      simp (disch := omega) only [f_M_next, cast1, J_lit, J_add, J_sub, J_mul, J_neg, J_nat, J_inb, J_div, ↓reduceIte, Int.toNat_natCast, Option.bind_some, J_le_t, J_le_f, J_lt_t, J_lt_f, J_eq_t, J_eq_f, L_lit, L_add, L_sub, L_mul, L_div, JL, LJ, Int.reduceToNat, Int.toNat_zero, Int.toNat_one, xb, xm, within_t, within_f, nb_t, nb_f, ni_t, ni_f, in_t, in_f, less_, bad_0, bad_1, not_true_eq_false, not_false_eq_true, L_lt_t, L_lt_f, L_eq_t, L_eq_f, lg_gt, lg_eq, lg_lt]
    rw [nxO]
    exact e2 m' _ _) (J j1, J j2, J h, J 0, J (-1), J 0, J (0 : Nat), J 0, J 0, ly, wo) ⟨ly, wo, rfl⟩ n (by omega)
  obtain ⟨m, rfl⟩ : ∃ k, m = k + 1 := ⟨m - 1, by omega⟩
  refine ⟨ly1, wo1, ?_⟩
  refine Eq.trans g3 ?_
  simp (disch := omega) only [f_M_next, J_lit, J_add, J_sub, J_mul, J_neg, J_nat, J_inb, J_div, ↓reduceIte, Int.toNat_natCast, Option.bind_some, J_le_t, J_le_f, J_lt_t, J_lt_f, J_eq_t, J_eq_f, L_lit, L_add, L_sub, L_mul, L_div, JL, LJ, Int.reduceToNat, Int.toNat_zero, Int.toNat_one, xb, xm, within_t, within_f, nb_t, nb_f, ni_t, ni_f, in_t, in_f, less_, bad_0, bad_1, not_true_eq_false, not_false_eq_true, L_lt_t, L_lt_f, L_eq_t, L_eq_f, lg_gt, lg_eq, lg_lt]
set_option maxHeartbeats 2000000 in
theorem pc_next (K : Nat) (hK : 1000000 ≤ K) (p1 p2 p3 thr : Int32) {l : LA} {nr : Nat → Nat} {c1 c2 c3 c4 : Nat → Int32} {c5 c6 c7 : Int32} {m1 : Nat → Nat → Int32} {m2 m3 m4 : Nat → Int32} {m5 m6 m7 : Int32} (hL : HL l nr c1 c2 c3 c4 c5 c6 c7 m1 m2 m3 m4 m5 m6 m7) {m : Nat} {EN : Nat → Nat} {EE : Nat → Nat → Nat → Nat} {stories : Nat → Option Nat} {QS : Nat → Nat} {k1 k2 k3 k4 : Nat → Nat → Int32} {kn : Nat → Int32} {many : Nat → Int32} {ev : Nat → Nat → Int32} (hS : HS m EN EE stories QS k1 k2 k3 k4 kn many ev) {fn : Nat} {F : Nat → Nat → Nat} {f1 f2 f3 f4 : Nat → Int32} {fs : Int32} {mf : Nat → Nat → Int32} {mfn : Int32} (hF : RFinds f1 f2 f3 f4 fs mf mfn fn F) (j i : Nat) (hj : SEL p1 m j) (hi : SEL p2 m i) (ql a1 a2 : Nat) (ly wo : Nat → Int32) (x1 x2 x3 : Int32) (oly owo : Nat → Int32) (a3 a4 : Nat) (y1 y2 y3 : Int32) (mly : Nat → Nat → Int32) (mwo : Nat → Int32) (et eh se th : Int32) (o : Nat → Int64) : ∃ oc om, sp_W_next K p1 p2 p3 ql stories (QS j) (QS i) (J m) (k1 j) (k2 j) (k3 j) (k4 j) (kn j) (k1 i) (k2 i) (k3 i) (k4 i) (kn i) f1 f2 f3 fs ly wo a1 a2 x1 x2 x3 oly owo a3 a4 y1 y2 y3 c1 c2 c3 c4 c5 c6 o = some oc ∧ sp_M_next K p1 p2 p3 thr m5 m6 m1 m2 m3 m4 (J m) many ev mfn mf mly mwo (J (-1)) (J (-1)) et eh (J (-1)) se th = some om ∧ AA oc.1 oc.2.2.2.2.2.2.2.2.2.2.2.2.2.2.2 om.1 om.2.1 := by
  obtain ⟨hm, hq, hst⟩ := hS
  obtain ⟨z, rfl, hz⟩ := ex_J p1
  obtain ⟨y, rfl, hy⟩ := ex_J p2
  obtain ⟨x, rfl, hx⟩ := ex_J p3
  by_cases h : 0 ≤ z ∧ z < m
  · obtain ⟨z, rfl⟩ : ∃ x : Nat, z = x := ⟨z.toNat, by omega⟩
    obtain rfl : j = z := hj z (by omega) rfl
    have hjm : j < m := by omega
    have eS := storyAt_t K hjm hm (hq j (by omega))
    have eI := isStory_t K (a := j) (n := m) (by omega) (by omega)
    by_cases h' : 0 ≤ y ∧ y < m
    · obtain ⟨y, rfl⟩ : ∃ x : Nat, y = x := ⟨y.toNat, by omega⟩
      obtain rfl : i = y := hi y (by omega) rfl
      have him : i < m := by omega
      have eS' := storyAt_t K him hm (hq i (by omega))
      have eI' := isStory_t K (a := i) (n := m) (by omega) (by omega)
      obtain ⟨s1, s2, s3⟩ := hst j hjm
      obtain ⟨w1, w2, w3⟩ := hst i him
      by_cases h'' : 0 ≤ x ∧ x < 100
      · obtain ⟨x, rfl⟩ : ∃ x' : Nat, x = x' := ⟨x.toNat, by omega⟩
        have hxl : x < 100 := by omega
        obtain ⟨b1, b2, b3, b4, b5, b6, e1, e2, e3, e4⟩ := c_run K hK hL.1 hL.2.1 s1 s2 hxl ly wo x1 x2 x3
        obtain ⟨d1, d2, d3, d4, d5, d6, e5, e6, e7, e8⟩ := c_run K hK hL.1 hL.2.1 w1 w2 hxl oly owo y1 y2 y3
        obtain ⟨oo, e9⟩ := next_C K hK hL.1 hL.2.1 hF hxl (runA_ok hL.1 s1.2.1 x) (runA_ok hL.1 w1.2.1 x) e3 e7 (J x) (J b6) (J x) (J d6)
        obtain ⟨k, rfl⟩ : ∃ k, K = k + 1 := ⟨K - 1, by omega⟩
        obtain ⟨g1, g2, e10⟩ := next_M (k + 1) hK hL.1 hL.2.2 s1 s3 w1 w3 hF hxl et eh se th mly mwo k (by omega)
        have eB := badPlace_t (k + 1) (by omega) (J 2) (a := 0) (b := 0) (c := x) (by omega) (by omega) (by omega)
        have hr := nxO_ok (D := fun p s => (pileA l (runA l (EN j) (EE j) x) p s - pileA l (runA l (EN i) (EE i) x) p s) + (pileA l (runA l (EN i) (EE i) x) p s - pileA l (runA l (EN j) (EE j) x) p s)) (fun p s => by
          have := pileA_le l (runA l (EN j) (EE j) x) p s
          have := pileA_le l (runA l (EN i) (EE i) x) p s
          omega) (fun p s => sgv (lkc F p x (lal l s)) fn 0) 10 (by omega)
        generalize nxO (fun p s => (pileA l (runA l (EN j) (EE j) x) p s - pileA l (runA l (EN i) (EE i) x) p s) + (pileA l (runA l (EN i) (EE i) x) p s - pileA l (runA l (EN j) (EE j) x) p s)) (fun p s => sgv (lkc F p x (lal l s)) fn 0) 10 = V at *
        obtain ⟨hr1, hr2, hr3⟩ := hr
        clear e3 e4 e7 e8 s1 s2 s3 w1 w2 w3 hst hF hL
        refine ⟨_, _, by simp (disch := omega) only [sp_W_next, sp_next, eS, eS', e1, e2, e5, e6, e9, J_lit, J_add, J_sub, J_mul, J_neg, J_nat, J_inb, J_div, ↓reduceIte, Int.toNat_natCast, Option.bind_some, J_le_t, J_le_f, J_lt_t, J_lt_f, J_eq_t, J_eq_f, L_lit, L_add, L_sub, L_mul, L_div, JL, LJ, Int.reduceToNat, Int.toNat_zero, Int.toNat_one, xb, xm, within_t, within_f, nb_t, nb_f, ni_t, ni_f, in_t, in_f, less_, bad_0, bad_1, not_true_eq_false, not_false_eq_true, L_lt_t, L_lt_f, L_eq_t, L_eq_f, lg_gt, lg_eq, lg_lt]; rfl, by
          simp (disch := omega) only [sp_M_next, eI, eI', J_lit, J_add, J_sub, J_mul, J_neg, J_nat, J_inb, J_div, ↓reduceIte, Int.toNat_natCast, Option.bind_some, J_le_t, J_le_f, J_lt_t, J_lt_f, J_eq_t, J_eq_f, L_lit, L_add, L_sub, L_mul, L_div, JL, LJ, Int.reduceToNat, Int.toNat_zero, Int.toNat_one, xb, xm, within_t, within_f, nb_t, nb_f, ni_t, ni_f, in_t, in_f, less_, bad_0, bad_1, not_true_eq_false, not_false_eq_true, L_lt_t, L_lt_f, L_eq_t, L_eq_f, lg_gt, lg_eq, lg_lt]
          rw [f_M_next]
          simp (disch := omega) only [eB, e10, J_lit, J_add, J_sub, J_mul, J_neg, J_nat, J_inb, J_div, ↓reduceIte, Int.toNat_natCast, Option.bind_some, J_le_t, J_le_f, J_lt_t, J_lt_f, J_eq_t, J_eq_f, L_lit, L_add, L_sub, L_mul, L_div, JL, LJ, Int.reduceToNat, Int.toNat_zero, Int.toNat_one, xb, xm, within_t, within_f, nb_t, nb_f, ni_t, ni_f, in_t, in_f, less_, bad_0, bad_1, not_true_eq_false, not_false_eq_true, L_lt_t, L_lt_f, L_eq_t, L_eq_f, lg_gt, lg_eq, lg_lt]
          rfl, (by first | exact AA_0 _ _ | exact AA_L _ (by omega))⟩
      · have n3 := nb_f K hx (b := 100) (by omega) (by omega)
        have eB := badPlace_f K (by omega) (w := 2) (by omega) (a := 0) (b := 0) (by omega) (by omega) hx (fun hh => h'' hh.2.2)
        obtain ⟨k, rfl⟩ : ∃ k, K = k + 1 := ⟨K - 1, by omega⟩
        have eB' : sp_M_badPlace (k + 1) 0 0 (J x) 2 0 = some (1, 2) := eB
        have n3' : sp_needBelow (k + 1) (J x) 100 = some (.inl 0) := n3
        clear s1 s2 s3 w1 w2 w3 hst hF hL
        exact ⟨_, _, by simp only [sp_W_next, sp_next, eS, eS', n3', Option.bind_some, ↓reduceIte, lt10, lt20, lt00, lj00, lj10, lj20, xb, xm]; rfl, by simp only [sp_M_next, eI, eI', f_M_next, lbad0 (k + 1) (by omega), eB', Option.bind_some, ↓reduceIte, lt10, lt20, lt00, lj00, lj10, lj20, xb, xm]; rfl, ⟨rfl, fun h => by cases h⟩⟩
    · have eS' := storyAt_f K hy hm (by omega) stories (QS i)
      have eI' := isStory_f K hy h' (by omega)
      obtain ⟨k, rfl⟩ : ∃ k, K = k + 2 := ⟨K - 2, by omega⟩
      exact ⟨_, _, by simp (disch := omega) only [sp_W_next, sp_next, eS, eS', J_lit, J_add, J_sub, J_mul, J_neg, J_nat, J_inb, J_div, ↓reduceIte, Int.toNat_natCast, Option.bind_some, J_le_t, J_le_f, J_lt_t, J_lt_f, J_eq_t, J_eq_f, L_lit, L_add, L_sub, L_mul, L_div, JL, LJ, Int.reduceToNat, Int.toNat_zero, Int.toNat_one, xb, xm, within_t, within_f, nb_t, nb_f, ni_t, ni_f, in_t, in_f, less_, bad_0, bad_1, not_true_eq_false, not_false_eq_true, L_lt_t, L_lt_f, L_eq_t, L_eq_f, lg_gt, lg_eq, lg_lt]; rfl, by simp only [sp_M_next, eI, eI', f_M_next, lbad1 (k + 2) (by omega), Option.bind_some, ↓reduceIte, lt10, lt20, lt00, lj00, lj10, lj20, xb, xm]; rfl, ⟨rfl, fun h => by cases h⟩⟩
  · have eS := storyAt_f K hz hm (by omega) stories (QS j)
    have eI := isStory_f K hz h (by omega)
    obtain ⟨k, rfl⟩ : ∃ k, K = k + 2 := ⟨K - 2, by omega⟩
    exact ⟨_, _, by simp (disch := omega) only [sp_W_next, sp_next, eS, J_lit, J_add, J_sub, J_mul, J_neg, J_nat, J_inb, J_div, ↓reduceIte, Int.toNat_natCast, Option.bind_some, J_le_t, J_le_f, J_lt_t, J_lt_f, J_eq_t, J_eq_f, L_lit, L_add, L_sub, L_mul, L_div, JL, LJ, Int.reduceToNat, Int.toNat_zero, Int.toNat_one, xb, xm, within_t, within_f, nb_t, nb_f, ni_t, ni_f, in_t, in_f, less_, bad_0, bad_1, not_true_eq_false, not_false_eq_true, L_lt_t, L_lt_f, L_eq_t, L_eq_f, lg_gt, lg_eq, lg_lt]; rfl, by simp only [sp_M_next, eI, f_M_next, lbad1 (k + 2) (by omega), Option.bind_some, ↓reduceIte, lt10, lt20, lt00, lj00, lj10, lj20, xb, xm]; rfl, ⟨rfl, fun h => by cases h⟩⟩
