set_option maxHeartbeats 2000000 in
theorem way_run (l : LA) {n k : Nat} {E E' : Nat → Nat → Nat} {cm : Nat → Bool} (C : CI n n k E E' cm) (h : Nat) : runT l (TM l n E cm none) h = runA l k E' h :=
  runT_cong l (fun i st => (C.2.1 l i st).symm) h
set_option maxHeartbeats 2000000 in
theorem byWay_bad (K : Nat) (hK : 1000 ≤ K) {a b c d e : Int} (ha : -2147483648 ≤ a ∧ a < 2147483648) (hb : -2147483648 ≤ b ∧ b < 2147483648) (hc : -2147483648 ≤ c ∧ c < 2147483648) (hd : -2147483648 ≤ d ∧ d < 2147483648) (he : -2147483648 ≤ e ∧ e < 2147483648) (h : ¬ ((0 ≤ a ∧ a < 10) ∧ (0 ≤ b ∧ b < 10) ∧ (0 ≤ c ∧ c < 10) ∧ (0 ≤ d ∧ d < 10) ∧ (0 ≤ e ∧ e < 100) ∧ a ≠ b ∧ a ≠ c ∧ b ≠ c)) (s : Int32) (stories : Nat → Option Nat) (q : Nat) (cnt : Int32) (hs : sp_storyAt K s stories q cnt = some (.inr ())) (k1 k2 k3 k4 : Nat → Int32) (kn : Int32) (v1 v2 v3 v4 : Nat → Int32) (vn : Int32) (ly wo : Nat → Int32) (x1 x2 x3 : Int32) (c1 c2 : Nat → Int32) (c5 c6 : Int32) : sp_byWay K s (J a) (J b) (J c) (J d) (J e) stories q cnt k1 k2 k3 k4 kn v1 v2 v3 v4 vn ly wo x1 x2 x3 c1 c2 c5 c6 = some (.inl 0) := by
  unfold sp_byWay
  rw [hs]
  by_cases h1 : 0 ≤ a ∧ a < 10
  · by_cases h2 : 0 ≤ b ∧ b < 10
    · by_cases h3 : 0 ≤ c ∧ c < 10
      · by_cases h4 : 0 ≤ d ∧ d < 10
        · by_cases h5 : 0 ≤ e ∧ e < 100
          · by_cases h6 : a = b
            · clear h; simp (disch := omega) only [J_lit, J_add, J_sub, J_mul, J_neg, J_nat, J_inb, J_div, ↓reduceIte, Int.toNat_natCast, Option.bind_some, J_le_t, J_le_f, J_lt_t, J_lt_f, J_eq_t, J_eq_f, L_lit, L_add, L_sub, L_mul, L_div, JL, LJ, Int.reduceToNat, Int.toNat_zero, Int.toNat_one, xb, xm, within_t, within_f, nb_t, nb_f, ni_t, ni_f, in_t, in_f, less_, bad_0, bad_1, not_true_eq_false, not_false_eq_true, L_lt_t, L_lt_f, L_eq_t, L_eq_f, lg_gt, lg_eq, lg_lt]
            · by_cases h7 : a = c
              · clear h; simp (disch := omega) only [J_lit, J_add, J_sub, J_mul, J_neg, J_nat, J_inb, J_div, ↓reduceIte, Int.toNat_natCast, Option.bind_some, J_le_t, J_le_f, J_lt_t, J_lt_f, J_eq_t, J_eq_f, L_lit, L_add, L_sub, L_mul, L_div, JL, LJ, Int.reduceToNat, Int.toNat_zero, Int.toNat_one, xb, xm, within_t, within_f, nb_t, nb_f, ni_t, ni_f, in_t, in_f, less_, bad_0, bad_1, not_true_eq_false, not_false_eq_true, L_lt_t, L_lt_f, L_eq_t, L_eq_f, lg_gt, lg_eq, lg_lt]
              · have h8 : b = c := by omega
                clear h; simp (disch := omega) only [J_lit, J_add, J_sub, J_mul, J_neg, J_nat, J_inb, J_div, ↓reduceIte, Int.toNat_natCast, Option.bind_some, J_le_t, J_le_f, J_lt_t, J_lt_f, J_eq_t, J_eq_f, L_lit, L_add, L_sub, L_mul, L_div, JL, LJ, Int.reduceToNat, Int.toNat_zero, Int.toNat_one, xb, xm, within_t, within_f, nb_t, nb_f, ni_t, ni_f, in_t, in_f, less_, bad_0, bad_1, not_true_eq_false, not_false_eq_true, L_lt_t, L_lt_f, L_eq_t, L_eq_f, lg_gt, lg_eq, lg_lt]
          · clear h; simp (disch := omega) only [J_lit, J_add, J_sub, J_mul, J_neg, J_nat, J_inb, J_div, ↓reduceIte, Int.toNat_natCast, Option.bind_some, J_le_t, J_le_f, J_lt_t, J_lt_f, J_eq_t, J_eq_f, L_lit, L_add, L_sub, L_mul, L_div, JL, LJ, Int.reduceToNat, Int.toNat_zero, Int.toNat_one, xb, xm, within_t, within_f, nb_t, nb_f, ni_t, ni_f, in_t, in_f, less_, bad_0, bad_1, not_true_eq_false, not_false_eq_true, L_lt_t, L_lt_f, L_eq_t, L_eq_f, lg_gt, lg_eq, lg_lt]
        · clear h; simp (disch := omega) only [J_lit, J_add, J_sub, J_mul, J_neg, J_nat, J_inb, J_div, ↓reduceIte, Int.toNat_natCast, Option.bind_some, J_le_t, J_le_f, J_lt_t, J_lt_f, J_eq_t, J_eq_f, L_lit, L_add, L_sub, L_mul, L_div, JL, LJ, Int.reduceToNat, Int.toNat_zero, Int.toNat_one, xb, xm, within_t, within_f, nb_t, nb_f, ni_t, ni_f, in_t, in_f, less_, bad_0, bad_1, not_true_eq_false, not_false_eq_true, L_lt_t, L_lt_f, L_eq_t, L_eq_f, lg_gt, lg_eq, lg_lt]
      · clear h; simp (disch := omega) only [J_lit, J_add, J_sub, J_mul, J_neg, J_nat, J_inb, J_div, ↓reduceIte, Int.toNat_natCast, Option.bind_some, J_le_t, J_le_f, J_lt_t, J_lt_f, J_eq_t, J_eq_f, L_lit, L_add, L_sub, L_mul, L_div, JL, LJ, Int.reduceToNat, Int.toNat_zero, Int.toNat_one, xb, xm, within_t, within_f, nb_t, nb_f, ni_t, ni_f, in_t, in_f, less_, bad_0, bad_1, not_true_eq_false, not_false_eq_true, L_lt_t, L_lt_f, L_eq_t, L_eq_f, lg_gt, lg_eq, lg_lt]
    · clear h; simp (disch := omega) only [J_lit, J_add, J_sub, J_mul, J_neg, J_nat, J_inb, J_div, ↓reduceIte, Int.toNat_natCast, Option.bind_some, J_le_t, J_le_f, J_lt_t, J_lt_f, J_eq_t, J_eq_f, L_lit, L_add, L_sub, L_mul, L_div, JL, LJ, Int.reduceToNat, Int.toNat_zero, Int.toNat_one, xb, xm, within_t, within_f, nb_t, nb_f, ni_t, ni_f, in_t, in_f, less_, bad_0, bad_1, not_true_eq_false, not_false_eq_true, L_lt_t, L_lt_f, L_eq_t, L_eq_f, lg_gt, lg_eq, lg_lt]
  · clear h; simp (disch := omega) only [J_lit, J_add, J_sub, J_mul, J_neg, J_nat, J_inb, J_div, ↓reduceIte, Int.toNat_natCast, Option.bind_some, J_le_t, J_le_f, J_lt_t, J_lt_f, J_eq_t, J_eq_f, L_lit, L_add, L_sub, L_mul, L_div, JL, LJ, Int.reduceToNat, Int.toNat_zero, Int.toNat_one, xb, xm, within_t, within_f, nb_t, nb_f, ni_t, ni_f, in_t, in_f, less_, bad_0, bad_1, not_true_eq_false, not_false_eq_true, L_lt_t, L_lt_f, L_eq_t, L_eq_f, lg_gt, lg_eq, lg_lt]
set_option maxHeartbeats 2000000 in
theorem byWayM_bad (K : Nat) (hK : 1000 ≤ K) {a b c d e : Int} (ha : -2147483648 ≤ a ∧ a < 2147483648) (hb : -2147483648 ≤ b ∧ b < 2147483648) (hc : -2147483648 ≤ c ∧ c < 2147483648) (hd : -2147483648 ≤ d ∧ d < 2147483648) (he : -2147483648 ≤ e ∧ e < 2147483648) (h : ¬ ((0 ≤ a ∧ a < 10) ∧ (0 ≤ b ∧ b < 10) ∧ (0 ≤ c ∧ c < 10) ∧ (0 ≤ d ∧ d < 10) ∧ (0 ≤ e ∧ e < 100) ∧ a ≠ b ∧ a ≠ c ∧ b ≠ c)) (s thr m5 m6 : Int32) (m1 : Nat → Nat → Int32) (m2 : Nat → Int32) (cnt : Int32) (hs : sp_M_isStory K s cnt = some (J 1)) (many : Nat → Int32) (ev mly : Nat → Nat → Int32) (mwo : Nat → Int32) (lo ef et eh fi se th : Int32) : sp_M_byWay K s (J a) (J b) (J c) (J d) (J e) thr m5 m6 m1 m2 cnt many ev mly mwo lo ef et eh fi se th = some (J 0, J 2, mly, mwo, lo, ef, fi, se, th) := by
  by_cases h1 : (0 ≤ a ∧ a < 10) ∧ (0 ≤ d ∧ d < 10) ∧ (0 ≤ e ∧ e < 100)
  · have eB := badPlace_t K (by omega) (J 2) h1.1 h1.2.1 h1.2.2
    obtain ⟨k, rfl⟩ : ∃ k, K = k + 3 := ⟨K - 3, by omega⟩
    have e0 : ∀ y w, sp_M_bad (k + 3) y w (J 0) = sp_M_bad (k + 3) y w (J 0) := fun _ _ => rfl
    by_cases h2 : 0 ≤ b ∧ b < 10
    · by_cases h3 : 0 ≤ c ∧ c < 10
      · by_cases h6 : a = b
        · clear h; simp (disch := omega) only [sp_M_byWay, f_M_byWay, hs, eB, J_lit, J_add, J_sub, J_mul, J_neg, J_nat, J_inb, J_div, ↓reduceIte, Int.toNat_natCast, Option.bind_some, J_le_t, J_le_f, J_lt_t, J_lt_f, J_eq_t, J_eq_f, L_lit, L_add, L_sub, L_mul, L_div, JL, LJ, Int.reduceToNat, Int.toNat_zero, Int.toNat_one, xb, xm, within_t, within_f, nb_t, nb_f, ni_t, ni_f, in_t, in_f, less_, bad_0, bad_1, not_true_eq_false, not_false_eq_true, L_lt_t, L_lt_f, L_eq_t, L_eq_f, lg_gt, lg_eq, lg_lt]
        · by_cases h7 : a = c
          · by_cases h8 : b = c
            · exfalso; omega
            · clear h; simp (disch := omega) only [sp_M_byWay, f_M_byWay, hs, eB, J_lit, J_add, J_sub, J_mul, J_neg, J_nat, J_inb, J_div, ↓reduceIte, Int.toNat_natCast, Option.bind_some, J_le_t, J_le_f, J_lt_t, J_lt_f, J_eq_t, J_eq_f, L_lit, L_add, L_sub, L_mul, L_div, JL, LJ, Int.reduceToNat, Int.toNat_zero, Int.toNat_one, xb, xm, within_t, within_f, nb_t, nb_f, ni_t, ni_f, in_t, in_f, less_, bad_0, bad_1, not_true_eq_false, not_false_eq_true, L_lt_t, L_lt_f, L_eq_t, L_eq_f, lg_gt, lg_eq, lg_lt]
          · have h8 : b = c := by omega
            clear h; simp (disch := omega) only [sp_M_byWay, f_M_byWay, hs, eB, J_lit, J_add, J_sub, J_mul, J_neg, J_nat, J_inb, J_div, ↓reduceIte, Int.toNat_natCast, Option.bind_some, J_le_t, J_le_f, J_lt_t, J_lt_f, J_eq_t, J_eq_f, L_lit, L_add, L_sub, L_mul, L_div, JL, LJ, Int.reduceToNat, Int.toNat_zero, Int.toNat_one, xb, xm, within_t, within_f, nb_t, nb_f, ni_t, ni_f, in_t, in_f, less_, bad_0, bad_1, not_true_eq_false, not_false_eq_true, L_lt_t, L_lt_f, L_eq_t, L_eq_f, lg_gt, lg_eq, lg_lt]
      · clear h; simp (disch := omega) only [sp_M_byWay, f_M_byWay, hs, eB, J_lit, J_add, J_sub, J_mul, J_neg, J_nat, J_inb, J_div, ↓reduceIte, Int.toNat_natCast, Option.bind_some, J_le_t, J_le_f, J_lt_t, J_lt_f, J_eq_t, J_eq_f, L_lit, L_add, L_sub, L_mul, L_div, JL, LJ, Int.reduceToNat, Int.toNat_zero, Int.toNat_one, xb, xm, within_t, within_f, nb_t, nb_f, ni_t, ni_f, in_t, in_f, less_, bad_0, bad_1, not_true_eq_false, not_false_eq_true, L_lt_t, L_lt_f, L_eq_t, L_eq_f, lg_gt, lg_eq, lg_lt]
    · clear h; simp (disch := omega) only [sp_M_byWay, f_M_byWay, hs, eB, J_lit, J_add, J_sub, J_mul, J_neg, J_nat, J_inb, J_div, ↓reduceIte, Int.toNat_natCast, Option.bind_some, J_le_t, J_le_f, J_lt_t, J_lt_f, J_eq_t, J_eq_f, L_lit, L_add, L_sub, L_mul, L_div, JL, LJ, Int.reduceToNat, Int.toNat_zero, Int.toNat_one, xb, xm, within_t, within_f, nb_t, nb_f, ni_t, ni_f, in_t, in_f, less_, bad_0, bad_1, not_true_eq_false, not_false_eq_true, L_lt_t, L_lt_f, L_eq_t, L_eq_f, lg_gt, lg_eq, lg_lt]
  · have eB := badPlace_f K (by omega) (w := 2) (by omega) ha hd he h1
    obtain ⟨k, rfl⟩ : ∃ k, K = k + 1 := ⟨K - 1, by omega⟩
    clear h h1
    have eB' : sp_M_badPlace (k + 1) (J a) (J d) (J e) 2 0 = some (1, 2) := eB
    simp only [sp_M_byWay, hs, f_M_byWay, lbad0 (k + 1) (by omega), eB', Option.bind_some, ↓reduceIte, lt10, lt20, lt00, lj00, lj10, lj20, xb, xm]
    rfl
set_option maxHeartbeats 2000000 in
theorem pc_byWay (K : Nat) (hK : 1000000 ≤ K) (p1 p2 p3 p4 p5 p6 thr : Int32) {l : LA} {nr : Nat → Nat} {c1 c2 c3 c4 : Nat → Int32} {c5 c6 c7 : Int32} {m1 : Nat → Nat → Int32} {m2 m3 m4 : Nat → Int32} {m5 m6 m7 : Int32} (hL : HL l nr c1 c2 c3 c4 c5 c6 c7 m1 m2 m3 m4 m5 m6 m7) {m : Nat} {EN : Nat → Nat} {EE : Nat → Nat → Nat → Nat} {stories : Nat → Option Nat} {QS : Nat → Nat} {k1 k2 k3 k4 : Nat → Nat → Int32} {kn : Nat → Int32} {many : Nat → Int32} {ev : Nat → Nat → Int32} (hS : HS m EN EE stories QS k1 k2 k3 k4 kn many ev) (j : Nat) (hj : SEL p1 m j) (qv ql a1 a2 : Nat) (v1 v2 v3 v4 : Nat → Int32) (vn : Int32) (ly wo : Nat → Int32) (x1 x2 x3 : Int32) (mly : Nat → Nat → Int32) (mwo : Nat → Int32) (et eh se th : Int32) (o : Nat → Int64) : ∃ oc om, sp_W_byWay K p1 p2 p3 p4 p5 p6 qv ql stories (QS j) (J m) (k1 j) (k2 j) (k3 j) (k4 j) (kn j) v1 v2 v3 v4 vn ly wo a1 a2 x1 x2 x3 c1 c2 c5 c6 o = some oc ∧ sp_M_byWay K p1 p2 p3 p4 p5 p6 thr m5 m6 m1 m2 (J m) many ev mly mwo (J (-1)) (J (-1)) et eh (J (-1)) se th = some om ∧ AA oc.1 oc.2.2.2.2.2.2.2.2.2.2.2.2.2 om.1 om.2.1 ∧ om.2.2.2.2.1 = J (-1) ∧ om.2.2.2.2.2.1 = J (-1) ∧ om.2.2.2.2.2.2.1 = J (-1) := by
  obtain ⟨hl, R, Q⟩ := hL
  obtain ⟨hm, hq, hst⟩ := hS
  obtain ⟨z, rfl, hz⟩ := ex_J p1
  obtain ⟨a, rfl, ha⟩ := ex_J p2
  obtain ⟨b, rfl, hb⟩ := ex_J p3
  obtain ⟨c, rfl, hc⟩ := ex_J p4
  obtain ⟨d, rfl, hd⟩ := ex_J p5
  obtain ⟨e, rfl, he⟩ := ex_J p6
  by_cases h : 0 ≤ z ∧ z < m
  · obtain ⟨z, rfl⟩ : ∃ x : Nat, z = x := ⟨z.toNat, by omega⟩
    obtain rfl : j = z := hj z (by omega) rfl
    have hjm : j < m := by omega
    obtain ⟨s1, s2, s3⟩ := hst j hjm
    have eS := storyAt_t K hjm hm (hq j (by omega))
    have eI := isStory_t K (a := j) (n := m) (by omega) (by omega)
    by_cases h' : (0 ≤ a ∧ a < 10) ∧ (0 ≤ b ∧ b < 10) ∧ (0 ≤ c ∧ c < 10) ∧ (0 ≤ d ∧ d < 10) ∧ (0 ≤ e ∧ e < 100) ∧ a ≠ b ∧ a ≠ c ∧ b ≠ c
    · obtain ⟨a, rfl⟩ : ∃ x : Nat, a = x := ⟨a.toNat, by omega⟩
      obtain ⟨b, rfl⟩ : ∃ x : Nat, b = x := ⟨b.toNat, by omega⟩
      obtain ⟨c, rfl⟩ : ∃ x : Nat, c = x := ⟨c.toNat, by omega⟩
      obtain ⟨d, rfl⟩ : ∃ x : Nat, d = x := ⟨d.toNat, by omega⟩
      obtain ⟨e, rfl⟩ : ∃ x : Nat, e = x := ⟨e.toNat, by omega⟩
      obtain ⟨g1, g2, g3, g4, g5, g6, g7, g8⟩ := h'
      obtain ⟨k, E', u1, u2, u3, u4, w1, w2, w3⟩ := p_copyByWay K (by omega) s1 s2 (a := a) (b := b) (c := c) (by omega) (by omega) (by omega) v1 v2 v3 v4 vn
      have sk := CI_sok s1.1 w3
      obtain ⟨ly0, wo0, ly', wo', ld', q, e1, e2, e3, e4⟩ := c_run K hK hl R sk w2 (h := e) (by omega) ly wo x1 x2 x3
      have hn20 := s3.2.1
      obtain ⟨mly', mwo', f1, f2⟩ := p_M_runs K hK hl Q.1 Q.2.1 Q.2.2.2.2.1 Q.2.2.2.2.2.1 s1 s3 (cm := fun i => wayB a b c (EE j i)) (x := none) (lo := J (-1)) (fi := J a) (se := J b) (th := J c) (ef := J (-1)) (et := et) (eh := eh) (fun i hi => by
        obtain ⟨o1, o2, o3, o4, o5, o6⟩ := s1.2.1 i hi
        exact comes_way K (by omega) i _ a b c (by omega) (by omega) (by omega) (by omega) (by have := s3.1; omega) (by omega) (by omega) (by omega) (s3.2.2.2 i hi)) rfl (h := e) (by omega) mly mwo
      rw [way_run l w3] at f2
      have eB := badPlace_t K (by omega) (J 2) g1 g4 g5
      have eL := p_lyingOn K e3 (p := b) (s := d) (by omega) (by omega)
      have eR := f2.1 b (by omega) d (by omega)
      have hr := (runA_ok hl sk.2.1 e).1 b (by omega) d (by omega)
      obtain ⟨k', rfl⟩ : ∃ k, K = k + 2 := ⟨K - 2, by omega⟩
      refine ⟨_, _, by simp (disch := omega) only [sp_W_byWay, sp_byWay, sp_lyingAt, eS, w1, e1, e2, eL, J_lit, J_add, J_sub, J_mul, J_neg, J_nat, J_inb, J_div, ↓reduceIte, Int.toNat_natCast, Option.bind_some, J_le_t, J_le_f, J_lt_t, J_lt_f, J_eq_t, J_eq_f, L_lit, L_add, L_sub, L_mul, L_div, JL, LJ, Int.reduceToNat, Int.toNat_zero, Int.toNat_one, xb, xm, within_t, within_f, nb_t, nb_f, ni_t, ni_f, in_t, in_f, less_, bad_0, bad_1, not_true_eq_false, not_false_eq_true, L_lt_t, L_lt_f, L_eq_t, L_eq_f, lg_gt, lg_eq, lg_lt]; rfl, by simp (disch := omega) only [sp_M_byWay, f_M_byWay, sp_M_plain, eI, eB, f1, eR, J_lit, J_add, J_sub, J_mul, J_neg, J_nat, J_inb, J_div, ↓reduceIte, Int.toNat_natCast, Option.bind_some, J_le_t, J_le_f, J_lt_t, J_lt_f, J_eq_t, J_eq_f, L_lit, L_add, L_sub, L_mul, L_div, JL, LJ, Int.reduceToNat, Int.toNat_zero, Int.toNat_one, xb, xm, within_t, within_f, nb_t, nb_f, ni_t, ni_f, in_t, in_f, less_, bad_0, bad_1, not_true_eq_false, not_false_eq_true, L_lt_t, L_lt_f, L_eq_t, L_eq_f, lg_gt, lg_eq, lg_lt]; rfl, (by first | exact AA_0 _ _ | exact AA_L _ (by omega)), rfl, rfl, rfl⟩
    · have x1' := byWay_bad K (by omega) ha hb hc hd he h' (J j) stories (QS j) (J m) eS (k1 j) (k2 j) (k3 j) (k4 j) (kn j) v1 v2 v3 v4 vn ly wo x1 x2 x3 c1 c2 c5 c6
      have x2' := byWayM_bad K (by omega) ha hb hc hd he h' (J j) thr m5 m6 m1 m2 (J m) eI many ev mly mwo (J (-1)) (J (-1)) et eh (J (-1)) se th
      clear h'
      exact ⟨_, _, by simp (disch := omega) only [sp_W_byWay, x1', J_lit, J_add, J_sub, J_mul, J_neg, J_nat, J_inb, J_div, ↓reduceIte, Int.toNat_natCast, Option.bind_some, J_le_t, J_le_f, J_lt_t, J_lt_f, J_eq_t, J_eq_f, L_lit, L_add, L_sub, L_mul, L_div, JL, LJ, Int.reduceToNat, Int.toNat_zero, Int.toNat_one, xb, xm, within_t, within_f, nb_t, nb_f, ni_t, ni_f, in_t, in_f, less_, bad_0, bad_1, not_true_eq_false, not_false_eq_true, L_lt_t, L_lt_f, L_eq_t, L_eq_f, lg_gt, lg_eq, lg_lt]; rfl, x2', (by exact AA_e _ _ (by omega)), rfl, rfl, rfl⟩
  · have eS := storyAt_f K hz hm (by omega) stories (QS j)
    have eI := isStory_f K hz h (by omega)
    obtain ⟨k, rfl⟩ : ∃ k, K = k + 1 := ⟨K - 1, by omega⟩
    exact ⟨_, _, by simp (disch := omega) only [sp_W_byWay, sp_byWay, eS, J_lit, J_add, J_sub, J_mul, J_neg, J_nat, J_inb, J_div, ↓reduceIte, Int.toNat_natCast, Option.bind_some, J_le_t, J_le_f, J_lt_t, J_lt_f, J_eq_t, J_eq_f, L_lit, L_add, L_sub, L_mul, L_div, JL, LJ, Int.reduceToNat, Int.toNat_zero, Int.toNat_one, xb, xm, within_t, within_f, nb_t, nb_f, ni_t, ni_f, in_t, in_f, less_, bad_0, bad_1, not_true_eq_false, not_false_eq_true, L_lt_t, L_lt_f, L_eq_t, L_eq_f, lg_gt, lg_eq, lg_lt]; rfl, by simp only [sp_M_byWay, eI, f_M_byWay, lbad1 (k + 1) (by omega), Option.bind_some, ↓reduceIte, lt10, lt20, lt00, lj00, lj10, lj20, xb, xm]; rfl, ⟨rfl, fun h => by cases h⟩, rfl, rfl, rfl⟩
def val (B : Nat) (a : Nat → Nat) : Nat → Nat
  | 0 => 0
  | n + 1 => val B a n + a n * B ^ n
set_option maxHeartbeats 2000000 in
theorem val_cong {B : Nat} {a b : Nat → Nat} : ∀ {n}, (∀ i, i < n → a i = b i) → val B a n = val B b n
  | 0, _ => rfl
  | n + 1, h => by rw [val, val, val_cong (fun i hi => h i (by omega)), h n (by omega)]
set_option maxHeartbeats 2000000 in
theorem val_lt {B : Nat} (hB : 0 < B) {a : Nat → Nat} : ∀ {n}, (∀ i, i < n → a i < B) → val B a n < B ^ n
  | 0, _ => by simp [val]
  | n + 1, h => by
    have h1 := val_lt hB (a := a) (n := n) (fun i hi => h i (by omega))
    have h2 := h n (by omega)
    rw [val, Nat.pow_succ]
    have h3 : (a n + 1) * B ^ n ≤ B * B ^ n := Nat.mul_le_mul_right _ (by omega)
    rw [Nat.add_mul, Nat.one_mul] at h3
    rw [Nat.mul_comm (B ^ n) B]
    omega
set_option maxHeartbeats 2000000 in
theorem val_zero {B : Nat} {a : Nat → Nat} (n : Nat) : ∀ m, n ≤ m → (∀ i, n ≤ i → i < m → a i = 0) → val B a m = val B a n
  | 0, h, _ => by obtain rfl : n = 0 := by omega
                  rfl
  | m + 1, h, hz => by
    by_cases he : n = m + 1
    · rw [he]
    · rw [val, hz m (by omega) (by omega), Nat.zero_mul, Nat.add_zero]
      exact val_zero n m (by omega) (fun i h1 h2 => hz i h1 (by omega))
set_option maxHeartbeats 2000000 in
theorem val_eq_zero {B : Nat} (hB : 0 < B) {a : Nat → Nat} : ∀ {n}, val B a n = 0 → ∀ i, i < n → a i = 0
  | 0, _, i, hi => by omega
  | n + 1, h, i, hi => by
    rw [val] at h
    have hp : 0 < B ^ n := Nat.pow_pos hB
    by_cases hin : i = n
    · subst hin
      have h1 : a i * B ^ i = 0 := by omega
      rcases Nat.mul_eq_zero.mp h1 with h2 | h2
      · exact h2
      · omega
    · exact val_eq_zero hB (n := n) (by omega) i (by omega)
set_option maxHeartbeats 2000000 in
theorem val_cmp {B : Nat} (hB : 0 < B) {a b : Nat → Nat} {n k : Nat} (hk : k < n) (ha : ∀ i, i < n → a i < B) (hb : ∀ i, i < n → b i < B) (he : ∀ i, k < i → i < n → a i = b i) (hlt : a k < b k) : val B a n < val B b n := by
  have : ∀ m, k < m → m ≤ n → val B a m < val B b m := by
    intro m
    induction m with
    | zero => intro h _; omega
    | succ m ih =>
      intro h1 h2
      rw [val, val]
      by_cases hkm : k = m
      · subst hkm
        have h3 := val_lt hB (a := a) (n := k) (fun i hi => ha i (by omega))
        have h4 : (a k + 1) * B ^ k ≤ b k * B ^ k := Nat.mul_le_mul_right _ (by omega)
        rw [Nat.add_mul, Nat.one_mul] at h4
        omega
      · have h3 := ih (by omega) (by omega)
        rw [he m (by omega) (by omega)]
        omega
  exact this n hk (Nat.le_refl _)
set_option maxHeartbeats 2000000 in
theorem val_top {B : Nat} {a : Nat → Nat} {n : Nat} (hn : 0 < n) (h : a (n - 1) ≠ 0) : B ^ (n - 1) ≤ val B a n := by
  obtain ⟨m, rfl⟩ : ∃ m, n = m + 1 := ⟨n - 1, by omega⟩
  rw [val]
  simp only [Nat.add_sub_cancel] at h ⊢
  have : 1 * B ^ m ≤ a m * B ^ m := Nat.mul_le_mul_right _ (by omega)
  rw [Nat.one_mul] at this
  omega
set_option maxHeartbeats 2000000 in
theorem val_div {B : Nat} (hB : 0 < B) {a : Nat → Nat} {n : Nat} (ha : ∀ i, i < n → a i < B) (k : Nat) (hk : k ≤ n) : val B a n / B ^ k = val B (fun i => a (k + i)) (n - k) ∧ val B a n % B ^ k = val B a k := by
  have hsplit : ∀ m, k ≤ m → m ≤ n → val B a m = val B a k + B ^ k * val B (fun i => a (k + i)) (m - k) := by
    intro m
    induction m with
    | zero => intro h1 h2; obtain rfl : k = 0 := by omega
              simp [val]
    | succ m ih =>
      intro h1 h2
      by_cases hkm : k = m + 1
      · subst hkm; simp [val]
      · rw [val, ih (by omega) (by omega), show m + 1 - k = (m - k) + 1 by omega, val, Nat.mul_add, ← Nat.add_assoc]
        congr 1
        rw [show k + (m - k) = m by omega]
        rw [← Nat.mul_assoc, Nat.mul_comm (B ^ k) (a m), Nat.mul_assoc, ← Nat.pow_add, show k + (m - k) = m by omega]
  have h1 := hsplit n hk (Nat.le_refl _)
  have h2 := val_lt hB (a := a) (n := k) (fun i hi => ha i (by omega))
  have hp : 0 < B ^ k := Nat.pow_pos hB
  constructor
  · rw [h1, Nat.add_mul_div_left _ _ hp, Nat.div_eq_of_lt h2, Nat.zero_add]
  · rw [h1, Nat.add_mul_mod_self_left, Nat.mod_eq_of_lt h2]
set_option maxHeartbeats 2000000 in
theorem val_dig {B : Nat} (hB : 0 < B) {a : Nat → Nat} {n : Nat} (ha : ∀ i, i < n → a i < B) (k : Nat) (hk : k < n) : val B a n / B ^ k % B = a k := by
  rw [(val_div hB ha k (by omega)).1]
  obtain ⟨m, hm⟩ : ∃ m, n - k = m + 1 := ⟨n - k - 1, by omega⟩
  rw [hm]
  have := (val_div hB (a := fun i => a (k + i)) (n := m + 1) (fun i hi => ha _ (by omega)) 1 (by omega)).2
  rw [Nat.pow_one] at this
  rw [this]
  simp [val]
def DG (N D : Nat) : Prop := 1 ≤ D ∧ N < 10 ^ D ∧ (D = 1 ∨ 10 ^ (D - 1) ≤ N)
set_option maxHeartbeats 2000000 in
theorem DG_uniq {N D D' : Nat} (h : DG N D) (h' : DG N D') : D = D' := by
  obtain ⟨a1, a2, a3⟩ := h
  obtain ⟨b1, b2, b3⟩ := h'
  rcases Nat.lt_trichotomy D D' with hl | hl | hl
  · rcases b3 with b3 | b3
    · omega
    · have : 10 ^ D ≤ 10 ^ (D' - 1) := Nat.pow_le_pow_right (by omega) (by omega)
      omega
  · exact hl
  · rcases a3 with a3 | a3
    · omega
    · have : 10 ^ D' ≤ 10 ^ (D - 1) := Nat.pow_le_pow_right (by omega) (by omega)
      omega
set_option maxHeartbeats 2000000 in
theorem id1 (V P VA cy bf hi lo q r ai F : Nat) (h : V + (cy + bf * hi) * P = VA * F) (hs : ai * lo + bf * hi + cy = r + 1000000000 * q) (hF : F = hi * 1000000000 + lo) : V + r * P + (q + ai * hi) * (P * 1000000000) = (VA + ai * P) * F := by grind
abbrev GB : Nat := 1000000000
def GR (N : Nat) (limbs : Nat → Int32) (size : Int32) : Prop := ∃ (n : Nat) (a : Nat → Nat), size = J n ∧ n ≤ 136 ∧ (∀ i, i < n → limbs i = J (a i)) ∧ (∀ i, i < n → a i < GB) ∧ val GB a n = N ∧ (0 < n → a (n - 1) ≠ 0)
set_option maxHeartbeats 2000000 in
theorem GR_zero {N : Nat} {limbs : Nat → Int32} {n : Nat} (h : GR N limbs (J n)) (hn : n ≤ 136) : n = 0 ↔ N = 0 := by
  obtain ⟨n', a, h1, h2, h3, h4, h5, h6⟩ := h
  have : n = n' := by
    have := (J_eq (a := n) (b := n') (by omega) (by omega)).mp h1
    omega
  subst this
  constructor
  · rintro rfl; exact h5.symm
  · intro hN
    rw [hN] at h5
    by_cases h0 : n = 0
    · exact h0
    · exact absurd (val_eq_zero (by decide) h5 (n - 1) (by omega)) (h6 (by omega))
set_option maxHeartbeats 2000000 in
theorem p_Great_times (K : Nat) (hK : 1000 ≤ K) {N F : Nat} {limbs : Nat → Int32} {size : Int32} (h : GR N limbs size) (hF : F < GB * GB) (hNF : N * F < GB ^ 136) : ∃ limbs' size', sp_Great_times K (L F) limbs size = some (limbs', size') ∧ GR (N * F) limbs' size' := by
  obtain ⟨n, a, rfl, hn, ha, hlt, hval, htop⟩ := h
  have hF' : F < 1000000000000000000 := hF
  have hGB : GB = 1000000000 := rfl
  let a' : Nat → Nat := fun i => if i < n then a i else 0
  have ha' : ∀ i, a' i < GB := fun i => by
    show (if i < n then a i else 0) < GB
    split
    · exact hlt i (by assumption)
    · decide
  have hv' : ∀ m, n ≤ m → val GB a' m = N := fun m hm => by
    rw [val_zero n m hm (fun i h1 _ => if_neg (by omega)), ← hval]
    exact val_cong (fun i hi => if_pos hi)
  obtain ⟨e, he1, he2, he3⟩ : ∃ e : Nat, e ≤ 136 ∧ n ≤ e ∧ N * F < GB ^ e ∧ (if (136 : Int32) < (J n + 3) then (136 : Int32) else (J n + 3)) = J e := by
    by_cases hc : n + 3 ≤ 136
    · refine ⟨n + 3, hc, by omega, ?_, ?_⟩
      · have h1 : N < GB ^ n := by rw [← hval]; exact val_lt (by decide) hlt
        calc N * F < GB ^ n * (GB * GB) := Nat.mul_lt_mul'' h1 hF
          _ ≤ GB ^ (n + 3) := by
            rw [Nat.pow_add]
            exact Nat.mul_le_mul_left _ (by decide)
      · simp (disch := omega) only [J_lit, J_add, J_sub, J_mul, J_neg, J_nat, J_inb, J_div, ↓reduceIte, Int.toNat_natCast, Option.bind_some, J_le_t, J_le_f, J_lt_t, J_lt_f, J_eq_t, J_eq_f, L_lit, L_add, L_sub, L_mul, L_div, JL, LJ, Int.reduceToNat, Int.toNat_zero, Int.toNat_one, xb, xm, within_t, within_f, nb_t, nb_f, ni_t, ni_f, in_t, in_f, less_, bad_0, bad_1, not_true_eq_false, not_false_eq_true, L_lt_t, L_lt_f, L_eq_t, L_eq_f, lg_gt, lg_eq, lg_lt]
        try rfl
    · refine ⟨136, Nat.le_refl _, hn, hNF, ?_⟩
      simp (disch := omega) only [J_lit, J_add, J_sub, J_mul, J_neg, J_nat, J_inb, J_div, ↓reduceIte, Int.toNat_natCast, Option.bind_some, J_le_t, J_le_f, J_lt_t, J_lt_f, J_eq_t, J_eq_f, L_lit, L_add, L_sub, L_mul, L_div, JL, LJ, Int.reduceToNat, Int.toNat_zero, Int.toNat_one, xb, xm, within_t, within_f, nb_t, nb_f, ni_t, ni_f, in_t, in_f, less_, bad_0, bad_1, not_true_eq_false, not_false_eq_true, L_lt_t, L_lt_f, L_eq_t, L_eq_f, lg_gt, lg_eq, lg_lt]
      try rfl
  obtain ⟨hi_, lo_, hhi, hlo, hFeq⟩ : ∃ hi_ lo_ : Nat, hi_ = F / 1000000000 ∧ lo_ = F % 1000000000 ∧ F = hi_ * 1000000000 + lo_ := ⟨_, _, rfl, rfl, by omega⟩
  have hhil : hi_ < 1000000000 := by omega
  have hlol : lo_ < 1000000000 := by omega
  obtain ⟨m, s, g1, ⟨G, b, cy, bf, tp, rfl, hG1, hG2, hb, hcy, hbf, hinv, ht1, ht2, ht3⟩, g3⟩ := lp (fun k s => f_Great_times K k 0 s) (fun i s => ∃ (G : Nat → Int32) (b : Nat → Nat) (cy bf tp : Nat), s = (L hi_, L lo_, L bf, L cy, J tp, J e, J i, L 0, G, J n) ∧ (∀ q, q < i → G q = J (b q)) ∧ (∀ q, i ≤ q → G q = limbs q) ∧ (∀ q, q < i → b q < GB) ∧ cy < 2 * GB ∧ bf < GB ∧ val GB b i + (cy + bf * hi_) * GB ^ i = val GB a' i * F ∧ tp ≤ i ∧ (∀ q, tp ≤ q → q < i → b q = 0) ∧ (0 < tp → b (tp - 1) ≠ 0)) 3 e (by
    rintro i hi s ⟨G, b, cy, bf, tp, rfl, hG1, hG2, hb, hcy, hbf, hinv, ht1, ht2, ht3⟩ m
    have hai := ha' i
    have q1 : a' i * lo_ ≤ 999999999 * 999999999 := Nat.mul_le_mul (by omega) (by omega)
    have q2 : bf * hi_ ≤ 999999999 * 999999999 := Nat.mul_le_mul (by omega) (by omega)
    have x1 : (a' i : Int) * (lo_ : Int) = ((a' i * lo_ : Nat) : Int) := (Int.natCast_mul _ _).symm
    have x2 : (bf : Int) * (hi_ : Int) = ((bf * hi_ : Nat) : Int) := (Int.natCast_mul _ _).symm
    obtain ⟨sm, hsm⟩ : ∃ sm, sm = a' i * lo_ + bf * hi_ + cy := ⟨_, rfl⟩
    have hsml : sm < 2000000000000000000 := by omega
    have x3 : ((a' i * lo_ : Nat) : Int) + ((bf * hi_ : Nat) : Int) + (cy : Int) = (sm : Int) := by omega
    have x4 : (sm : Int) - ((sm / 1000000000 : Nat) : Int) * 1000000000 = ((sm % 1000000000 : Nat) : Int) := by omega
    have x5 : (sm : Int) / 1000000000 = ((sm / 1000000000 : Nat) : Int) := by omega
    have hml : sm % 1000000000 < 1000000000 := Nat.mod_lt _ (by decide)
    have s1 : ∀ k, f_Great_times K (k + 1) 0 (L hi_, L lo_, L bf, L cy, J tp, J e, J i, L 0, G, J n) = f_Great_times K k 1 (L hi_, L lo_, L bf, L cy, J tp, J e, J i, L (a' i), G, J n) := fun k => by
      by_cases hin : i < n
      · have ee : a' i = a i := if_pos hin
        have eg : G i = J (a i) := by rw [hG2 i (Nat.le_refl _)]; exact ha i hin
        have hl := hlt i hin
        rw [ee]
        simp (disch := omega) only [f_Great_times, eg, J_lit, J_add, J_sub, J_mul, J_neg, J_nat, J_inb, J_div, ↓reduceIte, Int.toNat_natCast, Option.bind_some, J_le_t, J_le_f, J_lt_t, J_lt_f, J_eq_t, J_eq_f, L_lit, L_add, L_sub, L_mul, L_div, JL, LJ, Int.reduceToNat, Int.toNat_zero, Int.toNat_one, xb, xm, within_t, within_f, nb_t, nb_f, ni_t, ni_f, in_t, in_f, less_, bad_0, bad_1, not_true_eq_false, not_false_eq_true, L_lt_t, L_lt_f, L_eq_t, L_eq_f, lg_gt, lg_eq, lg_lt]
      · have ee : a' i = 0 := if_neg hin
        rw [ee]
        simp (disch := omega) only [f_Great_times, Int.natCast_zero, J_lit, J_add, J_sub, J_mul, J_neg, J_nat, J_inb, J_div, ↓reduceIte, Int.toNat_natCast, Option.bind_some, J_le_t, J_le_f, J_lt_t, J_lt_f, J_eq_t, J_eq_f, L_lit, L_add, L_sub, L_mul, L_div, JL, LJ, Int.reduceToNat, Int.toNat_zero, Int.toNat_one, xb, xm, within_t, within_f, nb_t, nb_f, ni_t, ni_f, in_t, in_f, less_, bad_0, bad_1, not_true_eq_false, not_false_eq_true, L_lt_t, L_lt_f, L_eq_t, L_eq_f, lg_gt, lg_eq, lg_lt]
    have hinv' : val GB (va_up b i (sm % 1000000000)) (i + 1) + (sm / 1000000000 + a' i * hi_) * GB ^ (i + 1) = val GB a' (i + 1) * F := by
      rw [val, va_up_eq, val_cong (a := va_up b i (sm % 1000000000)) (b := b) (fun q hq => pu_up_ne _ _ (by omega)), val, Nat.pow_succ]
      exact id1 _ _ _ _ _ _ _ _ _ _ _ hinv (by rw [← hsm]; exact (Nat.mod_add_div sm 1000000000).symm) hFeq
    have hcy' : sm / 1000000000 < 2 * GB := by
      show sm / 1000000000 < 2 * 1000000000
      omega
    have hGn : ∀ q, q < i + 1 → upd G i (J ((sm % 1000000000 : Nat) : Int)) q = J (va_up b i (sm % 1000000000) q : Nat) := fun q hq => by
      unfold upd va_up; split
      · rfl
      · exact hG1 q (by omega)
    have hGo : ∀ q, i + 1 ≤ q → upd G i (J ((sm % 1000000000 : Nat) : Int)) q = limbs q := fun q hq => by
      unfold upd; rw [if_neg (by omega)]; exact hG2 q (by omega)
    have hbn : ∀ q, q < i + 1 → va_up b i (sm % 1000000000) q < GB := fun q hq => by
      unfold va_up; split
      · exact hml
      · exact hb q (by omega)
    have ueq : upd G i (J ((sm % 1000000000 : Nat) : Int)) i = J ((sm % 1000000000 : Nat) : Int) := by unfold upd; rw [if_pos rfl]
    by_cases h0 : sm % 1000000000 = 0
    · refine ⟨m, _, by omega, ⟨_, va_up b i (sm % 1000000000), sm / 1000000000, a' i, tp, rfl, hGn, hGo, hbn, hcy', hai, hinv', by omega, fun q h1 h2 => ?_, fun h1 => ?_⟩, ?_⟩
      · unfold va_up; split
        · exact h0
        · exact ht2 q h1 (by omega)
      · rw [pu_up_ne _ _ (by omega)]; exact ht3 h1
      · rw [s1 (m + 2)]
        simp (disch := omega) only [f_Great_times, x1, x2, x3, x4, x5, ueq, cast1, J_lit, J_add, J_sub, J_mul, J_neg, J_nat, J_inb, J_div, ↓reduceIte, Int.toNat_natCast, Option.bind_some, J_le_t, J_le_f, J_lt_t, J_lt_f, J_eq_t, J_eq_f, L_lit, L_add, L_sub, L_mul, L_div, JL, LJ, Int.reduceToNat, Int.toNat_zero, Int.toNat_one, xb, xm, within_t, within_f, nb_t, nb_f, ni_t, ni_f, in_t, in_f, less_, bad_0, bad_1, not_true_eq_false, not_false_eq_true, L_lt_t, L_lt_f, L_eq_t, L_eq_f, lg_gt, lg_eq, lg_lt]
    · refine ⟨m, _, by omega, ⟨_, va_up b i (sm % 1000000000), sm / 1000000000, a' i, i + 1, rfl, hGn, hGo, hbn, hcy', hai, hinv', by omega, fun q h1 h2 => by omega, fun h1 => ?_⟩, ?_⟩
      · rw [Nat.add_sub_cancel, va_up_eq]; exact h0
      · rw [s1 (m + 2)]
        simp (disch := omega) only [f_Great_times, x1, x2, x3, x4, x5, ueq, cast1, J_lit, J_add, J_sub, J_mul, J_neg, J_nat, J_inb, J_div, ↓reduceIte, Int.toNat_natCast, Option.bind_some, J_le_t, J_le_f, J_lt_t, J_lt_f, J_eq_t, J_eq_f, L_lit, L_add, L_sub, L_mul, L_div, JL, LJ, Int.reduceToNat, Int.toNat_zero, Int.toNat_one, xb, xm, within_t, within_f, nb_t, nb_f, ni_t, ni_f, in_t, in_f, less_, bad_0, bad_1, not_true_eq_false, not_false_eq_true, L_lt_t, L_lt_f, L_eq_t, L_eq_f, lg_gt, lg_eq, lg_lt]) (L hi_, L lo_, L 0, L 0, J 0, J e, J 0, L 0, limbs, J n) ⟨limbs, fun _ => 0, 0, 0, 0, rfl, fun q hq => by omega, fun q _ => rfl, fun q hq => by omega, by decide, by decide, by simp [val], by omega, fun q _ hq => by omega, fun h => by omega⟩ K (by omega)
  obtain ⟨m, rfl⟩ : ∃ k, m = k + 1 := ⟨m - 1, by omega⟩
  rw [hv' e he2] at hinv
  have hz : cy + bf * hi_ = 0 := by
    by_cases hz : cy + bf * hi_ = 0
    · exact hz
    · have : 1 * GB ^ e ≤ (cy + bf * hi_) * GB ^ e := Nat.mul_le_mul_right _ (by omega)
      omega
  rw [hz, Nat.zero_mul, Nat.add_zero] at hinv
  refine ⟨G, J tp, ?_, tp, b, rfl, by omega, fun i hi => hG1 i (by omega), fun i hi => hb i (by omega), ?_, ht3⟩
  · have e0 : sp_Great_times K (L F) limbs (J n) = f_Great_times K K 0 (L hi_, L lo_, L 0, L 0, J 0, J e, J 0, L 0, limbs, J n) := by
      unfold sp_Great_times
      rw [he3.2]
      have z1 : (F : Int) / 1000000000 = (hi_ : Int) := by omega
      have z2 : (F : Int) - (hi_ : Int) * 1000000000 = (lo_ : Int) := by omega
      simp (disch := omega) only [z1, z2, J_lit, J_add, J_sub, J_mul, J_neg, J_nat, J_inb, J_div, ↓reduceIte, Int.toNat_natCast, Option.bind_some, J_le_t, J_le_f, J_lt_t, J_lt_f, J_eq_t, J_eq_f, L_lit, L_add, L_sub, L_mul, L_div, JL, LJ, Int.reduceToNat, Int.toNat_zero, Int.toNat_one, xb, xm, within_t, within_f, nb_t, nb_f, ni_t, ni_f, in_t, in_f, less_, bad_0, bad_1, not_true_eq_false, not_false_eq_true, L_lt_t, L_lt_f, L_eq_t, L_eq_f, lg_gt, lg_eq, lg_lt]
    rw [e0, g3]
    simp (disch := omega) only [f_Great_times, J_lit, J_add, J_sub, J_mul, J_neg, J_nat, J_inb, J_div, ↓reduceIte, Int.toNat_natCast, Option.bind_some, J_le_t, J_le_f, J_lt_t, J_lt_f, J_eq_t, J_eq_f, L_lit, L_add, L_sub, L_mul, L_div, JL, LJ, Int.reduceToNat, Int.toNat_zero, Int.toNat_one, xb, xm, within_t, within_f, nb_t, nb_f, ni_t, ni_f, in_t, in_f, less_, bad_0, bad_1, not_true_eq_false, not_false_eq_true, L_lt_t, L_lt_f, L_eq_t, L_eq_f, lg_gt, lg_eq, lg_lt]
  · rw [← hinv, val_zero tp e ht1 ht2]
set_option maxHeartbeats 2000000 in
theorem pow_pos' {b : Nat} (hb : 1 ≤ b) (n : Nat) : 1 ≤ b ^ n := Nat.pow_pos hb
set_option maxHeartbeats 2000000 in
theorem p_Great_timesPower (K : Nat) (hK : 2000 ≤ K) {N b e : Nat} (hb : 1 ≤ b ∧ b ≤ 16) (he : e ≤ 480) {limbs : Nat → Int32} {size : Int32} (h : GR N limbs size) (hN : N * b ^ e < GB ^ 136) : ∃ limbs' size', sp_Great_timesPower K (J b) (J e) limbs size = some (limbs', size') ∧ GR (N * b ^ e) limbs' size' := by
  have hle : ∀ i, i ≤ e → N * b ^ i < GB ^ 136 := fun i hi => Nat.lt_of_le_of_lt (Nat.mul_le_mul_left _ (Nat.pow_le_pow_right hb.1 hi)) hN
  obtain ⟨m, s, g1, ⟨M, f, G, S, rfl, hM, hf1, hf2, hR⟩, g3⟩ := lp (fun k s => f_Great_timesPower K k 0 s) (fun i s => ∃ (M f : Nat) (G : Nat → Int32) (S : Int32), s = (J b, J e, L f, J i, G, S) ∧ M * f = N * b ^ i ∧ 1 ≤ f ∧ f ≤ 10000000000000000 ∧ GR M G S) 2 e (by
    rintro i hi s ⟨M, f, G, S, rfl, hM, hf1, hf2, hR⟩ m
    have hfb : f * b ≤ 10000000000000000 * 16 := Nat.mul_le_mul hf2 hb.2
    have hfb1 : 1 ≤ f * b := Nat.mul_pos hf1 hb.1
    have x1 : (f : Int) * (b : Int) = ((f * b : Nat) : Int) := (Int.natCast_mul _ _).symm
    have hM' : M * (f * b) = N * b ^ (i + 1) := by rw [← Nat.mul_assoc, hM, Nat.pow_succ, Nat.mul_assoc]
    by_cases hc : f * b ≤ 10000000000000000
    · refine ⟨m, _, by omega, ⟨M, f * b, G, S, rfl, hM', hfb1, hc, hR⟩, ?_⟩
      by_cases hc2 : f * b = 10000000000000000
      · simp (disch := omega) only [f_Great_timesPower, x1, cast1, J_lit, J_add, J_sub, J_mul, J_neg, J_nat, J_inb, J_div, ↓reduceIte, Int.toNat_natCast, Option.bind_some, J_le_t, J_le_f, J_lt_t, J_lt_f, J_eq_t, J_eq_f, L_lit, L_add, L_sub, L_mul, L_div, JL, LJ, Int.reduceToNat, Int.toNat_zero, Int.toNat_one, xb, xm, within_t, within_f, nb_t, nb_f, ni_t, ni_f, in_t, in_f, less_, bad_0, bad_1, not_true_eq_false, not_false_eq_true, L_lt_t, L_lt_f, L_eq_t, L_eq_f, lg_gt, lg_eq, lg_lt]
      · simp (disch := omega) only [f_Great_timesPower, x1, cast1, J_lit, J_add, J_sub, J_mul, J_neg, J_nat, J_inb, J_div, ↓reduceIte, Int.toNat_natCast, Option.bind_some, J_le_t, J_le_f, J_lt_t, J_lt_f, J_eq_t, J_eq_f, L_lit, L_add, L_sub, L_mul, L_div, JL, LJ, Int.reduceToNat, Int.toNat_zero, Int.toNat_one, xb, xm, within_t, within_f, nb_t, nb_f, ni_t, ni_f, in_t, in_f, less_, bad_0, bad_1, not_true_eq_false, not_false_eq_true, L_lt_t, L_lt_f, L_eq_t, L_eq_f, lg_gt, lg_eq, lg_lt]
    · obtain ⟨G', S', e1, e2⟩ := p_Great_times K (by omega) hR (F := f * b) (Nat.lt_of_le_of_lt hfb (by decide)) (by rw [hM']; exact hle _ (by omega))
      refine ⟨m, _, by omega, ⟨M * (f * b), 1, G', S', rfl, by rw [Nat.mul_one, hM'], by omega, by omega, e2⟩, ?_⟩
      simp (disch := omega) only [f_Great_timesPower, x1, e1, cast1, J_lit, J_add, J_sub, J_mul, J_neg, J_nat, J_inb, J_div, ↓reduceIte, Int.toNat_natCast, Option.bind_some, J_le_t, J_le_f, J_lt_t, J_lt_f, J_eq_t, J_eq_f, L_lit, L_add, L_sub, L_mul, L_div, JL, LJ, Int.reduceToNat, Int.toNat_zero, Int.toNat_one, xb, xm, within_t, within_f, nb_t, nb_f, ni_t, ni_f, in_t, in_f, less_, bad_0, bad_1, not_true_eq_false, not_false_eq_true, L_lt_t, L_lt_f, L_eq_t, L_eq_f, lg_gt, lg_eq, lg_lt]
      rfl) (J b, J e, L 1, J 0, limbs, size) ⟨N, 1, limbs, size, rfl, by simp, by omega, by omega, h⟩ K (by omega)
  obtain ⟨m, rfl⟩ : ∃ k, m = k + 1 := ⟨m - 1, by omega⟩
  have e0 : sp_Great_timesPower K (J b) (J e) limbs size = f_Great_timesPower K K 0 (J b, J e, L 1, J 0, limbs, size) := by
    simp (disch := omega) only [sp_Great_timesPower, J_lit, J_add, J_sub, J_mul, J_neg, J_nat, J_inb, J_div, ↓reduceIte, Int.toNat_natCast, Option.bind_some, J_le_t, J_le_f, J_lt_t, J_lt_f, J_eq_t, J_eq_f, L_lit, L_add, L_sub, L_mul, L_div, JL, LJ, Int.reduceToNat, Int.toNat_zero, Int.toNat_one, xb, xm, within_t, within_f, nb_t, nb_f, ni_t, ni_f, in_t, in_f, less_, bad_0, bad_1, not_true_eq_false, not_false_eq_true, L_lt_t, L_lt_f, L_eq_t, L_eq_f, lg_gt, lg_eq, lg_lt]
  by_cases hc : f = 1
  · subst hc
    refine ⟨G, S, ?_, by rw [← hM, Nat.mul_one]; exact hR⟩
    rw [e0, g3]
    simp (disch := omega) only [f_Great_timesPower, J_lit, J_add, J_sub, J_mul, J_neg, J_nat, J_inb, J_div, ↓reduceIte, Int.toNat_natCast, Option.bind_some, J_le_t, J_le_f, J_lt_t, J_lt_f, J_eq_t, J_eq_f, L_lit, L_add, L_sub, L_mul, L_div, JL, LJ, Int.reduceToNat, Int.toNat_zero, Int.toNat_one, xb, xm, within_t, within_f, nb_t, nb_f, ni_t, ni_f, in_t, in_f, less_, bad_0, bad_1, not_true_eq_false, not_false_eq_true, L_lt_t, L_lt_f, L_eq_t, L_eq_f, lg_gt, lg_eq, lg_lt]
  · obtain ⟨G', S', e1, e2⟩ := p_Great_times K (by omega) hR (F := f) (Nat.lt_of_le_of_lt hf2 (by decide)) (by rw [hM]; exact hN)
    refine ⟨G', S', ?_, by rw [← hM]; exact e2⟩
    rw [e0, g3]
    simp (disch := omega) only [f_Great_timesPower, e1, J_lit, J_add, J_sub, J_mul, J_neg, J_nat, J_inb, J_div, ↓reduceIte, Int.toNat_natCast, Option.bind_some, J_le_t, J_le_f, J_lt_t, J_lt_f, J_eq_t, J_eq_f, L_lit, L_add, L_sub, L_mul, L_div, JL, LJ, Int.reduceToNat, Int.toNat_zero, Int.toNat_one, xb, xm, within_t, within_f, nb_t, nb_f, ni_t, ni_f, in_t, in_f, less_, bad_0, bad_1, not_true_eq_false, not_false_eq_true, L_lt_t, L_lt_f, L_eq_t, L_eq_f, lg_gt, lg_eq, lg_lt]
set_option maxHeartbeats 2000000 in
theorem p_Great_timesPower_n (K : Nat) (hK : 2000 ≤ K) (b : Int32) {e : Int} (he : -100000 ≤ e ∧ e ≤ 0) (limbs : Nat → Int32) (size : Int32) : sp_Great_timesPower K b (J e) limbs size = some (limbs, size) := by
  obtain ⟨k, rfl⟩ : ∃ k, K = k + 1 := ⟨K - 1, by omega⟩
  simp (disch := omega) only [sp_Great_timesPower, f_Great_timesPower, J_lit, J_add, J_sub, J_mul, J_neg, J_nat, J_inb, J_div, ↓reduceIte, Int.toNat_natCast, Option.bind_some, J_le_t, J_le_f, J_lt_t, J_lt_f, J_eq_t, J_eq_f, L_lit, L_add, L_sub, L_mul, L_div, JL, LJ, Int.reduceToNat, Int.toNat_zero, Int.toNat_one, xb, xm, within_t, within_f, nb_t, nb_f, ni_t, ni_f, in_t, in_f, less_, bad_0, bad_1, not_true_eq_false, not_false_eq_true, L_lt_t, L_lt_f, L_eq_t, L_eq_f, lg_gt, lg_eq, lg_lt]
set_option maxHeartbeats 2000000 in
theorem p_Great_setOne (K : Nat) (limbs : Nat → Int32) (size : Int32) : ∃ limbs' size', sp_Great_setOne K limbs size = some (limbs', size') ∧ GR 1 limbs' size' := by
  refine ⟨upd limbs 0 (J 1), J 1, ?_, 1, fun _ => 1, rfl, by omega, fun i hi => ?_, fun i _ => (by show 1 < 1000000000; omega), rfl, fun _ => by show 1 ≠ 0; omega⟩
  · simp (disch := omega) only [sp_Great_setOne, J_lit, J_add, J_sub, J_mul, J_neg, J_nat, J_inb, J_div, ↓reduceIte, Int.toNat_natCast, Option.bind_some, J_le_t, J_le_f, J_lt_t, J_lt_f, J_eq_t, J_eq_f, L_lit, L_add, L_sub, L_mul, L_div, JL, LJ, Int.reduceToNat, Int.toNat_zero, Int.toNat_one, xb, xm, within_t, within_f, nb_t, nb_f, ni_t, ni_f, in_t, in_f, less_, bad_0, bad_1, not_true_eq_false, not_false_eq_true, L_lt_t, L_lt_f, L_eq_t, L_eq_f, lg_gt, lg_eq, lg_lt]
  · obtain rfl : i = 0 := by omega
    rfl
set_option maxHeartbeats 2000000 in
theorem p_Great_copy (K : Nat) {N : Nat} {limbs : Nat → Int32} {size : Int32} (h : GR N limbs size) (t : Nat → Int32) (tn : Int32) : ∃ limbs' size', sp_Great_copy K t tn limbs size = some (limbs', size') ∧ GR N limbs' size' := by
  obtain ⟨n, a, rfl, hn, ha, hlt, hval, htop⟩ := h
  have e1 : (if (0 : Int32) < (if (136 : Int32) < J n then 136 else J n) then (if (136 : Int32) < J n then 136 else J n) else 0) = J n := by
    simp (disch := omega) only [J_lit, J_add, J_sub, J_mul, J_neg, J_nat, J_inb, J_div, ↓reduceIte, Int.toNat_natCast, Option.bind_some, J_le_t, J_le_f, J_lt_t, J_lt_f, J_eq_t, J_eq_f, L_lit, L_add, L_sub, L_mul, L_div, JL, LJ, Int.reduceToNat, Int.toNat_zero, Int.toNat_one, xb, xm, within_t, within_f, nb_t, nb_f, ni_t, ni_f, in_t, in_f, less_, bad_0, bad_1, not_true_eq_false, not_false_eq_true, L_lt_t, L_lt_f, L_eq_t, L_eq_f, lg_gt, lg_eq, lg_lt]
    by_cases h0 : n = 0
    · subst h0; rfl
    · simp (disch := omega) only [J_lit, J_add, J_sub, J_mul, J_neg, J_nat, J_inb, J_div, ↓reduceIte, Int.toNat_natCast, Option.bind_some, J_le_t, J_le_f, J_lt_t, J_lt_f, J_eq_t, J_eq_f, L_lit, L_add, L_sub, L_mul, L_div, JL, LJ, Int.reduceToNat, Int.toNat_zero, Int.toNat_one, xb, xm, within_t, within_f, nb_t, nb_f, ni_t, ni_f, in_t, in_f, less_, bad_0, bad_1, not_true_eq_false, not_false_eq_true, L_lt_t, L_lt_f, L_eq_t, L_eq_f, lg_gt, lg_eq, lg_lt]
  refine ⟨va_cpy limbs t 0 0 n, J n, ?_, n, a, rfl, hn, fun i hi => ?_, hlt, hval, htop⟩
  · unfold sp_Great_copy
    rw [e1, if_pos]
    · have e2 : (J (n : Int)).toNatClampNeg = n := by simp (disch := omega) only [J_lit, J_add, J_sub, J_mul, J_neg, J_nat, J_inb, J_div, ↓reduceIte, Int.toNat_natCast, Option.bind_some, J_le_t, J_le_f, J_lt_t, J_lt_f, J_eq_t, J_eq_f, L_lit, L_add, L_sub, L_mul, L_div, JL, LJ, Int.reduceToNat, Int.toNat_zero, Int.toNat_one, xb, xm, within_t, within_f, nb_t, nb_f, ni_t, ni_f, in_t, in_f, less_, bad_0, bad_1, not_true_eq_false, not_false_eq_true, L_lt_t, L_lt_f, L_eq_t, L_eq_f, lg_gt, lg_eq, lg_lt]
      rw [e2]; rfl
    · have e2 : (J (n : Int)).toNatClampNeg = n := by simp (disch := omega) only [J_lit, J_add, J_sub, J_mul, J_neg, J_nat, J_inb, J_div, ↓reduceIte, Int.toNat_natCast, Option.bind_some, J_le_t, J_le_f, J_lt_t, J_lt_f, J_eq_t, J_eq_f, L_lit, L_add, L_sub, L_mul, L_div, JL, LJ, Int.reduceToNat, Int.toNat_zero, Int.toNat_one, xb, xm, within_t, within_f, nb_t, nb_f, ni_t, ni_f, in_t, in_f, less_, bad_0, bad_1, not_true_eq_false, not_false_eq_true, L_lt_t, L_lt_f, L_eq_t, L_eq_f, lg_gt, lg_eq, lg_lt]
      rw [e2]
      refine ⟨⟨by decide, by decide, ?_⟩, ?_, ?_⟩
      · simp (disch := omega) only [J_lit, J_add, J_sub, J_mul, J_neg, J_nat, J_inb, J_div, ↓reduceIte, Int.toNat_natCast, Option.bind_some, J_le_t, J_le_f, J_lt_t, J_lt_f, J_eq_t, J_eq_f, L_lit, L_add, L_sub, L_mul, L_div, JL, LJ, Int.reduceToNat, Int.toNat_zero, Int.toNat_one, xb, xm, within_t, within_f, nb_t, nb_f, ni_t, ni_f, in_t, in_f, less_, bad_0, bad_1, not_true_eq_false, not_false_eq_true, L_lt_t, L_lt_f, L_eq_t, L_eq_f, lg_gt, lg_eq, lg_lt]
      · show 0 + n ≤ 136; omega
      · show 0 + n ≤ 136; omega
  · show (if 0 ≤ i ∧ i < 0 + n then limbs (0 + (i - 0)) else t i) = _
    rw [if_pos (by omega), show 0 + (i - 0) = i by omega]
    exact ha i hi
set_option maxHeartbeats 2000000 in
theorem p_Great_isZero (K : Nat) {N : Nat} {limbs : Nat → Int32} {size : Int32} (h : GR N limbs size) : sp_Great_isZero K size = some (J (if N = 0 then 1 else 0)) := by
  have h' := h
  obtain ⟨n, a, rfl, hn, ha, hlt, hval, htop⟩ := h
  have := GR_zero h' hn
  by_cases h0 : N = 0
  · rw [if_pos h0]
    have hn0 := this.mpr h0
    simp (disch := omega) only [sp_Great_isZero, J_lit, J_add, J_sub, J_mul, J_neg, J_nat, J_inb, J_div, ↓reduceIte, Int.toNat_natCast, Option.bind_some, J_le_t, J_le_f, J_lt_t, J_lt_f, J_eq_t, J_eq_f, L_lit, L_add, L_sub, L_mul, L_div, JL, LJ, Int.reduceToNat, Int.toNat_zero, Int.toNat_one, xb, xm, within_t, within_f, nb_t, nb_f, ni_t, ni_f, in_t, in_f, less_, bad_0, bad_1, not_true_eq_false, not_false_eq_true, L_lt_t, L_lt_f, L_eq_t, L_eq_f, lg_gt, lg_eq, lg_lt]
  · rw [if_neg h0]
    have hn0 : n ≠ 0 := fun h => h0 (this.mp h)
    simp (disch := omega) only [sp_Great_isZero, J_lit, J_add, J_sub, J_mul, J_neg, J_nat, J_inb, J_div, ↓reduceIte, Int.toNat_natCast, Option.bind_some, J_le_t, J_le_f, J_lt_t, J_lt_f, J_eq_t, J_eq_f, L_lit, L_add, L_sub, L_mul, L_div, JL, LJ, Int.reduceToNat, Int.toNat_zero, Int.toNat_one, xb, xm, within_t, within_f, nb_t, nb_f, ni_t, ni_f, in_t, in_f, less_, bad_0, bad_1, not_true_eq_false, not_false_eq_true, L_lt_t, L_lt_f, L_eq_t, L_eq_f, lg_gt, lg_eq, lg_lt]
def cmpA (A B : Nat) : Int := if A = B then 0 else if A < B then -1 else 1
set_option maxHeartbeats 2000000 in
theorem p_Great_compareWith (K : Nat) (hK : 1000 ≤ K) {A B : Nat} {l1 l2 : Nat → Int32} {s1 s2 : Int32} (h1 : GR A l1 s1) (h2 : GR B l2 s2) : sp_Great_compareWith K l1 s1 l2 s2 = some (J (cmpA A B)) := by
  obtain ⟨n, a, rfl, hn, ha, hla, hva, hta⟩ := h1
  obtain ⟨q, b, rfl, hq, hb, hlb, hvb, htb⟩ := h2
  unfold cmpA
  by_cases hnq : n = q
  · subst hnq
    have key : ∀ r, r ≤ n → (∀ i, r ≤ i → i < n → a i = b i) → ∀ m, r + 1 ≤ m → f_Great_compareWith K l1 l2 m 0 (J ((r : Int) - 1)) = some (J (if A = B then 0 else if A < B then -1 else 1)) := by
      intro r
      induction r with
      | zero =>
        intro _ he m hm
        obtain ⟨m, rfl⟩ : ∃ k, m = k + 1 := ⟨m - 1, by omega⟩
        have : A = B := by rw [← hva, ← hvb]; exact val_cong (fun i hi => he i (by omega) hi)
        rw [if_pos this]
        simp (disch := omega) only [f_Great_compareWith, J_lit, J_add, J_sub, J_mul, J_neg, J_nat, J_inb, J_div, ↓reduceIte, Int.toNat_natCast, Option.bind_some, J_le_t, J_le_f, J_lt_t, J_lt_f, J_eq_t, J_eq_f, L_lit, L_add, L_sub, L_mul, L_div, JL, LJ, Int.reduceToNat, Int.toNat_zero, Int.toNat_one, xb, xm, within_t, within_f, nb_t, nb_f, ni_t, ni_f, in_t, in_f, less_, bad_0, bad_1, not_true_eq_false, not_false_eq_true, L_lt_t, L_lt_f, L_eq_t, L_eq_f, lg_gt, lg_eq, lg_lt]
      | succ r ih =>
        intro hr he m hm
        obtain ⟨m, rfl⟩ : ∃ k, m = k + 1 := ⟨m - 1, by omega⟩
        have er : ((r + 1 : Nat) : Int) - 1 = (r : Int) := by omega
        have f1 := ha r (by omega)
        have f2 := hb r (by omega)
        have q1 := hla r (by omega)
        have q2 := hlb r (by omega)
        have hGB : GB = 1000000000 := rfl
        by_cases hab : a r = b r
        · have := ih (by omega) (fun i h1 h2 => by
            by_cases hir : i = r
            · subst hir; exact hab
            · exact he i (by omega) h2) m (by omega)
          rw [← this]
          simp (disch := omega) only [f_Great_compareWith, er, f1, f2, J_lit, J_add, J_sub, J_mul, J_neg, J_nat, J_inb, J_div, ↓reduceIte, Int.toNat_natCast, Option.bind_some, J_le_t, J_le_f, J_lt_t, J_lt_f, J_eq_t, J_eq_f, L_lit, L_add, L_sub, L_mul, L_div, JL, LJ, Int.reduceToNat, Int.toNat_zero, Int.toNat_one, xb, xm, within_t, within_f, nb_t, nb_f, ni_t, ni_f, in_t, in_f, less_, bad_0, bad_1, not_true_eq_false, not_false_eq_true, L_lt_t, L_lt_f, L_eq_t, L_eq_f, lg_gt, lg_eq, lg_lt]
          rfl
        · by_cases hlt : a r < b r
          · have hAB : A < B := by rw [← hva, ← hvb]; exact val_cmp (by decide) (by omega) hla hlb (fun i h1 h2 => he i (by omega) h2) hlt
            rw [if_neg (by omega), if_pos hAB]
            simp (disch := omega) only [f_Great_compareWith, er, f1, f2, J_lit, J_add, J_sub, J_mul, J_neg, J_nat, J_inb, J_div, ↓reduceIte, Int.toNat_natCast, Option.bind_some, J_le_t, J_le_f, J_lt_t, J_lt_f, J_eq_t, J_eq_f, L_lit, L_add, L_sub, L_mul, L_div, JL, LJ, Int.reduceToNat, Int.toNat_zero, Int.toNat_one, xb, xm, within_t, within_f, nb_t, nb_f, ni_t, ni_f, in_t, in_f, less_, bad_0, bad_1, not_true_eq_false, not_false_eq_true, L_lt_t, L_lt_f, L_eq_t, L_eq_f, lg_gt, lg_eq, lg_lt]
          · have hAB : B < A := by rw [← hva, ← hvb]; exact val_cmp (by decide) (show r < n by omega) hlb hla (fun i h1 h2 => (he i (by omega) h2).symm) (by omega)
            rw [if_neg (by omega), if_neg (by omega)]
            simp (disch := omega) only [f_Great_compareWith, er, f1, f2, J_lit, J_add, J_sub, J_mul, J_neg, J_nat, J_inb, J_div, ↓reduceIte, Int.toNat_natCast, Option.bind_some, J_le_t, J_le_f, J_lt_t, J_lt_f, J_eq_t, J_eq_f, L_lit, L_add, L_sub, L_mul, L_div, JL, LJ, Int.reduceToNat, Int.toNat_zero, Int.toNat_one, xb, xm, within_t, within_f, nb_t, nb_f, ni_t, ni_f, in_t, in_f, less_, bad_0, bad_1, not_true_eq_false, not_false_eq_true, L_lt_t, L_lt_f, L_eq_t, L_eq_f, lg_gt, lg_eq, lg_lt]
    rw [← key n (Nat.le_refl _) (fun i h1 h2 => by omega) K (by omega)]
    simp (disch := omega) only [sp_Great_compareWith, J_lit, J_add, J_sub, J_mul, J_neg, J_nat, J_inb, J_div, ↓reduceIte, Int.toNat_natCast, Option.bind_some, J_le_t, J_le_f, J_lt_t, J_lt_f, J_eq_t, J_eq_f, L_lit, L_add, L_sub, L_mul, L_div, JL, LJ, Int.reduceToNat, Int.toNat_zero, Int.toNat_one, xb, xm, within_t, within_f, nb_t, nb_f, ni_t, ni_f, in_t, in_f, less_, bad_0, bad_1, not_true_eq_false, not_false_eq_true, L_lt_t, L_lt_f, L_eq_t, L_eq_f, lg_gt, lg_eq, lg_lt]
  · have hA : A < GB ^ n := by rw [← hva]; exact val_lt (by decide) hla
    have hB : B < GB ^ q := by rw [← hvb]; exact val_lt (by decide) hlb
    by_cases hlt : n < q
    · have h3 : GB ^ (q - 1) ≤ B := by rw [← hvb]; exact val_top (by omega) (htb (by omega))
      have h4 : GB ^ n ≤ GB ^ (q - 1) := Nat.pow_le_pow_right (by decide) (by omega)
      rw [if_neg (by omega), if_pos (by omega)]
      clear hA hB h3 h4
      simp (disch := omega) only [sp_Great_compareWith, J_lit, J_add, J_sub, J_mul, J_neg, J_nat, J_inb, J_div, ↓reduceIte, Int.toNat_natCast, Option.bind_some, J_le_t, J_le_f, J_lt_t, J_lt_f, J_eq_t, J_eq_f, L_lit, L_add, L_sub, L_mul, L_div, JL, LJ, Int.reduceToNat, Int.toNat_zero, Int.toNat_one, xb, xm, within_t, within_f, nb_t, nb_f, ni_t, ni_f, in_t, in_f, less_, bad_0, bad_1, not_true_eq_false, not_false_eq_true, L_lt_t, L_lt_f, L_eq_t, L_eq_f, lg_gt, lg_eq, lg_lt]
    · have h3 : GB ^ (n - 1) ≤ A := by rw [← hva]; exact val_top (by omega) (hta (by omega))
      have h4 : GB ^ q ≤ GB ^ (n - 1) := Nat.pow_le_pow_right (by decide) (by omega)
      rw [if_neg (by omega), if_neg (by omega)]
      clear hA hB h3 h4
      simp (disch := omega) only [sp_Great_compareWith, J_lit, J_add, J_sub, J_mul, J_neg, J_nat, J_inb, J_div, ↓reduceIte, Int.toNat_natCast, Option.bind_some, J_le_t, J_le_f, J_lt_t, J_lt_f, J_eq_t, J_eq_f, L_lit, L_add, L_sub, L_mul, L_div, JL, LJ, Int.reduceToNat, Int.toNat_zero, Int.toNat_one, xb, xm, within_t, within_f, nb_t, nb_f, ni_t, ni_f, in_t, in_f, less_, bad_0, bad_1, not_true_eq_false, not_false_eq_true, L_lt_t, L_lt_f, L_eq_t, L_eq_f, lg_gt, lg_eq, lg_lt]
set_option maxHeartbeats 2000000 in
theorem DG_of {P t d : Nat} {N q : Nat} (hP : P = 10 ^ q) (h1 : t * P ≤ N) (h2 : N < (t + 1) * P) (ht : t < 10 ^ d) (hd : 1 ≤ d) (ht2 : (d = 1 ∧ q = 0) ∨ 10 ^ (d - 1) ≤ t) : DG N (q + d) := by
  refine ⟨by omega, ?_, ?_⟩
  · have : (t + 1) * P ≤ 10 ^ d * P := Nat.mul_le_mul_right _ ht
    rw [hP, ← Nat.pow_add, Nat.add_comm d q] at this
    rw [hP] at h2
    omega
  · rcases ht2 with ⟨h3, h4⟩ | h3
    · left; omega
    · right
      have : 10 ^ (d - 1) * P ≤ t * P := Nat.mul_le_mul_right _ h3
      rw [hP, ← Nat.pow_add, show d - 1 + q = q + d - 1 by omega] at this
      rw [hP] at h1
      omega
set_option maxHeartbeats 2000000 in
theorem p_howMany (K : Nat) (hK : 1000 ≤ K) {N : Nat} {limbs : Nat → Int32} {size : Int32} (h : GR N limbs size) : ∃ D, sp_Great_howManyDigits K limbs size = some (J (D : Nat)) ∧ DG N D ∧ D ≤ 1224 := by
  have h' := h
  obtain ⟨n, a, rfl, hn, ha, hlt, hval, htop⟩ := h
  by_cases h0 : n = 0
  · subst h0
    have hN : N = 0 := hval.symm
    subst hN
    refine ⟨1, by simp (disch := omega) only [sp_Great_howManyDigits, J_lit, J_add, J_sub, J_mul, J_neg, J_nat, J_inb, J_div, ↓reduceIte, Int.toNat_natCast, Option.bind_some, J_le_t, J_le_f, J_lt_t, J_lt_f, J_eq_t, J_eq_f, L_lit, L_add, L_sub, L_mul, L_div, JL, LJ, Int.reduceToNat, Int.toNat_zero, Int.toNat_one, xb, xm, within_t, within_f, nb_t, nb_f, ni_t, ni_f, in_t, in_f, less_, bad_0, bad_1, not_true_eq_false, not_false_eq_true, L_lt_t, L_lt_f, L_eq_t, L_eq_f, lg_gt, lg_eq, lg_lt]; rfl, ⟨by omega, by decide, Or.inl rfl⟩, by omega⟩
  · have ht0 := htop (by omega)
    have htl := hlt (n - 1) (by omega)
    have hGB : GB = 1000000000 := rfl
    have hat := ha (n - 1) (by omega)
    generalize hT : a (n - 1) = T at ht0 htl hat
    have key : ∀ r j, r + j = 9 → ∀ m, r + 1 ≤ m → ∃ d, j ≤ d ∧ d ≤ 9 ∧ f_Great_howManyDigits K m 0 (J (((n - 1) * 9 + j : Nat) : Int), J ((T / 10 ^ j : Nat) : Int), J (j : Int)) = some (J (((n - 1) * 9 + d : Nat) : Int)) ∧ T < 10 ^ d ∧ (d = j ∨ 10 ^ (d - 1) ≤ T) := by
      intro r
      induction r with
      | zero =>
        intro j hj m hm
        obtain rfl : j = 9 := by omega
        obtain ⟨m, rfl⟩ : ∃ k, m = k + 1 := ⟨m - 1, by omega⟩
        exact ⟨9, by omega, by omega, by simp (disch := omega) only [f_Great_howManyDigits, J_lit, J_add, J_sub, J_mul, J_neg, J_nat, J_inb, J_div, ↓reduceIte, Int.toNat_natCast, Option.bind_some, J_le_t, J_le_f, J_lt_t, J_lt_f, J_eq_t, J_eq_f, L_lit, L_add, L_sub, L_mul, L_div, JL, LJ, Int.reduceToNat, Int.toNat_zero, Int.toNat_one, xb, xm, within_t, within_f, nb_t, nb_f, ni_t, ni_f, in_t, in_f, less_, bad_0, bad_1, not_true_eq_false, not_false_eq_true, L_lt_t, L_lt_f, L_eq_t, L_eq_f, lg_gt, lg_eq, lg_lt], by omega, Or.inl rfl⟩
      | succ r ih =>
        intro j hj m hm
        obtain ⟨m, rfl⟩ : ∃ k, m = k + 1 := ⟨m - 1, by omega⟩
        have hle : T / 10 ^ j ≤ T := Nat.div_le_self _ _
        by_cases hz : T / 10 ^ j = 0
        · refine ⟨j, by omega, by omega, by simp (disch := omega) only [f_Great_howManyDigits, J_lit, J_add, J_sub, J_mul, J_neg, J_nat, J_inb, J_div, ↓reduceIte, Int.toNat_natCast, Option.bind_some, J_le_t, J_le_f, J_lt_t, J_lt_f, J_eq_t, J_eq_f, L_lit, L_add, L_sub, L_mul, L_div, JL, LJ, Int.reduceToNat, Int.toNat_zero, Int.toNat_one, xb, xm, within_t, within_f, nb_t, nb_f, ni_t, ni_f, in_t, in_f, less_, bad_0, bad_1, not_true_eq_false, not_false_eq_true, L_lt_t, L_lt_f, L_eq_t, L_eq_f, lg_gt, lg_eq, lg_lt], ?_, Or.inl rfl⟩
          rcases Nat.div_eq_zero_iff.mp hz with h | h
          · have : 0 < 10 ^ j := Nat.pow_pos (by omega)
            omega
          · exact h
        · obtain ⟨d, d1, d2, d3, d4, d5⟩ := ih (j + 1) (by omega) m (by omega)
          refine ⟨d, by omega, d2, ?_, d4, Or.inr ?_⟩
          · rw [← d3]
            have e1 : (((n - 1) * 9 + j : Nat) : Int) + 1 = (((n - 1) * 9 + (j + 1) : Nat) : Int) := by omega
            have e2 : T / 10 ^ (j + 1) = T / 10 ^ j / 10 := by
              rw [Nat.pow_succ, ← Nat.div_div_eq_div_mul]
            rw [e2]
            clear d3 d4 d5 ih
            generalize T / 10 ^ j = X at *
            have e3 : (X : Int) / 10 = ((X / 10 : Nat) : Int) := by omega
            simp (disch := omega) only [f_Great_howManyDigits, e1, e3, cast1, J_lit, J_add, J_sub, J_mul, J_neg, J_nat, J_inb, J_div, ↓reduceIte, Int.toNat_natCast, Option.bind_some, J_le_t, J_le_f, J_lt_t, J_lt_f, J_eq_t, J_eq_f, L_lit, L_add, L_sub, L_mul, L_div, JL, LJ, Int.reduceToNat, Int.toNat_zero, Int.toNat_one, xb, xm, within_t, within_f, nb_t, nb_f, ni_t, ni_f, in_t, in_f, less_, bad_0, bad_1, not_true_eq_false, not_false_eq_true, L_lt_t, L_lt_f, L_eq_t, L_eq_f, lg_gt, lg_eq, lg_lt]
          · rcases d5 with d5 | d5
            · rw [d5, Nat.add_sub_cancel]
              by_cases hc : 10 ^ j ≤ T
              · exact hc
              · exact absurd (Nat.div_eq_of_lt (by omega)) hz
            · exact d5
    obtain ⟨d, d1, d2, d3, d4, d5⟩ := key 9 0 (by omega) K (by omega)
    have hd1 : 1 ≤ d := by
      rcases Nat.eq_zero_or_pos d with h | h
      · subst h
        simp at d4
        omega
      · exact h
    have hsz : (n : Int) - 1 = ((n - 1 : Nat) : Int) := by omega
    refine ⟨(n - 1) * 9 + d, ?_, ?_, by omega⟩
    · rw [← d3]
      have e1 : ((n - 1 : Nat) : Int) * 9 = (((n - 1) * 9 + 0 : Nat) : Int) := by omega
      simp (disch := omega) only [sp_Great_howManyDigits, hsz, hat, e1, J_lit, J_add, J_sub, J_mul, J_neg, J_nat, J_inb, J_div, ↓reduceIte, Int.toNat_natCast, Option.bind_some, J_le_t, J_le_f, J_lt_t, J_lt_f, J_eq_t, J_eq_f, L_lit, L_add, L_sub, L_mul, L_div, JL, LJ, Int.reduceToNat, Int.toNat_zero, Int.toNat_one, xb, xm, within_t, within_f, nb_t, nb_f, ni_t, ni_f, in_t, in_f, less_, bad_0, bad_1, not_true_eq_false, not_false_eq_true, L_lt_t, L_lt_f, L_eq_t, L_eq_f, lg_gt, lg_eq, lg_lt]
      rw [Nat.pow_zero, Nat.div_one]
      rfl
    · obtain ⟨n', rfl⟩ : ∃ n', n = n' + 1 := ⟨n - 1, by omega⟩
      simp only [Nat.add_sub_cancel] at *
      have hv : N = val GB a n' + T * GB ^ n' := by rw [← hval, val, hT]
      have hl : val GB a n' < GB ^ n' := val_lt (by decide) (fun i hi => hlt i (by omega))
      have hP : GB ^ n' = 10 ^ (n' * 9) := by rw [show GB = 10 ^ 9 from rfl, ← Nat.pow_mul, Nat.mul_comm]
      refine DG_of hP ?_ ?_ d4 hd1 ?_
      · omega
      · rw [Nat.add_mul, Nat.one_mul]; omega
      · rcases d5 with d5 | d5
        · omega
        · exact Or.inr d5
set_option maxHeartbeats 2000000 in
theorem dig_mod (X r q : Nat) (hr : r < q) : X % 10 ^ q / 10 ^ r % 10 = X / 10 ^ r % 10 := by
  have : 10 ^ q = 10 ^ r * 10 ^ (q - r) := by rw [← Nat.pow_add, show r + (q - r) = q by omega]
  rw [this, Nat.mod_mul_right_div_self]
  apply Nat.mod_mod_of_dvd
  obtain ⟨z, hz⟩ : ∃ z, q - r = z + 1 := ⟨q - r - 1, by omega⟩
  rw [hz, Nat.pow_succ]
  exact Nat.dvd_mul_left _ _
set_option maxHeartbeats 2000000 in
theorem p_digitAt (K : Nat) (hK : 1000 ≤ K) {N : Nat} {limbs : Nat → Int32} {size : Int32} (h : GR N limbs size) {D : Nat} (hD : DG N D) {k : Int} (hk : -2147483648 ≤ k ∧ k < 2147483648) : sp_Great_digitAt K (J k) limbs size = some (J (if 0 ≤ k ∧ k < D then ((N / 10 ^ k.toNat % 10 : Nat) : Int) else -1)) := by
  obtain ⟨D', e1, e2, e3⟩ := p_howMany K hK h
  obtain rfl := DG_uniq hD e2
  have h' := h
  obtain ⟨n, a, rfl, hn, ha, hlt, hval, htop⟩ := h
  have hGB : GB = 1000000000 := rfl
  by_cases hc : 0 ≤ k ∧ k < D
  · rw [if_pos hc]
    obtain ⟨k, rfl⟩ : ∃ x : Nat, k = x := ⟨k.toNat, by omega⟩
    rw [Int.toNat_natCast]
    obtain ⟨q, r, hkq, hr9⟩ : ∃ q r, k = 9 * q + r ∧ r < 9 := ⟨k / 9, k % 9, by omega, by omega⟩
    have eq1 : (k : Int) / 9 = (q : Int) := by omega
    have eq2 : (k : Int) - (q : Int) * 9 = (r : Int) := by omega
    have key : ∀ t i, t + i = r → ∀ X : Nat, X < 1000000000 → ∀ m, t + 1 ≤ m → f_Great_digitAt K m 2 (J (k : Int), J 0, J (X : Int), J (i : Int)) = some (J ((X / 10 ^ t % 10 : Nat) : Int)) := by
      intro t
      induction t with
      | zero =>
        intro i hi X hX m hm
        obtain ⟨m, rfl⟩ : ∃ k, m = k + 1 := ⟨m - 1, by omega⟩
        have e5 : (X : Int) - (X : Int) / 10 * 10 = ((X % 10 : Nat) : Int) := by omega
        simp (disch := omega) only [f_Great_digitAt, eq1, eq2, e5, J_lit, J_add, J_sub, J_mul, J_neg, J_nat, J_inb, J_div, ↓reduceIte, Int.toNat_natCast, Option.bind_some, J_le_t, J_le_f, J_lt_t, J_lt_f, J_eq_t, J_eq_f, L_lit, L_add, L_sub, L_mul, L_div, JL, LJ, Int.reduceToNat, Int.toNat_zero, Int.toNat_one, xb, xm, within_t, within_f, nb_t, nb_f, ni_t, ni_f, in_t, in_f, less_, bad_0, bad_1, not_true_eq_false, not_false_eq_true, L_lt_t, L_lt_f, L_eq_t, L_eq_f, lg_gt, lg_eq, lg_lt]
        rw [Nat.pow_zero, Nat.div_one]
      | succ t ih =>
        intro i hi X hX m hm
        obtain ⟨m, rfl⟩ : ∃ k, m = k + 1 := ⟨m - 1, by omega⟩
        have e5 : (X : Int) / 10 = ((X / 10 : Nat) : Int) := by omega
        have := ih (i + 1) (by omega) (X / 10) (by omega) m (by omega)
        rw [Nat.pow_succ, Nat.mul_comm, ← Nat.div_div_eq_div_mul, ← this]
        simp (disch := omega) only [f_Great_digitAt, eq1, eq2, e5, cast1, J_lit, J_add, J_sub, J_mul, J_neg, J_nat, J_inb, J_div, ↓reduceIte, Int.toNat_natCast, Option.bind_some, J_le_t, J_le_f, J_lt_t, J_lt_f, J_eq_t, J_eq_f, L_lit, L_add, L_sub, L_mul, L_div, JL, LJ, Int.reduceToNat, Int.toNat_zero, Int.toNat_one, xb, xm, within_t, within_f, nb_t, nb_f, ni_t, ni_f, in_t, in_f, less_, bad_0, bad_1, not_true_eq_false, not_false_eq_true, L_lt_t, L_lt_f, L_eq_t, L_eq_f, lg_gt, lg_eq, lg_lt]
    by_cases hqn : q < n
    · have haq := ha q hqn
      have hlq := hlt q hqn
      have hfin : N / 10 ^ k % 10 = a q / 10 ^ r % 10 := by
        have h1 := val_dig (by decide) hlt q hqn
        rw [hval] at h1
        rw [← h1, show GB = 10 ^ 9 from rfl, dig_mod _ _ _ hr9, ← Nat.pow_mul, Nat.div_div_eq_div_mul, ← Nat.pow_add, ← hkq]
      rw [hfin]
      obtain ⟨K', hK'⟩ : ∃ k, K = k + 1 := ⟨K - 1, by omega⟩
      have k1 := key r 0 (by omega) (a q) (by omega) K' (by omega)
      have k2 : f_Great_digitAt K K 1 (J (k : Int), J (a q), J 0, J 0) = some (J ((a q / 10 ^ r % 10 : Nat) : Int)) := by
        rw [← k1]
        conv => lhs; rw [hK']
        simp (disch := omega) only [f_Great_digitAt, hK', Int.natCast_zero, J_lit, J_add, J_sub, J_mul, J_neg, J_nat, J_inb, J_div, ↓reduceIte, Int.toNat_natCast, Option.bind_some, J_le_t, J_le_f, J_lt_t, J_lt_f, J_eq_t, J_eq_f, L_lit, L_add, L_sub, L_mul, L_div, JL, LJ, Int.reduceToNat, Int.toNat_zero, Int.toNat_one, xb, xm, within_t, within_f, nb_t, nb_f, ni_t, ni_f, in_t, in_f, less_, bad_0, bad_1, not_true_eq_false, not_false_eq_true, L_lt_t, L_lt_f, L_eq_t, L_eq_f, lg_gt, lg_eq, lg_lt]
      simp (disch := omega) only [sp_Great_digitAt, e1, eq1, haq, k2, J_lit, J_add, J_sub, J_mul, J_neg, J_nat, J_inb, J_div, ↓reduceIte, Int.toNat_natCast, Option.bind_some, J_le_t, J_le_f, J_lt_t, J_lt_f, J_eq_t, J_eq_f, L_lit, L_add, L_sub, L_mul, L_div, JL, LJ, Int.reduceToNat, Int.toNat_zero, Int.toNat_one, xb, xm, within_t, within_f, nb_t, nb_f, ni_t, ni_f, in_t, in_f, less_, bad_0, bad_1, not_true_eq_false, not_false_eq_true, L_lt_t, L_lt_f, L_eq_t, L_eq_f, lg_gt, lg_eq, lg_lt]
    ·
      have hn0 : n = 0 := by
        by_cases h0 : n = 0
        · exact h0
        ·
          have : N < GB ^ n := by rw [← hval]; exact val_lt (by decide) hlt
          rw [show GB = 10 ^ 9 from rfl, ← Nat.pow_mul] at this
          rcases hD.2.2 with h2 | h2
          · omega
          · have h3 : 10 ^ (9 * n) ≤ 10 ^ (D - 1) := Nat.pow_le_pow_right (by omega) (by omega)
            omega
      subst hn0
      have hN : N = 0 := hval.symm
      subst hN
      rw [Nat.zero_div, Nat.zero_mod]
      obtain ⟨K', hK'⟩ : ∃ k, K = k + 2 := ⟨K - 2, by omega⟩
      have k1 := key r 0 (by omega) 0 (by omega) K' (by omega)
      rw [Nat.zero_div, Nat.zero_mod] at k1
      have k2 : f_Great_digitAt K K 0 (J (k : Int), J 0, J 0, J 0) = some (J ((0 : Nat) : Int)) := by
        rw [← k1]
        conv => lhs; rw [hK']
        simp (disch := omega) only [f_Great_digitAt, hK', Int.natCast_zero, J_lit, J_add, J_sub, J_mul, J_neg, J_nat, J_inb, J_div, ↓reduceIte, Int.toNat_natCast, Option.bind_some, J_le_t, J_le_f, J_lt_t, J_lt_f, J_eq_t, J_eq_f, L_lit, L_add, L_sub, L_mul, L_div, JL, LJ, Int.reduceToNat, Int.toNat_zero, Int.toNat_one, xb, xm, within_t, within_f, nb_t, nb_f, ni_t, ni_f, in_t, in_f, less_, bad_0, bad_1, not_true_eq_false, not_false_eq_true, L_lt_t, L_lt_f, L_eq_t, L_eq_f, lg_gt, lg_eq, lg_lt]
      simp (disch := omega) only [sp_Great_digitAt, e1, eq1, k2, J_lit, J_add, J_sub, J_mul, J_neg, J_nat, J_inb, J_div, ↓reduceIte, Int.toNat_natCast, Option.bind_some, J_le_t, J_le_f, J_lt_t, J_lt_f, J_eq_t, J_eq_f, L_lit, L_add, L_sub, L_mul, L_div, JL, LJ, Int.reduceToNat, Int.toNat_zero, Int.toNat_one, xb, xm, within_t, within_f, nb_t, nb_f, ni_t, ni_f, in_t, in_f, less_, bad_0, bad_1, not_true_eq_false, not_false_eq_true, L_lt_t, L_lt_f, L_eq_t, L_eq_f, lg_gt, lg_eq, lg_lt]
  · rw [if_neg hc]
    simp (disch := omega) only [sp_Great_digitAt, e1, J_lit, J_add, J_sub, J_mul, J_neg, J_nat, J_inb, J_div, ↓reduceIte, Int.toNat_natCast, Option.bind_some, J_le_t, J_le_f, J_lt_t, J_lt_f, J_eq_t, J_eq_f, L_lit, L_add, L_sub, L_mul, L_div, JL, LJ, Int.reduceToNat, Int.toNat_zero, Int.toNat_one, xb, xm, within_t, within_f, nb_t, nb_f, ni_t, ni_f, in_t, in_f, less_, bad_0, bad_1, not_true_eq_false, not_false_eq_true, L_lt_t, L_lt_f, L_eq_t, L_eq_f, lg_gt, lg_eq, lg_lt]
