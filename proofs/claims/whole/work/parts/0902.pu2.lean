def shf {α : Type} (A : Nat → α) (a i : Nat) : Nat → α := fun j => if a ≤ j ∧ j < a + i then A (j + 1) else A j
set_option maxHeartbeats 2000000 in
theorem shf_0 {α : Type} (A : Nat → α) (a : Nat) : shf A a 0 = A := by
  funext j; unfold shf; rw [if_neg (by omega)]
set_option maxHeartbeats 2000000 in
theorem shf_upd (A : Nat → Int32) (a i : Nat) : upd (shf A a i) (a + i) (shf A a i (a + i + 1)) = shf A a (i + 1) := by
  funext j
  unfold upd shf
  by_cases h : j = a + i
  · subst h
    rw [if_pos rfl, if_neg (by omega), if_pos (by omega)]
  · rw [if_neg h]
    by_cases h2 : a ≤ j ∧ j < a + i
    · rw [if_pos h2, if_pos (by omega)]
    · rw [if_neg h2, if_neg (by omega)]
set_option maxHeartbeats 2000000 in
theorem shf_upd' (A : Nat → Int32) (a i : Nat) {x : Int32} (hx : x = J ((a + i : Nat) : Int)) (ha : a + i < 100) : upd (shf A a i) (a + i) (shf A a i (a + i + 1)) = shf A a (i + 1) := shf_upd A a i
set_option maxHeartbeats 2000000 in
theorem p_takeBack (K : Nat) (hK : 1000 ≤ K) (a n : Nat) (ha : a < n) (hn : n ≤ 8) (c1 c2 c3 c4 : Nat → Int32) : sp_Finds_takeBack K (J a) c1 c2 c3 c4 (J n) = some (shf c1 a (n - 1 - a), shf c2 a (n - 1 - a), shf c3 a (n - 1 - a), shf c4 a (n - 1 - a), J (n - 1)) := by
  unfold sp_Finds_takeBack
  simp (disch := omega) only [J_lit, J_add, J_sub, J_mul, J_neg, J_nat, J_inb, J_div, ↓reduceIte, Int.toNat_natCast, Option.bind_some, J_le_t, J_le_f, J_lt_t, J_lt_f, J_eq_t, J_eq_f, L_lit, L_add, L_sub, L_mul, L_div, JL, LJ, Int.reduceToNat, Int.toNat_zero, Int.toNat_one, xb, xm, within_t, within_f, nb_t, nb_f, ni_t, ni_f, in_t, in_f, less_, bad_0, bad_1, not_true_eq_false, not_false_eq_true, L_lt_t, L_lt_f, L_eq_t, L_eq_f, lg_gt, lg_eq, lg_lt]
  obtain ⟨m, h1, h3⟩ := lpe (fun k s => f_Finds_takeBack K k 0 s) (fun i => (J (a + i : Nat), shf c1 a i, shf c2 a i, shf c3 a i, shf c4 a i, J n)) 1 (n - 1 - a) (by
    intro i hi m
    refine ⟨m, by omega, ?_⟩
    have e1 : ((a + i : Nat) : Int) + 1 = ((a + i + 1 : Nat) : Int) := by omega
    simp (disch := omega) only [f_Finds_takeBack, e1, shf_upd, J_lit, J_add, J_sub, J_mul, J_neg, J_nat, J_inb, J_div, ↓reduceIte, Int.toNat_natCast, Option.bind_some, J_le_t, J_le_f, J_lt_t, J_lt_f, J_eq_t, J_eq_f, L_lit, L_add, L_sub, L_mul, L_div, JL, LJ, Int.reduceToNat, Int.toNat_zero, Int.toNat_one, xb, xm, within_t, within_f, nb_t, nb_f, ni_t, ni_f, in_t, in_f, less_, bad_0, bad_1, not_true_eq_false, not_false_eq_true, L_lt_t, L_lt_f, L_eq_t, L_eq_f, lg_gt, lg_eq, lg_lt]
    rfl) K (by omega)
  simp only [shf_0, Nat.add_zero] at h3
  rw [h3]
  obtain ⟨m, rfl⟩ : ∃ k, m = k + 1 := ⟨m - 1, by omega⟩
  simp (disch := omega) only [f_Finds_takeBack, J_lit, J_add, J_sub, J_mul, J_neg, J_nat, J_inb, J_div, ↓reduceIte, Int.toNat_natCast, Option.bind_some, J_le_t, J_le_f, J_lt_t, J_lt_f, J_eq_t, J_eq_f, L_lit, L_add, L_sub, L_mul, L_div, JL, LJ, Int.reduceToNat, Int.toNat_zero, Int.toNat_one, xb, xm, within_t, within_f, nb_t, nb_f, ni_t, ni_f, in_t, in_f, less_, bad_0, bad_1, not_true_eq_false, not_false_eq_true, L_lt_t, L_lt_f, L_eq_t, L_eq_f, lg_gt, lg_eq, lg_lt]
def dropI (a n i : Nat) (F : Nat → Nat → Nat) (G : Nat → Nat → Int32) : Prop := ∀ r, r < n → ∀ c, c < 4 → G r c = J (if a ≤ r ∧ r < a + i then F (r + 1) c else F r c)
set_option maxHeartbeats 2000000 in
theorem p_M_drop (K : Nat) (hK : 1000 ≤ K) (a n : Nat) (ha : a < n) (hn : n ≤ 8) (thr : Int32) (ms : Nat → Nat → Int32) (F : Nat → Nat → Nat) (hF : ∀ i, i < n → ∀ c, c < 4 → ms i c = J (F i c)) : ∃ G, sp_M_drop K (J a) thr (J n) ms = some (J (n - 1), J 0, J (n - 1), G) ∧ dropI a n (n - 1 - a) F G := by
  have e := isFind_t K (a := a) (n := n) (by omega) (by omega)
  unfold sp_M_drop
  simp (disch := omega) only [e, J_lit, J_add, J_sub, J_mul, J_neg, J_nat, J_inb, J_div, ↓reduceIte, Int.toNat_natCast, Option.bind_some, J_le_t, J_le_f, J_lt_t, J_lt_f, J_eq_t, J_eq_f, L_lit, L_add, L_sub, L_mul, L_div, JL, LJ, Int.reduceToNat, Int.toNat_zero, Int.toNat_one, xb, xm, within_t, within_f, nb_t, nb_f, ni_t, ni_f, in_t, in_f, less_, bad_0, bad_1, not_true_eq_false, not_false_eq_true, L_lt_t, L_lt_f, L_eq_t, L_eq_f, lg_gt, lg_eq, lg_lt]
  obtain ⟨k, hk⟩ : ∃ k, K = k + 1 := ⟨K - 1, by omega⟩
  rw [show f_M_drop K K 0 (J a, J 0, J 0, J 0, J 0, J n, ms) = f_M_drop K k 1 (J 0, J 0, J a, J 0, J 0, J n, ms) from by
    rw [hk]
    simp (disch := omega) only [f_M_drop, J_lit, J_add, J_sub, J_mul, J_neg, J_nat, J_inb, J_div, ↓reduceIte, Int.toNat_natCast, Option.bind_some, J_le_t, J_le_f, J_lt_t, J_lt_f, J_eq_t, J_eq_f, L_lit, L_add, L_sub, L_mul, L_div, JL, LJ, Int.reduceToNat, Int.toNat_zero, Int.toNat_one, xb, xm, within_t, within_f, nb_t, nb_f, ni_t, ni_f, in_t, in_f, less_, bad_0, bad_1, not_true_eq_false, not_false_eq_true, L_lt_t, L_lt_f, L_eq_t, L_eq_f, lg_gt, lg_eq, lg_lt]]
  obtain ⟨m, s, h1, ⟨G, rfl, hG⟩, h3⟩ := lp (fun j s => f_M_drop K j 1 s) (fun i s => ∃ G, s = (J 0, J 0, J (a + i : Nat), J 0, J 0, J n, G) ∧ dropI a n i F G) 6 (n - 1 - a) (by
    rintro i hi s ⟨G, rfl, hG⟩ m
    have e1 : ((a + i : Nat) : Int) + 1 = ((a + i + 1 : Nat) : Int) := by omega
    refine ⟨m, _, by omega, ⟨_, rfl, ?_⟩, by simp (disch := omega) only [f_M_drop, e1, J_lit, J_add, J_sub, J_mul, J_neg, J_nat, J_inb, J_div, ↓reduceIte, Int.toNat_natCast, Option.bind_some, J_le_t, J_le_f, J_lt_t, J_lt_f, J_eq_t, J_eq_f, L_lit, L_add, L_sub, L_mul, L_div, JL, LJ, Int.reduceToNat, Int.toNat_zero, Int.toNat_one, xb, xm, within_t, within_f, nb_t, nb_f, ni_t, ni_f, in_t, in_f, less_, bad_0, bad_1, not_true_eq_false, not_false_eq_true, L_lt_t, L_lt_f, L_eq_t, L_eq_f, lg_gt, lg_eq, lg_lt]; rfl⟩
    intro r hr c hc
    have hG1 := hG r hr c hc
    have hG2 := hG (a + i + 1) (by omega) c hc
    rw [if_neg (by omega)] at hG2
    by_cases hri : r = a + i
    · subst hri
      rw [if_pos (by omega)]
      rcases (show c = 0 ∨ c = 1 ∨ c = 2 ∨ c = 3 by omega) with rfl | rfl | rfl | rfl <;> simp [va_up, upd, hG2]
    · simp only [show (a ≤ r ∧ r < a + (i + 1)) ↔ (a ≤ r ∧ r < a + i) from ⟨fun h => ⟨h.1, by omega⟩, fun h => ⟨h.1, by omega⟩⟩]
      refine Eq.trans ?_ hG1
      simp [va_up, hri]) (J 0, J 0, J a, J 0, J 0, J n, ms) ⟨ms, rfl, fun r hr c hc => by rw [if_neg (by omega)]; exact hF r hr c hc⟩ k (by omega)
  refine ⟨G, ?_, hG⟩
  rw [h3]
  obtain ⟨m, rfl⟩ : ∃ k, m = k + 1 := ⟨m - 1, by omega⟩
  simp (disch := omega) only [f_M_drop, J_lit, J_add, J_sub, J_mul, J_neg, J_nat, J_inb, J_div, ↓reduceIte, Int.toNat_natCast, Option.bind_some, J_le_t, J_le_f, J_lt_t, J_lt_f, J_eq_t, J_eq_f, L_lit, L_add, L_sub, L_mul, L_div, JL, LJ, Int.reduceToNat, Int.toNat_zero, Int.toNat_one, xb, xm, within_t, within_f, nb_t, nb_f, ni_t, ni_f, in_t, in_f, less_, bad_0, bad_1, not_true_eq_false, not_false_eq_true, L_lt_t, L_lt_f, L_eq_t, L_eq_f, lg_gt, lg_eq, lg_lt]
set_option maxHeartbeats 2000000 in
theorem pc_drop (K : Nat) (hK : 1000 ≤ K) (p1 thr : Int32) {c1 c2 c3 c4 : Nat → Int32} {cn : Int32} {ms : Nat → Nat → Int32} {mn : Int32} {n : Nat} {F : Nat → Nat → Nat} (R : RFinds c1 c2 c3 c4 cn ms mn n F) (o : Nat → Int64) : ∃ oc om, sp_W_drop K p1 c1 c2 c3 c4 cn o = some oc ∧ sp_M_drop K p1 thr mn ms = some om ∧ AA oc.1 oc.2.2.2.2.2.2 om.1 om.2.1 ∧ ∃ n' F', RFinds oc.2.1 oc.2.2.1 oc.2.2.2.1 oc.2.2.2.2.1 oc.2.2.2.2.2.1 om.2.2.2 om.2.2.1 n' F' := by
  have R' := R
  obtain ⟨hn, rfl, rfl, hv, h1, h2, h3, h4, g⟩ := R
  obtain ⟨a, rfl, ha⟩ := ex_J p1
  by_cases h : 0 ≤ a ∧ a < n
  · obtain ⟨a, rfl⟩ : ∃ x : Nat, a = x := ⟨a.toNat, by omega⟩
    have e1 := p_takeBack K hK a n (by omega) hn c1 c2 c3 c4
    obtain ⟨G, e2, e3⟩ := p_M_drop K hK a n (by omega) hn thr ms F g
    refine ⟨_, _, by simp (disch := omega) only [sp_W_drop, sp_drop, e1, J_lit, J_add, J_sub, J_mul, J_neg, J_nat, J_inb, J_div, ↓reduceIte, Int.toNat_natCast, Option.bind_some, J_le_t, J_le_f, J_lt_t, J_lt_f, J_eq_t, J_eq_f, L_lit, L_add, L_sub, L_mul, L_div, JL, LJ, Int.reduceToNat, Int.toNat_zero, Int.toNat_one, xb, xm, within_t, within_f, nb_t, nb_f, ni_t, ni_f, in_t, in_f, less_, bad_0, bad_1, not_true_eq_false, not_false_eq_true, L_lt_t, L_lt_f, L_eq_t, L_eq_f, lg_gt, lg_eq, lg_lt]; rfl, e2, (by first | exact AA_0 _ _ | exact AA_L _ (by omega)), ?_⟩
    refine ⟨n - 1, fun r c => if a ≤ r ∧ r < a + (n - 1 - a) then F (r + 1) c else F r c, by omega, J_cong (by omega), J_cong (by omega), ?_⟩
    refine ⟨fun i hi => ?_, fun i hi => ?_, fun i hi => ?_, fun i hi => ?_, fun i hi => ?_, fun i hi c hc => ?_⟩
    · by_cases hc : a ≤ i ∧ i < a + (n - 1 - a)
      · simp only [if_pos hc]; exact hv (i + 1) (by omega)
      · simp only [if_neg hc]; exact hv i (by omega)
    rotate_right
    · have := e3 i (by omega) c hc
      by_cases hc : a ≤ i ∧ i < a + (n - 1 - a)
      · simp only [if_pos hc] at this ⊢; exact this
      · simp only [if_neg hc] at this ⊢; exact this
    all_goals
      by_cases hc : a ≤ i ∧ i < a + (n - 1 - a)
      · simp only [shf, if_pos hc, h1 (i + 1) (by omega), h2 (i + 1) (by omega), h3 (i + 1) (by omega), h4 (i + 1) (by omega)]
      · simp only [shf, if_neg hc, h1 i (by omega), h2 i (by omega), h3 i (by omega), h4 i (by omega)]
  · have e := isFind_f K ha h (by omega)
    obtain ⟨k, rfl⟩ : ∃ k, K = k + 1 := ⟨K - 1, by omega⟩
    refine ⟨_, _, by simp (disch := omega) only [sp_W_drop, sp_drop, J_lit, J_add, J_sub, J_mul, J_neg, J_nat, J_inb, J_div, ↓reduceIte, Int.toNat_natCast, Option.bind_some, J_le_t, J_le_f, J_lt_t, J_lt_f, J_eq_t, J_eq_f, L_lit, L_add, L_sub, L_mul, L_div, JL, LJ, Int.reduceToNat, Int.toNat_zero, Int.toNat_one, xb, xm, within_t, within_f, nb_t, nb_f, ni_t, ni_f, in_t, in_f, less_, bad_0, bad_1, not_true_eq_false, not_false_eq_true, L_lt_t, L_lt_f, L_eq_t, L_eq_f, lg_gt, lg_eq, lg_lt]; simp; rfl, by simp (disch := omega) only [sp_M_drop, f_M_drop, e, J_lit, J_add, J_sub, J_mul, J_neg, J_nat, J_inb, J_div, ↓reduceIte, Int.toNat_natCast, Option.bind_some, J_le_t, J_le_f, J_lt_t, J_lt_f, J_eq_t, J_eq_f, L_lit, L_add, L_sub, L_mul, L_div, JL, LJ, Int.reduceToNat, Int.toNat_zero, Int.toNat_one, xb, xm, within_t, within_f, nb_t, nb_f, ni_t, ni_f, in_t, in_f, less_, bad_0, bad_1, not_true_eq_false, not_false_eq_true, L_lt_t, L_lt_f, L_eq_t, L_eq_f, lg_gt, lg_eq, lg_lt]; rfl, (by exact AA_e _ _ (by omega)), ⟨_, _, R'⟩⟩
def cpy (A B : Nat → Int32) (n : Nat) : Nat → Int32 := fun j => if j < n then B j else A j
set_option maxHeartbeats 2000000 in
theorem cpy_0 (A B : Nat → Int32) : cpy A B 0 = A := by
  funext j; unfold cpy; rw [if_neg (by omega)]
set_option maxHeartbeats 2000000 in
theorem cpy_upd (A B : Nat → Int32) (n : Nat) : upd (cpy A B n) n (B n) = cpy A B (n + 1) := by
  funext j
  unfold upd cpy
  by_cases h : j = n
  · subst h; rw [if_pos rfl, if_pos (by omega)]
  · rw [if_neg h]
    by_cases h2 : j < n
    · rw [if_pos h2, if_pos (by omega)]
    · rw [if_neg h2, if_neg (by omega)]
set_option maxHeartbeats 2000000 in
theorem cast1 (i : Nat) : (i : Int) + 1 = ((i + 1 : Nat) : Int) := by omega
set_option maxHeartbeats 2000000 in
theorem p_Seats_copy (K : Nat) (hK : 1000 ≤ K) (A B : Nat → Int32) (an : Int32) (n : Nat) (hn : n ≤ 40) : sp_Seats_copy K A an B (J n) = some (cpy A B n, J n) := by
  obtain ⟨m, h1, h3⟩ := lpe (fun k s => f_Seats_copy K B (J n) k 0 s) (fun i => (J i, cpy A B i, J i)) 1 n (by
    intro i hi m
    refine ⟨m, by omega, ?_⟩
    simp (disch := omega) only [f_Seats_copy, sp_Seats_add, cpy_upd, cast1, J_lit, J_add, J_sub, J_mul, J_neg, J_nat, J_inb, J_div, ↓reduceIte, Int.toNat_natCast, Option.bind_some, J_le_t, J_le_f, J_lt_t, J_lt_f, J_eq_t, J_eq_f, L_lit, L_add, L_sub, L_mul, L_div, JL, LJ, Int.reduceToNat, Int.toNat_zero, Int.toNat_one, xb, xm, within_t, within_f, nb_t, nb_f, ni_t, ni_f, in_t, in_f, less_, bad_0, bad_1, not_true_eq_false, not_false_eq_true, L_lt_t, L_lt_f, L_eq_t, L_eq_f, lg_gt, lg_eq, lg_lt]) K (by omega)
  simp only [cpy_0] at h3
  refine h3.trans ?_
  simp (disch := omega) only [f_Seats_copy, J_lit, J_add, J_sub, J_mul, J_neg, J_nat, J_inb, J_div, ↓reduceIte, Int.toNat_natCast, Option.bind_some, J_le_t, J_le_f, J_lt_t, J_lt_f, J_eq_t, J_eq_f, L_lit, L_add, L_sub, L_mul, L_div, JL, LJ, Int.reduceToNat, Int.toNat_zero, Int.toNat_one, xb, xm, within_t, within_f, nb_t, nb_f, ni_t, ni_f, in_t, in_f, less_, bad_0, bad_1, not_true_eq_false, not_false_eq_true, L_lt_t, L_lt_f, L_eq_t, L_eq_f, lg_gt, lg_eq, lg_lt]
set_option maxHeartbeats 2000000 in
theorem p_Finds_copy (K : Nat) (hK : 1000 ≤ K) (A1 A2 A3 A4 B1 B2 B3 B4 : Nat → Int32) (an : Int32) (n : Nat) (hn : n ≤ 8) : sp_Finds_copy K A1 A2 A3 A4 an B1 B2 B3 B4 (J n) = some (cpy A1 B1 n, cpy A2 B2 n, cpy A3 B3 n, cpy A4 B4 n, J n) := by
  obtain ⟨m, h1, h3⟩ := lpe (fun k s => f_Finds_copy K B1 B2 B3 B4 (J n) k 0 s) (fun i => (J i, cpy A1 B1 i, cpy A2 B2 i, cpy A3 B3 i, cpy A4 B4 i, J i)) 1 n (by
    intro i hi m
    refine ⟨m, by omega, ?_⟩
    simp (disch := omega) only [f_Finds_copy, sp_Finds_add, cpy_upd, cast1, J_lit, J_add, J_sub, J_mul, J_neg, J_nat, J_inb, J_div, ↓reduceIte, Int.toNat_natCast, Option.bind_some, J_le_t, J_le_f, J_lt_t, J_lt_f, J_eq_t, J_eq_f, L_lit, L_add, L_sub, L_mul, L_div, JL, LJ, Int.reduceToNat, Int.toNat_zero, Int.toNat_one, xb, xm, within_t, within_f, nb_t, nb_f, ni_t, ni_f, in_t, in_f, less_, bad_0, bad_1, not_true_eq_false, not_false_eq_true, L_lt_t, L_lt_f, L_eq_t, L_eq_f, lg_gt, lg_eq, lg_lt]) K (by omega)
  simp only [cpy_0] at h3
  refine h3.trans ?_
  simp (disch := omega) only [f_Finds_copy, J_lit, J_add, J_sub, J_mul, J_neg, J_nat, J_inb, J_div, ↓reduceIte, Int.toNat_natCast, Option.bind_some, J_le_t, J_le_f, J_lt_t, J_lt_f, J_eq_t, J_eq_f, L_lit, L_add, L_sub, L_mul, L_div, JL, LJ, Int.reduceToNat, Int.toNat_zero, Int.toNat_one, xb, xm, within_t, within_f, nb_t, nb_f, ni_t, ni_f, in_t, in_f, less_, bad_0, bad_1, not_true_eq_false, not_false_eq_true, L_lt_t, L_lt_f, L_eq_t, L_eq_f, lg_gt, lg_eq, lg_lt]
set_option maxHeartbeats 2000000 in
theorem p_Shops_copy (K : Nat) (hK : 1000 ≤ K) (A1 A2 A3 B1 B2 B3 : Nat → Int32) (an : Int32) (n : Nat) (hn : n ≤ 12) : sp_Shops_copy K A1 A2 A3 an B1 B2 B3 (J n) = some (cpy A1 B1 n, cpy A2 B2 n, cpy A3 B3 n, J n) := by
  obtain ⟨m, h1, h3⟩ := lpe (fun k s => f_Shops_copy K B1 B2 B3 (J n) k 0 s) (fun i => (J i, cpy A1 B1 i, cpy A2 B2 i, cpy A3 B3 i, J i)) 1 n (by
    intro i hi m
    refine ⟨m, by omega, ?_⟩
    simp (disch := omega) only [f_Shops_copy, sp_Shops_add, cpy_upd, cast1, J_lit, J_add, J_sub, J_mul, J_neg, J_nat, J_inb, J_div, ↓reduceIte, Int.toNat_natCast, Option.bind_some, J_le_t, J_le_f, J_lt_t, J_lt_f, J_eq_t, J_eq_f, L_lit, L_add, L_sub, L_mul, L_div, JL, LJ, Int.reduceToNat, Int.toNat_zero, Int.toNat_one, xb, xm, within_t, within_f, nb_t, nb_f, ni_t, ni_f, in_t, in_f, less_, bad_0, bad_1, not_true_eq_false, not_false_eq_true, L_lt_t, L_lt_f, L_eq_t, L_eq_f, lg_gt, lg_eq, lg_lt]) K (by omega)
  simp only [cpy_0] at h3
  refine h3.trans ?_
  simp (disch := omega) only [f_Shops_copy, J_lit, J_add, J_sub, J_mul, J_neg, J_nat, J_inb, J_div, ↓reduceIte, Int.toNat_natCast, Option.bind_some, J_le_t, J_le_f, J_lt_t, J_lt_f, J_eq_t, J_eq_f, L_lit, L_add, L_sub, L_mul, L_div, JL, LJ, Int.reduceToNat, Int.toNat_zero, Int.toNat_one, xb, xm, within_t, within_f, nb_t, nb_f, ni_t, ni_f, in_t, in_f, less_, bad_0, bad_1, not_true_eq_false, not_false_eq_true, L_lt_t, L_lt_f, L_eq_t, L_eq_f, lg_gt, lg_eq, lg_lt]
def REv (c1 c2 c3 c4 : Nat → Int32) (cn : Int32) (s1 : Nat → Int32) (sn : Int32) (h1 h2 h3 : Nat → Int32) (hn : Int32) (mf : Nat → Nat → Int32) (mfn : Int32) (ms : Nat → Int32) (msn : Int32) (mh : Nat → Nat → Int32) (mhn : Int32) : Prop := (∃ n F, RFinds c1 c2 c3 c4 cn mf mfn n F) ∧ RSeats s1 sn ms msn ∧ RShops h1 h2 h3 hn mh mhn
set_option maxHeartbeats 2000000 in
theorem p_Evidence_copy (K : Nat) (hK : 1000 ≤ K) {b1 b2 b3 b4 : Nat → Int32} {bn : Int32} {t1 : Nat → Int32} {tn : Int32} {u1 u2 u3 : Nat → Int32} {un : Int32} {c1 c2 c3 c4 : Nat → Int32} {cn : Int32} {s1 : Nat → Int32} {sn : Int32} {h1 h2 h3 : Nat → Int32} {hn : Int32} {mf : Nat → Nat → Int32} {mfn : Int32} {ms : Nat → Int32} {msn : Int32} {mh : Nat → Nat → Int32} {mhn : Int32} (R : REv c1 c2 c3 c4 cn s1 sn h1 h2 h3 hn mf mfn ms msn mh mhn) : ∃ o, sp_Evidence_copy K b1 b2 b3 b4 bn t1 tn u1 u2 u3 un c1 c2 c3 c4 cn s1 sn h1 h2 h3 hn = some o ∧ REv o.1 o.2.1 o.2.2.1 o.2.2.2.1 o.2.2.2.2.1 o.2.2.2.2.2.1 o.2.2.2.2.2.2.1 o.2.2.2.2.2.2.2.1 o.2.2.2.2.2.2.2.2.1 o.2.2.2.2.2.2.2.2.2.1 o.2.2.2.2.2.2.2.2.2.2 mf mfn ms msn mh mhn := by
  obtain ⟨⟨n, F, hn, rfl, rfl, hv, f1, f2, f3, f4, g⟩, ⟨n2, v, hn2, rfl, rfl, hv2, k1, k2⟩, ⟨n3, S, D, A, hn3, rfl, rfl, hv3, q1, q2, q3, g1, g2, g3⟩⟩ := R
  refine ⟨_, by
    unfold sp_Evidence_copy
    rw [p_Finds_copy K hK _ _ _ _ _ _ _ _ _ n hn, Option.bind_some, p_Seats_copy K hK _ _ _ n2 hn2, Option.bind_some, p_Shops_copy K hK _ _ _ _ _ _ _ n3 hn3, Option.bind_some], ?_⟩
  refine ⟨⟨n, F, hn, rfl, rfl, hv, fun i hi => ?_, fun i hi => ?_, fun i hi => ?_, fun i hi => ?_, g⟩, ⟨n2, v, hn2, rfl, rfl, hv2, fun i hi => ?_, k2⟩, ⟨n3, S, D, A, hn3, rfl, rfl, hv3, fun i hi => ?_, fun i hi => ?_, fun i hi => ?_, g1, g2, g3⟩⟩
  all_goals simp only [cpy, if_pos hi]
  · exact f1 i hi
  · exact f2 i hi
  · exact f3 i hi
  · exact f4 i hi
  · exact k1 i hi
  · exact q1 i hi
  · exact q2 i hi
  · exact q3 i hi
set_option maxHeartbeats 2000000 in
theorem REv_congr {c1 c2 c3 c4 : Nat → Int32} {cn : Int32} {s1 : Nat → Int32} {sn : Int32} {h1 h2 h3 : Nat → Int32} {hn : Int32} {mf mf' : Nat → Nat → Int32} {mfn mfn' : Int32} {ms ms' : Nat → Int32} {msn msn' : Int32} {mh mh' : Nat → Nat → Int32} {mhn mhn' : Int32} (R : REv c1 c2 c3 c4 cn s1 sn h1 h2 h3 hn mf mfn ms msn mh mhn) (e1 : ∀ i, i < 8 → ∀ c, c < 4 → mf' i c = mf i c) (e2 : mfn' = mfn) (e3 : ∀ i, i < 40 → ms' i = ms i) (e4 : msn' = msn) (e5 : ∀ i, i < 12 → ∀ c, c < 3 → mh' i c = mh i c) (e6 : mhn' = mhn) : REv c1 c2 c3 c4 cn s1 sn h1 h2 h3 hn mf' mfn' ms' msn' mh' mhn' := by
  subst e2 e4 e6
  obtain ⟨⟨n, F, hn, rfl, rfl, hv, f1, f2, f3, f4, g⟩, ⟨n2, v, hn2, rfl, rfl, hv2, k1, k2⟩, ⟨n3, S, D, A, hn3, rfl, rfl, hv3, q1, q2, q3, g1, g2, g3⟩⟩ := R
  refine ⟨⟨n, F, hn, rfl, rfl, hv, f1, f2, f3, f4, fun i hi c hc => ?_⟩, ⟨n2, v, hn2, rfl, rfl, hv2, k1, fun i hi => ?_⟩, ⟨n3, S, D, A, hn3, rfl, rfl, hv3, q1, q2, q3, fun i hi => ?_, fun i hi => ?_, fun i hi => ?_⟩⟩
  · rw [e1 i (by omega) c hc]; exact g i hi c hc
  · rw [e3 i (by omega)]; exact k2 i hi
  · rw [e5 i (by omega) 0 (by omega)]; exact g1 i hi
  · rw [e5 i (by omega) 1 (by omega)]; exact g2 i hi
  · rw [e5 i (by omega) 2 (by omega)]; exact g3 i hi
set_option maxHeartbeats 2000000 in
theorem p_M_image (K : Nat) (hK : 1000 ≤ K) (thr nf ns nh : Int32) (m : Nat) (hm : m < 3) (mf : Nat → Nat → Int32) (ms : Nat → Int32) (mh kf ks kh km : Nat → Nat → Int32) : ∃ KF KS KH KM, sp_M_image K thr nf ns nh (J m) mf ms mh kf ks kh km = some (J (m + 1), J 0, J (m + 1), KF, KS, KH, KM) ∧ (∀ r c, c < 4 → KF r c = if 8 * m ≤ r ∧ r < 8 * m + 8 then mf (r - 8 * m) c else kf r c) ∧ (∀ r c, c < 40 → KS r c = if r = m then ms c else ks r c) ∧ (∀ r c, c < 3 → KH r c = if 12 * m ≤ r ∧ r < 12 * m + 12 then mh (r - 12 * m) c else kh r c) ∧ (∀ r c, c < 3 → KM r c = if r = m then (if c = 0 then nf else if c = 1 then ns else nh) else km r c) := by
  unfold sp_M_image
  rw [if_neg (by simp (disch := omega) only [J_lit, J_add, J_sub, J_mul, J_neg, J_nat, J_inb, J_div, ↓reduceIte, Int.toNat_natCast, Option.bind_some, J_le_t, J_le_f, J_lt_t, J_lt_f, J_eq_t, J_eq_f, L_lit, L_add, L_sub, L_mul, L_div, JL, LJ, Int.reduceToNat, Int.toNat_zero, Int.toNat_one, xb, xm, within_t, within_f, nb_t, nb_f, ni_t, ni_f, in_t, in_f, less_, bad_0, bad_1, not_true_eq_false, not_false_eq_true, L_lt_t, L_lt_f, L_eq_t, L_eq_f, lg_gt, lg_eq, lg_lt])]
  obtain ⟨n1, s, a1, ⟨KF, rfl, hF⟩, a3⟩ := lp (fun k s => f_M_image K nf ns nh mf ms mh k 0 s) (fun i s => ∃ G, s = (J i, J 0, J 0, J m, G, ks, kh, km) ∧ ∀ r c, c < 4 → G r c = if 8 * m ≤ r ∧ r < 8 * m + i then mf (r - 8 * m) c else kf r c) 6 8 (by
    rintro i hi s ⟨G, rfl, hG⟩ n
    have e1 : 8 * (m : Int) + (i : Int) = ((8 * m + i : Nat) : Int) := by omega
    refine ⟨n, _, by omega, ⟨_, rfl, ?_⟩, by simp (disch := omega) only [f_M_image, e1, cast1, J_lit, J_add, J_sub, J_mul, J_neg, J_nat, J_inb, J_div, ↓reduceIte, Int.toNat_natCast, Option.bind_some, J_le_t, J_le_f, J_lt_t, J_lt_f, J_eq_t, J_eq_f, L_lit, L_add, L_sub, L_mul, L_div, JL, LJ, Int.reduceToNat, Int.toNat_zero, Int.toNat_one, xb, xm, within_t, within_f, nb_t, nb_f, ni_t, ni_f, in_t, in_f, less_, bad_0, bad_1, not_true_eq_false, not_false_eq_true, L_lt_t, L_lt_f, L_eq_t, L_eq_f, lg_gt, lg_eq, lg_lt]; rfl⟩
    intro r c hc
    have hG1 := hG r c hc
    by_cases hri : r = 8 * m + i
    · subst hri
      rw [if_pos (by omega)]
      rcases (show c = 0 ∨ c = 1 ∨ c = 2 ∨ c = 3 by omega) with rfl | rfl | rfl | rfl <;> simp [va_up, upd]
    · simp only [show (8 * m ≤ r ∧ r < 8 * m + (i + 1)) ↔ (8 * m ≤ r ∧ r < 8 * m + i) from ⟨fun h => ⟨h.1, by omega⟩, fun h => ⟨h.1, by omega⟩⟩]
      refine Eq.trans ?_ hG1
      simp [va_up, hri]) (J 0, J 0, J 0, J m, kf, ks, kh, km) ⟨kf, rfl, fun r c hc => by rw [if_neg (by omega)]⟩ K (by omega)
  obtain ⟨n1, rfl⟩ : ∃ k, n1 = k + 1 := ⟨n1 - 1, by omega⟩
  have b0 : f_M_image K nf ns nh mf ms mh (n1 + 1) 0 (J (8 : Nat), J 0, J 0, J m, KF, ks, kh, km) = f_M_image K nf ns nh mf ms mh n1 2 (J 0, J 0, J 0, J m, KF, ks, kh, km) := by
    simp (disch := omega) only [f_M_image, J_lit, J_add, J_sub, J_mul, J_neg, J_nat, J_inb, J_div, ↓reduceIte, Int.toNat_natCast, Option.bind_some, J_le_t, J_le_f, J_lt_t, J_lt_f, J_eq_t, J_eq_f, L_lit, L_add, L_sub, L_mul, L_div, JL, LJ, Int.reduceToNat, Int.toNat_zero, Int.toNat_one, xb, xm, within_t, within_f, nb_t, nb_f, ni_t, ni_f, in_t, in_f, less_, bad_0, bad_1, not_true_eq_false, not_false_eq_true, L_lt_t, L_lt_f, L_eq_t, L_eq_f, lg_gt, lg_eq, lg_lt]
  obtain ⟨n2, s, c1, ⟨KS, rfl, hS⟩, c3⟩ := lp (fun k s => f_M_image K nf ns nh mf ms mh k 2 s) (fun i s => ∃ G, s = (J i, J 0, J 0, J m, KF, G, kh, km) ∧ ∀ r c, c < 40 → G r c = if r = m ∧ c < i then ms c else ks r c) 1 40 (by
    rintro i hi s ⟨G, rfl, hG⟩ n
    refine ⟨n, _, by omega, ⟨_, rfl, ?_⟩, by simp (disch := omega) only [f_M_image, cast1, J_lit, J_add, J_sub, J_mul, J_neg, J_nat, J_inb, J_div, ↓reduceIte, Int.toNat_natCast, Option.bind_some, J_le_t, J_le_f, J_lt_t, J_lt_f, J_eq_t, J_eq_f, L_lit, L_add, L_sub, L_mul, L_div, JL, LJ, Int.reduceToNat, Int.toNat_zero, Int.toNat_one, xb, xm, within_t, within_f, nb_t, nb_f, ni_t, ni_f, in_t, in_f, less_, bad_0, bad_1, not_true_eq_false, not_false_eq_true, L_lt_t, L_lt_f, L_eq_t, L_eq_f, lg_gt, lg_eq, lg_lt]; rfl⟩
    intro r c hc
    have hG1 := hG r c hc
    by_cases hri : r = m
    · subst hri
      by_cases hci : c = i
      · subst hci; simp [va_up, upd]
      · simp only [true_and, eq_self] at hG1 ⊢
        simp only [show (c < i + 1) ↔ (c < i) from ⟨fun h => by omega, fun h => by omega⟩]
        refine Eq.trans ?_ hG1
        simp [va_up, upd, hci]
    · rw [if_neg (by omega)] at hG1 ⊢
      refine Eq.trans ?_ hG1
      simp [va_up, hri]) (J 0, J 0, J 0, J m, KF, ks, kh, km) ⟨ks, rfl, fun r c hc => by rw [if_neg (by omega)]⟩ n1 (by omega)
  obtain ⟨n2, rfl⟩ : ∃ k, n2 = k + 1 := ⟨n2 - 1, by omega⟩
  have b1 : f_M_image K nf ns nh mf ms mh (n2 + 1) 2 (J (40 : Nat), J 0, J 0, J m, KF, KS, kh, km) = f_M_image K nf ns nh mf ms mh n2 3 (J 0, J 0, J 0, J m, KF, KS, kh, km) := by
    simp (disch := omega) only [f_M_image, J_lit, J_add, J_sub, J_mul, J_neg, J_nat, J_inb, J_div, ↓reduceIte, Int.toNat_natCast, Option.bind_some, J_le_t, J_le_f, J_lt_t, J_lt_f, J_eq_t, J_eq_f, L_lit, L_add, L_sub, L_mul, L_div, JL, LJ, Int.reduceToNat, Int.toNat_zero, Int.toNat_one, xb, xm, within_t, within_f, nb_t, nb_f, ni_t, ni_f, in_t, in_f, less_, bad_0, bad_1, not_true_eq_false, not_false_eq_true, L_lt_t, L_lt_f, L_eq_t, L_eq_f, lg_gt, lg_eq, lg_lt]
  obtain ⟨n3, s, d1, ⟨KH, rfl, hH⟩, d3⟩ := lp (fun k s => f_M_image K nf ns nh mf ms mh k 3 s) (fun i s => ∃ G, s = (J i, J 0, J 0, J m, KF, KS, G, km) ∧ ∀ r c, c < 3 → G r c = if 12 * m ≤ r ∧ r < 12 * m + i then mh (r - 12 * m) c else kh r c) 5 12 (by
    rintro i hi s ⟨G, rfl, hG⟩ n
    have e1 : 12 * (m : Int) + (i : Int) = ((12 * m + i : Nat) : Int) := by omega
    refine ⟨n, _, by omega, ⟨_, rfl, ?_⟩, by simp (disch := omega) only [f_M_image, e1, cast1, J_lit, J_add, J_sub, J_mul, J_neg, J_nat, J_inb, J_div, ↓reduceIte, Int.toNat_natCast, Option.bind_some, J_le_t, J_le_f, J_lt_t, J_lt_f, J_eq_t, J_eq_f, L_lit, L_add, L_sub, L_mul, L_div, JL, LJ, Int.reduceToNat, Int.toNat_zero, Int.toNat_one, xb, xm, within_t, within_f, nb_t, nb_f, ni_t, ni_f, in_t, in_f, less_, bad_0, bad_1, not_true_eq_false, not_false_eq_true, L_lt_t, L_lt_f, L_eq_t, L_eq_f, lg_gt, lg_eq, lg_lt]; rfl⟩
    intro r c hc
    have hG1 := hG r c hc
    by_cases hri : r = 12 * m + i
    · subst hri
      rw [if_pos (by omega)]
      rcases (show c = 0 ∨ c = 1 ∨ c = 2 by omega) with rfl | rfl | rfl <;> simp [va_up, upd]
    · simp only [show (12 * m ≤ r ∧ r < 12 * m + (i + 1)) ↔ (12 * m ≤ r ∧ r < 12 * m + i) from ⟨fun h => ⟨h.1, by omega⟩, fun h => ⟨h.1, by omega⟩⟩]
      refine Eq.trans ?_ hG1
      simp [va_up, hri]) (J 0, J 0, J 0, J m, KF, KS, kh, km) ⟨kh, rfl, fun r c hc => by rw [if_neg (by omega)]⟩ n2 (by omega)
  obtain ⟨n3, rfl⟩ : ∃ k, n3 = k + 1 := ⟨n3 - 1, by omega⟩
  have fin : ∃ KM, f_M_image K nf ns nh mf ms mh (n3 + 1) 3 (J (12 : Nat), J 0, J 0, J m, KF, KS, KH, km) = some (J (m + 1), J 0, J (m + 1), KF, KS, KH, KM) ∧ (∀ r c, c < 3 → KM r c = if r = m then (if c = 0 then nf else if c = 1 then ns else nh) else km r c) := by
    refine ⟨_, by simp (disch := omega) only [f_M_image, J_lit, J_add, J_sub, J_mul, J_neg, J_nat, J_inb, J_div, ↓reduceIte, Int.toNat_natCast, Option.bind_some, J_le_t, J_le_f, J_lt_t, J_lt_f, J_eq_t, J_eq_f, L_lit, L_add, L_sub, L_mul, L_div, JL, LJ, Int.reduceToNat, Int.toNat_zero, Int.toNat_one, xb, xm, within_t, within_f, nb_t, nb_f, ni_t, ni_f, in_t, in_f, less_, bad_0, bad_1, not_true_eq_false, not_false_eq_true, L_lt_t, L_lt_f, L_eq_t, L_eq_f, lg_gt, lg_eq, lg_lt]; rfl, fun r c hc => ?_⟩
    by_cases hr : r = m
    · subst hr
      rcases (show c = 0 ∨ c = 1 ∨ c = 2 by omega) with rfl | rfl | rfl <;> simp [va_up, upd]
    · simp [va_up, hr]
  obtain ⟨KM, e1, e2⟩ := fin
  refine ⟨KF, KS, KH, KM, a3.trans (b0.trans (c3.trans (b1.trans (d3.trans e1)))), hF, fun r c hc => ?_, hH, e2⟩
  have := hS r c hc
  simp only [show (r = m ∧ c < 40) ↔ r = m from ⟨fun h => h.1, fun h => ⟨h, hc⟩⟩] at this
  exact this
set_option maxHeartbeats 2000000 in
theorem p_M_restore (K : Nat) (hK : 1000 ≤ K) (thr nf ns nh : Int32) (m : Nat) (hm : m < 3) (mf : Nat → Nat → Int32) (ms : Nat → Int32) (mh kf ks kh km : Nat → Nat → Int32) : ∃ KF KS KH, sp_M_restore K thr nf ns nh (J (m + 1)) mf ms mh kf ks kh km = some (J m, J 0, km m 0, km m 1, km m 2, J m, KF, KS, KH) ∧ (∀ r c, r < 8 → c < 4 → KF r c = kf (8 * m + r) c) ∧ (∀ c, c < 40 → KS c = ks m c) ∧ (∀ r c, r < 12 → c < 3 → KH r c = kh (12 * m + r) c) := by
  unfold sp_M_restore
  rw [if_neg (by simp (disch := omega) only [J_lit, J_add, J_sub, J_mul, J_neg, J_nat, J_inb, J_div, ↓reduceIte, Int.toNat_natCast, Option.bind_some, J_le_t, J_le_f, J_lt_t, J_lt_f, J_eq_t, J_eq_f, L_lit, L_add, L_sub, L_mul, L_div, JL, LJ, Int.reduceToNat, Int.toNat_zero, Int.toNat_one, xb, xm, within_t, within_f, nb_t, nb_f, ni_t, ni_f, in_t, in_f, less_, bad_0, bad_1, not_true_eq_false, not_false_eq_true, L_lt_t, L_lt_f, L_eq_t, L_eq_f, lg_gt, lg_eq, lg_lt]), show J ((m : Int) + 1) - 1 = J m from by simp (disch := omega) only [J_lit, J_add, J_sub, J_mul, J_neg, J_nat, J_inb, J_div, ↓reduceIte, Int.toNat_natCast, Option.bind_some, J_le_t, J_le_f, J_lt_t, J_lt_f, J_eq_t, J_eq_f, L_lit, L_add, L_sub, L_mul, L_div, JL, LJ, Int.reduceToNat, Int.toNat_zero, Int.toNat_one, xb, xm, within_t, within_f, nb_t, nb_f, ni_t, ni_f, in_t, in_f, less_, bad_0, bad_1, not_true_eq_false, not_false_eq_true, L_lt_t, L_lt_f, L_eq_t, L_eq_f, lg_gt, lg_eq, lg_lt]; try exact J_cong (by omega)]
  obtain ⟨n1, s, a1, ⟨KF, rfl, hF⟩, a3⟩ := lp (fun k s => f_M_restore K kf ks kh km k 0 s) (fun i s => ∃ G, s = (J i, J 0, J 0, nf, ns, nh, J m, G, ms, mh) ∧ ∀ r c, r < i → c < 4 → G r c = kf (8 * m + r) c) 6 8 (by
    rintro i hi s ⟨G, rfl, hG⟩ n
    have e1 : 8 * (m : Int) + (i : Int) = ((8 * m + i : Nat) : Int) := by omega
    refine ⟨n, _, by omega, ⟨_, rfl, ?_⟩, by simp (disch := omega) only [f_M_restore, e1, cast1, J_lit, J_add, J_sub, J_mul, J_neg, J_nat, J_inb, J_div, ↓reduceIte, Int.toNat_natCast, Option.bind_some, J_le_t, J_le_f, J_lt_t, J_lt_f, J_eq_t, J_eq_f, L_lit, L_add, L_sub, L_mul, L_div, JL, LJ, Int.reduceToNat, Int.toNat_zero, Int.toNat_one, xb, xm, within_t, within_f, nb_t, nb_f, ni_t, ni_f, in_t, in_f, less_, bad_0, bad_1, not_true_eq_false, not_false_eq_true, L_lt_t, L_lt_f, L_eq_t, L_eq_f, lg_gt, lg_eq, lg_lt]; rfl⟩
    intro r c hr hc
    by_cases hri : r = i
    · subst hri
      rcases (show c = 0 ∨ c = 1 ∨ c = 2 ∨ c = 3 by omega) with rfl | rfl | rfl | rfl <;> simp [va_up, upd]
    · refine Eq.trans ?_ (hG r c (by omega) hc)
      simp [va_up, hri]) (J 0, J 0, J 0, nf, ns, nh, J m, mf, ms, mh) ⟨mf, rfl, fun r c hr hc => by omega⟩ K (by omega)
  obtain ⟨n1, rfl⟩ : ∃ k, n1 = k + 1 := ⟨n1 - 1, by omega⟩
  have b0 : f_M_restore K kf ks kh km (n1 + 1) 0 (J (8 : Nat), J 0, J 0, nf, ns, nh, J m, KF, ms, mh) = f_M_restore K kf ks kh km n1 2 (J 0, J 0, J 0, nf, ns, nh, J m, KF, ms, mh) := by
    simp (disch := omega) only [f_M_restore, J_lit, J_add, J_sub, J_mul, J_neg, J_nat, J_inb, J_div, ↓reduceIte, Int.toNat_natCast, Option.bind_some, J_le_t, J_le_f, J_lt_t, J_lt_f, J_eq_t, J_eq_f, L_lit, L_add, L_sub, L_mul, L_div, JL, LJ, Int.reduceToNat, Int.toNat_zero, Int.toNat_one, xb, xm, within_t, within_f, nb_t, nb_f, ni_t, ni_f, in_t, in_f, less_, bad_0, bad_1, not_true_eq_false, not_false_eq_true, L_lt_t, L_lt_f, L_eq_t, L_eq_f, lg_gt, lg_eq, lg_lt]
  obtain ⟨n2, s, c1, ⟨KS, rfl, hS⟩, c3⟩ := lp (fun k s => f_M_restore K kf ks kh km k 2 s) (fun i s => ∃ G, s = (J i, J 0, J 0, nf, ns, nh, J m, KF, G, mh) ∧ ∀ c, c < i → G c = ks m c) 1 40 (by
    rintro i hi s ⟨G, rfl, hG⟩ n
    refine ⟨n, _, by omega, ⟨_, rfl, ?_⟩, by simp (disch := omega) only [f_M_restore, cast1, J_lit, J_add, J_sub, J_mul, J_neg, J_nat, J_inb, J_div, ↓reduceIte, Int.toNat_natCast, Option.bind_some, J_le_t, J_le_f, J_lt_t, J_lt_f, J_eq_t, J_eq_f, L_lit, L_add, L_sub, L_mul, L_div, JL, LJ, Int.reduceToNat, Int.toNat_zero, Int.toNat_one, xb, xm, within_t, within_f, nb_t, nb_f, ni_t, ni_f, in_t, in_f, less_, bad_0, bad_1, not_true_eq_false, not_false_eq_true, L_lt_t, L_lt_f, L_eq_t, L_eq_f, lg_gt, lg_eq, lg_lt]; rfl⟩
    intro c hc
    by_cases hci : c = i
    · subst hci; simp [upd]
    · refine Eq.trans ?_ (hG c (by omega))
      simp [upd, hci]) (J 0, J 0, J 0, nf, ns, nh, J m, KF, ms, mh) ⟨ms, rfl, fun c hc => by omega⟩ n1 (by omega)
  obtain ⟨n2, rfl⟩ : ∃ k, n2 = k + 1 := ⟨n2 - 1, by omega⟩
  have b1 : f_M_restore K kf ks kh km (n2 + 1) 2 (J (40 : Nat), J 0, J 0, nf, ns, nh, J m, KF, KS, mh) = f_M_restore K kf ks kh km n2 3 (J 0, J 0, J 0, nf, ns, nh, J m, KF, KS, mh) := by
    simp (disch := omega) only [f_M_restore, J_lit, J_add, J_sub, J_mul, J_neg, J_nat, J_inb, J_div, ↓reduceIte, Int.toNat_natCast, Option.bind_some, J_le_t, J_le_f, J_lt_t, J_lt_f, J_eq_t, J_eq_f, L_lit, L_add, L_sub, L_mul, L_div, JL, LJ, Int.reduceToNat, Int.toNat_zero, Int.toNat_one, xb, xm, within_t, within_f, nb_t, nb_f, ni_t, ni_f, in_t, in_f, less_, bad_0, bad_1, not_true_eq_false, not_false_eq_true, L_lt_t, L_lt_f, L_eq_t, L_eq_f, lg_gt, lg_eq, lg_lt]
  obtain ⟨n3, s, d1, ⟨KH, rfl, hH⟩, d3⟩ := lp (fun k s => f_M_restore K kf ks kh km k 3 s) (fun i s => ∃ G, s = (J i, J 0, J 0, nf, ns, nh, J m, KF, KS, G) ∧ ∀ r c, r < i → c < 3 → G r c = kh (12 * m + r) c) 5 12 (by
    rintro i hi s ⟨G, rfl, hG⟩ n
    have e1 : 12 * (m : Int) + (i : Int) = ((12 * m + i : Nat) : Int) := by omega
    refine ⟨n, _, by omega, ⟨_, rfl, ?_⟩, by simp (disch := omega) only [f_M_restore, e1, cast1, J_lit, J_add, J_sub, J_mul, J_neg, J_nat, J_inb, J_div, ↓reduceIte, Int.toNat_natCast, Option.bind_some, J_le_t, J_le_f, J_lt_t, J_lt_f, J_eq_t, J_eq_f, L_lit, L_add, L_sub, L_mul, L_div, JL, LJ, Int.reduceToNat, Int.toNat_zero, Int.toNat_one, xb, xm, within_t, within_f, nb_t, nb_f, ni_t, ni_f, in_t, in_f, less_, bad_0, bad_1, not_true_eq_false, not_false_eq_true, L_lt_t, L_lt_f, L_eq_t, L_eq_f, lg_gt, lg_eq, lg_lt]; rfl⟩
    intro r c hr hc
    by_cases hri : r = i
    · subst hri
      rcases (show c = 0 ∨ c = 1 ∨ c = 2 by omega) with rfl | rfl | rfl <;> simp [va_up, upd]
    · refine Eq.trans ?_ (hG r c (by omega) hc)
      simp [va_up, hri]) (J 0, J 0, J 0, nf, ns, nh, J m, KF, KS, mh) ⟨mh, rfl, fun r c hr hc => by omega⟩ n2 (by omega)
  obtain ⟨n3, rfl⟩ : ∃ k, n3 = k + 1 := ⟨n3 - 1, by omega⟩
  refine ⟨KF, KS, KH, ?_, hF, hS, hH⟩
  refine a3.trans (b0.trans (c3.trans (b1.trans (d3.trans ?_))))
  simp (disch := omega) only [f_M_restore, J_lit, J_add, J_sub, J_mul, J_neg, J_nat, J_inb, J_div, ↓reduceIte, Int.toNat_natCast, Option.bind_some, J_le_t, J_le_f, J_lt_t, J_lt_f, J_eq_t, J_eq_f, L_lit, L_add, L_sub, L_mul, L_div, JL, LJ, Int.reduceToNat, Int.toNat_zero, Int.toNat_one, xb, xm, within_t, within_f, nb_t, nb_f, ni_t, ni_f, in_t, in_f, less_, bad_0, bad_1, not_true_eq_false, not_false_eq_true, L_lt_t, L_lt_f, L_eq_t, L_eq_f, lg_gt, lg_eq, lg_lt]
def RImgs (m : Nat) (I1 I2 I3 I4 : Nat → Nat → Int32) (In : Nat → Int32) (S1 : Nat → Nat → Int32) (Sn : Nat → Int32) (H1 H2 H3 : Nat → Nat → Int32) (Hn : Nat → Int32) (kf ks kh km : Nat → Nat → Int32) : Prop := ∀ j, j < m → REv (I1 j) (I2 j) (I3 j) (I4 j) (In j) (S1 j) (Sn j) (H1 j) (H2 j) (H3 j) (Hn j) (fun i c => kf (8 * j + i) c) (km j 0) (ks j) (km j 1) (fun i c => kh (12 * j + i) c) (km j 2)
set_option maxHeartbeats 2000000 in
theorem pu_up_self {α : Type} (f : Nat → α) (k : Nat) : va_up f k (f k) = f := by
  funext j; unfold va_up; split
  · next h => rw [h]
  · rfl
set_option maxHeartbeats 2000000 in
theorem va_up_eq {α : Type} (f : Nat → α) (k : Nat) (v : α) : va_up f k v k = v := by
  unfold va_up; rw [if_pos rfl]
set_option maxHeartbeats 2000000 in
theorem pu_up_ne {α : Type} (f : Nat → α) {k j : Nat} (v : α) (h : j ≠ k) : va_up f k v j = f j := by
  unfold va_up; rw [if_neg h]
set_option maxHeartbeats 2000000 in
theorem pc_image (K : Nat) (hK : 1000 ≤ K) (thr : Int32) (m : Nat) (hm : m ≤ 3) (images : Nat → Option Nat) (qi j : Nat) (hj : m < 3 → images m = some qi ∧ j = m) {c1 c2 c3 c4 : Nat → Int32} {cn : Int32} {s1 : Nat → Int32} {sn : Int32} {h1 h2 h3 : Nat → Int32} {hn : Int32} {mf : Nat → Nat → Int32} {mfn : Int32} {ms : Nat → Int32} {msn : Int32} {mh : Nat → Nat → Int32} {mhn : Int32} (R : REv c1 c2 c3 c4 cn s1 sn h1 h2 h3 hn mf mfn ms msn mh mhn) {I1 I2 I3 I4 : Nat → Nat → Int32} {In : Nat → Int32} {S1 : Nat → Nat → Int32} {Sn : Nat → Int32} {H1 H2 H3 : Nat → Nat → Int32} {Hn : Nat → Int32} {kf ks kh km : Nat → Nat → Int32} (RI : RImgs m I1 I2 I3 I4 In S1 Sn H1 H2 H3 Hn kf ks kh km) : ∃ oc om, sp_image K images qi (J m) c1 c2 c3 c4 cn s1 sn h1 h2 h3 hn (I1 j) (I2 j) (I3 j) (I4 j) (In j) (S1 j) (Sn j) (H1 j) (H2 j) (H3 j) (Hn j) = some oc ∧ sp_M_image K thr mfn msn mhn (J m) mf ms mh kf ks kh km = some om ∧ oc.1 = om.1 ∧ ∃ m' : Nat, m' ≤ 3 ∧ oc.2.1 = J m' ∧ om.2.2.1 = J m' ∧ RImgs m' (va_up I1 j oc.2.2.1) (va_up I2 j oc.2.2.2.1) (va_up I3 j oc.2.2.2.2.1) (va_up I4 j oc.2.2.2.2.2.1) (va_up In j oc.2.2.2.2.2.2.1) (va_up S1 j oc.2.2.2.2.2.2.2.1) (va_up Sn j oc.2.2.2.2.2.2.2.2.1) (va_up H1 j oc.2.2.2.2.2.2.2.2.2.1) (va_up H2 j oc.2.2.2.2.2.2.2.2.2.2.1) (va_up H3 j oc.2.2.2.2.2.2.2.2.2.2.2.1) (va_up Hn j oc.2.2.2.2.2.2.2.2.2.2.2.2) om.2.2.2.1 om.2.2.2.2.1 om.2.2.2.2.2.1 om.2.2.2.2.2.2 := by
  by_cases h3' : m < 3
  · obtain ⟨hj1, rfl⟩ := hj h3'
    obtain ⟨o, e1, e2⟩ := p_Evidence_copy K hK (b1 := I1 j) (b2 := I2 j) (b3 := I3 j) (b4 := I4 j) (bn := In j) (t1 := S1 j) (tn := Sn j) (u1 := H1 j) (u2 := H2 j) (u3 := H3 j) (un := Hn j) R
    obtain ⟨KF, KS, KH, KM, f1, f2, f3, f4, f5⟩ := p_M_image K hK thr mfn msn mhn j h3' mf ms mh kf ks kh km
    refine ⟨_, _, by simp (disch := omega) only [sp_image, hj1, e1, J_lit, J_add, J_sub, J_mul, J_neg, J_nat, J_inb, J_div, ↓reduceIte, Int.toNat_natCast, Option.bind_some, J_le_t, J_le_f, J_lt_t, J_lt_f, J_eq_t, J_eq_f, L_lit, L_add, L_sub, L_mul, L_div, JL, LJ, Int.reduceToNat, Int.toNat_zero, Int.toNat_one, xb, xm, within_t, within_f, nb_t, nb_f, ni_t, ni_f, in_t, in_f, less_, bad_0, bad_1, not_true_eq_false, not_false_eq_true, L_lt_t, L_lt_f, L_eq_t, L_eq_f, lg_gt, lg_eq, lg_lt]; rfl, f1, rfl, j + 1, by omega, rfl, rfl, fun i hi => ?_⟩
    by_cases hij : i = j
    · subst hij
      simp only [va_up_eq]
      refine REv_congr e2 (fun a ha c hc => ?_) ?_ (fun a ha => ?_) ?_ (fun a ha c hc => ?_) ?_
      · show KF (8 * i + a) c = mf a c
        rw [f2 _ _ hc, if_pos (by omega), show 8 * i + a - 8 * i = a by omega]
      · show KM i 0 = mfn
        rw [f5 _ _ (by omega)]; simp
      · show KS i a = ms a
        rw [f3 _ _ ha, if_pos rfl]
      · show KM i 1 = msn
        rw [f5 _ _ (by omega)]; simp
      · show KH (12 * i + a) c = mh a c
        rw [f4 _ _ hc, if_pos (by omega), show 12 * i + a - 12 * i = a by omega]
      · show KM i 2 = mhn
        rw [f5 _ _ (by omega)]; simp
    · simp only [pu_up_ne _ _ hij]
      refine REv_congr (RI i (by omega)) (fun a ha c hc => ?_) ?_ (fun a ha => ?_) ?_ (fun a ha c hc => ?_) ?_
      · show KF (8 * i + a) c = _
        rw [f2 _ _ hc, if_neg (by omega)]
      · show KM i 0 = _
        rw [f5 _ _ (by omega), if_neg hij]
      · show KS i a = _
        rw [f3 _ _ ha, if_neg hij]
      · show KM i 1 = _
        rw [f5 _ _ (by omega), if_neg hij]
      · show KH (12 * i + a) c = _
        rw [f4 _ _ hc, if_neg (by omega)]
      · show KM i 2 = _
        rw [f5 _ _ (by omega), if_neg hij]
  · obtain rfl : m = 3 := by omega
    refine ⟨_, _, by simp (disch := omega) only [sp_image, J_lit, J_add, J_sub, J_mul, J_neg, J_nat, J_inb, J_div, ↓reduceIte, Int.toNat_natCast, Option.bind_some, J_le_t, J_le_f, J_lt_t, J_lt_f, J_eq_t, J_eq_f, L_lit, L_add, L_sub, L_mul, L_div, JL, LJ, Int.reduceToNat, Int.toNat_zero, Int.toNat_one, xb, xm, within_t, within_f, nb_t, nb_f, ni_t, ni_f, in_t, in_f, less_, bad_0, bad_1, not_true_eq_false, not_false_eq_true, L_lt_t, L_lt_f, L_eq_t, L_eq_f, lg_gt, lg_eq, lg_lt]; rfl, by simp (disch := omega) only [sp_M_image, J_lit, J_add, J_sub, J_mul, J_neg, J_nat, J_inb, J_div, ↓reduceIte, Int.toNat_natCast, Option.bind_some, J_le_t, J_le_f, J_lt_t, J_lt_f, J_eq_t, J_eq_f, L_lit, L_add, L_sub, L_mul, L_div, JL, LJ, Int.reduceToNat, Int.toNat_zero, Int.toNat_one, xb, xm, within_t, within_f, nb_t, nb_f, ni_t, ni_f, in_t, in_f, less_, bad_0, bad_1, not_true_eq_false, not_false_eq_true, L_lt_t, L_lt_f, L_eq_t, L_eq_f, lg_gt, lg_eq, lg_lt]; rfl, rfl, 3, by omega, rfl, rfl, ?_⟩
    simp only [pu_up_self]
    exact RI
set_option maxHeartbeats 2000000 in
theorem pc_restore (K : Nat) (hK : 1000 ≤ K) (thr : Int32) (m : Nat) (hm : m ≤ 3) (images : Nat → Option Nat) (qi j : Nat) (hj : 0 < m → images (m - 1) = some qi ∧ j = m - 1) {c1 c2 c3 c4 : Nat → Int32} {cn : Int32} {s1 : Nat → Int32} {sn : Int32} {h1 h2 h3 : Nat → Int32} {hn : Int32} {mf : Nat → Nat → Int32} {mfn : Int32} {ms : Nat → Int32} {msn : Int32} {mh : Nat → Nat → Int32} {mhn : Int32} (R : REv c1 c2 c3 c4 cn s1 sn h1 h2 h3 hn mf mfn ms msn mh mhn) {I1 I2 I3 I4 : Nat → Nat → Int32} {In : Nat → Int32} {S1 : Nat → Nat → Int32} {Sn : Nat → Int32} {H1 H2 H3 : Nat → Nat → Int32} {Hn : Nat → Int32} {kf ks kh km : Nat → Nat → Int32} (RI : RImgs m I1 I2 I3 I4 In S1 Sn H1 H2 H3 Hn kf ks kh km) : ∃ oc om, sp_restore K images qi (J m) c1 c2 c3 c4 cn s1 sn h1 h2 h3 hn (I1 j) (I2 j) (I3 j) (I4 j) (In j) (S1 j) (Sn j) (H1 j) (H2 j) (H3 j) (Hn j) = some oc ∧ sp_M_restore K thr mfn msn mhn (J m) mf ms mh kf ks kh km = some om ∧ oc.1 = om.1 ∧ ∃ m' : Nat, m' ≤ m ∧ oc.2.1 = J m' ∧ om.2.2.2.2.2.1 = J m' ∧ REv oc.2.2.1 oc.2.2.2.1 oc.2.2.2.2.1 oc.2.2.2.2.2.1 oc.2.2.2.2.2.2.1 oc.2.2.2.2.2.2.2.1 oc.2.2.2.2.2.2.2.2.1 oc.2.2.2.2.2.2.2.2.2.1 oc.2.2.2.2.2.2.2.2.2.2.1 oc.2.2.2.2.2.2.2.2.2.2.2.1 oc.2.2.2.2.2.2.2.2.2.2.2.2 om.2.2.2.2.2.2.1 om.2.2.1 om.2.2.2.2.2.2.2.1 om.2.2.2.1 om.2.2.2.2.2.2.2.2 om.2.2.2.2.1 := by
  by_cases h0 : 0 < m
  · obtain ⟨hj1, rfl⟩ := hj h0
    obtain ⟨k, rfl⟩ : ∃ k, m = k + 1 := ⟨m - 1, by omega⟩
    simp only [Nat.add_sub_cancel] at hj1 ⊢
    have hk := RI k (by omega)
    obtain ⟨o, e1, e2⟩ := p_Evidence_copy K hK (b1 := c1) (b2 := c2) (b3 := c3) (b4 := c4) (bn := cn) (t1 := s1) (tn := sn) (u1 := h1) (u2 := h2) (u3 := h3) (un := hn) hk
    obtain ⟨KF, KS, KH, f1, f2, f3, f4⟩ := p_M_restore K hK thr mfn msn mhn k (by omega) mf ms mh kf ks kh km
    have ek : ((k + 1 : Nat) : Int) - 1 = (k : Int) := by omega
    refine ⟨_, _, by simp (disch := omega) only [sp_restore, ek, hj1, e1, J_lit, J_add, J_sub, J_mul, J_neg, J_nat, J_inb, J_div, ↓reduceIte, Int.toNat_natCast, Option.bind_some, J_le_t, J_le_f, J_lt_t, J_lt_f, J_eq_t, J_eq_f, L_lit, L_add, L_sub, L_mul, L_div, JL, LJ, Int.reduceToNat, Int.toNat_zero, Int.toNat_one, xb, xm, within_t, within_f, nb_t, nb_f, ni_t, ni_f, in_t, in_f, less_, bad_0, bad_1, not_true_eq_false, not_false_eq_true, L_lt_t, L_lt_f, L_eq_t, L_eq_f, lg_gt, lg_eq, lg_lt]; rfl, f1, rfl, k, by omega, rfl, rfl, ?_⟩
    refine REv_congr e2 (fun a ha c hc => ?_) rfl (fun a ha => ?_) rfl (fun a ha c hc => ?_) rfl
    · exact f2 a c ha hc
    · exact f3 a ha
    · exact f4 a c ha hc
  · obtain rfl : m = 0 := by omega
    refine ⟨_, _, by simp (disch := omega) only [sp_restore, J_lit, J_add, J_sub, J_mul, J_neg, J_nat, J_inb, J_div, ↓reduceIte, Int.toNat_natCast, Option.bind_some, J_le_t, J_le_f, J_lt_t, J_lt_f, J_eq_t, J_eq_f, L_lit, L_add, L_sub, L_mul, L_div, JL, LJ, Int.reduceToNat, Int.toNat_zero, Int.toNat_one, xb, xm, within_t, within_f, nb_t, nb_f, ni_t, ni_f, in_t, in_f, less_, bad_0, bad_1, not_true_eq_false, not_false_eq_true, L_lt_t, L_lt_f, L_eq_t, L_eq_f, lg_gt, lg_eq, lg_lt]; rfl, by simp (disch := omega) only [sp_M_restore, J_lit, J_add, J_sub, J_mul, J_neg, J_nat, J_inb, J_div, ↓reduceIte, Int.toNat_natCast, Option.bind_some, J_le_t, J_le_f, J_lt_t, J_lt_f, J_eq_t, J_eq_f, L_lit, L_add, L_sub, L_mul, L_div, JL, LJ, Int.reduceToNat, Int.toNat_zero, Int.toNat_one, xb, xm, within_t, within_f, nb_t, nb_f, ni_t, ni_f, in_t, in_f, less_, bad_0, bad_1, not_true_eq_false, not_false_eq_true, L_lt_t, L_lt_f, L_eq_t, L_eq_f, lg_gt, lg_eq, lg_lt]; rfl, rfl, 0, by omega, rfl, rfl, R⟩
