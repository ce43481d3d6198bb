set_option maxHeartbeats 2000000 in
theorem w_at : sp_M_word 3 1 20 0 0 0 0 = some (J (kc 12)) := by decide +kernel
set_option maxHeartbeats 2000000 in
theorem wordIs_any (K : Nat) (hK : 2000 ≤ K) {cb mb : Nat → Int32} {N : Nat} {B : Nat → Nat} (h : TX cb mb N B) {a s : Nat} (ha : a ≤ 500) (hs : s ≤ 500) {i : Nat} (hi : i < 13) : ∃ x, sp_Tape_wordIs K cb (J N) (J a) (J s) i = some x := by
  have eL := p_length K hi
  have h6 := (KB_rng ⟨i, hi⟩).1
  have hr := (KB_rng ⟨i, hi⟩).2
  simp only at h6 hr
  have key : ∀ (r k : Nat), k + r = KL i → ∀ m, r + 1 ≤ m → ∃ x, f_Tape_wordIs K cb (J N) (J s) i m 0 (J k) = some x := by
    intro r
    induction r with
    | zero =>
      intro k hk m hm
      obtain ⟨m, rfl⟩ : ∃ z, m = z + 1 := ⟨m - 1, by omega⟩
      exact ⟨J 1, by
        clear h hr
        simp (disch := omega) only [f_Tape_wordIs, hi, eL, J_lit, J_add, J_sub, J_mul, J_neg, J_nat, J_inb, J_div, ↓reduceIte, Int.toNat_natCast, Option.bind_some, J_le_t, J_le_f, J_lt_t, J_lt_f, J_eq_t, J_eq_f, L_lit, L_add, L_sub, L_mul, L_div, JL, LJ, Int.reduceToNat, Int.toNat_zero, Int.toNat_one, xb, xm, within_t, within_f, nb_t, nb_f, ni_t, ni_f, in_t, in_f, less_, bad_0, bad_1, not_true_eq_false, not_false_eq_true, L_lt_t, L_lt_f, L_eq_t, L_eq_f, lg_gt, lg_eq, lg_lt]⟩
    | succ r ih =>
      intro k hk m hm
      obtain ⟨m, rfl⟩ : ∃ z, m = z + 1 := ⟨m - 1, by omega⟩
      have e1 := bt_c K h (i := s + k) (by omega)
      have e2 := p_charAt K hi (k := k) (by omega)
      have e3 : (s : Int) + (k : Int) = ((s + k : Nat) : Int) := by omega
      have b1 := bt_rng h (s + k)
      have hk7 := hr ⟨k, by omega⟩ (by simp only; omega)
      simp only at hk7
      obtain ⟨x, hx⟩ := ih (k + 1) (by omega) m (by omega)
      by_cases hc : bt B N (s + k) = (KB i k : Int)
      · refine ⟨x, ?_⟩
        rw [← hx]
        clear ih h hr hx
        simp (disch := omega) only [f_Tape_wordIs, hi, eL, e3, e1, e2, hc, cast1, J_lit, J_add, J_sub, J_mul, J_neg, J_nat, J_inb, J_div, ↓reduceIte, Int.toNat_natCast, Option.bind_some, J_le_t, J_le_f, J_lt_t, J_lt_f, J_eq_t, J_eq_f, L_lit, L_add, L_sub, L_mul, L_div, JL, LJ, Int.reduceToNat, Int.toNat_zero, Int.toNat_one, xb, xm, within_t, within_f, nb_t, nb_f, ni_t, ni_f, in_t, in_f, less_, bad_0, bad_1, not_true_eq_false, not_false_eq_true, L_lt_t, L_lt_f, L_eq_t, L_eq_f, lg_gt, lg_eq, lg_lt]
      · refine ⟨J 0, ?_⟩
        clear ih h hr hx
        simp (disch := omega) only [f_Tape_wordIs, hi, eL, e3, e1, e2, cast1, J_lit, J_add, J_sub, J_mul, J_neg, J_nat, J_inb, J_div, ↓reduceIte, Int.toNat_natCast, Option.bind_some, J_le_t, J_le_f, J_lt_t, J_lt_f, J_eq_t, J_eq_f, L_lit, L_add, L_sub, L_mul, L_div, JL, LJ, Int.reduceToNat, Int.toNat_zero, Int.toNat_one, xb, xm, within_t, within_f, nb_t, nb_f, ni_t, ni_f, in_t, in_f, less_, bad_0, bad_1, not_true_eq_false, not_false_eq_true, L_lt_t, L_lt_f, L_eq_t, L_eq_f, lg_gt, lg_eq, lg_lt]
  have hN := h.1
  by_cases hl : (a : Int) - (s : Int) = ((KL i : Nat) : Int)
  · obtain ⟨x, hx⟩ := key (KL i) 0 (by omega) K (by omega)
    refine ⟨x, ?_⟩
    rw [← hx]
    clear key h hr hx
    simp (disch := omega) only [sp_Tape_wordIs, hi, eL, hl, J_lit, J_add, J_sub, J_mul, J_neg, J_nat, J_inb, J_div, ↓reduceIte, Int.toNat_natCast, Option.bind_some, J_le_t, J_le_f, J_lt_t, J_lt_f, J_eq_t, J_eq_f, L_lit, L_add, L_sub, L_mul, L_div, JL, LJ, Int.reduceToNat, Int.toNat_zero, Int.toNat_one, xb, xm, within_t, within_f, nb_t, nb_f, ni_t, ni_f, in_t, in_f, less_, bad_0, bad_1, not_true_eq_false, not_false_eq_true, L_lt_t, L_lt_f, L_eq_t, L_eq_f, lg_gt, lg_eq, lg_lt]
    rfl
  · refine ⟨J 0, ?_⟩
    clear key h hr
    simp (disch := omega) only [sp_Tape_wordIs, hi, eL, J_lit, J_add, J_sub, J_mul, J_neg, J_nat, J_inb, J_div, ↓reduceIte, Int.toNat_natCast, Option.bind_some, J_le_t, J_le_f, J_lt_t, J_lt_f, J_eq_t, J_eq_f, L_lit, L_add, L_sub, L_mul, L_div, JL, LJ, Int.reduceToNat, Int.toNat_zero, Int.toNat_one, xb, xm, within_t, within_f, nb_t, nb_f, ni_t, ni_f, in_t, in_f, less_, bad_0, bad_1, not_true_eq_false, not_false_eq_true, L_lt_t, L_lt_f, L_eq_t, L_eq_f, lg_gt, lg_eq, lg_lt]
set_option maxHeartbeats 2000000 in
theorem expect_f (K : Nat) (hK : 2000 ≤ K) {cb mb : Nat → Int32} {N : Nat} {B : Nat → Nat} (h : TX cb mb N B) {a s : Nat} (ha : a ≤ 500) (hs : s ≤ 500) {k : Nat} (hk : 1 ≤ k ∧ k ≤ 3) (fp : Int32) : sp_Tape_expectWord K cb (J N) (J a) (J s) (J k) fp 12 = some (J a, J s, J k, fp) := by
  obtain ⟨x, hx⟩ := wordIs_any K hK h ha hs (i := 12) (by omega)
  clear h
  by_cases hx0 : x = J 0
  · subst hx0
    simp (disch := omega) only [sp_Tape_expectWord, sp_Tape_readWord, sp_Tape_failed, hx, sp_Tape_fail, J_lit, J_add, J_sub, J_mul, J_neg, J_nat, J_inb, J_div, ↓reduceIte, Int.toNat_natCast, Option.bind_some, J_le_t, J_le_f, J_lt_t, J_lt_f, J_eq_t, J_eq_f, L_lit, L_add, L_sub, L_mul, L_div, JL, LJ, Int.reduceToNat, Int.toNat_zero, Int.toNat_one, xb, xm, within_t, within_f, nb_t, nb_f, ni_t, ni_f, in_t, in_f, less_, bad_0, bad_1, not_true_eq_false, not_false_eq_true, L_lt_t, L_lt_f, L_eq_t, L_eq_f, lg_gt, lg_eq, lg_lt]
  · have : (x = (0 : Int32)) = False := by
      rw [show (0 : Int32) = J 0 from rfl]; exact eq_false hx0
    have hr : sp_Tape_readWord K cb (J N) (J a) (J s) (J k) = some (J a, J s) := by
      simp (disch := omega) only [sp_Tape_readWord, sp_Tape_failed, J_lit, J_add, J_sub, J_mul, J_neg, J_nat, J_inb, J_div, ↓reduceIte, Int.toNat_natCast, Option.bind_some, J_le_t, J_le_f, J_lt_t, J_lt_f, J_eq_t, J_eq_f, L_lit, L_add, L_sub, L_mul, L_div, JL, LJ, Int.reduceToNat, Int.toNat_zero, Int.toNat_one, xb, xm, within_t, within_f, nb_t, nb_f, ni_t, ni_f, in_t, in_f, less_, bad_0, bad_1, not_true_eq_false, not_false_eq_true, L_lt_t, L_lt_f, L_eq_t, L_eq_f, lg_gt, lg_eq, lg_lt]
    simp only [sp_Tape_expectWord, hr, Option.bind_some, hx, this, if_false]
set_option maxHeartbeats 2000000 in
theorem tail_f_c (K : Nat) (hK : 2000 ≤ K) {cb mb : Nat → Int32} {N : Nat} {B : Nat → Nat} (h : TX cb mb N B) {a s : Nat} (ha : a ≤ 400) (hs : s ≤ 400) {k : Nat} (hk : 1 ≤ k ∧ k ≤ 3) (p : Int32) {n : Nat} (hn : n ≤ 20) (x2 x3 x4 : Int32) (k1 k2 k3 k4 : Nat → Int32) (m : Nat) : ∃ st', f_Story_readEvent K cb (J N) (m + 2) 2 (x2, J 0, J 0, x3, x4, J 0, k1, k2, k3, k4, J n, J a, J s, J k, p) = some (k1, k2, k3, k4, J n, J a, st', J k, p) := by
  have e1 := expect_f K hK h (a := a) (s := s) (by omega) (by omega) hk p
  have e2 := p_readNumber_f K (J 0) (J 99) cb (J N) (J a) (J s) hk p
  have e3 := p_semi_f K cb (J N) (J a) hk p
  clear h
  by_cases h0 : n = 0
  · subst h0
    exact ⟨J s, by simp (disch := omega) only [f_Story_readEvent, e1, e2, e3, sp_Tape_failed, J_lit, J_add, J_sub, J_mul, J_neg, J_nat, J_inb, J_div, ↓reduceIte, Int.toNat_natCast, Option.bind_some, J_le_t, J_le_f, J_lt_t, J_lt_f, J_eq_t, J_eq_f, L_lit, L_add, L_sub, L_mul, L_div, JL, LJ, Int.reduceToNat, Int.toNat_zero, Int.toNat_one, xb, xm, within_t, within_f, nb_t, nb_f, ni_t, ni_f, in_t, in_f, less_, bad_0, bad_1, not_true_eq_false, not_false_eq_true, L_lt_t, L_lt_f, L_eq_t, L_eq_f, lg_gt, lg_eq, lg_lt]⟩
  · have e4 : (n : Int) - 1 = ((n - 1 : Nat) : Int) := by omega
    by_cases hh : k4 (n - 1) ≤ J 0
    · exact ⟨J s, by simp (disch := omega) only [f_Story_readEvent, e1, e2, e3, e4, sp_Tape_failed, hh, J_lit, J_add, J_sub, J_mul, J_neg, J_nat, J_inb, J_div, ↓reduceIte, Int.toNat_natCast, Option.bind_some, J_le_t, J_le_f, J_lt_t, J_lt_f, J_eq_t, J_eq_f, L_lit, L_add, L_sub, L_mul, L_div, JL, LJ, Int.reduceToNat, Int.toNat_zero, Int.toNat_one, xb, xm, within_t, within_f, nb_t, nb_f, ni_t, ni_f, in_t, in_f, less_, bad_0, bad_1, not_true_eq_false, not_false_eq_true, L_lt_t, L_lt_f, L_eq_t, L_eq_f, lg_gt, lg_eq, lg_lt]⟩
    · have hh' : (k4 (n - 1) ≤ J 0) = False := eq_false hh
      exact ⟨J s, by simp (disch := omega) only [f_Story_readEvent, e1, e2, e3, e4, sp_Tape_failed, hh', sp_Tape_fail, J_lit, J_add, J_sub, J_mul, J_neg, J_nat, J_inb, J_div, ↓reduceIte, Int.toNat_natCast, Option.bind_some, J_le_t, J_le_f, J_lt_t, J_lt_f, J_eq_t, J_eq_f, L_lit, L_add, L_sub, L_mul, L_div, JL, LJ, Int.reduceToNat, Int.toNat_zero, Int.toNat_one, xb, xm, within_t, within_f, nb_t, nb_f, ni_t, ni_f, in_t, in_f, less_, bad_0, bad_1, not_true_eq_false, not_false_eq_true, L_lt_t, L_lt_f, L_eq_t, L_eq_f, lg_gt, lg_eq, lg_lt]⟩
set_option maxHeartbeats 2000000 in
theorem tail_f_m (K : Nat) (hK : 2000 ≤ K) (mb : Nat → Int32) (N a p x1 y0 : Int32) {k : Nat} (hk : 1 ≤ k ∧ k ≤ 3) {n : Nat} (hn : n ≤ 20) (ne : Nat → Nat → Int32) (m : Nat) : ∃ ne', f_M_eventAt K N mb (m + 5) 1 (x1, J 0, n, y0, J 2, n, a, J k, p, ne) = some (a, J k, p, ne') := by
  have e1 := p_M_number_f K (J 0) (J 99) (J (-1)) N a hk p mb
  have e2 := p_sign_f K N a hk p mb
  rw [show (59 : Int32) = J 59 from rfl] at e2
  have h21 : n < 21 := by omega
  exact ⟨_, by
    simp (disch := omega) only [f_M_eventAt, sp_M_wrong, e1, e2, h21, J_lit, J_add, J_sub, J_mul, J_neg, J_nat, J_inb, J_div, ↓reduceIte, Int.toNat_natCast, Option.bind_some, J_le_t, J_le_f, J_lt_t, J_lt_f, J_eq_t, J_eq_f, L_lit, L_add, L_sub, L_mul, L_div, JL, LJ, Int.reduceToNat, Int.toNat_zero, Int.toNat_one, xb, xm, within_t, within_f, nb_t, nb_f, ni_t, ni_f, in_t, in_f, less_, bad_0, bad_1, not_true_eq_false, not_false_eq_true, L_lt_t, L_lt_f, L_eq_t, L_eq_f, lg_gt, lg_eq, lg_lt]
    rfl⟩
set_option maxHeartbeats 2000000 in
theorem rdn_bl (K : Nat) (hK : 2000 ≤ K) {cb mb : Nat → Int32} {N : Nat} {B : Nat → Nat} (h : TX cb mb N B) {lo hi : Nat} (hlo : lo ≤ 500) (hhi : hi ≤ 500) {a : Nat} (ha : a ≤ 400) (st fp : Int32) : sp_Tape_readNumber K (J lo) (J hi) cb (J N) (J a) st (J 0) fp = sp_Tape_readNumber K (J lo) (J hi) cb (J N) (J (bl B N a : Nat)) st (J 0) fp := by
  have r1 := bl_rng B N a
  have hN := h.1
  rw [p_readNumber K hK h hlo hhi (a := a) (by omega), p_readNumber K hK h hlo hhi (a := bl B N a) (by omega)]
  unfold nK nV de
  rw [bl_bl]
set_option maxHeartbeats 2000000 in
theorem num4 (K : Nat) (hK : 2000 ≤ K) {cb mb : Nat → Int32} {N : Nat} {B : Nat → Nat} (h : TX cb mb N B) {lo hi : Nat} (hlo : lo ≤ 500) (hhi : hi ≤ 500) {a : Nat} (ha : a ≤ 400) (hb : bl B N a = a) : (∃ v e : Nat, lo ≤ v ∧ v ≤ hi ∧ a ≤ e ∧ e ≤ 400 ∧ (∀ st fp, sp_Tape_readNumber K (J lo) (J hi) cb (J N) (J a) st (J 0) fp = some (J v, J e, J a, J 0, fp)) ∧ ∀ fp, sp_M_number K (J lo) (J hi) (J (-1)) (J N) (J a) (J 0) fp mb = some (J v, J e, J 0, fp)) ∨ (∃ k p e : Nat, (1 ≤ k ∧ k ≤ 3) ∧ e ≤ 400 ∧ (∀ st fp, sp_Tape_readNumber K (J lo) (J hi) cb (J N) (J a) st (J 0) fp = some (J lo, J e, J a, J k, J p)) ∧ ∀ fp, ∃ v, sp_M_number K (J lo) (J hi) (J (-1)) (J N) (J a) (J 0) fp mb = some (v, J e, J k, J p)) := by
  have hst : ∀ st fp, ∃ x y z w, sp_Tape_readNumber K (J lo) (J hi) cb (J N) (J a) st (J 0) fp = some (x, y, J a, z, w) := fun st fp => by
    have := p_readNumber K hK h hlo hhi (a := a) (by omega) st fp
    rw [hb] at this
    exact ⟨_, _, _, _, this⟩
  rcases num2 K hK h hlo hhi ha with ⟨v, e, s, l1, l2, l3, l4, c1, m1⟩ | ⟨k, p, e, s, hk, l4, c1, m1⟩
  · left
    refine ⟨v, e, l1, l2, l3, l4, fun st fp => ?_, m1⟩
    obtain ⟨x, y, z, w, hx⟩ := hst st fp
    have e1 := c1 st fp
    rw [hx] at e1
    injection e1 with e1
    injection e1 with e1 e2
    injection e2 with e2 e3
    injection e3 with e3 e4
    injection e4 with e4 e5
    rw [hx, e1, e2, e4, e5]
  · right
    refine ⟨k, p, e, hk, l4, fun st fp => ?_, m1⟩
    obtain ⟨x, y, z, w, hx⟩ := hst st fp
    have e1 := c1 st fp
    rw [hx] at e1
    injection e1 with e1
    injection e1 with e1 e2
    injection e2 with e2 e3
    injection e3 with e3 e4
    injection e4 with e4 e5
    rw [hx, e1, e2, e4, e5]
def evQ (kd one two v : Nat) : Nat → Nat := fun c => if c = 0 then kd else if c = 1 then one else if c = 2 then two else v
set_option maxHeartbeats 2000000 in
theorem SOK_add {n : Nat} {E : Nat → Nat → Nat} (h : SOK n E) (hn : n ≤ 20) {ev : Nat → Nat} (he : EOK ev) (hh : ∀ i, i < n → E i 3 ≤ ev 3) : SOK (n + 1) (va_up E n ev) := by
  obtain ⟨h1, h2, h3⟩ := h
  refine ⟨by omega, fun i hi => ?_, fun i j hij hj => ?_⟩
  · unfold va_up; split
    · exact he
    · exact h2 i (by omega)
  · unfold va_up
    by_cases hj' : j = n
    · rw [if_pos hj']
      by_cases hi' : i = n
      · rw [if_pos hi']; exact Nat.le_refl _
      · rw [if_neg hi']; exact hh i (by omega)
    · rw [if_neg hj', if_neg (by omega)]; exact h3 i j hij (by omega)
set_option maxHeartbeats 2000000 in
theorem tail2 (K : Nat) (hK : 2000 ≤ K) {cb mb : Nat → Int32} {N : Nat} {B : Nat → Nat} (h : TX cb mb N B) {a : Nat} (ha : a ≤ 400) {n : Nat} (hn : n < 20) {E : Nat → Nat → Nat} (hE : SOK n E) {k1 k2 k3 k4 : Nat → Int32} (hC : SC n E k1 k2 k3 k4 (J n)) {kd one two : Nat} (hkd : kd ≤ 4 ∧ one < 10 ∧ (kd = 0 → two < 8) ∧ (kd = 2 → two < 10 ∧ two ≠ one) ∧ two ≤ 16) {ne : Nat → Nat → Int32} (hM : ∀ i, i < n → ∀ c, c < 4 → ne i c = J (E i c)) (hr0 : ne n 0 = J kd) (hr1 : ne n 1 = J one) (st fp : Int32) (m m' : Nat) : (∃ (E' : Nat → Nat → Nat) (e : Nat) (st' : Int32) (u1 u2 u3 u4 : Nat → Int32) (ne' : Nat → Nat → Int32), f_Story_readEvent K cb (J N) (m + 2) 2 (J kd, J 0, J 0, J one, J two, J 0, k1, k2, k3, k4, J n, J a, st, J 0, fp) = some (u1, u2, u3, u4, J (n + 1 : Nat), J e, st', J 0, fp) ∧ f_M_eventAt K (J N) mb (m' + 5) 1 (J n, J 0, n, J two, J 2, n, J a, J 0, fp, ne) = some (J e, J 0, fp, ne') ∧ a < e ∧ e ≤ N ∧ SOK (n + 1) E' ∧ SC (n + 1) E' u1 u2 u3 u4 (J (n + 1 : Nat)) ∧ ∀ i, i < n + 1 → ∀ c, c < 4 → ne' i c = J (E' i c)) ∨ (∃ (k p x y : Nat) (u1 u2 u3 u4 : Nat → Int32) (un st' : Int32) (ne' : Nat → Nat → Int32), (1 ≤ k ∧ k ≤ 3) ∧ (x ≤ 400 ∧ y ≤ 400) ∧ f_Story_readEvent K cb (J N) (m + 2) 2 (J kd, J 0, J 0, J one, J two, J 0, k1, k2, k3, k4, J n, J a, st, J 0, fp) = some (u1, u2, u3, u4, un, J x, st', J k, J p) ∧ f_M_eventAt K (J N) mb (m' + 5) 1 (J n, J 0, n, J two, J 2, n, J a, J 0, fp, ne) = some (J y, J k, J p, ne')) := by
  have hN := h.1
  have r1 := bl_rng B N a
  have eR := p_readAll K hK h (lo := 97) (hi := 122) (by omega) (by omega) (a := a) (by omega) st
  have eW := p_wordIs K hK h (s := bl B N a) (by omega) (i := 12) (by omega)
  have eI := isW K hK h (a := a) (by omega) (i := 12) (by omega) w_at
  have eK := p_M_skipWord K hK h (a := bl B N a) (by omega)
  have r2 := en_rng 97 122 B N (bl B N a)
  have hrw : sp_Tape_readWord K cb (J N) (J a) st (J 0) = some (J (en 97 122 B N (bl B N a) : Nat), J (bl B N a : Nat)) := by
    clear h
    simp (disch := omega) only [sp_Tape_readWord, sp_Tape_failed, eR, J_lit, J_add, J_sub, J_mul, J_neg, J_nat, J_inb, J_div, ↓reduceIte, Int.toNat_natCast, Option.bind_some, J_le_t, J_le_f, J_lt_t, J_lt_f, J_eq_t, J_eq_f, L_lit, L_add, L_sub, L_mul, L_div, JL, LJ, Int.reduceToNat, Int.toNat_zero, Int.toNat_one, xb, xm, within_t, within_f, nb_t, nb_f, ni_t, ni_f, in_t, in_f, less_, bad_0, bad_1, not_true_eq_false, not_false_eq_true, L_lt_t, L_lt_f, L_eq_t, L_eq_f, lg_gt, lg_eq, lg_lt]
  have h01 := kwB_01 B N (bl B N a) 12
  unfold we at eW
  have h21 : n < 21 := by omega
  obtain ⟨lh, hlh1, hlh2⟩ : ∃ lh : Nat, (∀ i, i < n → E i 3 ≤ lh) ∧ (n = 0 ∧ lh = 0 ∨ 0 < n ∧ k4 (n - 1) = J lh ∧ ne (n - 1) 3 = J lh ∧ lh < 100) := by
    by_cases h0 : n = 0
    · exact ⟨0, fun i hi => by omega, Or.inl ⟨h0, rfl⟩⟩
    · refine ⟨E (n - 1) 3, fun i hi => hE.2.2 i (n - 1) (by omega) (by omega), Or.inr ⟨by omega, hC.2.2.2.2 (n - 1) (by omega), hM (n - 1) (by omega) 3 (by omega), ?_⟩⟩
      exact (hE.2.1 (n - 1) (by omega)).2.2.2.2.2
  rcases h01 with hw | hw
  ·
    right
    rw [hw] at eW eI
    have hkk : 1 ≤ (1 : Nat) ∧ (1 : Nat) ≤ 3 := by omega
    have eX : sp_Tape_expectWord K cb (J N) (J a) st (J 0) fp 12 = some (J (en 97 122 B N (bl B N a) : Nat), J (bl B N a : Nat), J (1 : Nat), J (bl B N a : Nat)) := by
      clear h hM hC hE
      simp (disch := omega) only [sp_Tape_expectWord, hrw, eW, sp_Tape_fail, sp_Tape_failed, J_lit, J_add, J_sub, J_mul, J_neg, J_nat, J_inb, J_div, ↓reduceIte, Int.toNat_natCast, Option.bind_some, J_le_t, J_le_f, J_lt_t, J_lt_f, J_eq_t, J_eq_f, L_lit, L_add, L_sub, L_mul, L_div, JL, LJ, Int.reduceToNat, Int.toNat_zero, Int.toNat_one, xb, xm, within_t, within_f, nb_t, nb_f, ni_t, ni_f, in_t, in_f, less_, bad_0, bad_1, not_true_eq_false, not_false_eq_true, L_lt_t, L_lt_f, L_eq_t, L_eq_f, lg_gt, lg_eq, lg_lt]
      rfl
    have e2 := p_readNumber_f K (J 0) (J 99) cb (J N) (J (en 97 122 B N (bl B N a) : Nat)) (J (bl B N a : Nat)) hkk (J (bl B N a : Nat))
    have e3 := p_semi_f K cb (J N) (J (en 97 122 B N (bl B N a) : Nat)) hkk (J (bl B N a : Nat))
    have f1 : sp_M_number K (J 0) (J 99) (J (-1)) (J N) (J (bl B N a : Nat)) (J 1) (J (bl B N a : Nat)) mb = some (J 0, J (bl B N a : Nat), J 1, J (bl B N a : Nat)) := p_M_number_f K (J 0) (J 99) (J (-1)) (J N) (J (bl B N a : Nat)) hkk (J (bl B N a : Nat)) mb
    have f2 : sp_M_sign K (J 59) (J N) (J (bl B N a : Nat)) (J 1) (J (bl B N a : Nat)) mb = some (J (bl B N a : Nat), J 1, J (bl B N a : Nat)) := p_sign_f K (J N) (J (bl B N a : Nat)) hkk (J (bl B N a : Nat)) mb
    have eI' : sp_M_isWord K (J 1) (J 20) (J 0) (J 0) (J 0) (J 0) (J N) (J a) mb = some (J 0, J (bl B N a : Nat)) := eI
    refine ⟨1, bl B N a, en 97 122 B N (bl B N a), bl B N a, k1, k2, k3, k4, J n, J (bl B N a : Nat), va_up (va_up ne n (upd (ne n) 2 (J two))) n (upd ((va_up ne n (upd (ne n) 2 (J two))) n) 3 (J 0)), hkk, by omega, ?_, ?_⟩
    rotate_left
    · clear h hM hC hE eX e2 e3 hlh2 eI
      have p5 : ∀ q X, f_M_eventAt K (J N) mb (q + 1) 5 (J 0, J 0, 0, J 0, J 0, 0, J (bl B N a : Nat), J 1, J (bl B N a : Nat), X) = some (J (bl B N a : Nat), J (1 : Nat), J (bl B N a : Nat), X) := fun q X => by
        simp (disch := omega) only [f_M_eventAt, f2, J_lit, J_add, J_sub, J_mul, J_neg, J_nat, J_inb, J_div, ↓reduceIte, Int.toNat_natCast, Option.bind_some, J_le_t, J_le_f, J_lt_t, J_lt_f, J_eq_t, J_eq_f, L_lit, L_add, L_sub, L_mul, L_div, JL, LJ, Int.reduceToNat, Int.toNat_zero, Int.toNat_one, xb, xm, within_t, within_f, nb_t, nb_f, ni_t, ni_f, in_t, in_f, less_, bad_0, bad_1, not_true_eq_false, not_false_eq_true, L_lt_t, L_lt_f, L_eq_t, L_eq_f, lg_gt, lg_eq, lg_lt]
        rfl
      have p4 : ∀ q X, f_M_eventAt K (J N) mb (q + 1) 4 (J n, J 0, n, J 0, J 0, 0, J (bl B N a : Nat), J 1, J (bl B N a : Nat), X) = f_M_eventAt K (J N) mb q 5 (J 0, J 0, 0, J 0, J 0, 0, J (bl B N a : Nat), J 1, J (bl B N a : Nat), va_up X n (upd (X n) 3 (J 0))) := fun q X => by
        have f1' : sp_M_number K 0 99 (-1) (J N) (J (bl B N a : Nat)) (J 1) (J (bl B N a : Nat)) mb = some (J 0, J (bl B N a : Nat), J 1, J (bl B N a : Nat)) := f1
        rw [f_M_eventAt, f1']
        simp only [Option.bind_some, h21, ↓reduceIte]
        simp (disch := omega) only [J_lit, J_add, J_sub, J_mul, J_neg, J_nat, J_inb, J_div, ↓reduceIte, Int.toNat_natCast, Option.bind_some, J_le_t, J_le_f, J_lt_t, J_lt_f, J_eq_t, J_eq_f, L_lit, L_add, L_sub, L_mul, L_div, JL, LJ, Int.reduceToNat, Int.toNat_zero, Int.toNat_one, xb, xm, within_t, within_f, nb_t, nb_f, ni_t, ni_f, in_t, in_f, less_, bad_0, bad_1, not_true_eq_false, not_false_eq_true, L_lt_t, L_lt_f, L_eq_t, L_eq_f, lg_gt, lg_eq, lg_lt]
      have p1 : ∀ q, f_M_eventAt K (J N) mb (q + 3) 1 (J n, J 0, n, J two, J 2, n, J a, J 0, fp, ne) = f_M_eventAt K (J N) mb q 4 (J n, J 0, n, J 0, J 0, 0, J (bl B N a : Nat), J 1, J (bl B N a : Nat), va_up ne n (upd (ne n) 2 (J two))) := fun q => by
        simp (disch := omega) only [f_M_eventAt, eI', sp_M_wrong, h21, J_lit, J_add, J_sub, J_mul, J_neg, J_nat, J_inb, J_div, ↓reduceIte, Int.toNat_natCast, Option.bind_some, J_le_t, J_le_f, J_lt_t, J_lt_f, J_eq_t, J_eq_f, L_lit, L_add, L_sub, L_mul, L_div, JL, LJ, Int.reduceToNat, Int.toNat_zero, Int.toNat_one, xb, xm, within_t, within_f, nb_t, nb_f, ni_t, ni_f, in_t, in_f, less_, bad_0, bad_1, not_true_eq_false, not_false_eq_true, L_lt_t, L_lt_f, L_eq_t, L_eq_f, lg_gt, lg_eq, lg_lt]
      rw [p1 (m' + 2), p4 (m' + 1), p5]
    · clear h hM hC hE f1 f2 eI eI'
      rcases hlh2 with ⟨h0, -⟩ | ⟨h0, h1, -, h2⟩
      · subst h0
        simp (disch := omega) only [f_Story_readEvent, eX, e2, e3, sp_Tape_failed, J_lit, J_add, J_sub, J_mul, J_neg, J_nat, J_inb, J_div, ↓reduceIte, Int.toNat_natCast, Option.bind_some, J_le_t, J_le_f, J_lt_t, J_lt_f, J_eq_t, J_eq_f, L_lit, L_add, L_sub, L_mul, L_div, JL, LJ, Int.reduceToNat, Int.toNat_zero, Int.toNat_one, xb, xm, within_t, within_f, nb_t, nb_f, ni_t, ni_f, in_t, in_f, less_, bad_0, bad_1, not_true_eq_false, not_false_eq_true, L_lt_t, L_lt_f, L_eq_t, L_eq_f, lg_gt, lg_eq, lg_lt]
      · have e4 : (n : Int) - 1 = ((n - 1 : Nat) : Int) := by omega
        by_cases hl0 : lh = 0
        · subst hl0
          simp (disch := omega) only [f_Story_readEvent, eX, e2, e3, e4, h1, sp_Tape_failed, J_lit, J_add, J_sub, J_mul, J_neg, J_nat, J_inb, J_div, ↓reduceIte, Int.toNat_natCast, Option.bind_some, J_le_t, J_le_f, J_lt_t, J_lt_f, J_eq_t, J_eq_f, L_lit, L_add, L_sub, L_mul, L_div, JL, LJ, Int.reduceToNat, Int.toNat_zero, Int.toNat_one, xb, xm, within_t, within_f, nb_t, nb_f, ni_t, ni_f, in_t, in_f, less_, bad_0, bad_1, not_true_eq_false, not_false_eq_true, L_lt_t, L_lt_f, L_eq_t, L_eq_f, lg_gt, lg_eq, lg_lt]
        · simp (disch := omega) only [f_Story_readEvent, eX, e2, e3, e4, h1, sp_Tape_failed, sp_Tape_fail, J_lit, J_add, J_sub, J_mul, J_neg, J_nat, J_inb, J_div, ↓reduceIte, Int.toNat_natCast, Option.bind_some, J_le_t, J_le_f, J_lt_t, J_lt_f, J_eq_t, J_eq_f, L_lit, L_add, L_sub, L_mul, L_div, JL, LJ, Int.reduceToNat, Int.toNat_zero, Int.toNat_one, xb, xm, within_t, within_f, nb_t, nb_f, ni_t, ni_f, in_t, in_f, less_, bad_0, bad_1, not_true_eq_false, not_false_eq_true, L_lt_t, L_lt_f, L_eq_t, L_eq_f, lg_gt, lg_eq, lg_lt]
  · rw [hw] at eW eI
    have eX : sp_Tape_expectWord K cb (J N) (J a) st (J 0) fp 12 = some (J (en 97 122 B N (bl B N a) : Nat), J (bl B N a : Nat), J 0, fp) := by
      clear h hM hC hE
      simp (disch := omega) only [sp_Tape_expectWord, hrw, eW, J_lit, J_add, J_sub, J_mul, J_neg, J_nat, J_inb, J_div, ↓reduceIte, Int.toNat_natCast, Option.bind_some, J_le_t, J_le_f, J_lt_t, J_lt_f, J_eq_t, J_eq_f, L_lit, L_add, L_sub, L_mul, L_div, JL, LJ, Int.reduceToNat, Int.toNat_zero, Int.toNat_one, xb, xm, within_t, within_f, nb_t, nb_f, ni_t, ni_f, in_t, in_f, less_, bad_0, bad_1, not_true_eq_false, not_false_eq_true, L_lt_t, L_lt_f, L_eq_t, L_eq_f, lg_gt, lg_eq, lg_lt]
    have eI' : sp_M_isWord K (J 1) (J 20) (J 0) (J 0) (J 0) (J 0) (J N) (J a) mb = some (J 1, J (bl B N a : Nat)) := eI
    clear eI eR hrw eW
    generalize hwd : en 97 122 B N (bl B N a) = w at *
    generalize bl B N a = s at *
    have eB := p_M_blanks K hK h (a := w) (by omega)
    have r3 := bl_rng B N w
    have eRb := fun st fp => rdn_bl K hK h (lo := 0) (hi := 99) (by omega) (by omega) (a := w) (by omega) st fp
    have hbb := bl_bl B N w
    generalize bl B N w = b at *
    rcases num4 K hK h (lo := 0) (hi := 99) (by omega) (by omega) (a := b) (by omega) hbb with ⟨v, e, l1, l2, l3, l4, c1, m1⟩ | ⟨k, p, e, hkk, l4, c1, m1⟩
    · have c1' : sp_Tape_readNumber K (J 0) (J 99) cb (J N) (J w) (J s) (J 0) fp = some (J v, J e, J b, J 0, fp) := (eRb (J s) fp).trans (c1 (J s) fp)
      have m1' : sp_M_number K (J 0) (J 99) (J (-1)) (J N) (J b) (J 0) fp mb = some (J v, J e, J 0, fp) := m1 fp
      clear c1 m1 eRb
      by_cases hlate : lh ≤ v
      ·
        rcases semi2 K hK h (a := e) (by omega) with ⟨e', q1, q2, cS, mS⟩ | ⟨p, lfp, cS, mS⟩
        · left
          have cS' := cS fp
          have mS' : sp_M_sign K (J 59) (J N) (J e) (J 0) fp mb = some (J e', J 0, fp) := mS fp
          obtain ⟨u1, u2, u3, u4, a1, a2⟩ := p_add K (k := n) (by omega) (evQ kd one two v) hC
          have a1' : sp_Story_add K (J kd) (J one) (J two) (J v) k1 k2 k3 k4 (J n) = some (u1, u2, u3, u4, J (n + 1 : Nat)) := a1
          obtain ⟨g1, g2, g3, g4, g5⟩ := hkd
          have hEv : EOK (evQ kd one two v) := ⟨g1, g2, g3, g4, g5, by show v < 100; omega⟩
          refine ⟨va_up E n (evQ kd one two v), e', J b, u1, u2, u3, u4, va_up (va_up ne n (upd (ne n) 2 (J two))) n (upd ((va_up ne n (upd (ne n) 2 (J two))) n) 3 (J v)), ?_, ?_, by omega, q2, SOK_add hE (by omega) hEv (fun i hi => Nat.le_trans (hlh1 i hi) hlate), a2, fun i hi c hc => ?_⟩
          · clear h hM hC hE mS mS' eI' m1' eB eK
            rcases hlh2 with ⟨h0, -⟩ | ⟨h0, h1, -, h2⟩
            · subst h0
              simp (disch := omega) only [f_Story_readEvent, eX, c1', cS', sp_Tape_failed, a1', J_lit, J_add, J_sub, J_mul, J_neg, J_nat, J_inb, J_div, ↓reduceIte, Int.toNat_natCast, Option.bind_some, J_le_t, J_le_f, J_lt_t, J_lt_f, J_eq_t, J_eq_f, L_lit, L_add, L_sub, L_mul, L_div, JL, LJ, Int.reduceToNat, Int.toNat_zero, Int.toNat_one, xb, xm, within_t, within_f, nb_t, nb_f, ni_t, ni_f, in_t, in_f, less_, bad_0, bad_1, not_true_eq_false, not_false_eq_true, L_lt_t, L_lt_f, L_eq_t, L_eq_f, lg_gt, lg_eq, lg_lt]
            · have e4 : (n : Int) - 1 = ((n - 1 : Nat) : Int) := by omega
              simp (disch := omega) only [f_Story_readEvent, eX, c1', cS', e4, h1, sp_Tape_failed, a1', J_lit, J_add, J_sub, J_mul, J_neg, J_nat, J_inb, J_div, ↓reduceIte, Int.toNat_natCast, Option.bind_some, J_le_t, J_le_f, J_lt_t, J_lt_f, J_eq_t, J_eq_f, L_lit, L_add, L_sub, L_mul, L_div, JL, LJ, Int.reduceToNat, Int.toNat_zero, Int.toNat_one, xb, xm, within_t, within_f, nb_t, nb_f, ni_t, ni_f, in_t, in_f, less_, bad_0, bad_1, not_true_eq_false, not_false_eq_true, L_lt_t, L_lt_f, L_eq_t, L_eq_f, lg_gt, lg_eq, lg_lt]
          · clear h hM hC hE cS cS' eX c1'
            rcases hlh2 with ⟨h0, -⟩ | ⟨h0, -, h1, h2⟩
            · subst h0
              simp (disch := omega) only [f_M_eventAt, eI', eK, eB, m1', mS', h21, J_lit, J_add, J_sub, J_mul, J_neg, J_nat, J_inb, J_div, ↓reduceIte, Int.toNat_natCast, Option.bind_some, J_le_t, J_le_f, J_lt_t, J_lt_f, J_eq_t, J_eq_f, L_lit, L_add, L_sub, L_mul, L_div, JL, LJ, Int.reduceToNat, Int.toNat_zero, Int.toNat_one, xb, xm, within_t, within_f, nb_t, nb_f, ni_t, ni_f, in_t, in_f, less_, bad_0, bad_1, not_true_eq_false, not_false_eq_true, L_lt_t, L_lt_f, L_eq_t, L_eq_f, lg_gt, lg_eq, lg_lt]
            · have e4 : (n : Int) - 1 = ((n - 1 : Nat) : Int) := by omega
              have t1 : (va_up (va_up ne n (upd (ne n) 2 (J two))) n (upd ((va_up ne n (upd (ne n) 2 (J two))) n) 3 (J v))) (n - 1) 3 = J lh := by
                rw [pu_up_ne _ _ (by omega), pu_up_ne _ _ (by omega)]; exact h1
              have t2 : (va_up (va_up ne n (upd (ne n) 2 (J two))) n (upd ((va_up ne n (upd (ne n) 2 (J two))) n) 3 (J v))) n 3 = J v := by
                rw [va_up_eq]; unfold upd; rw [if_pos rfl]
              simp (disch := omega) only [f_M_eventAt, eI', eK, eB, m1', h21, e4, t1, t2, mS', J_lit, J_add, J_sub, J_mul, J_neg, J_nat, J_inb, J_div, ↓reduceIte, Int.toNat_natCast, Option.bind_some, J_le_t, J_le_f, J_lt_t, J_lt_f, J_eq_t, J_eq_f, L_lit, L_add, L_sub, L_mul, L_div, JL, LJ, Int.reduceToNat, Int.toNat_zero, Int.toNat_one, xb, xm, within_t, within_f, nb_t, nb_f, ni_t, ni_f, in_t, in_f, less_, bad_0, bad_1, not_true_eq_false, not_false_eq_true, L_lt_t, L_lt_f, L_eq_t, L_eq_f, lg_gt, lg_eq, lg_lt]
          · by_cases hin : i = n
            · subst hin
              rw [va_up_eq, va_up_eq, va_up_eq]
              have : c = 0 ∨ c = 1 ∨ c = 2 ∨ c = 3 := by omega
              rcases this with rfl | rfl | rfl | rfl
              · unfold upd; rw [if_neg (by omega), if_neg (by omega)]; exact hr0
              · unfold upd; rw [if_neg (by omega), if_neg (by omega)]; exact hr1
              · unfold upd; rw [if_neg (by omega), if_pos rfl]; rfl
              · unfold upd; rw [if_pos rfl]; rfl
            · rw [pu_up_ne _ _ hin, pu_up_ne _ _ hin, pu_up_ne _ _ hin]
              exact hM i (by omega) c hc
        · right
          have cS' := cS fp
          have mS' : sp_M_sign K (J 59) (J N) (J e) (J 0) fp mb = some (J p, J (1 : Nat), J p) := mS fp
          refine ⟨1, p, p, p, k1, k2, k3, k4, J n, J b, va_up (va_up ne n (upd (ne n) 2 (J two))) n (upd ((va_up ne n (upd (ne n) 2 (J two))) n) 3 (J v)), by omega, by omega, ?_, ?_⟩
          rotate_left
          · clear h hM hC hE cS cS' eX c1'
            rcases hlh2 with ⟨h0, -⟩ | ⟨h0, -, h1, h2⟩
            · subst h0
              simp (disch := omega) only [f_M_eventAt, eI', eK, eB, m1', mS', h21, J_lit, J_add, J_sub, J_mul, J_neg, J_nat, J_inb, J_div, ↓reduceIte, Int.toNat_natCast, Option.bind_some, J_le_t, J_le_f, J_lt_t, J_lt_f, J_eq_t, J_eq_f, L_lit, L_add, L_sub, L_mul, L_div, JL, LJ, Int.reduceToNat, Int.toNat_zero, Int.toNat_one, xb, xm, within_t, within_f, nb_t, nb_f, ni_t, ni_f, in_t, in_f, less_, bad_0, bad_1, not_true_eq_false, not_false_eq_true, L_lt_t, L_lt_f, L_eq_t, L_eq_f, lg_gt, lg_eq, lg_lt]
            · have e4 : (n : Int) - 1 = ((n - 1 : Nat) : Int) := by omega
              have t1 : (va_up (va_up ne n (upd (ne n) 2 (J two))) n (upd ((va_up ne n (upd (ne n) 2 (J two))) n) 3 (J v))) (n - 1) 3 = J lh := by
                rw [pu_up_ne _ _ (by omega), pu_up_ne _ _ (by omega)]; exact h1
              have t2 : (va_up (va_up ne n (upd (ne n) 2 (J two))) n (upd ((va_up ne n (upd (ne n) 2 (J two))) n) 3 (J v))) n 3 = J v := by
                rw [va_up_eq]; unfold upd; rw [if_pos rfl]
              simp (disch := omega) only [f_M_eventAt, eI', eK, eB, m1', h21, e4, t1, t2, mS', J_lit, J_add, J_sub, J_mul, J_neg, J_nat, J_inb, J_div, ↓reduceIte, Int.toNat_natCast, Option.bind_some, J_le_t, J_le_f, J_lt_t, J_lt_f, J_eq_t, J_eq_f, L_lit, L_add, L_sub, L_mul, L_div, JL, LJ, Int.reduceToNat, Int.toNat_zero, Int.toNat_one, xb, xm, within_t, within_f, nb_t, nb_f, ni_t, ni_f, in_t, in_f, less_, bad_0, bad_1, not_true_eq_false, not_false_eq_true, L_lt_t, L_lt_f, L_eq_t, L_eq_f, lg_gt, lg_eq, lg_lt]
          · clear h hM hC hE mS mS' eI' m1' eB eK
            rcases hlh2 with ⟨h0, -⟩ | ⟨h0, h1, -, h2⟩
            · subst h0
              simp (disch := omega) only [f_Story_readEvent, eX, c1', cS', sp_Tape_failed, J_lit, J_add, J_sub, J_mul, J_neg, J_nat, J_inb, J_div, ↓reduceIte, Int.toNat_natCast, Option.bind_some, J_le_t, J_le_f, J_lt_t, J_lt_f, J_eq_t, J_eq_f, L_lit, L_add, L_sub, L_mul, L_div, JL, LJ, Int.reduceToNat, Int.toNat_zero, Int.toNat_one, xb, xm, within_t, within_f, nb_t, nb_f, ni_t, ni_f, in_t, in_f, less_, bad_0, bad_1, not_true_eq_false, not_false_eq_true, L_lt_t, L_lt_f, L_eq_t, L_eq_f, lg_gt, lg_eq, lg_lt]
            · have e4 : (n : Int) - 1 = ((n - 1 : Nat) : Int) := by omega
              simp (disch := omega) only [f_Story_readEvent, eX, c1', cS', e4, h1, sp_Tape_failed, J_lit, J_add, J_sub, J_mul, J_neg, J_nat, J_inb, J_div, ↓reduceIte, Int.toNat_natCast, Option.bind_some, J_le_t, J_le_f, J_lt_t, J_lt_f, J_eq_t, J_eq_f, L_lit, L_add, L_sub, L_mul, L_div, JL, LJ, Int.reduceToNat, Int.toNat_zero, Int.toNat_one, xb, xm, within_t, within_f, nb_t, nb_f, ni_t, ni_f, in_t, in_f, less_, bad_0, bad_1, not_true_eq_false, not_false_eq_true, L_lt_t, L_lt_f, L_eq_t, L_eq_f, lg_gt, lg_eq, lg_lt]
      ·
        right
        have hkk : 1 ≤ (3 : Nat) ∧ (3 : Nat) ≤ 3 := by omega
        have e3 := p_semi_f K cb (J N) (J e) hkk (J b)
        have f2 := p_sign_f K (J N) (J e) hkk (J b) mb
        rw [show (59 : Int32) = J 59 from rfl] at f2
        rcases hlh2 with ⟨-, h0⟩ | ⟨h0, h1, h1', h2⟩
        · omega
        · have e4 : (n : Int) - 1 = ((n - 1 : Nat) : Int) := by omega
          refine ⟨3, b, e, e, k1, k2, k3, k4, J n, J b, va_up (va_up ne n (upd (ne n) 2 (J two))) n (upd ((va_up ne n (upd (ne n) 2 (J two))) n) 3 (J v)), hkk, by omega, ?_, ?_⟩
          rotate_left
          · have t1 : (va_up (va_up ne n (upd (ne n) 2 (J two))) n (upd ((va_up ne n (upd (ne n) 2 (J two))) n) 3 (J v))) (n - 1) 3 = J lh := by
              rw [pu_up_ne _ _ (by omega), pu_up_ne _ _ (by omega)]; exact h1'
            have t2 : (va_up (va_up ne n (upd (ne n) 2 (J two))) n (upd ((va_up ne n (upd (ne n) 2 (J two))) n) 3 (J v))) n 3 = J v := by
              rw [va_up_eq]; unfold upd; rw [if_pos rfl]
            clear h hM hC hE eX c1' e3
            simp (disch := omega) only [f_M_eventAt, eI', eK, eB, m1', h21, e4, t1, t2, sp_M_wrong, J_lit, J_add, J_sub, J_mul, J_neg, J_nat, J_inb, J_div, ↓reduceIte, Int.toNat_natCast, Option.bind_some, J_le_t, J_le_f, J_lt_t, J_lt_f, J_eq_t, J_eq_f, L_lit, L_add, L_sub, L_mul, L_div, JL, LJ, Int.reduceToNat, Int.toNat_zero, Int.toNat_one, xb, xm, within_t, within_f, nb_t, nb_f, ni_t, ni_f, in_t, in_f, less_, bad_0, bad_1, not_true_eq_false, not_false_eq_true, L_lt_t, L_lt_f, L_eq_t, L_eq_f, lg_gt, lg_eq, lg_lt]
            rw [show J 3 = J (3 : Nat) from rfl, f2]
            rfl
          · clear h hM hC hE eI' m1' eB eK f2
            simp (disch := omega) only [f_Story_readEvent, eX, c1', e4, h1, sp_Tape_failed, sp_Tape_fail, J_lit, J_add, J_sub, J_mul, J_neg, J_nat, J_inb, J_div, ↓reduceIte, Int.toNat_natCast, Option.bind_some, J_le_t, J_le_f, J_lt_t, J_lt_f, J_eq_t, J_eq_f, L_lit, L_add, L_sub, L_mul, L_div, JL, LJ, Int.reduceToNat, Int.toNat_zero, Int.toNat_one, xb, xm, within_t, within_f, nb_t, nb_f, ni_t, ni_f, in_t, in_f, less_, bad_0, bad_1, not_true_eq_false, not_false_eq_true, L_lt_t, L_lt_f, L_eq_t, L_eq_f, lg_gt, lg_eq, lg_lt]
            rw [show J 3 = J (3 : Nat) from rfl, e3]
            simp (disch := omega) only [J_lit, J_add, J_sub, J_mul, J_neg, J_nat, J_inb, J_div, ↓reduceIte, Int.toNat_natCast, Option.bind_some, J_le_t, J_le_f, J_lt_t, J_lt_f, J_eq_t, J_eq_f, L_lit, L_add, L_sub, L_mul, L_div, JL, LJ, Int.reduceToNat, Int.toNat_zero, Int.toNat_one, xb, xm, within_t, within_f, nb_t, nb_f, ni_t, ni_f, in_t, in_f, less_, bad_0, bad_1, not_true_eq_false, not_false_eq_true, L_lt_t, L_lt_f, L_eq_t, L_eq_f, lg_gt, lg_eq, lg_lt]
    · right
      have hkz : (k : Int) ≠ 0 := by omega
      have c1' : sp_Tape_readNumber K (J 0) (J 99) cb (J N) (J w) (J s) (J 0) fp = some (J 0, J e, J b, J k, J p) := (eRb (J s) fp).trans (c1 (J s) fp)
      obtain ⟨vv, m1'⟩ := m1 fp
      have m1'' : sp_M_number K (J 0) (J 99) (J (-1)) (J N) (J b) (J 0) fp mb = some (vv, J e, J k, J p) := m1'
      have e3 := p_semi_f K cb (J N) (J e) hkk (J p)
      have f2 := p_sign_f K (J N) (J e) hkk (J p) mb
      rw [show (59 : Int32) = J 59 from rfl] at f2
      clear c1 m1 eRb m1'
      refine ⟨k, p, e, e, k1, k2, k3, k4, J n, J b, va_up (va_up ne n (upd (ne n) 2 (J two))) n (upd ((va_up ne n (upd (ne n) 2 (J two))) n) 3 (vv)), hkk, by omega, ?_, ?_⟩
      rotate_left
      · clear h hM hC hE eX c1' e3 hlh2
        have p5 : ∀ q X, f_M_eventAt K (J N) mb (q + 1) 5 (J 0, J 0, 0, J 0, J 0, 0, J e, J k, J p, X) = some (J e, J k, J p, X) := fun q X => by
          simp (disch := omega) only [f_M_eventAt, f2, J_lit, J_add, J_sub, J_mul, J_neg, J_nat, J_inb, J_div, ↓reduceIte, Int.toNat_natCast, Option.bind_some, J_le_t, J_le_f, J_lt_t, J_lt_f, J_eq_t, J_eq_f, L_lit, L_add, L_sub, L_mul, L_div, JL, LJ, Int.reduceToNat, Int.toNat_zero, Int.toNat_one, xb, xm, within_t, within_f, nb_t, nb_f, ni_t, ni_f, in_t, in_f, less_, bad_0, bad_1, not_true_eq_false, not_false_eq_true, L_lt_t, L_lt_f, L_eq_t, L_eq_f, lg_gt, lg_eq, lg_lt]
        have p4 : ∀ q X, f_M_eventAt K (J N) mb (q + 1) 4 (J n, J 0, n, J 0, J 0, 0, J b, J 0, fp, X) = f_M_eventAt K (J N) mb q 5 (J 0, J 0, 0, J 0, J 0, 0, J e, J k, J p, va_up X n (upd (X n) 3 vv)) := fun q X => by
          have f1' : sp_M_number K 0 99 (-1) (J N) (J b) (J 0) fp mb = some (vv, J e, J k, J p) := m1''
          rw [f_M_eventAt, f1']
          simp only [Option.bind_some, h21, ↓reduceIte]
          simp (disch := omega) only [J_lit, J_add, J_sub, J_mul, J_neg, J_nat, J_inb, J_div, ↓reduceIte, Int.toNat_natCast, Option.bind_some, J_le_t, J_le_f, J_lt_t, J_lt_f, J_eq_t, J_eq_f, L_lit, L_add, L_sub, L_mul, L_div, JL, LJ, Int.reduceToNat, Int.toNat_zero, Int.toNat_one, xb, xm, within_t, within_f, nb_t, nb_f, ni_t, ni_f, in_t, in_f, less_, bad_0, bad_1, not_true_eq_false, not_false_eq_true, L_lt_t, L_lt_f, L_eq_t, L_eq_f, lg_gt, lg_eq, lg_lt]
        have p1 : ∀ q, f_M_eventAt K (J N) mb (q + 2) 1 (J n, J 0, n, J two, J 2, n, J a, J 0, fp, ne) = f_M_eventAt K (J N) mb q 4 (J n, J 0, n, J 0, J 0, 0, J b, J 0, fp, va_up ne n (upd (ne n) 2 (J two))) := fun q => by
          simp (disch := omega) only [f_M_eventAt, eI', eK, eB, h21, J_lit, J_add, J_sub, J_mul, J_neg, J_nat, J_inb, J_div, ↓reduceIte, Int.toNat_natCast, Option.bind_some, J_le_t, J_le_f, J_lt_t, J_lt_f, J_eq_t, J_eq_f, L_lit, L_add, L_sub, L_mul, L_div, JL, LJ, Int.reduceToNat, Int.toNat_zero, Int.toNat_one, xb, xm, within_t, within_f, nb_t, nb_f, ni_t, ni_f, in_t, in_f, less_, bad_0, bad_1, not_true_eq_false, not_false_eq_true, L_lt_t, L_lt_f, L_eq_t, L_eq_f, lg_gt, lg_eq, lg_lt]
        rw [show m' + 5 = (m' + 1) + 2 + 2 by omega, p1 (m' + 1 + 2), p4 (m' + 1 + 1), p5]
      · clear h hM hC hE eI' m1'' eB eK f2
        rcases hlh2 with ⟨h0, -⟩ | ⟨h0, h1, -, h2⟩
        · subst h0
          simp (disch := omega) only [f_Story_readEvent, eX, c1', e3, sp_Tape_failed, J_lit, J_add, J_sub, J_mul, J_neg, J_nat, J_inb, J_div, ↓reduceIte, Int.toNat_natCast, Option.bind_some, J_le_t, J_le_f, J_lt_t, J_lt_f, J_eq_t, J_eq_f, L_lit, L_add, L_sub, L_mul, L_div, JL, LJ, Int.reduceToNat, Int.toNat_zero, Int.toNat_one, xb, xm, within_t, within_f, nb_t, nb_f, ni_t, ni_f, in_t, in_f, less_, bad_0, bad_1, not_true_eq_false, not_false_eq_true, L_lt_t, L_lt_f, L_eq_t, L_eq_f, lg_gt, lg_eq, lg_lt]
        · have e4 : (n : Int) - 1 = ((n - 1 : Nat) : Int) := by omega
          by_cases hl0 : lh = 0
          · subst hl0
            simp (disch := omega) only [f_Story_readEvent, eX, c1', e3, e4, h1, sp_Tape_failed, J_lit, J_add, J_sub, J_mul, J_neg, J_nat, J_inb, J_div, ↓reduceIte, Int.toNat_natCast, Option.bind_some, J_le_t, J_le_f, J_lt_t, J_lt_f, J_eq_t, J_eq_f, L_lit, L_add, L_sub, L_mul, L_div, JL, LJ, Int.reduceToNat, Int.toNat_zero, Int.toNat_one, xb, xm, within_t, within_f, nb_t, nb_f, ni_t, ni_f, in_t, in_f, less_, bad_0, bad_1, not_true_eq_false, not_false_eq_true, L_lt_t, L_lt_f, L_eq_t, L_eq_f, lg_gt, lg_eq, lg_lt]
          · simp (disch := omega) only [f_Story_readEvent, eX, c1', e3, e4, h1, sp_Tape_failed, sp_Tape_fail, J_lit, J_add, J_sub, J_mul, J_neg, J_nat, J_inb, J_div, ↓reduceIte, Int.toNat_natCast, Option.bind_some, J_le_t, J_le_f, J_lt_t, J_lt_f, J_eq_t, J_eq_f, L_lit, L_add, L_sub, L_mul, L_div, JL, LJ, Int.reduceToNat, Int.toNat_zero, Int.toNat_one, xb, xm, within_t, within_f, nb_t, nb_f, ni_t, ni_f, in_t, in_f, less_, bad_0, bad_1, not_true_eq_false, not_false_eq_true, L_lt_t, L_lt_f, L_eq_t, L_eq_f, lg_gt, lg_eq, lg_lt]
