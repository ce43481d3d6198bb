set_option maxHeartbeats 2000000 in
theorem comes_plain (K : Nat) (hK : 1000 ≤ K) (i q : Nat) (hi : i < 100) (ev : Nat → Nat → Int32) (se th : Int32) : sp_M_comes K (J i) q ev (J (-1)) (J (-1)) se th = some (J (if (fun _ : Nat => true) i = true then 1 else 0)) := by
  obtain ⟨k, rfl⟩ : ∃ k, K = k + 1 := ⟨K - 1, by omega⟩
  simp (disch := omega) only [sp_M_comes, f_M_comes, J_lit, J_add, J_sub, J_mul, J_neg, J_nat, J_inb, J_div, ↓reduceIte, Int.toNat_natCast, Option.bind_some, J_le_t, J_le_f, J_lt_t, J_lt_f, J_eq_t, J_eq_f, L_lit, L_add, L_sub, L_mul, L_div, JL, LJ, Int.reduceToNat, Int.toNat_zero, Int.toNat_one, xb, xm, within_t, within_f, nb_t, nb_f, ni_t, ni_f, in_t, in_f, less_, bad_0, bad_1, not_true_eq_false, not_false_eq_true, L_lt_t, L_lt_f, L_eq_t, L_eq_f, lg_gt, lg_eq, lg_lt]
set_option maxHeartbeats 2000000 in
theorem comes_left (K : Nat) (hK : 1000 ≤ K) (i q e : Nat) (hi : i < 100) (he : e < 100) (ev : Nat → Nat → Int32) (se th : Int32) : sp_M_comes K (J i) q ev (J e) (J (-1)) se th = some (J (if (fun i : Nat => decide (i ≠ e)) i = true then 1 else 0)) := by
  obtain ⟨k, rfl⟩ : ∃ k, K = k + 1 := ⟨K - 1, by omega⟩
  by_cases h : i = e
  · subst h
    simp (disch := omega) only [sp_M_comes, f_M_comes, J_lit, J_add, J_sub, J_mul, J_neg, J_nat, J_inb, J_div, ↓reduceIte, Int.toNat_natCast, Option.bind_some, J_le_t, J_le_f, J_lt_t, J_lt_f, J_eq_t, J_eq_f, L_lit, L_add, L_sub, L_mul, L_div, JL, LJ, Int.reduceToNat, Int.toNat_zero, Int.toNat_one, xb, xm, within_t, within_f, nb_t, nb_f, ni_t, ni_f, in_t, in_f, less_, bad_0, bad_1, not_true_eq_false, not_false_eq_true, L_lt_t, L_lt_f, L_eq_t, L_eq_f, lg_gt, lg_eq, lg_lt]
    simp
  · simp (disch := omega) only [sp_M_comes, f_M_comes, J_lit, J_add, J_sub, J_mul, J_neg, J_nat, J_inb, J_div, ↓reduceIte, Int.toNat_natCast, Option.bind_some, J_le_t, J_le_f, J_lt_t, J_lt_f, J_eq_t, J_eq_f, L_lit, L_add, L_sub, L_mul, L_div, JL, LJ, Int.reduceToNat, Int.toNat_zero, Int.toNat_one, xb, xm, within_t, within_f, nb_t, nb_f, ni_t, ni_f, in_t, in_f, less_, bad_0, bad_1, not_true_eq_false, not_false_eq_true, L_lt_t, L_lt_f, L_eq_t, L_eq_f, lg_gt, lg_eq, lg_lt]
    simp [h]
def two2 (a b p q : Nat) : Bool := (a = p && b = q) || (a = q && b = p)
set_option maxHeartbeats 2000000 in
theorem areTwo_ (K : Nat) (hK : 1000 ≤ K) {a b p q : Nat} (ha : a < 100) (hb : b < 100) (hp : p < 100) (hq : q < 100) : sp_M_areTwo K (J a) (J b) (J p) (J q) = some (J (if two2 a b p q = true then 1 else 0)) := by
  obtain ⟨k, rfl⟩ : ∃ k, K = k + 2 := ⟨K - 2, by omega⟩
  have hT : two2 a b p q = true ↔ (a = p ∧ b = q) ∨ (a = q ∧ b = p) := by simp [two2]
  by_cases h1 : a = p ∧ b = q
  · rw [if_pos (hT.mpr (Or.inl h1))]
    simp (disch := omega) only [sp_M_areTwo, f_M_areTwo, J_lit, J_add, J_sub, J_mul, J_neg, J_nat, J_inb, J_div, ↓reduceIte, Int.toNat_natCast, Option.bind_some, J_le_t, J_le_f, J_lt_t, J_lt_f, J_eq_t, J_eq_f, L_lit, L_add, L_sub, L_mul, L_div, JL, LJ, Int.reduceToNat, Int.toNat_zero, Int.toNat_one, xb, xm, within_t, within_f, nb_t, nb_f, ni_t, ni_f, in_t, in_f, less_, bad_0, bad_1, not_true_eq_false, not_false_eq_true, L_lt_t, L_lt_f, L_eq_t, L_eq_f, lg_gt, lg_eq, lg_lt]
  · by_cases h3 : a = q ∧ b = p
    · rw [if_pos (hT.mpr (Or.inr h3))]
      by_cases h4 : a = p
      · simp (disch := omega) only [sp_M_areTwo, f_M_areTwo, J_lit, J_add, J_sub, J_mul, J_neg, J_nat, J_inb, J_div, ↓reduceIte, Int.toNat_natCast, Option.bind_some, J_le_t, J_le_f, J_lt_t, J_lt_f, J_eq_t, J_eq_f, L_lit, L_add, L_sub, L_mul, L_div, JL, LJ, Int.reduceToNat, Int.toNat_zero, Int.toNat_one, xb, xm, within_t, within_f, nb_t, nb_f, ni_t, ni_f, in_t, in_f, less_, bad_0, bad_1, not_true_eq_false, not_false_eq_true, L_lt_t, L_lt_f, L_eq_t, L_eq_f, lg_gt, lg_eq, lg_lt]
      · simp (disch := omega) only [sp_M_areTwo, f_M_areTwo, J_lit, J_add, J_sub, J_mul, J_neg, J_nat, J_inb, J_div, ↓reduceIte, Int.toNat_natCast, Option.bind_some, J_le_t, J_le_f, J_lt_t, J_lt_f, J_eq_t, J_eq_f, L_lit, L_add, L_sub, L_mul, L_div, JL, LJ, Int.reduceToNat, Int.toNat_zero, Int.toNat_one, xb, xm, within_t, within_f, nb_t, nb_f, ni_t, ni_f, in_t, in_f, less_, bad_0, bad_1, not_true_eq_false, not_false_eq_true, L_lt_t, L_lt_f, L_eq_t, L_eq_f, lg_gt, lg_eq, lg_lt]
    · rw [if_neg (fun h => (hT.mp h).elim h1 h3)]
      clear hT
      by_cases h4 : a = p
      · by_cases h5 : a = q
        · simp (disch := omega) only [sp_M_areTwo, f_M_areTwo, J_lit, J_add, J_sub, J_mul, J_neg, J_nat, J_inb, J_div, ↓reduceIte, Int.toNat_natCast, Option.bind_some, J_le_t, J_le_f, J_lt_t, J_lt_f, J_eq_t, J_eq_f, L_lit, L_add, L_sub, L_mul, L_div, JL, LJ, Int.reduceToNat, Int.toNat_zero, Int.toNat_one, xb, xm, within_t, within_f, nb_t, nb_f, ni_t, ni_f, in_t, in_f, less_, bad_0, bad_1, not_true_eq_false, not_false_eq_true, L_lt_t, L_lt_f, L_eq_t, L_eq_f, lg_gt, lg_eq, lg_lt]
        · simp (disch := omega) only [sp_M_areTwo, f_M_areTwo, J_lit, J_add, J_sub, J_mul, J_neg, J_nat, J_inb, J_div, ↓reduceIte, Int.toNat_natCast, Option.bind_some, J_le_t, J_le_f, J_lt_t, J_lt_f, J_eq_t, J_eq_f, L_lit, L_add, L_sub, L_mul, L_div, JL, LJ, Int.reduceToNat, Int.toNat_zero, Int.toNat_one, xb, xm, within_t, within_f, nb_t, nb_f, ni_t, ni_f, in_t, in_f, less_, bad_0, bad_1, not_true_eq_false, not_false_eq_true, L_lt_t, L_lt_f, L_eq_t, L_eq_f, lg_gt, lg_eq, lg_lt]
      · by_cases h5 : a = q
        · simp (disch := omega) only [sp_M_areTwo, f_M_areTwo, J_lit, J_add, J_sub, J_mul, J_neg, J_nat, J_inb, J_div, ↓reduceIte, Int.toNat_natCast, Option.bind_some, J_le_t, J_le_f, J_lt_t, J_lt_f, J_eq_t, J_eq_f, L_lit, L_add, L_sub, L_mul, L_div, JL, LJ, Int.reduceToNat, Int.toNat_zero, Int.toNat_one, xb, xm, within_t, within_f, nb_t, nb_f, ni_t, ni_f, in_t, in_f, less_, bad_0, bad_1, not_true_eq_false, not_false_eq_true, L_lt_t, L_lt_f, L_eq_t, L_eq_f, lg_gt, lg_eq, lg_lt]
        · simp (disch := omega) only [sp_M_areTwo, f_M_areTwo, J_lit, J_add, J_sub, J_mul, J_neg, J_nat, J_inb, J_div, ↓reduceIte, Int.toNat_natCast, Option.bind_some, J_le_t, J_le_f, J_lt_t, J_lt_f, J_eq_t, J_eq_f, L_lit, L_add, L_sub, L_mul, L_div, JL, LJ, Int.reduceToNat, Int.toNat_zero, Int.toNat_one, xb, xm, within_t, within_f, nb_t, nb_f, ni_t, ni_f, in_t, in_f, less_, bad_0, bad_1, not_true_eq_false, not_false_eq_true, L_lt_t, L_lt_f, L_eq_t, L_eq_f, lg_gt, lg_eq, lg_lt]
def wayB (a b c : Nat) (e : Nat → Nat) : Bool := decide (e 0 ≠ 2) || two2 (e 1) (e 2) a c || two2 (e 1) (e 2) b c
set_option maxHeartbeats 2000000 in
theorem comes_way (K : Nat) (hK : 1000 ≤ K) (i q a b c : Nat) (hi : i < 100) (ha : a < 100) (hb : b < 100) (hc : c < 100) (hq : q < 80) {e : Nat → Nat} (h0 : e 0 < 100) (h1 : e 1 < 100) (h2 : e 2 < 100) {ev : Nat → Nat → Int32} (hev : ∀ c, c < 4 → ev q c = J (e c)) : sp_M_comes K (J i) q ev (J (-1)) (J a) (J b) (J c) = some (J (if wayB a b c e = true then 1 else 0)) := by
  have v0 := hev 0 (by omega)
  have v1 := hev 1 (by omega)
  have v2 := hev 2 (by omega)
  have t1 := areTwo_ K hK h1 h2 ha hc
  have t2 := areTwo_ K hK h1 h2 hb hc
  obtain ⟨k, rfl⟩ : ∃ k, K = k + 1 := ⟨K - 1, by omega⟩
  unfold wayB
  by_cases h : e 0 = 2
  · cases hA : two2 (e 1) (e 2) a c
    · cases hB : two2 (e 1) (e 2) b c
      · rw [hA, if_neg (by simp)] at t1
        rw [hB, if_neg (by simp)] at t2
        simp (disch := omega) only [sp_M_comes, f_M_comes, hq, v0, v1, v2, t1, t2, J_lit, J_add, J_sub, J_mul, J_neg, J_nat, J_inb, J_div, ↓reduceIte, Int.toNat_natCast, Option.bind_some, J_le_t, J_le_f, J_lt_t, J_lt_f, J_eq_t, J_eq_f, L_lit, L_add, L_sub, L_mul, L_div, JL, LJ, Int.reduceToNat, Int.toNat_zero, Int.toNat_one, xb, xm, within_t, within_f, nb_t, nb_f, ni_t, ni_f, in_t, in_f, less_, bad_0, bad_1, not_true_eq_false, not_false_eq_true, L_lt_t, L_lt_f, L_eq_t, L_eq_f, lg_gt, lg_eq, lg_lt]
        simp [h]
      · rw [hA, if_neg (by simp)] at t1
        rw [hB, if_pos (by simp)] at t2
        simp (disch := omega) only [sp_M_comes, f_M_comes, hq, v0, v1, v2, t1, t2, J_lit, J_add, J_sub, J_mul, J_neg, J_nat, J_inb, J_div, ↓reduceIte, Int.toNat_natCast, Option.bind_some, J_le_t, J_le_f, J_lt_t, J_lt_f, J_eq_t, J_eq_f, L_lit, L_add, L_sub, L_mul, L_div, JL, LJ, Int.reduceToNat, Int.toNat_zero, Int.toNat_one, xb, xm, within_t, within_f, nb_t, nb_f, ni_t, ni_f, in_t, in_f, less_, bad_0, bad_1, not_true_eq_false, not_false_eq_true, L_lt_t, L_lt_f, L_eq_t, L_eq_f, lg_gt, lg_eq, lg_lt]
        simp [h]
    · rw [hA, if_pos (by simp)] at t1
      simp (disch := omega) only [sp_M_comes, f_M_comes, hq, v0, v1, v2, t1, J_lit, J_add, J_sub, J_mul, J_neg, J_nat, J_inb, J_div, ↓reduceIte, Int.toNat_natCast, Option.bind_some, J_le_t, J_le_f, J_lt_t, J_lt_f, J_eq_t, J_eq_f, L_lit, L_add, L_sub, L_mul, L_div, JL, LJ, Int.reduceToNat, Int.toNat_zero, Int.toNat_one, xb, xm, within_t, within_f, nb_t, nb_f, ni_t, ni_f, in_t, in_f, less_, bad_0, bad_1, not_true_eq_false, not_false_eq_true, L_lt_t, L_lt_f, L_eq_t, L_eq_f, lg_gt, lg_eq, lg_lt]
      simp [h]
  · simp (disch := omega) only [sp_M_comes, f_M_comes, hq, v0, J_lit, J_add, J_sub, J_mul, J_neg, J_nat, J_inb, J_div, ↓reduceIte, Int.toNat_natCast, Option.bind_some, J_le_t, J_le_f, J_lt_t, J_lt_f, J_eq_t, J_eq_f, L_lit, L_add, L_sub, L_mul, L_div, JL, LJ, Int.reduceToNat, Int.toNat_zero, Int.toNat_one, xb, xm, within_t, within_f, nb_t, nb_f, ni_t, ni_f, in_t, in_f, less_, bad_0, bad_1, not_true_eq_false, not_false_eq_true, L_lt_t, L_lt_f, L_eq_t, L_eq_f, lg_gt, lg_eq, lg_lt]
    simp [h]
set_option maxHeartbeats 2000000 in
theorem stpF_true (l : LA) (E : Nat → Nat → Nat) (h : Nat) (st : RS) : ∀ i, stpF l E (fun _ => true) h st i = stp l E h st i
  | 0 => rfl
  | i + 1 => by
    rw [stpF, stp, stpF_true l E h st i]
    simp
set_option maxHeartbeats 2000000 in
theorem run_plain (l : LA) (n : Nat) (E : Nat → Nat → Nat) (h : Nat) : runT l (TM l n E (fun _ => true) none) h = runA l n E h :=
  runT_cong l (fun i st => stpF_true l E i st n) h
def CI (n i k : Nat) (E E' : Nat → Nat → Nat) (cm : Nat → Bool) : Prop := k ≤ i ∧ (∀ (l : LA) h st, stp l E' h st k = stpF l E cm h st i) ∧ (∀ a, a < k → EOK (E' a)) ∧ (∀ a b, a ≤ b → b < k → E' a 3 ≤ E' b 3) ∧ ∀ a, a < k → ∀ b, i ≤ b → b < n → E' a 3 ≤ E b 3
set_option maxHeartbeats 2000000 in
theorem stp_cong (l : LA) {E E' : Nat → Nat → Nat} (h : Nat) (st : RS) : ∀ i, (∀ a, a < i → E a = E' a) → stp l E h st i = stp l E' h st i
  | 0, _ => rfl
  | i + 1, he => by rw [stp, stp, stp_cong l h st i (fun a ha => he a (by omega)), he i (by omega)]
set_option maxHeartbeats 2000000 in
theorem CI_0 (n : Nat) (E E' : Nat → Nat → Nat) (cm : Nat → Bool) : CI n 0 0 E E' cm := ⟨Nat.le_refl _, fun _ _ _ => rfl, fun a ha => by omega, fun a b _ hb => by omega, fun a ha => by omega⟩
set_option maxHeartbeats 2000000 in
theorem CI_add {n i k : Nat} {E E' : Nat → Nat → Nat} {cm : Nat → Bool} (hE : SOK n E) (hi : i < n) (C : CI n i k E E' cm) (hc : cm i = true) : CI n (i + 1) (k + 1) E (va_up E' k (E i)) cm := by
  obtain ⟨c1, c2, c3, c4, c5⟩ := C
  have hsame : ∀ a, a < k → va_up E' k (E i) a = E' a := fun a ha => pu_up_ne _ _ (by omega)
  refine ⟨by omega, fun l h st => ?_, fun a ha => ?_, fun a b hab hb => ?_, fun a ha b hb hbn => ?_⟩
  · rw [stp, stpF, va_up_eq, stp_cong l h st k hsame, c2]
    simp [hc]
  · by_cases hak : a = k
    · subst hak; rw [va_up_eq]; exact hE.2.1 i hi
    · rw [hsame a (by omega)]; exact c3 a (by omega)
  · by_cases hbk : b = k
    · subst hbk
      rw [va_up_eq]
      by_cases hak : a = b
      · subst hak; rw [va_up_eq]; exact Nat.le_refl _
      · rw [hsame a (by omega)]; exact c5 a (by omega) i (Nat.le_refl _) hi
    · rw [hsame a (by omega), hsame b (by omega)]; exact c4 a b hab (by omega)
  · by_cases hak : a = k
    · subst hak; rw [va_up_eq]; exact hE.2.2 i b (by omega) hbn
    · rw [hsame a (by omega)]; exact c5 a (by omega) b (by omega) hbn
set_option maxHeartbeats 2000000 in
theorem CI_skip {n i k : Nat} {E E' : Nat → Nat → Nat} {cm : Nat → Bool} (C : CI n i k E E' cm) (hc : cm i = false) : CI n (i + 1) k E E' cm := by
  obtain ⟨c1, c2, c3, c4, c5⟩ := C
  refine ⟨by omega, fun l h st => ?_, c3, c4, fun a ha b hb hbn => c5 a ha b (by omega) hbn⟩
  rw [stpF, c2, if_neg (by simp [hc])]
set_option maxHeartbeats 2000000 in
theorem SC_add {k : Nat} {E' : Nat → Nat → Nat} {e : Nat → Nat} {t1 t2 t3 t4 : Nat → Int32} (h : SC k E' t1 t2 t3 t4 (J k)) : SC (k + 1) (va_up E' k e) (upd t1 k (J (e 0))) (upd t2 k (J (e 1))) (upd t3 k (J (e 2))) (upd t4 k (J (e 3))) (J (k + 1 : Nat)) := by
  obtain ⟨h0, h1, h2, h3, h4⟩ := h
  refine ⟨rfl, fun i hi => ?_, fun i hi => ?_, fun i hi => ?_, fun i hi => ?_⟩
  all_goals
    unfold upd va_up
    by_cases hik : i = k
    · simp only [if_pos hik]
    · simp only [if_neg hik]
      first | exact h1 i (by omega) | exact h2 i (by omega) | exact h3 i (by omega) | exact h4 i (by omega)
set_option maxHeartbeats 2000000 in
theorem p_add (K : Nat) {k : Nat} (hk : k < 21) {E' : Nat → Nat → Nat} (e : Nat → Nat) {t1 t2 t3 t4 : Nat → Int32} (h : SC k E' t1 t2 t3 t4 (J k)) : ∃ u1 u2 u3 u4, sp_Story_add K (J (e 0)) (J (e 1)) (J (e 2)) (J (e 3)) t1 t2 t3 t4 (J k) = some (u1, u2, u3, u4, J (k + 1 : Nat)) ∧ SC (k + 1) (va_up E' k e) u1 u2 u3 u4 (J (k + 1 : Nat)) := by
  refine ⟨_, _, _, _, ?_, SC_add h⟩
  simp (disch := omega) only [sp_Story_add, cast1, J_lit, J_add, J_sub, J_mul, J_neg, J_nat, J_inb, J_div, ↓reduceIte, Int.toNat_natCast, Option.bind_some, J_le_t, J_le_f, J_lt_t, J_lt_f, J_eq_t, J_eq_f, L_lit, L_add, L_sub, L_mul, L_div, JL, LJ, Int.reduceToNat, Int.toNat_zero, Int.toNat_one, xb, xm, within_t, within_f, nb_t, nb_f, ni_t, ni_f, in_t, in_f, less_, bad_0, bad_1, not_true_eq_false, not_false_eq_true, L_lt_t, L_lt_f, L_eq_t, L_eq_f, lg_gt, lg_eq, lg_lt]
set_option maxHeartbeats 2000000 in
theorem p_addFrom (K : Nat) {k : Nat} (hk : k < 21) {n : Nat} (hn : n ≤ 21) {E E' : Nat → Nat → Nat} {t1 t2 t3 t4 p1 p2 p3 p4 : Nat → Int32} {pn : Int32} (h : SC k E' t1 t2 t3 t4 (J k)) (hp : SC n E p1 p2 p3 p4 pn) {i : Nat} (hi : i < n) : ∃ u1 u2 u3 u4, sp_Story_addFrom K (J i) t1 t2 t3 t4 (J k) p1 p2 p3 p4 pn = some (u1, u2, u3, u4, J (k + 1 : Nat)) ∧ SC (k + 1) (va_up E' k (E i)) u1 u2 u3 u4 (J (k + 1 : Nat)) := by
  obtain ⟨rfl, q1, q2, q3, q4⟩ := hp
  obtain ⟨u1, u2, u3, u4, a1, a2⟩ := p_add K hk (E i) h
  refine ⟨u1, u2, u3, u4, ?_, a2⟩
  simp (disch := omega) only [sp_Story_addFrom, q1 i hi, q2 i hi, q3 i hi, q4 i hi, a1, J_lit, J_add, J_sub, J_mul, J_neg, J_nat, J_inb, J_div, ↓reduceIte, Int.toNat_natCast, Option.bind_some, J_le_t, J_le_f, J_lt_t, J_lt_f, J_eq_t, J_eq_f, L_lit, L_add, L_sub, L_mul, L_div, JL, LJ, Int.reduceToNat, Int.toNat_zero, Int.toNat_one, xb, xm, within_t, within_f, nb_t, nb_f, ni_t, ni_f, in_t, in_f, less_, bad_0, bad_1, not_true_eq_false, not_false_eq_true, L_lt_t, L_lt_f, L_eq_t, L_eq_f, lg_gt, lg_eq, lg_lt]
set_option maxHeartbeats 2000000 in
theorem CI_sok {n k : Nat} {E E' : Nat → Nat → Nat} {cm : Nat → Bool} (hn : n ≤ 21) (C : CI n n k E E' cm) : SOK k E' := ⟨by have := C.1; omega, C.2.2.1, C.2.2.2.1⟩
set_option maxHeartbeats 2000000 in
theorem p_copyWithout (K : Nat) (hK : 1000 ≤ K) {n : Nat} {E : Nat → Nat → Nat} (hE : SOK n E) {p1 p2 p3 p4 : Nat → Int32} {pn : Int32} (hp : SC n E p1 p2 p3 p4 pn) {e : Nat} (he : e < 100) (t1 t2 t3 t4 : Nat → Int32) (tn : Int32) : ∃ (k : Nat) (E' : Nat → Nat → Nat) (u1 u2 u3 u4 : Nat → Int32), sp_Story_copyWithout K (J e) t1 t2 t3 t4 tn p1 p2 p3 p4 pn = some (u1, u2, u3, u4, J k) ∧ SC k E' u1 u2 u3 u4 (J k) ∧ CI n n k E E' (fun i => decide (i ≠ e)) := by
  have hn := hE.1
  have hp' := hp
  obtain ⟨rfl, q1, q2, q3, q4⟩ := hp
  obtain ⟨m, s, g1, ⟨k, E', u1, u2, u3, u4, rfl, hS, hC⟩, g3⟩ := lp (fun j s => f_Story_copyWithout K p1 p2 p3 p4 (J n) j 0 s) (fun i s => ∃ (k : Nat) (E' : Nat → Nat → Nat) (u1 u2 u3 u4 : Nat → Int32), s = (J e, J i, u1, u2, u3, u4, J k) ∧ SC k E' u1 u2 u3 u4 (J k) ∧ CI n i k E E' (fun i => decide (i ≠ e))) 2 n (by
    rintro i hi s ⟨k, E', u1, u2, u3, u4, rfl, hS, hC⟩ m
    by_cases hie : i = e
    · refine ⟨m, _, by omega, ⟨k, E', u1, u2, u3, u4, rfl, hS, CI_skip hC (by simp [hie])⟩, ?_⟩
      simp (disch := omega) only [f_Story_copyWithout, cast1, J_lit, J_add, J_sub, J_mul, J_neg, J_nat, J_inb, J_div, ↓reduceIte, Int.toNat_natCast, Option.bind_some, J_le_t, J_le_f, J_lt_t, J_lt_f, J_eq_t, J_eq_f, L_lit, L_add, L_sub, L_mul, L_div, JL, LJ, Int.reduceToNat, Int.toNat_zero, Int.toNat_one, xb, xm, within_t, within_f, nb_t, nb_f, ni_t, ni_f, in_t, in_f, less_, bad_0, bad_1, not_true_eq_false, not_false_eq_true, L_lt_t, L_lt_f, L_eq_t, L_eq_f, lg_gt, lg_eq, lg_lt]
    · have hk := hC.1
      obtain ⟨v1, v2, v3, v4, a1, a2⟩ := p_addFrom K (show k < 21 by omega) hn hS hp' hi
      refine ⟨m, _, by omega, ⟨k + 1, _, v1, v2, v3, v4, rfl, a2, CI_add hE hi hC (by simp [hie])⟩, ?_⟩
      simp (disch := omega) only [f_Story_copyWithout, a1, cast1, J_lit, J_add, J_sub, J_mul, J_neg, J_nat, J_inb, J_div, ↓reduceIte, Int.toNat_natCast, Option.bind_some, J_le_t, J_le_f, J_lt_t, J_lt_f, J_eq_t, J_eq_f, L_lit, L_add, L_sub, L_mul, L_div, JL, LJ, Int.reduceToNat, Int.toNat_zero, Int.toNat_one, xb, xm, within_t, within_f, nb_t, nb_f, ni_t, ni_f, in_t, in_f, less_, bad_0, bad_1, not_true_eq_false, not_false_eq_true, L_lt_t, L_lt_f, L_eq_t, L_eq_f, lg_gt, lg_eq, lg_lt]) (J e, J 0, t1, t2, t3, t4, J 0) ⟨0, fun _ _ => 0, t1, t2, t3, t4, rfl, ⟨rfl, fun i hi => by omega, fun i hi => by omega, fun i hi => by omega, fun i hi => by omega⟩, CI_0 _ _ _ _⟩ K (by omega)
  obtain ⟨m, rfl⟩ : ∃ k, m = k + 1 := ⟨m - 1, by omega⟩
  refine ⟨k, E', u1, u2, u3, u4, ?_, hS, hC⟩
  have e0 : sp_Story_copyWithout K (J e) t1 t2 t3 t4 tn p1 p2 p3 p4 (J n) = f_Story_copyWithout K p1 p2 p3 p4 (J n) K 0 (J e, J 0, t1, t2, t3, t4, J 0) := by
    simp (disch := omega) only [sp_Story_copyWithout, J_lit, J_add, J_sub, J_mul, J_neg, J_nat, J_inb, J_div, ↓reduceIte, Int.toNat_natCast, Option.bind_some, J_le_t, J_le_f, J_lt_t, J_lt_f, J_eq_t, J_eq_f, L_lit, L_add, L_sub, L_mul, L_div, JL, LJ, Int.reduceToNat, Int.toNat_zero, Int.toNat_one, xb, xm, within_t, within_f, nb_t, nb_f, ni_t, ni_f, in_t, in_f, less_, bad_0, bad_1, not_true_eq_false, not_false_eq_true, L_lt_t, L_lt_f, L_eq_t, L_eq_f, lg_gt, lg_eq, lg_lt]
  rw [e0, g3]
  simp (disch := omega) only [f_Story_copyWithout, J_lit, J_add, J_sub, J_mul, J_neg, J_nat, J_inb, J_div, ↓reduceIte, Int.toNat_natCast, Option.bind_some, J_le_t, J_le_f, J_lt_t, J_lt_f, J_eq_t, J_eq_f, L_lit, L_add, L_sub, L_mul, L_div, JL, LJ, Int.reduceToNat, Int.toNat_zero, Int.toNat_one, xb, xm, within_t, within_f, nb_t, nb_f, ni_t, ni_f, in_t, in_f, less_, bad_0, bad_1, not_true_eq_false, not_false_eq_true, L_lt_t, L_lt_f, L_eq_t, L_eq_f, lg_gt, lg_eq, lg_lt]
set_option maxHeartbeats 2000000 in
theorem touches_ (K : Nat) (hK : 1000 ≤ K) {n : Nat} (hn : n ≤ 21) {E : Nat → Nat → Nat} {p2 p3 : Nat → Int32} {i : Nat} (hi : i < n) (q2 : p2 i = J (E i 1)) (q3 : p3 i = J (E i 2)) (h1 : E i 1 < 100) (h2 : E i 2 < 100) {a b : Nat} (ha : a < 100) (hb : b < 100) : sp_Story_touches K (J i) (J a) (J b) p2 p3 (J n) = some (J (if two2 (E i 1) (E i 2) b a = true then 1 else 0)) := by
  obtain ⟨k, rfl⟩ : ∃ k, K = k + 2 := ⟨K - 2, by omega⟩
  have hT : two2 (E i 1) (E i 2) b a = true ↔ (E i 1 = b ∧ E i 2 = a) ∨ (E i 1 = a ∧ E i 2 = b) := by simp [two2]
  by_cases c1 : E i 1 = a ∧ E i 2 = b
  · rw [if_pos (hT.mpr (Or.inr c1))]
    simp (disch := omega) only [sp_Story_touches, f_Story_touches, q2, q3, J_lit, J_add, J_sub, J_mul, J_neg, J_nat, J_inb, J_div, ↓reduceIte, Int.toNat_natCast, Option.bind_some, J_le_t, J_le_f, J_lt_t, J_lt_f, J_eq_t, J_eq_f, L_lit, L_add, L_sub, L_mul, L_div, JL, LJ, Int.reduceToNat, Int.toNat_zero, Int.toNat_one, xb, xm, within_t, within_f, nb_t, nb_f, ni_t, ni_f, in_t, in_f, less_, bad_0, bad_1, not_true_eq_false, not_false_eq_true, L_lt_t, L_lt_f, L_eq_t, L_eq_f, lg_gt, lg_eq, lg_lt]
  · by_cases c3 : E i 1 = b ∧ E i 2 = a
    · rw [if_pos (hT.mpr (Or.inl c3))]
      by_cases h4 : E i 1 = a
      · exfalso; clear hT; omega
      · simp (disch := omega) only [sp_Story_touches, f_Story_touches, q2, q3, J_lit, J_add, J_sub, J_mul, J_neg, J_nat, J_inb, J_div, ↓reduceIte, Int.toNat_natCast, Option.bind_some, J_le_t, J_le_f, J_lt_t, J_lt_f, J_eq_t, J_eq_f, L_lit, L_add, L_sub, L_mul, L_div, JL, LJ, Int.reduceToNat, Int.toNat_zero, Int.toNat_one, xb, xm, within_t, within_f, nb_t, nb_f, ni_t, ni_f, in_t, in_f, less_, bad_0, bad_1, not_true_eq_false, not_false_eq_true, L_lt_t, L_lt_f, L_eq_t, L_eq_f, lg_gt, lg_eq, lg_lt]
    · rw [if_neg (fun h => (hT.mp h).elim c3 c1)]
      clear hT
      by_cases h4 : E i 1 = a
      · by_cases h5 : E i 1 = b
        · simp (disch := omega) only [sp_Story_touches, f_Story_touches, q2, q3, J_lit, J_add, J_sub, J_mul, J_neg, J_nat, J_inb, J_div, ↓reduceIte, Int.toNat_natCast, Option.bind_some, J_le_t, J_le_f, J_lt_t, J_lt_f, J_eq_t, J_eq_f, L_lit, L_add, L_sub, L_mul, L_div, JL, LJ, Int.reduceToNat, Int.toNat_zero, Int.toNat_one, xb, xm, within_t, within_f, nb_t, nb_f, ni_t, ni_f, in_t, in_f, less_, bad_0, bad_1, not_true_eq_false, not_false_eq_true, L_lt_t, L_lt_f, L_eq_t, L_eq_f, lg_gt, lg_eq, lg_lt]
        · simp (disch := omega) only [sp_Story_touches, f_Story_touches, q2, q3, J_lit, J_add, J_sub, J_mul, J_neg, J_nat, J_inb, J_div, ↓reduceIte, Int.toNat_natCast, Option.bind_some, J_le_t, J_le_f, J_lt_t, J_lt_f, J_eq_t, J_eq_f, L_lit, L_add, L_sub, L_mul, L_div, JL, LJ, Int.reduceToNat, Int.toNat_zero, Int.toNat_one, xb, xm, within_t, within_f, nb_t, nb_f, ni_t, ni_f, in_t, in_f, less_, bad_0, bad_1, not_true_eq_false, not_false_eq_true, L_lt_t, L_lt_f, L_eq_t, L_eq_f, lg_gt, lg_eq, lg_lt]
      · by_cases h5 : E i 1 = b
        · simp (disch := omega) only [sp_Story_touches, f_Story_touches, q2, q3, J_lit, J_add, J_sub, J_mul, J_neg, J_nat, J_inb, J_div, ↓reduceIte, Int.toNat_natCast, Option.bind_some, J_le_t, J_le_f, J_lt_t, J_lt_f, J_eq_t, J_eq_f, L_lit, L_add, L_sub, L_mul, L_div, JL, LJ, Int.reduceToNat, Int.toNat_zero, Int.toNat_one, xb, xm, within_t, within_f, nb_t, nb_f, ni_t, ni_f, in_t, in_f, less_, bad_0, bad_1, not_true_eq_false, not_false_eq_true, L_lt_t, L_lt_f, L_eq_t, L_eq_f, lg_gt, lg_eq, lg_lt]
        · simp (disch := omega) only [sp_Story_touches, f_Story_touches, q2, q3, J_lit, J_add, J_sub, J_mul, J_neg, J_nat, J_inb, J_div, ↓reduceIte, Int.toNat_natCast, Option.bind_some, J_le_t, J_le_f, J_lt_t, J_lt_f, J_eq_t, J_eq_f, L_lit, L_add, L_sub, L_mul, L_div, JL, LJ, Int.reduceToNat, Int.toNat_zero, Int.toNat_one, xb, xm, within_t, within_f, nb_t, nb_f, ni_t, ni_f, in_t, in_f, less_, bad_0, bad_1, not_true_eq_false, not_false_eq_true, L_lt_t, L_lt_f, L_eq_t, L_eq_f, lg_gt, lg_eq, lg_lt]
set_option maxHeartbeats 2000000 in
theorem p_copyByWay (K : Nat) (hK : 1000 ≤ K) {n : Nat} {E : Nat → Nat → Nat} (hE : SOK n E) {p1 p2 p3 p4 : Nat → Int32} {pn : Int32} (hp : SC n E p1 p2 p3 p4 pn) {a b c : Nat} (ha : a < 10) (hb : b < 10) (hc : c < 10) (t1 t2 t3 t4 : Nat → Int32) (tn : Int32) : ∃ (k : Nat) (E' : Nat → Nat → Nat) (u1 u2 u3 u4 : Nat → Int32), sp_Story_copyByWay K (J a) (J b) (J c) t1 t2 t3 t4 tn p1 p2 p3 p4 pn = some (u1, u2, u3, u4, J k) ∧ SC k E' u1 u2 u3 u4 (J k) ∧ CI n n k E E' (fun i => wayB a b c (E i)) := by
  have hn := hE.1
  have hp' := hp
  obtain ⟨rfl, q1, q2, q3, q4⟩ := hp
  obtain ⟨m, s, g1, ⟨k, E', u1, u2, u3, u4, rfl, hS, hC⟩, g3⟩ := lp (fun j s => f_Story_copyByWay K p1 p2 p3 p4 (J n) j 0 s) (fun i s => ∃ (k : Nat) (E' : Nat → Nat → Nat) (u1 u2 u3 u4 : Nat → Int32), s = (J a, J b, J c, J i, u1, u2, u3, u4, J k) ∧ SC k E' u1 u2 u3 u4 (J k) ∧ CI n i k E E' (fun i => wayB a b c (E i))) 3 n (by
    rintro i hi s ⟨k, E', u1, u2, u3, u4, rfl, hS, hC⟩ m
    obtain ⟨o1, o2, o3, o4, o5, o6⟩ := hE.2.1 i hi
    have T1 := touches_ K hK hn hi (q2 i hi) (q3 i hi) (by omega) (by omega) (a := c) (b := a) (by omega) (by omega)
    have T2 := touches_ K hK hn hi (q2 i hi) (q3 i hi) (by omega) (by omega) (a := c) (b := b) (by omega) (by omega)
    have e1 := q1 i hi
    have add : ∀ k', ∃ (v1 v2 v3 v4 : Nat → Int32), f_Story_copyByWay K p1 p2 p3 p4 (J n) (k' + 2) 1 (J a, J b, J c, J i, u1, u2, u3, u4, J k) = f_Story_copyByWay K p1 p2 p3 p4 (J n) k' 0 (J a, J b, J c, J (i + 1 : Nat), v1, v2, v3, v4, J (k + 1 : Nat)) ∧ SC (k + 1) (va_up E' k (E i)) v1 v2 v3 v4 (J (k + 1 : Nat)) := fun k' => by
      have hk := hC.1
      obtain ⟨v1, v2, v3, v4, a1, a2⟩ := p_addFrom K (show k < 21 by omega) hn hS hp' hi
      refine ⟨v1, v2, v3, v4, ?_, a2⟩
      simp (disch := omega) only [f_Story_copyByWay, a1, cast1, J_lit, J_add, J_sub, J_mul, J_neg, J_nat, J_inb, J_div, ↓reduceIte, Int.toNat_natCast, Option.bind_some, J_le_t, J_le_f, J_lt_t, J_lt_f, J_eq_t, J_eq_f, L_lit, L_add, L_sub, L_mul, L_div, JL, LJ, Int.reduceToNat, Int.toNat_zero, Int.toNat_one, xb, xm, within_t, within_f, nb_t, nb_f, ni_t, ni_f, in_t, in_f, less_, bad_0, bad_1, not_true_eq_false, not_false_eq_true, L_lt_t, L_lt_f, L_eq_t, L_eq_f, lg_gt, lg_eq, lg_lt]
    cases hw : wayB a b c (E i)
    · have hw' := hw
      unfold wayB at hw'
      simp only [Bool.or_eq_false_iff, decide_eq_false_iff_not, Decidable.not_not] at hw'
      obtain ⟨⟨w0, w1⟩, w2⟩ := hw'
      rw [w1, if_neg (by simp)] at T1
      rw [w2, if_neg (by simp)] at T2
      refine ⟨m + 1, _, by omega, ⟨k, E', u1, u2, u3, u4, rfl, hS, CI_skip hC hw⟩, ?_⟩
      have : ∀ k', f_Story_copyByWay K p1 p2 p3 p4 (J n) (k' + 2) 0 (J a, J b, J c, J i, u1, u2, u3, u4, J k) = f_Story_copyByWay K p1 p2 p3 p4 (J n) k' 0 (J a, J b, J c, J (i + 1 : Nat), u1, u2, u3, u4, J k) := fun k' => by
        simp (disch := omega) only [f_Story_copyByWay, e1, w0, T1, T2, cast1, J_lit, J_add, J_sub, J_mul, J_neg, J_nat, J_inb, J_div, ↓reduceIte, Int.toNat_natCast, Option.bind_some, J_le_t, J_le_f, J_lt_t, J_lt_f, J_eq_t, J_eq_f, L_lit, L_add, L_sub, L_mul, L_div, JL, LJ, Int.reduceToNat, Int.toNat_zero, Int.toNat_one, xb, xm, within_t, within_f, nb_t, nb_f, ni_t, ni_f, in_t, in_f, less_, bad_0, bad_1, not_true_eq_false, not_false_eq_true, L_lt_t, L_lt_f, L_eq_t, L_eq_f, lg_gt, lg_eq, lg_lt]
      exact this (m + 1)
    · have st1 : ∀ k', f_Story_copyByWay K p1 p2 p3 p4 (J n) (k' + 1) 0 (J a, J b, J c, J i, u1, u2, u3, u4, J k) = f_Story_copyByWay K p1 p2 p3 p4 (J n) k' 1 (J a, J b, J c, J i, u1, u2, u3, u4, J k) := fun k' => by
        by_cases w0 : E i 0 = 2
        · cases w1 : two2 (E i 1) (E i 2) a c
          · rw [w1, if_neg (by simp)] at T1
            have w2 : two2 (E i 1) (E i 2) b c = true := by
              unfold wayB at hw
              simpa [w0, w1] using hw
            rw [w2, if_pos rfl] at T2
            simp (disch := omega) only [f_Story_copyByWay, e1, w0, T1, T2, J_lit, J_add, J_sub, J_mul, J_neg, J_nat, J_inb, J_div, ↓reduceIte, Int.toNat_natCast, Option.bind_some, J_le_t, J_le_f, J_lt_t, J_lt_f, J_eq_t, J_eq_f, L_lit, L_add, L_sub, L_mul, L_div, JL, LJ, Int.reduceToNat, Int.toNat_zero, Int.toNat_one, xb, xm, within_t, within_f, nb_t, nb_f, ni_t, ni_f, in_t, in_f, less_, bad_0, bad_1, not_true_eq_false, not_false_eq_true, L_lt_t, L_lt_f, L_eq_t, L_eq_f, lg_gt, lg_eq, lg_lt]
          · rw [w1, if_pos rfl] at T1
            simp (disch := omega) only [f_Story_copyByWay, e1, w0, T1, J_lit, J_add, J_sub, J_mul, J_neg, J_nat, J_inb, J_div, ↓reduceIte, Int.toNat_natCast, Option.bind_some, J_le_t, J_le_f, J_lt_t, J_lt_f, J_eq_t, J_eq_f, L_lit, L_add, L_sub, L_mul, L_div, JL, LJ, Int.reduceToNat, Int.toNat_zero, Int.toNat_one, xb, xm, within_t, within_f, nb_t, nb_f, ni_t, ni_f, in_t, in_f, less_, bad_0, bad_1, not_true_eq_false, not_false_eq_true, L_lt_t, L_lt_f, L_eq_t, L_eq_f, lg_gt, lg_eq, lg_lt]
        · simp (disch := omega) only [f_Story_copyByWay, e1, J_lit, J_add, J_sub, J_mul, J_neg, J_nat, J_inb, J_div, ↓reduceIte, Int.toNat_natCast, Option.bind_some, J_le_t, J_le_f, J_lt_t, J_lt_f, J_eq_t, J_eq_f, L_lit, L_add, L_sub, L_mul, L_div, JL, LJ, Int.reduceToNat, Int.toNat_zero, Int.toNat_one, xb, xm, within_t, within_f, nb_t, nb_f, ni_t, ni_f, in_t, in_f, less_, bad_0, bad_1, not_true_eq_false, not_false_eq_true, L_lt_t, L_lt_f, L_eq_t, L_eq_f, lg_gt, lg_eq, lg_lt]
      obtain ⟨v1, v2, v3, v4, a1, a2⟩ := add m
      refine ⟨m, _, by omega, ⟨k + 1, _, v1, v2, v3, v4, rfl, a2, CI_add hE hi hC hw⟩, ?_⟩
      rw [st1 (m + 2)]; exact a1) (J a, J b, J c, J 0, t1, t2, t3, t4, J 0) ⟨0, fun _ _ => 0, t1, t2, t3, t4, rfl, ⟨rfl, fun i hi => by omega, fun i hi => by omega, fun i hi => by omega, fun i hi => by omega⟩, CI_0 _ _ _ _⟩ K (by omega)
  obtain ⟨m, rfl⟩ : ∃ k, m = k + 1 := ⟨m - 1, by omega⟩
  refine ⟨k, E', u1, u2, u3, u4, ?_, hS, hC⟩
  have e0 : sp_Story_copyByWay K (J a) (J b) (J c) t1 t2 t3 t4 tn p1 p2 p3 p4 (J n) = f_Story_copyByWay K p1 p2 p3 p4 (J n) K 0 (J a, J b, J c, J 0, t1, t2, t3, t4, J 0) := by
    simp (disch := omega) only [sp_Story_copyByWay, J_lit, J_add, J_sub, J_mul, J_neg, J_nat, J_inb, J_div, ↓reduceIte, Int.toNat_natCast, Option.bind_some, J_le_t, J_le_f, J_lt_t, J_lt_f, J_eq_t, J_eq_f, L_lit, L_add, L_sub, L_mul, L_div, JL, LJ, Int.reduceToNat, Int.toNat_zero, Int.toNat_one, xb, xm, within_t, within_f, nb_t, nb_f, ni_t, ni_f, in_t, in_f, less_, bad_0, bad_1, not_true_eq_false, not_false_eq_true, L_lt_t, L_lt_f, L_eq_t, L_eq_f, lg_gt, lg_eq, lg_lt]
  rw [e0, g3]
  simp (disch := omega) only [f_Story_copyByWay, J_lit, J_add, J_sub, J_mul, J_neg, J_nat, J_inb, J_div, ↓reduceIte, Int.toNat_natCast, Option.bind_some, J_le_t, J_le_f, J_lt_t, J_lt_f, J_eq_t, J_eq_f, L_lit, L_add, L_sub, L_mul, L_div, JL, LJ, Int.reduceToNat, Int.toNat_zero, Int.toNat_one, xb, xm, within_t, within_f, nb_t, nb_f, ni_t, ni_f, in_t, in_f, less_, bad_0, bad_1, not_true_eq_false, not_false_eq_true, L_lt_t, L_lt_f, L_eq_t, L_eq_f, lg_gt, lg_eq, lg_lt]
set_option maxHeartbeats 2000000 in
theorem p_eventsUntil (K : Nat) (hK : 1000 ≤ K) {n : Nat} {E : Nat → Nat → Nat} (hE : SOK n E) {p4 : Nat → Int32} (q4 : ∀ i, i < n → p4 i = J (E i 3)) {h : Nat} (hh : h < 100) : ∃ c : Nat, sp_Story_eventsUntil K (J h) p4 (J n) = some (J c) ∧ c ≤ n ∧ (∀ a, a < c → E a 3 ≤ h) ∧ ∀ a, c ≤ a → a < n → h < E a 3 := by
  have hn := hE.1
  obtain ⟨m, s, g1, ⟨c, rfl, c1, c2, c3⟩, g3⟩ := lp (fun j s => f_Story_eventsUntil K p4 (J n) j 0 s) (fun i s => ∃ c : Nat, s = (J h, J c, J i) ∧ c ≤ i ∧ (∀ a, a < c → E a 3 ≤ h) ∧ ∀ a, c ≤ a → a < i → h < E a 3) 2 n (by
    rintro i hi s ⟨c, rfl, c1, c2, c3⟩ m
    have e4 := q4 i hi
    have hlt : E i 3 < 100 := (hE.2.1 i hi).2.2.2.2.2
    by_cases hc : h < E i 3
    · refine ⟨m, _, by omega, ⟨c, rfl, by omega, c2, fun a h1 h2 => ?_⟩, by simp (disch := omega) only [f_Story_eventsUntil, e4, cast1, J_lit, J_add, J_sub, J_mul, J_neg, J_nat, J_inb, J_div, ↓reduceIte, Int.toNat_natCast, Option.bind_some, J_le_t, J_le_f, J_lt_t, J_lt_f, J_eq_t, J_eq_f, L_lit, L_add, L_sub, L_mul, L_div, JL, LJ, Int.reduceToNat, Int.toNat_zero, Int.toNat_one, xb, xm, within_t, within_f, nb_t, nb_f, ni_t, ni_f, in_t, in_f, less_, bad_0, bad_1, not_true_eq_false, not_false_eq_true, L_lt_t, L_lt_f, L_eq_t, L_eq_f, lg_gt, lg_eq, lg_lt]⟩
      by_cases hai : a = i
      · subst hai; exact hc
      · exact c3 a h1 (by omega)
    · obtain rfl : c = i := by
        by_cases hci : c = i
        · exact hci
        · have h1 := c3 c (Nat.le_refl _) (by omega)
          have h2 := hE.2.2 c i c1 hi
          omega
      refine ⟨m, _, by omega, ⟨c + 1, rfl, by omega, fun a ha => ?_, fun a h1 h2 => by omega⟩, by simp (disch := omega) only [f_Story_eventsUntil, e4, cast1, J_lit, J_add, J_sub, J_mul, J_neg, J_nat, J_inb, J_div, ↓reduceIte, Int.toNat_natCast, Option.bind_some, J_le_t, J_le_f, J_lt_t, J_lt_f, J_eq_t, J_eq_f, L_lit, L_add, L_sub, L_mul, L_div, JL, LJ, Int.reduceToNat, Int.toNat_zero, Int.toNat_one, xb, xm, within_t, within_f, nb_t, nb_f, ni_t, ni_f, in_t, in_f, less_, bad_0, bad_1, not_true_eq_false, not_false_eq_true, L_lt_t, L_lt_f, L_eq_t, L_eq_f, lg_gt, lg_eq, lg_lt]⟩
      by_cases hai : a = c
      · subst hai; omega
      · exact c2 a (by omega)) (J h, J 0, J 0) ⟨0, rfl, Nat.le_refl _, fun a ha => by omega, fun a _ ha => by omega⟩ K (by omega)
  obtain ⟨m, rfl⟩ : ∃ k, m = k + 1 := ⟨m - 1, by omega⟩
  refine ⟨c, ?_, c1, c2, c3⟩
  have e0 : sp_Story_eventsUntil K (J h) p4 (J n) = f_Story_eventsUntil K p4 (J n) K 0 (J h, J 0, J 0) := by
    simp (disch := omega) only [sp_Story_eventsUntil, J_lit, J_add, J_sub, J_mul, J_neg, J_nat, J_inb, J_div, ↓reduceIte, Int.toNat_natCast, Option.bind_some, J_le_t, J_le_f, J_lt_t, J_lt_f, J_eq_t, J_eq_f, L_lit, L_add, L_sub, L_mul, L_div, JL, LJ, Int.reduceToNat, Int.toNat_zero, Int.toNat_one, xb, xm, within_t, within_f, nb_t, nb_f, ni_t, ni_f, in_t, in_f, less_, bad_0, bad_1, not_true_eq_false, not_false_eq_true, L_lt_t, L_lt_f, L_eq_t, L_eq_f, lg_gt, lg_eq, lg_lt]
  rw [e0, g3]
  simp (disch := omega) only [f_Story_eventsUntil, J_lit, J_add, J_sub, J_mul, J_neg, J_nat, J_inb, J_div, ↓reduceIte, Int.toNat_natCast, Option.bind_some, J_le_t, J_le_f, J_lt_t, J_lt_f, J_eq_t, J_eq_f, L_lit, L_add, L_sub, L_mul, L_div, JL, LJ, Int.reduceToNat, Int.toNat_zero, Int.toNat_one, xb, xm, within_t, within_f, nb_t, nb_f, ni_t, ni_f, in_t, in_f, less_, bad_0, bad_1, not_true_eq_false, not_false_eq_true, L_lt_t, L_lt_f, L_eq_t, L_eq_f, lg_gt, lg_eq, lg_lt]
def tev (a b h : Nat) : Nat → Nat := fun c => if c = 0 then 2 else if c = 1 then a else if c = 2 then b else h
def BI (n a b H i : Nat) (E E' : Nat → Nat → Nat) : Prop := (∀ (l : LA) h st, stp l E' h st (i + 1) = extr l (some (a, b, H)) h (stp l E h st i)) ∧ (∀ q, q < i + 1 → EOK (E' q)) ∧ (∀ q r, q ≤ r → r < i + 1 → E' q 3 ≤ E' r 3) ∧ ∀ q, q < i + 1 → ∀ r, i ≤ r → r < n → E' q 3 ≤ E r 3
set_option maxHeartbeats 2000000 in
theorem p_copyWithTouch (K : Nat) (hK : 1000 ≤ K) {n : Nat} (hn : n ≤ 20) {E : Nat → Nat → Nat} (hE : SOK n E) {p1 p2 p3 p4 : Nat → Int32} {pn : Int32} (hp : SC n E p1 p2 p3 p4 pn) {a b H : Nat} (ha : a < 10) (hb : b < 10) (hab : b ≠ a) (hH : H < 100) (t1 t2 t3 t4 : Nat → Int32) (tn : Int32) : ∃ (k : Nat) (E' : Nat → Nat → Nat) (u1 u2 u3 u4 : Nat → Int32), sp_Story_copyWithTouch K (J a) (J b) (J H) t1 t2 t3 t4 tn p1 p2 p3 p4 pn = some (u1, u2, u3, u4, J k) ∧ SC k E' u1 u2 u3 u4 (J k) ∧ SOK k E' ∧ ∀ (l : LA) h st, stp l E' h st k = extr l (some (a, b, H)) h (stp l E h st n) := by
  have hp' := hp
  obtain ⟨rfl, q1, q2, q3, q4⟩ := hp
  obtain ⟨c, x1, x2, x3, x4⟩ := p_eventsUntil K hK hE q4 hH
  obtain ⟨m, s, g1, ⟨E1, u1, u2, u3, u4, rfl, hS, hC, hQ⟩, g3⟩ := lp (fun j s => f_Story_copyWithTouch K p1 p2 p3 p4 (J n) j 0 s) (fun i s => ∃ (E' : Nat → Nat → Nat) (u1 u2 u3 u4 : Nat → Int32), s = (J a, J b, J H, J c, J i, u1, u2, u3, u4, J i) ∧ SC i E' u1 u2 u3 u4 (J i) ∧ CI n i i E E' (fun _ => true) ∧ ∀ q, q < i → E' q = E q) 1 c (by
    rintro i hi s ⟨E', u1, u2, u3, u4, rfl, hS, hC, hQ⟩ m
    obtain ⟨v1, v2, v3, v4, a1, a2⟩ := p_addFrom K (show i < 21 by omega) (by omega) hS hp' (show i < n by omega)
    refine ⟨m, _, by omega, ⟨_, v1, v2, v3, v4, rfl, a2, CI_add hE (by omega) hC rfl, fun q hq => ?_⟩, ?_⟩
    · by_cases hqi : q = i
      · subst hqi; rw [va_up_eq]
      · rw [pu_up_ne _ _ hqi]; exact hQ q (by omega)
    simp (disch := omega) only [f_Story_copyWithTouch, a1, cast1, J_lit, J_add, J_sub, J_mul, J_neg, J_nat, J_inb, J_div, ↓reduceIte, Int.toNat_natCast, Option.bind_some, J_le_t, J_le_f, J_lt_t, J_lt_f, J_eq_t, J_eq_f, L_lit, L_add, L_sub, L_mul, L_div, JL, LJ, Int.reduceToNat, Int.toNat_zero, Int.toNat_one, xb, xm, within_t, within_f, nb_t, nb_f, ni_t, ni_f, in_t, in_f, less_, bad_0, bad_1, not_true_eq_false, not_false_eq_true, L_lt_t, L_lt_f, L_eq_t, L_eq_f, lg_gt, lg_eq, lg_lt]) (J a, J b, J H, J c, J 0, t1, t2, t3, t4, J 0) ⟨fun _ _ => 0, t1, t2, t3, t4, rfl, ⟨rfl, fun i hi => by omega, fun i hi => by omega, fun i hi => by omega, fun i hi => by omega⟩, CI_0 _ _ _ _, fun q hq => by omega⟩ K (by omega)
  obtain ⟨m, rfl⟩ : ∃ k, m = k + 1 := ⟨m - 1, by omega⟩
  obtain ⟨v1, v2, v3, v4, a1, a2⟩ := p_add K (show c < 21 by omega) (tev a b H) hS
  have st1 : ∀ k, f_Story_copyWithTouch K p1 p2 p3 p4 (J n) (k + 1) 0 (J a, J b, J H, J c, J c, u1, u2, u3, u4, J c) = f_Story_copyWithTouch K p1 p2 p3 p4 (J n) k 1 (J 0, J 0, J 0, J 0, J c, v1, v2, v3, v4, J (c + 1 : Nat)) := fun k => by
    have a1' : sp_Story_add K (J 2) (J a) (J b) (J H) u1 u2 u3 u4 (J c) = some (v1, v2, v3, v4, J (c + 1 : Nat)) := a1
    simp (disch := omega) only [f_Story_copyWithTouch, a1', J_lit, J_add, J_sub, J_mul, J_neg, J_nat, J_inb, J_div, ↓reduceIte, Int.toNat_natCast, Option.bind_some, J_le_t, J_le_f, J_lt_t, J_lt_f, J_eq_t, J_eq_f, L_lit, L_add, L_sub, L_mul, L_div, JL, LJ, Int.reduceToNat, Int.toNat_zero, Int.toNat_one, xb, xm, within_t, within_f, nb_t, nb_f, ni_t, ni_f, in_t, in_f, less_, bad_0, bad_1, not_true_eq_false, not_false_eq_true, L_lt_t, L_lt_f, L_eq_t, L_eq_f, lg_gt, lg_eq, lg_lt]
  have hB : BI n a b H c E (va_up E1 c (tev a b H)) := by
    obtain ⟨c1, c2, c3, c4, c5⟩ := hC
    have hsame : ∀ q, q < c → va_up E1 c (tev a b H) q = E1 q := fun q hq => pu_up_ne _ _ (by omega)
    refine ⟨fun l h st => ?_, fun q hq => ?_, fun q r hqr hr => ?_, fun q hq r hr hrn => ?_⟩
    · rw [stp, va_up_eq, stp_cong l h st c hsame, c2, stpF_true]
      rfl
    · by_cases hqc : q = c
      · subst hqc; rw [va_up_eq]
        exact ⟨(by show 2 ≤ 4; omega), ha, fun h => absurd h (by show ¬ (2 = 0); omega), fun _ => ⟨hb, hab⟩, (by show b ≤ 16; omega), hH⟩
      · rw [hsame q (by omega)]; exact c3 q (by omega)
    · by_cases hrc : r = c
      · subst hrc
        rw [va_up_eq]
        by_cases hqc : q = r
        · subst hqc; rw [va_up_eq]; exact Nat.le_refl _
        · rw [hsame q (by omega)]
          show E1 q 3 ≤ H
          rw [hQ q (by omega)]
          exact x3 q (by omega)
      · rw [hsame q (by omega), hsame r (by omega)]; exact c4 q r hqr (by omega)
    · by_cases hqc : q = c
      · subst hqc; rw [va_up_eq]
        have := x4 r hr hrn
        show H ≤ E r 3
        omega
      · rw [hsame q (by omega)]; exact c5 q (by omega) r hr hrn
  obtain ⟨m2, s2, k1, ⟨E2, w1, w2, w3, w4, rfl, hS2, hB2⟩, k3⟩ := lp (fun j s => f_Story_copyWithTouch K p1 p2 p3 p4 (J n) j 1 s) (fun i s => ∃ (E' : Nat → Nat → Nat) (u1 u2 u3 u4 : Nat → Int32), s = (J 0, J 0, J 0, J 0, J (c + i : Nat), u1, u2, u3, u4, J (c + i + 1 : Nat)) ∧ SC (c + i + 1) E' u1 u2 u3 u4 (J (c + i + 1 : Nat)) ∧ BI n a b H (c + i) E E') 1 (n - c) (by
    rintro i hi s ⟨E', u1, u2, u3, u4, rfl, hS, hB⟩ m
    obtain ⟨v1, v2, v3, v4, a1, a2⟩ := p_addFrom K (show c + i + 1 < 21 by omega) (by omega) hS hp' (show c + i < n by omega)
    refine ⟨m, _, by omega, ⟨_, v1, v2, v3, v4, rfl, a2, ?_⟩, ?_⟩
    · obtain ⟨b1, b2, b3, b4⟩ := hB
      have hgt := x4 (c + i) (by omega) (by omega)
      have hsame : ∀ q, q < c + i + 1 → va_up E' (c + i + 1) (E (c + i)) q = E' q := fun q hq => pu_up_ne _ _ (by omega)
      refine ⟨fun l h st => ?_, fun q hq => ?_, fun q r hqr hr => ?_, fun q hq r hr hrn => ?_⟩
      · rw [show c + (i + 1) + 1 = c + i + 1 + 1 by omega, stp, va_up_eq, stp_cong l h st _ hsame, b1, show c + (i + 1) = c + i + 1 by omega, stp]
        unfold extr
        dsimp only
        by_cases hh : E (c + i) 3 = h
        · rw [if_pos hh, if_pos hh, if_neg (by omega), if_neg (by omega)]
        · rw [if_neg hh, if_neg hh]
      · by_cases hqc : q = c + i + 1
        · subst hqc; rw [va_up_eq]; exact hE.2.1 _ (by omega)
        · rw [hsame q (by omega)]; exact b2 q (by omega)
      · by_cases hrc : r = c + i + 1
        · subst hrc
          rw [va_up_eq]
          by_cases hqc : q = c + i + 1
          · subst hqc; rw [va_up_eq]; exact Nat.le_refl _
          · rw [hsame q (by omega)]; exact b4 q (by omega) (c + i) (Nat.le_refl _) (by omega)
        · rw [hsame q (by omega), hsame r (by omega)]; exact b3 q r hqr (by omega)
      · by_cases hqc : q = c + i + 1
        · subst hqc; rw [va_up_eq]; exact hE.2.2 (c + i) r (by omega) hrn
        · rw [hsame q (by omega)]; exact b4 q (by omega) r (by omega) hrn
    · simp (disch := omega) only [f_Story_copyWithTouch, a1, cast1, J_lit, J_add, J_sub, J_mul, J_neg, J_nat, J_inb, J_div, ↓reduceIte, Int.toNat_natCast, Option.bind_some, J_le_t, J_le_f, J_lt_t, J_lt_f, J_eq_t, J_eq_f, L_lit, L_add, L_sub, L_mul, L_div, JL, LJ, Int.reduceToNat, Int.toNat_zero, Int.toNat_one, xb, xm, within_t, within_f, nb_t, nb_f, ni_t, ni_f, in_t, in_f, less_, bad_0, bad_1, not_true_eq_false, not_false_eq_true, L_lt_t, L_lt_f, L_eq_t, L_eq_f, lg_gt, lg_eq, lg_lt]
      rfl) (J 0, J 0, J 0, J 0, J c, v1, v2, v3, v4, J (c + 1 : Nat)) ⟨va_up E1 c (tev a b H), v1, v2, v3, v4, rfl, a2, hB⟩ m (by omega)
  obtain ⟨m2, rfl⟩ : ∃ k, m2 = k + 1 := ⟨m2 - 1, by omega⟩
  have hcn : c + (n - c) = n := by omega
  rw [hcn] at k3 hS2 hB2
  refine ⟨n + 1, E2, w1, w2, w3, w4, ?_, hS2, ⟨by omega, hB2.2.1, hB2.2.2.1⟩, hB2.1⟩
  have e0 : sp_Story_copyWithTouch K (J a) (J b) (J H) t1 t2 t3 t4 tn p1 p2 p3 p4 (J n) = f_Story_copyWithTouch K p1 p2 p3 p4 (J n) K 0 (J a, J b, J H, J c, J 0, t1, t2, t3, t4, J 0) := by
    simp (disch := omega) only [sp_Story_copyWithTouch, x1, J_lit, J_add, J_sub, J_mul, J_neg, J_nat, J_inb, J_div, ↓reduceIte, Int.toNat_natCast, Option.bind_some, J_le_t, J_le_f, J_lt_t, J_lt_f, J_eq_t, J_eq_f, L_lit, L_add, L_sub, L_mul, L_div, JL, LJ, Int.reduceToNat, Int.toNat_zero, Int.toNat_one, xb, xm, within_t, within_f, nb_t, nb_f, ni_t, ni_f, in_t, in_f, less_, bad_0, bad_1, not_true_eq_false, not_false_eq_true, L_lt_t, L_lt_f, L_eq_t, L_eq_f, lg_gt, lg_eq, lg_lt]
  rw [e0, g3, st1, k3]
  simp (disch := omega) only [f_Story_copyWithTouch, J_lit, J_add, J_sub, J_mul, J_neg, J_nat, J_inb, J_div, ↓reduceIte, Int.toNat_natCast, Option.bind_some, J_le_t, J_le_f, J_lt_t, J_lt_f, J_eq_t, J_eq_f, L_lit, L_add, L_sub, L_mul, L_div, JL, LJ, Int.reduceToNat, Int.toNat_zero, Int.toNat_one, xb, xm, within_t, within_f, nb_t, nb_f, ni_t, ni_f, in_t, in_f, less_, bad_0, bad_1, not_true_eq_false, not_false_eq_true, L_lt_t, L_lt_f, L_eq_t, L_eq_f, lg_gt, lg_eq, lg_lt]
def wornA (E : Nat → Nat → Nat) (p : Nat) : Nat → Int
  | 0 => -1
  | i + 1 => if E i 1 = p ∧ E i 0 = 0 then (E i 2 : Int) else if E i 1 = p ∧ E i 0 = 1 then -1 else wornA E p i
set_option maxHeartbeats 2000000 in
theorem wornA_le {n : Nat} {E : Nat → Nat → Nat} (hE : ∀ i, i < n → EOK (E i)) (p : Nat) : ∀ i, i ≤ n → -1 ≤ wornA E p i ∧ wornA E p i ≤ 7
  | 0, _ => ⟨Int.le_refl _, by show (-1 : Int) ≤ 7; decide⟩
  | i + 1, hi => by
    have h1 := wornA_le hE p i (by omega)
    have h2 := (hE i (by omega)).2.2.1
    rw [wornA]
    split
    · next h => have := h2 h.2; omega
    · split
      · omega
      · exact h1
set_option maxHeartbeats 2000000 in
theorem p_wornBehind (K : Nat) (hK : 1000 ≤ K) {n : Nat} {E : Nat → Nat → Nat} (hE : SOK n E) {p1 p2 p3 p4 : Nat → Int32} {pn : Int32} (hp : SC n E p1 p2 p3 p4 pn) {a m : Nat} (ha : a < 10) (hm : m ≤ n) : sp_Story_wornBehind K (J a) (J m) p1 p2 p3 pn = some (J (wornA E a m)) := by
  have hn := hE.1
  obtain ⟨rfl, q1, q2, q3, q4⟩ := hp
  obtain ⟨k, g1, g3⟩ := lpe (fun j s => f_Story_wornBehind K p1 p2 p3 (J n) j 0 s) (fun i => (J a, J m, J (wornA E a i), J i)) 3 m (by
    intro i hi k
    have e1 := q1 i (by omega)
    have e2 := q2 i (by omega)
    have e3 := q3 i (by omega)
    obtain ⟨o1, o2, o3, o4, o5, o6⟩ := hE.2.1 i (by omega)
    by_cases c1 : E i 1 = a
    · by_cases c2 : E i 0 = 0
      · refine ⟨k + 1, by omega, ?_⟩
        have : ∀ k, f_Story_wornBehind K p1 p2 p3 (J n) (k + 2) 0 (J a, J m, J (wornA E a i), J i) = f_Story_wornBehind K p1 p2 p3 (J n) k 0 (J a, J m, J (wornA E a (i + 1)), J (i + 1 : Nat)) := fun k => by
          rw [wornA, if_pos ⟨c1, c2⟩]
          simp (disch := omega) only [f_Story_wornBehind, e1, e2, e3, cast1, J_lit, J_add, J_sub, J_mul, J_neg, J_nat, J_inb, J_div, ↓reduceIte, Int.toNat_natCast, Option.bind_some, J_le_t, J_le_f, J_lt_t, J_lt_f, J_eq_t, J_eq_f, L_lit, L_add, L_sub, L_mul, L_div, JL, LJ, Int.reduceToNat, Int.toNat_zero, Int.toNat_one, xb, xm, within_t, within_f, nb_t, nb_f, ni_t, ni_f, in_t, in_f, less_, bad_0, bad_1, not_true_eq_false, not_false_eq_true, L_lt_t, L_lt_f, L_eq_t, L_eq_f, lg_gt, lg_eq, lg_lt]
        exact this (k + 1)
      · by_cases c3 : E i 0 = 1
        · refine ⟨k, by omega, ?_⟩
          rw [wornA, if_neg (by omega), if_pos ⟨c1, c3⟩]
          simp (disch := omega) only [f_Story_wornBehind, e1, e2, e3, cast1, J_lit, J_add, J_sub, J_mul, J_neg, J_nat, J_inb, J_div, ↓reduceIte, Int.toNat_natCast, Option.bind_some, J_le_t, J_le_f, J_lt_t, J_lt_f, J_eq_t, J_eq_f, L_lit, L_add, L_sub, L_mul, L_div, JL, LJ, Int.reduceToNat, Int.toNat_zero, Int.toNat_one, xb, xm, within_t, within_f, nb_t, nb_f, ni_t, ni_f, in_t, in_f, less_, bad_0, bad_1, not_true_eq_false, not_false_eq_true, L_lt_t, L_lt_f, L_eq_t, L_eq_f, lg_gt, lg_eq, lg_lt]
        · refine ⟨k, by omega, ?_⟩
          rw [wornA, if_neg (by omega), if_neg (by omega)]
          simp (disch := omega) only [f_Story_wornBehind, e1, e2, e3, cast1, J_lit, J_add, J_sub, J_mul, J_neg, J_nat, J_inb, J_div, ↓reduceIte, Int.toNat_natCast, Option.bind_some, J_le_t, J_le_f, J_lt_t, J_lt_f, J_eq_t, J_eq_f, L_lit, L_add, L_sub, L_mul, L_div, JL, LJ, Int.reduceToNat, Int.toNat_zero, Int.toNat_one, xb, xm, within_t, within_f, nb_t, nb_f, ni_t, ni_f, in_t, in_f, less_, bad_0, bad_1, not_true_eq_false, not_false_eq_true, L_lt_t, L_lt_f, L_eq_t, L_eq_f, lg_gt, lg_eq, lg_lt]
    · refine ⟨k, by omega, ?_⟩
      rw [wornA, if_neg (by omega), if_neg (by omega)]
      simp (disch := omega) only [f_Story_wornBehind, e1, e2, e3, cast1, J_lit, J_add, J_sub, J_mul, J_neg, J_nat, J_inb, J_div, ↓reduceIte, Int.toNat_natCast, Option.bind_some, J_le_t, J_le_f, J_lt_t, J_lt_f, J_eq_t, J_eq_f, L_lit, L_add, L_sub, L_mul, L_div, JL, LJ, Int.reduceToNat, Int.toNat_zero, Int.toNat_one, xb, xm, within_t, within_f, nb_t, nb_f, ni_t, ni_f, in_t, in_f, less_, bad_0, bad_1, not_true_eq_false, not_false_eq_true, L_lt_t, L_lt_f, L_eq_t, L_eq_f, lg_gt, lg_eq, lg_lt]) K (by omega)
  have e0 : sp_Story_wornBehind K (J a) (J m) p1 p2 p3 (J n) = f_Story_wornBehind K p1 p2 p3 (J n) K 0 (J a, J m, J (wornA E a 0), J (0 : Nat)) := by
    simp (disch := omega) only [sp_Story_wornBehind, wornA, Int.natCast_zero, J_lit, J_add, J_sub, J_mul, J_neg, J_nat, J_inb, J_div, ↓reduceIte, Int.toNat_natCast, Option.bind_some, J_le_t, J_le_f, J_lt_t, J_lt_f, J_eq_t, J_eq_f, L_lit, L_add, L_sub, L_mul, L_div, JL, LJ, Int.reduceToNat, Int.toNat_zero, Int.toNat_one, xb, xm, within_t, within_f, nb_t, nb_f, ni_t, ni_f, in_t, in_f, less_, bad_0, bad_1, not_true_eq_false, not_false_eq_true, L_lt_t, L_lt_f, L_eq_t, L_eq_f, lg_gt, lg_eq, lg_lt]
  rw [e0, g3]
  simp (disch := omega) only [f_Story_wornBehind, J_lit, J_add, J_sub, J_mul, J_neg, J_nat, J_inb, J_div, ↓reduceIte, Int.toNat_natCast, Option.bind_some, J_le_t, J_le_f, J_lt_t, J_lt_f, J_eq_t, J_eq_f, L_lit, L_add, L_sub, L_mul, L_div, JL, LJ, Int.reduceToNat, Int.toNat_zero, Int.toNat_one, xb, xm, within_t, within_f, nb_t, nb_f, ni_t, ni_f, in_t, in_f, less_, bad_0, bad_1, not_true_eq_false, not_false_eq_true, L_lt_t, L_lt_f, L_eq_t, L_eq_f, lg_gt, lg_eq, lg_lt]
set_option maxHeartbeats 2000000 in
theorem ev_worn (l : LA) (st : RS) {e : Nat → Nat} (he : EOK e) (p : Nat) : (evA l st e).2 p = if e 1 = p ∧ e 0 = 0 then (e 2 : Int) else if e 1 = p ∧ e 0 = 1 then -1 else st.2 p := by
  unfold evA
  by_cases h0 : e 0 = 0
  · rw [if_pos h0]
    show va_up st.2 (e 1) (e 2 : Int) p = _
    unfold va_up
    by_cases hp : p = e 1
    · rw [if_pos hp, if_pos ⟨hp.symm, h0⟩]
    · rw [if_neg hp, if_neg (fun h => hp h.1.symm), if_neg (fun h => hp h.1.symm)]
  · rw [if_neg h0]
    by_cases h1 : e 0 = 1
    · rw [if_pos h1]
      show va_up st.2 (e 1) (-1) p = _
      have hn0 : ¬ (e 1 = p ∧ e 0 = 0) := fun h => h0 h.2
      rw [if_neg hn0]
      unfold va_up
      by_cases hp : p = e 1
      · rw [if_pos hp, if_pos ⟨hp.symm, h1⟩]
      · rw [if_neg hp, if_neg (fun h => hp h.1.symm)]
    · have hn0 : ¬ (e 1 = p ∧ e 0 = 0) := fun h => h0 h.2
      have hn1 : ¬ (e 1 = p ∧ e 0 = 1) := fun h => h1 h.2
      rw [if_neg h1, if_neg hn0, if_neg hn1]
      split
      · rfl
      · split <;> rfl
set_option maxHeartbeats 2000000 in
theorem stp_worn (l : LA) {n : Nat} {E : Nat → Nat → Nat} (hE : ∀ i, i < n → EOK (E i)) (h p d : Nat) (st : RS) (hd : st.2 p = wornA E p d) (h1 : ∀ i, i < d → E i 3 ≠ h) : ∀ c, d ≤ c → c ≤ n → (∀ i, d ≤ i → i < c → E i 3 = h) → (stp l E h st c).2 p = wornA E p c
  | 0, hdc, _, _ => by
    obtain rfl : d = 0 := by omega
    exact hd
  | c + 1, hdc, hc, h2 => by
    by_cases hdc' : d = c + 1
    · subst hdc'
      rw [stp_skip l E h st 0 (c + 1) (by omega) (fun i _ hi => h1 i hi)]
      exact hd
    · rw [stp, if_pos (h2 c (by omega) (by omega)), ev_worn l _ (hE c (by omega)), wornA, stp_worn l hE h p d st hd h1 c (by omega) (by omega) (fun i hi hi2 => h2 i hi (by omega))]
set_option maxHeartbeats 2000000 in
theorem run_worn (l : LA) {n : Nat} {E : Nat → Nat → Nat} (hE : SOK n E) (p : Nat) : ∀ h c, c ≤ n → (∀ a, a < c → E a 3 ≤ h) → (∀ a, c ≤ a → a < n → h < E a 3) → (runA l n E h).2 p = wornA E p c
  | 0, c, hc, h1, h2 => by
    show (stp l E 0 init n).2 p = _
    rw [stp_skip l E 0 init c n hc (fun i hi hin => by have := h2 i hi hin; omega)]
    exact stp_worn l hE.2.1 0 p 0 init rfl (fun i hi => by omega) c (by omega) hc (fun i _ hi => by have := h1 i hi; omega)
  | h + 1, c, hc, h1, h2 => by
    obtain ⟨d, hd1, hd2, hd3⟩ : ∃ d, d ≤ c ∧ (∀ a, a < d → E a 3 ≤ h) ∧ ∀ a, d ≤ a → a < n → h < E a 3 := by
      have : ∀ i, i ≤ n → ∃ d, d ≤ i ∧ (∀ a, a < d → E a 3 ≤ h) ∧ ∀ a, d ≤ a → a < i → h < E a 3 := by
        intro i
        induction i with
        | zero => intro _; exact ⟨0, Nat.le_refl _, fun a ha => by omega, fun a _ ha => by omega⟩
        | succ i ih =>
          intro hi
          obtain ⟨d, d1, d2, d3⟩ := ih (by omega)
          by_cases hc' : h < E i 3
          · refine ⟨d, by omega, d2, fun a ha hai => ?_⟩
            by_cases hai' : a = i
            · subst hai'; exact hc'
            · exact d3 a ha (by omega)
          · have hdi : d = i := by
              by_cases hdi : d = i
              · exact hdi
              · have q1 := d3 d (Nat.le_refl _) (by omega)
                have q2 := hE.2.2 d i d1 (by omega)
                omega
            subst hdi
            refine ⟨d + 1, by omega, fun a ha => ?_, fun a ha hai => by omega⟩
            by_cases hai' : a = d
            · subst hai'; omega
            · exact d2 a (by omega)
      obtain ⟨d, d1, d2, d3⟩ := this n (Nat.le_refl _)
      refine ⟨d, ?_, d2, d3⟩
      by_cases hdc : d ≤ c
      · exact hdc
      · have q1 := d2 c (by omega)
        have q2 := h2 c (Nat.le_refl _) (by omega)
        omega
    show (stp l E (h + 1) (loseA l (runA l n E h)) n).2 p = _
    rw [stp_skip l E (h + 1) _ c n hc (fun i hi hin => by have := h2 i hi hin; omega)]
    exact stp_worn l hE.2.1 (h + 1) p d (loseA l (runA l n E h)) (run_worn l hE p h d (by omega) hd2 hd3) (fun i hi => by have := hd2 i hi; omega) c hd1 hc (fun i hi hic => by have q1 := h1 i hic; have q2 := hd3 i hi (by omega); omega)
def HL (l : LA) (nr : Nat → Nat) (c1 c2 c3 c4 : Nat → Int32) (c5 c6 c7 : Int32) (m1 : Nat → Nat → Int32) (m2 m3 m4 : Nat → Int32) (m5 m6 m7 : Int32) : Prop := LOK l ∧ LC l c1 c2 c3 c4 c5 c6 c7 ∧ LM l nr m1 m2 m3 m4 m5 m6 m7
def HS (m : Nat) (EN : Nat → Nat) (EE : Nat → Nat → Nat → Nat) (stories : Nat → Option Nat) (QS : Nat → Nat) (k1 k2 k3 k4 : Nat → Nat → Int32) (kn : Nat → Int32) (many : Nat → Int32) (ev : Nat → Nat → Int32) : Prop := m ≤ 4 ∧ (∀ j, j < 4 → stories j = some (QS j)) ∧ ∀ j, j < m → SOK (EN j) (EE j) ∧ SC (EN j) (EE j) (k1 j) (k2 j) (k3 j) (k4 j) (kn j) ∧ SM j (EN j) (EE j) many ev
def SEL (p1 : Int32) (m j : Nat) : Prop := ∀ a : Nat, a < m → p1 = J a → j = a
set_option maxHeartbeats 2000000 in
theorem storyAt_t (K : Nat) {a m q : Nat} (ha : a < m) (hm : m ≤ 4) {stories : Nat → Option Nat} (hs : stories a = some q) : sp_storyAt K (J a) stories q (J m) = some (.inr ()) := by
  simp (disch := omega) only [sp_storyAt, hs, J_lit, J_add, J_sub, J_mul, J_neg, J_nat, J_inb, J_div, ↓reduceIte, Int.toNat_natCast, Option.bind_some, J_le_t, J_le_f, J_lt_t, J_lt_f, J_eq_t, J_eq_f, L_lit, L_add, L_sub, L_mul, L_div, JL, LJ, Int.reduceToNat, Int.toNat_zero, Int.toNat_one, xb, xm, within_t, within_f, nb_t, nb_f, ni_t, ni_f, in_t, in_f, less_, bad_0, bad_1, not_true_eq_false, not_false_eq_true, L_lt_t, L_lt_f, L_eq_t, L_eq_f, lg_gt, lg_eq, lg_lt]
set_option maxHeartbeats 2000000 in
theorem storyAt_f (K : Nat) {a : Int} {m : Nat} (ha : -2147483648 ≤ a ∧ a < 2147483648) (hm : m ≤ 4) (h : a < 0 ∨ m ≤ a) (stories : Nat → Option Nat) (q : Nat) : sp_storyAt K (J a) stories q (J m) = some (.inl 1) := by
  simp (disch := omega) only [sp_storyAt, J_lit, J_add, J_sub, J_mul, J_neg, J_nat, J_inb, J_div, ↓reduceIte, Int.toNat_natCast, Option.bind_some, J_le_t, J_le_f, J_lt_t, J_lt_f, J_eq_t, J_eq_f, L_lit, L_add, L_sub, L_mul, L_div, JL, LJ, Int.reduceToNat, Int.toNat_zero, Int.toNat_one, xb, xm, within_t, within_f, nb_t, nb_f, ni_t, ni_f, in_t, in_f, less_, bad_0, bad_1, not_true_eq_false, not_false_eq_true, L_lt_t, L_lt_f, L_eq_t, L_eq_f, lg_gt, lg_eq, lg_lt]
set_option maxHeartbeats 2000000 in
theorem c_run (K : Nat) (hK : 1000000 ≤ K) {l : LA} (hl : LOK l) {c1 c2 c3 c4 : Nat → Int32} {c5 c6 c7 : Int32} (R : LC l c1 c2 c3 c4 c5 c6 c7) {n : Nat} {E : Nat → Nat → Nat} (hE : SOK n E) {p1 p2 p3 p4 : Nat → Int32} {pn : Int32} (hC : SC n E p1 p2 p3 p4 pn) {h : Nat} (hh : h < 100) (ly wo : Nat → Int32) (a b c : Int32) : ∃ (ly0 wo0 ly' wo' : Nat → Int32) (ld' : Int32) (j : Nat), sp_Run_begin K ly wo a b c = some (ly0, wo0, J 0, J 0, J 0) ∧ sp_Run_goTo K (J h) ly0 wo0 (J 0) (J 0) (J 0) c1 c2 c5 c6 p1 p2 p3 p4 pn = some (ly', wo', ld', J h, J j) ∧ RC (runA l n E h) ly' wo' ld' ∧ GQ l n E h j (runA l n E h) := by
  obtain ⟨ly0, wo0, e1, e2, e3⟩ := p_begin K (by omega) l n E ly wo a b c
  obtain ⟨R1, R2, R3, R4, R5, R6, R7⟩ := R
  obtain ⟨ly', wo', ld', j, f1, f2, f3⟩ := p_goTo K hK hl R1 R2 R5 R6 hE hC hh (Nat.zero_le h) e3 e2
  exact ⟨ly0, wo0, ly', wo', ld', j, e1, f1, f2, f3⟩
set_option maxHeartbeats 2000000 in
theorem m_run (K : Nat) (hK : 1000000 ≤ K) {l : LA} (hl : LOK l) {nr : Nat → Nat} {m1 : Nat → Nat → Int32} {m2 m3 m4 : Nat → Int32} {m5 m6 m7 : Int32} (Q : LM l nr m1 m2 m3 m4 m5 m6 m7) {j n : Nat} {E : Nat → Nat → Nat} (hE : SOK n E) {many : Nat → Int32} {ev : Nat → Nat → Int32} (hM : SM j n E many ev) (et eh se th : Int32) {h : Nat} (hh : h < 100) (ly : Nat → Nat → Int32) (wo : Nat → Int32) : ∃ ly' wo', sp_M_runs K (J j) (J h) m5 m6 m1 m2 many ev ly wo (J (-1)) (J (-1)) et eh (J (-1)) se th = some (ly', wo') ∧ RM (runA l n E h) ly' wo' := by
  obtain ⟨Q1, Q2, Q3, Q4, Q5, Q6, Q7, Q8⟩ := Q
  have hn := hM.2.1
  obtain ⟨ly', wo', e1, e2⟩ := p_M_runs K hK hl Q1 Q2 Q5 Q6 hE hM (cm := fun _ => true) (x := none) (lo := J (-1)) (fi := J (-1)) (se := se) (th := th) (ef := J (-1)) (et := et) (eh := eh) (fun i hi => comes_plain K (by omega) i _ (by omega) ev se th) rfl hh ly wo
  rw [run_plain] at e2
  exact ⟨ly', wo', e1, e2⟩
set_option maxHeartbeats 2000000 in
theorem pc_lies (K : Nat) (hK : 1000000 ≤ K) (p1 p2 p3 p4 thr : Int32) {l : LA} {nr : Nat → Nat} {c1 c2 c3 c4 : Nat → Int32} {c5 c6 c7 : Int32} {m1 : Nat → Nat → Int32} {m2 m3 m4 : Nat → Int32} {m5 m6 m7 : Int32} (hL : HL l nr c1 c2 c3 c4 c5 c6 c7 m1 m2 m3 m4 m5 m6 m7) {m : Nat} {EN : Nat → Nat} {EE : Nat → Nat → Nat → Nat} {stories : Nat → Option Nat} {QS : Nat → Nat} {k1 k2 k3 k4 : Nat → Nat → Int32} {kn : Nat → Int32} {many : Nat → Int32} {ev : Nat → Nat → Int32} (hS : HS m EN EE stories QS k1 k2 k3 k4 kn many ev) (j : Nat) (hj : SEL p1 m j) (ql a1 a2 : Nat) (ly wo : Nat → Int32) (x1 x2 x3 : Int32) (mly : Nat → Nat → Int32) (mwo : Nat → Int32) (et eh se th : Int32) (o : Nat → Int64) : ∃ oc om, sp_W_lies K p1 p2 p3 p4 ql stories (QS j) (J m) (k1 j) (k2 j) (k3 j) (k4 j) (kn j) ly wo a1 a2 x1 x2 x3 c1 c2 c5 c6 o = some oc ∧ sp_M_lies K p1 p2 p3 p4 thr m5 m6 m1 m2 (J m) many ev mly mwo (J (-1)) (J (-1)) et eh (J (-1)) se th = some om ∧ AA oc.1 oc.2.2.2.2.2.2.2.2 om.1 om.2.1 := by
  obtain ⟨hl, R, Q⟩ := hL
  obtain ⟨hm, hq, hst⟩ := hS
  obtain ⟨a, rfl, ha⟩ := ex_J p1
  obtain ⟨b, rfl, hb⟩ := ex_J p2
  obtain ⟨c, rfl, hc⟩ := ex_J p3
  obtain ⟨d, rfl, hd⟩ := ex_J p4
  by_cases h : 0 ≤ a ∧ a < m
  · obtain ⟨a, rfl⟩ : ∃ x : Nat, a = x := ⟨a.toNat, by omega⟩
    obtain rfl : j = a := hj a (by omega) rfl
    have hjm : j < m := by omega
    obtain ⟨s1, s2, s3⟩ := hst j hjm
    have eS := storyAt_t K hjm hm (hq j (by omega))
    have eI := isStory_t K (a := j) (n := m) (by omega) (by omega)
    by_cases h' : (0 ≤ b ∧ b < 10) ∧ (0 ≤ c ∧ c < 10) ∧ (0 ≤ d ∧ d < 100)
    · obtain ⟨b, rfl⟩ : ∃ x : Nat, b = x := ⟨b.toNat, by omega⟩
      obtain ⟨c, rfl⟩ : ∃ x : Nat, c = x := ⟨c.toNat, by omega⟩
      obtain ⟨d, rfl⟩ : ∃ x : Nat, d = x := ⟨d.toNat, by omega⟩
      obtain ⟨ly0, wo0, ly', wo', ld', q, e1, e2, e3, e4⟩ := c_run K hK hl R s1 s2 (h := d) (by omega) ly wo x1 x2 x3
      obtain ⟨mly', mwo', f1, f2⟩ := m_run K hK hl Q s1 s3 et eh se th (h := d) (by omega) mly mwo
      have eB := badPlace_t K (by omega) (J 2) h'.1 h'.2.1 h'.2.2
      have eL := p_lyingOn K e3 (p := b) (s := c) (by omega) (by omega)
      have eR := f2.1 b (by omega) c (by omega)
      have hr := (runA_ok hl s1.2.1 d).1 b (by omega) c (by omega)
      obtain ⟨k, rfl⟩ : ∃ k, K = k + 1 := ⟨K - 1, by omega⟩
      refine ⟨_, _, by simp (disch := omega) only [sp_W_lies, sp_lies, sp_lyingAt, eS, e1, e2, eL, J_lit, J_add, J_sub, J_mul, J_neg, J_nat, J_inb, J_div, ↓reduceIte, Int.toNat_natCast, Option.bind_some, J_le_t, J_le_f, J_lt_t, J_lt_f, J_eq_t, J_eq_f, L_lit, L_add, L_sub, L_mul, L_div, JL, LJ, Int.reduceToNat, Int.toNat_zero, Int.toNat_one, xb, xm, within_t, within_f, nb_t, nb_f, ni_t, ni_f, in_t, in_f, less_, bad_0, bad_1, not_true_eq_false, not_false_eq_true, L_lt_t, L_lt_f, L_eq_t, L_eq_f, lg_gt, lg_eq, lg_lt]; rfl, by simp (disch := omega) only [sp_M_lies, f_M_lies, eI, eB, f1, eR, J_lit, J_add, J_sub, J_mul, J_neg, J_nat, J_inb, J_div, ↓reduceIte, Int.toNat_natCast, Option.bind_some, J_le_t, J_le_f, J_lt_t, J_lt_f, J_eq_t, J_eq_f, L_lit, L_add, L_sub, L_mul, L_div, JL, LJ, Int.reduceToNat, Int.toNat_zero, Int.toNat_one, xb, xm, within_t, within_f, nb_t, nb_f, ni_t, ni_f, in_t, in_f, less_, bad_0, bad_1, not_true_eq_false, not_false_eq_true, L_lt_t, L_lt_f, L_eq_t, L_eq_f, lg_gt, lg_eq, lg_lt]; rfl, (by first | exact AA_0 _ _ | exact AA_L _ (by omega))⟩
    · have eB := badPlace_f K (by omega) (w := 2) (by omega) hb hc hd h'
      obtain ⟨k, rfl⟩ : ∃ k, K = k + 1 := ⟨K - 1, by omega⟩
      have eM : sp_M_lies (k + 1) (J j) (J b) (J c) (J d) thr m5 m6 m1 m2 (J m) many ev mly mwo (J (-1)) (J (-1)) et eh (J (-1)) se th = some (J 0, J 2, mly, mwo) := by
        clear h'
        simp (disch := omega) only [sp_M_lies, f_M_lies, eI, eB, J_lit, J_add, J_sub, J_mul, J_neg, J_nat, J_inb, J_div, ↓reduceIte, Int.toNat_natCast, Option.bind_some, J_le_t, J_le_f, J_lt_t, J_lt_f, J_eq_t, J_eq_f, L_lit, L_add, L_sub, L_mul, L_div, JL, LJ, Int.reduceToNat, Int.toNat_zero, Int.toNat_one, xb, xm, within_t, within_f, nb_t, nb_f, ni_t, ni_f, in_t, in_f, less_, bad_0, bad_1, not_true_eq_false, not_false_eq_true, L_lt_t, L_lt_f, L_eq_t, L_eq_f, lg_gt, lg_eq, lg_lt]
      by_cases hb1 : 0 ≤ b ∧ b < 10
      · by_cases hc1 : 0 ≤ c ∧ c < 10
        · have hd1 : d < 0 ∨ 100 ≤ d := by omega
          clear h'
          exact ⟨_, _, by simp (disch := omega) only [sp_W_lies, sp_lies, eS, J_lit, J_add, J_sub, J_mul, J_neg, J_nat, J_inb, J_div, ↓reduceIte, Int.toNat_natCast, Option.bind_some, J_le_t, J_le_f, J_lt_t, J_lt_f, J_eq_t, J_eq_f, L_lit, L_add, L_sub, L_mul, L_div, JL, LJ, Int.reduceToNat, Int.toNat_zero, Int.toNat_one, xb, xm, within_t, within_f, nb_t, nb_f, ni_t, ni_f, in_t, in_f, less_, bad_0, bad_1, not_true_eq_false, not_false_eq_true, L_lt_t, L_lt_f, L_eq_t, L_eq_f, lg_gt, lg_eq, lg_lt]; rfl, eM, (by exact AA_e _ _ (by omega))⟩
        · clear h'
          exact ⟨_, _, by simp (disch := omega) only [sp_W_lies, sp_lies, eS, J_lit, J_add, J_sub, J_mul, J_neg, J_nat, J_inb, J_div, ↓reduceIte, Int.toNat_natCast, Option.bind_some, J_le_t, J_le_f, J_lt_t, J_lt_f, J_eq_t, J_eq_f, L_lit, L_add, L_sub, L_mul, L_div, JL, LJ, Int.reduceToNat, Int.toNat_zero, Int.toNat_one, xb, xm, within_t, within_f, nb_t, nb_f, ni_t, ni_f, in_t, in_f, less_, bad_0, bad_1, not_true_eq_false, not_false_eq_true, L_lt_t, L_lt_f, L_eq_t, L_eq_f, lg_gt, lg_eq, lg_lt]; rfl, eM, (by exact AA_e _ _ (by omega))⟩
      · clear h'
        exact ⟨_, _, by simp (disch := omega) only [sp_W_lies, sp_lies, eS, J_lit, J_add, J_sub, J_mul, J_neg, J_nat, J_inb, J_div, ↓reduceIte, Int.toNat_natCast, Option.bind_some, J_le_t, J_le_f, J_lt_t, J_lt_f, J_eq_t, J_eq_f, L_lit, L_add, L_sub, L_mul, L_div, JL, LJ, Int.reduceToNat, Int.toNat_zero, Int.toNat_one, xb, xm, within_t, within_f, nb_t, nb_f, ni_t, ni_f, in_t, in_f, less_, bad_0, bad_1, not_true_eq_false, not_false_eq_true, L_lt_t, L_lt_f, L_eq_t, L_eq_f, lg_gt, lg_eq, lg_lt]; rfl, eM, (by exact AA_e _ _ (by omega))⟩
  · have eS := storyAt_f K ha hm (by omega) stories (QS j)
    have eI := isStory_f K ha h (by omega)
    obtain ⟨k, rfl⟩ : ∃ k, K = k + 1 := ⟨K - 1, by omega⟩
    exact ⟨_, _, by simp (disch := omega) only [sp_W_lies, sp_lies, eS, J_lit, J_add, J_sub, J_mul, J_neg, J_nat, J_inb, J_div, ↓reduceIte, Int.toNat_natCast, Option.bind_some, J_le_t, J_le_f, J_lt_t, J_lt_f, J_eq_t, J_eq_f, L_lit, L_add, L_sub, L_mul, L_div, JL, LJ, Int.reduceToNat, Int.toNat_zero, Int.toNat_one, xb, xm, within_t, within_f, nb_t, nb_f, ni_t, ni_f, in_t, in_f, less_, bad_0, bad_1, not_true_eq_false, not_false_eq_true, L_lt_t, L_lt_f, L_eq_t, L_eq_f, lg_gt, lg_eq, lg_lt]; rfl, by simp (disch := omega) only [sp_M_lies, f_M_lies, eI, J_lit, J_add, J_sub, J_mul, J_neg, J_nat, J_inb, J_div, ↓reduceIte, Int.toNat_natCast, Option.bind_some, J_le_t, J_le_f, J_lt_t, J_lt_f, J_eq_t, J_eq_f, L_lit, L_add, L_sub, L_mul, L_div, JL, LJ, Int.reduceToNat, Int.toNat_zero, Int.toNat_one, xb, xm, within_t, within_f, nb_t, nb_f, ni_t, ni_f, in_t, in_f, less_, bad_0, bad_1, not_true_eq_false, not_false_eq_true, L_lt_t, L_lt_f, L_eq_t, L_eq_f, lg_gt, lg_eq, lg_lt]; rfl, (by exact AA_e _ _ (by omega))⟩
set_option maxHeartbeats 2000000 in
theorem pc_pile (K : Nat) (hK : 1000000 ≤ K) (p1 p2 p3 p4 thr : Int32) {l : LA} {nr : Nat → Nat} {c1 c2 c3 c4 : Nat → Int32} {c5 c6 c7 : Int32} {m1 : Nat → Nat → Int32} {m2 m3 m4 : Nat → Int32} {m5 m6 m7 : Int32} (hL : HL l nr c1 c2 c3 c4 c5 c6 c7 m1 m2 m3 m4 m5 m6 m7) {m : Nat} {EN : Nat → Nat} {EE : Nat → Nat → Nat → Nat} {stories : Nat → Option Nat} {QS : Nat → Nat} {k1 k2 k3 k4 : Nat → Nat → Int32} {kn : Nat → Int32} {many : Nat → Int32} {ev : Nat → Nat → Int32} (hS : HS m EN EE stories QS k1 k2 k3 k4 kn many ev) (j : Nat) (hj : SEL p1 m j) (ql a1 a2 : Nat) (ly wo : Nat → Int32) (x1 x2 x3 : Int32) (mly : Nat → Nat → Int32) (mwo : Nat → Int32) (et eh se th : Int32) (o : Nat → Int64) : ∃ oc om, sp_W_pile K p1 p2 p3 p4 ql stories (QS j) (J m) (k1 j) (k2 j) (k3 j) (k4 j) (kn j) ly wo a1 a2 x1 x2 x3 c1 c2 c3 c4 c5 c6 o = some oc ∧ sp_M_pile K p1 p2 p3 p4 thr m5 m6 m1 m2 m3 m4 (J m) many ev mly mwo (J (-1)) (J (-1)) et eh (J (-1)) se th = some om ∧ AA oc.1 oc.2.2.2.2.2.2.2.2 om.1 om.2.1 := by
  obtain ⟨hl, R, Q⟩ := hL
  obtain ⟨hm, hq, hst⟩ := hS
  obtain ⟨a, rfl, ha⟩ := ex_J p1
  obtain ⟨b, rfl, hb⟩ := ex_J p2
  obtain ⟨c, rfl, hc⟩ := ex_J p3
  obtain ⟨d, rfl, hd⟩ := ex_J p4
  by_cases h : 0 ≤ a ∧ a < m
  · obtain ⟨a, rfl⟩ : ∃ x : Nat, a = x := ⟨a.toNat, by omega⟩
    obtain rfl : j = a := hj a (by omega) rfl
    have hjm : j < m := by omega
    obtain ⟨s1, s2, s3⟩ := hst j hjm
    have eS := storyAt_t K hjm hm (hq j (by omega))
    have eI := isStory_t K (a := j) (n := m) (by omega) (by omega)
    by_cases h' : (0 ≤ b ∧ b < 10) ∧ (0 ≤ c ∧ c < 10) ∧ (0 ≤ d ∧ d < 100)
    · obtain ⟨b, rfl⟩ : ∃ x : Nat, b = x := ⟨b.toNat, by omega⟩
      obtain ⟨c, rfl⟩ : ∃ x : Nat, c = x := ⟨c.toNat, by omega⟩
      obtain ⟨d, rfl⟩ : ∃ x : Nat, d = x := ⟨d.toNat, by omega⟩
      obtain ⟨ly0, wo0, ly', wo', ld', q, e1, e2, e3, e4⟩ := c_run K hK hl R s1 s2 (h := d) (by omega) ly wo x1 x2 x3
      obtain ⟨mly', mwo', f1, f2⟩ := m_run K hK hl Q s1 s3 et eh se th (h := d) (by omega) mly mwo
      have eB := badPlace_t K (by omega) (J 2) h'.1 h'.2.1 h'.2.2
      have hr := runA_ok hl s1.2.1 d
      have eL := p_pileOn K (by omega) hl R.2.2.1 R.2.2.2.1 hr e3 (p := b) (s := c) (by omega) (by omega)
      have eR := p_M_pileAt K hK hl Q.2.2.1 Q.2.2.2.1 Q.2.2.2.2.2.2.2 hr f2 (p := b) (s := c) (by omega) (by omega)
      have hp : pileA l (runA l (EN j) (EE j) d) b c ≤ 60 := Nat.min_le_right _ _
      obtain ⟨k, rfl⟩ : ∃ k, K = k + 1 := ⟨K - 1, by omega⟩
      refine ⟨_, _, by simp (disch := omega) only [sp_W_pile, sp_pile, eS, e1, e2, eL, J_lit, J_add, J_sub, J_mul, J_neg, J_nat, J_inb, J_div, ↓reduceIte, Int.toNat_natCast, Option.bind_some, J_le_t, J_le_f, J_lt_t, J_lt_f, J_eq_t, J_eq_f, L_lit, L_add, L_sub, L_mul, L_div, JL, LJ, Int.reduceToNat, Int.toNat_zero, Int.toNat_one, xb, xm, within_t, within_f, nb_t, nb_f, ni_t, ni_f, in_t, in_f, less_, bad_0, bad_1, not_true_eq_false, not_false_eq_true, L_lt_t, L_lt_f, L_eq_t, L_eq_f, lg_gt, lg_eq, lg_lt]; rfl, by simp (disch := omega) only [sp_M_pile, f_M_pile, eI, eB, f1, eR, J_lit, J_add, J_sub, J_mul, J_neg, J_nat, J_inb, J_div, ↓reduceIte, Int.toNat_natCast, Option.bind_some, J_le_t, J_le_f, J_lt_t, J_lt_f, J_eq_t, J_eq_f, L_lit, L_add, L_sub, L_mul, L_div, JL, LJ, Int.reduceToNat, Int.toNat_zero, Int.toNat_one, xb, xm, within_t, within_f, nb_t, nb_f, ni_t, ni_f, in_t, in_f, less_, bad_0, bad_1, not_true_eq_false, not_false_eq_true, L_lt_t, L_lt_f, L_eq_t, L_eq_f, lg_gt, lg_eq, lg_lt]; rfl, (by first | exact AA_0 _ _ | exact AA_L _ (by omega))⟩
    · have eB := badPlace_f K (by omega) (w := 2) (by omega) hb hc hd h'
      obtain ⟨k, rfl⟩ : ∃ k, K = k + 1 := ⟨K - 1, by omega⟩
      have eM : sp_M_pile (k + 1) (J j) (J b) (J c) (J d) thr m5 m6 m1 m2 m3 m4 (J m) many ev mly mwo (J (-1)) (J (-1)) et eh (J (-1)) se th = some (J 0, J 2, mly, mwo) := by
        clear h'
        simp (disch := omega) only [sp_M_pile, f_M_pile, eI, eB, J_lit, J_add, J_sub, J_mul, J_neg, J_nat, J_inb, J_div, ↓reduceIte, Int.toNat_natCast, Option.bind_some, J_le_t, J_le_f, J_lt_t, J_lt_f, J_eq_t, J_eq_f, L_lit, L_add, L_sub, L_mul, L_div, JL, LJ, Int.reduceToNat, Int.toNat_zero, Int.toNat_one, xb, xm, within_t, within_f, nb_t, nb_f, ni_t, ni_f, in_t, in_f, less_, bad_0, bad_1, not_true_eq_false, not_false_eq_true, L_lt_t, L_lt_f, L_eq_t, L_eq_f, lg_gt, lg_eq, lg_lt]
      by_cases hb1 : 0 ≤ b ∧ b < 10
      · by_cases hc1 : 0 ≤ c ∧ c < 10
        · have hd1 : d < 0 ∨ 100 ≤ d := by omega
          clear h'
          exact ⟨_, _, by simp (disch := omega) only [sp_W_pile, sp_pile, eS, J_lit, J_add, J_sub, J_mul, J_neg, J_nat, J_inb, J_div, ↓reduceIte, Int.toNat_natCast, Option.bind_some, J_le_t, J_le_f, J_lt_t, J_lt_f, J_eq_t, J_eq_f, L_lit, L_add, L_sub, L_mul, L_div, JL, LJ, Int.reduceToNat, Int.toNat_zero, Int.toNat_one, xb, xm, within_t, within_f, nb_t, nb_f, ni_t, ni_f, in_t, in_f, less_, bad_0, bad_1, not_true_eq_false, not_false_eq_true, L_lt_t, L_lt_f, L_eq_t, L_eq_f, lg_gt, lg_eq, lg_lt]; rfl, eM, (by exact AA_e _ _ (by omega))⟩
        · clear h'
          exact ⟨_, _, by simp (disch := omega) only [sp_W_pile, sp_pile, eS, J_lit, J_add, J_sub, J_mul, J_neg, J_nat, J_inb, J_div, ↓reduceIte, Int.toNat_natCast, Option.bind_some, J_le_t, J_le_f, J_lt_t, J_lt_f, J_eq_t, J_eq_f, L_lit, L_add, L_sub, L_mul, L_div, JL, LJ, Int.reduceToNat, Int.toNat_zero, Int.toNat_one, xb, xm, within_t, within_f, nb_t, nb_f, ni_t, ni_f, in_t, in_f, less_, bad_0, bad_1, not_true_eq_false, not_false_eq_true, L_lt_t, L_lt_f, L_eq_t, L_eq_f, lg_gt, lg_eq, lg_lt]; rfl, eM, (by exact AA_e _ _ (by omega))⟩
      · clear h'
        exact ⟨_, _, by simp (disch := omega) only [sp_W_pile, sp_pile, eS, J_lit, J_add, J_sub, J_mul, J_neg, J_nat, J_inb, J_div, ↓reduceIte, Int.toNat_natCast, Option.bind_some, J_le_t, J_le_f, J_lt_t, J_lt_f, J_eq_t, J_eq_f, L_lit, L_add, L_sub, L_mul, L_div, JL, LJ, Int.reduceToNat, Int.toNat_zero, Int.toNat_one, xb, xm, within_t, within_f, nb_t, nb_f, ni_t, ni_f, in_t, in_f, less_, bad_0, bad_1, not_true_eq_false, not_false_eq_true, L_lt_t, L_lt_f, L_eq_t, L_eq_f, lg_gt, lg_eq, lg_lt]; rfl, eM, (by exact AA_e _ _ (by omega))⟩
  · have eS := storyAt_f K ha hm (by omega) stories (QS j)
    have eI := isStory_f K ha h (by omega)
    obtain ⟨k, rfl⟩ : ∃ k, K = k + 1 := ⟨K - 1, by omega⟩
    exact ⟨_, _, by simp (disch := omega) only [sp_W_pile, sp_pile, eS, J_lit, J_add, J_sub, J_mul, J_neg, J_nat, J_inb, J_div, ↓reduceIte, Int.toNat_natCast, Option.bind_some, J_le_t, J_le_f, J_lt_t, J_lt_f, J_eq_t, J_eq_f, L_lit, L_add, L_sub, L_mul, L_div, JL, LJ, Int.reduceToNat, Int.toNat_zero, Int.toNat_one, xb, xm, within_t, within_f, nb_t, nb_f, ni_t, ni_f, in_t, in_f, less_, bad_0, bad_1, not_true_eq_false, not_false_eq_true, L_lt_t, L_lt_f, L_eq_t, L_eq_f, lg_gt, lg_eq, lg_lt]; rfl, by simp (disch := omega) only [sp_M_pile, f_M_pile, eI, J_lit, J_add, J_sub, J_mul, J_neg, J_nat, J_inb, J_div, ↓reduceIte, Int.toNat_natCast, Option.bind_some, J_le_t, J_le_f, J_lt_t, J_lt_f, J_eq_t, J_eq_f, L_lit, L_add, L_sub, L_mul, L_div, JL, LJ, Int.reduceToNat, Int.toNat_zero, Int.toNat_one, xb, xm, within_t, within_f, nb_t, nb_f, ni_t, ni_f, in_t, in_f, less_, bad_0, bad_1, not_true_eq_false, not_false_eq_true, L_lt_t, L_lt_f, L_eq_t, L_eq_f, lg_gt, lg_eq, lg_lt]; rfl, (by exact AA_e _ _ (by omega))⟩
set_option maxHeartbeats 2000000 in
theorem pc_wears (K : Nat) (hK : 1000000 ≤ K) (p1 p2 p3 thr : Int32) {l : LA} {nr : Nat → Nat} {c1 c2 c3 c4 : Nat → Int32} {c5 c6 c7 : Int32} {m1 : Nat → Nat → Int32} {m2 m3 m4 : Nat → Int32} {m5 m6 m7 : Int32} (hL : HL l nr c1 c2 c3 c4 c5 c6 c7 m1 m2 m3 m4 m5 m6 m7) {m : Nat} {EN : Nat → Nat} {EE : Nat → Nat → Nat → Nat} {stories : Nat → Option Nat} {QS : Nat → Nat} {k1 k2 k3 k4 : Nat → Nat → Int32} {kn : Nat → Int32} {many : Nat → Int32} {ev : Nat → Nat → Int32} (hS : HS m EN EE stories QS k1 k2 k3 k4 kn many ev) (j : Nat) (hj : SEL p1 m j) (mly : Nat → Nat → Int32) (mwo : Nat → Int32) (et eh se th : Int32) (o : Nat → Int64) : ∃ oc om, sp_W_wears K p1 p2 p3 stories (QS j) (J m) (k1 j) (k2 j) (k3 j) (k4 j) (kn j) o = some oc ∧ sp_M_wears K p1 p2 p3 thr m5 m6 m1 m2 (J m) many ev mly mwo (J (-1)) (J (-1)) et eh (J (-1)) se th = some om ∧ AA oc.1 oc.2 om.1 om.2.1 := by
  obtain ⟨hl, R, Q⟩ := hL
  obtain ⟨hm, hq, hst⟩ := hS
  obtain ⟨a, rfl, ha⟩ := ex_J p1
  obtain ⟨b, rfl, hb⟩ := ex_J p2
  obtain ⟨d, rfl, hd⟩ := ex_J p3
  by_cases h : 0 ≤ a ∧ a < m
  · obtain ⟨a, rfl⟩ : ∃ x : Nat, a = x := ⟨a.toNat, by omega⟩
    obtain rfl : j = a := hj a (by omega) rfl
    have hjm : j < m := by omega
    obtain ⟨s1, s2, s3⟩ := hst j hjm
    have eS := storyAt_t K hjm hm (hq j (by omega))
    have eI := isStory_t K (a := j) (n := m) (by omega) (by omega)
    by_cases h' : (0 ≤ b ∧ b < 10) ∧ (0 ≤ d ∧ d < 100)
    · obtain ⟨b, rfl⟩ : ∃ x : Nat, b = x := ⟨b.toNat, by omega⟩
      obtain ⟨d, rfl⟩ : ∃ x : Nat, d = x := ⟨d.toNat, by omega⟩
      obtain ⟨mly', mwo', f1, f2⟩ := m_run K hK hl Q s1 s3 et eh se th (h := d) (by omega) mly mwo
      have eB := badPlace_t K (by omega) (J 2) h'.1 (b := 0) (by omega) h'.2
      obtain ⟨c, e1, e2, e3, e4⟩ := p_eventsUntil K (by omega) s1 s2.2.2.2.2 (h := d) (by omega)
      have eW := p_wornBehind K (by omega) s1 s2 (a := b) (m := c) (by omega) e2
      have eR := f2.2 b (by omega)
      rw [run_worn l s1 b d c e2 e3 e4] at eR
      have hw := wornA_le s1.2.1 b c e2
      have hkn := s2.1
      obtain ⟨k, rfl⟩ : ∃ k, K = k + 1 := ⟨K - 1, by omega⟩
      rw [hkn] at eW ⊢
      refine ⟨_, _, by simp (disch := omega) only [sp_W_wears, sp_wears, eS, e1, eW, J_lit, J_add, J_sub, J_mul, J_neg, J_nat, J_inb, J_div, ↓reduceIte, Int.toNat_natCast, Option.bind_some, J_le_t, J_le_f, J_lt_t, J_lt_f, J_eq_t, J_eq_f, L_lit, L_add, L_sub, L_mul, L_div, JL, LJ, Int.reduceToNat, Int.toNat_zero, Int.toNat_one, xb, xm, within_t, within_f, nb_t, nb_f, ni_t, ni_f, in_t, in_f, less_, bad_0, bad_1, not_true_eq_false, not_false_eq_true, L_lt_t, L_lt_f, L_eq_t, L_eq_f, lg_gt, lg_eq, lg_lt]; rfl, by simp (disch := omega) only [sp_M_wears, f_M_wears, eI, eB, f1, eR, J_lit, J_add, J_sub, J_mul, J_neg, J_nat, J_inb, J_div, ↓reduceIte, Int.toNat_natCast, Option.bind_some, J_le_t, J_le_f, J_lt_t, J_lt_f, J_eq_t, J_eq_f, L_lit, L_add, L_sub, L_mul, L_div, JL, LJ, Int.reduceToNat, Int.toNat_zero, Int.toNat_one, xb, xm, within_t, within_f, nb_t, nb_f, ni_t, ni_f, in_t, in_f, less_, bad_0, bad_1, not_true_eq_false, not_false_eq_true, L_lt_t, L_lt_f, L_eq_t, L_eq_f, lg_gt, lg_eq, lg_lt]; rfl, (by first | exact AA_0 _ _ | exact AA_L _ (by omega))⟩
    · have eB := badPlace_f K (by omega) (w := 2) (by omega) hb (b := 0) (by omega) hd (by omega)
      obtain ⟨k, rfl⟩ : ∃ k, K = k + 1 := ⟨K - 1, by omega⟩
      have eM : sp_M_wears (k + 1) (J j) (J b) (J d) thr m5 m6 m1 m2 (J m) many ev mly mwo (J (-1)) (J (-1)) et eh (J (-1)) se th = some (J 0, J 2, mly, mwo) := by
        clear h'
        simp (disch := omega) only [sp_M_wears, f_M_wears, eI, eB, J_lit, J_add, J_sub, J_mul, J_neg, J_nat, J_inb, J_div, ↓reduceIte, Int.toNat_natCast, Option.bind_some, J_le_t, J_le_f, J_lt_t, J_lt_f, J_eq_t, J_eq_f, L_lit, L_add, L_sub, L_mul, L_div, JL, LJ, Int.reduceToNat, Int.toNat_zero, Int.toNat_one, xb, xm, within_t, within_f, nb_t, nb_f, ni_t, ni_f, in_t, in_f, less_, bad_0, bad_1, not_true_eq_false, not_false_eq_true, L_lt_t, L_lt_f, L_eq_t, L_eq_f, lg_gt, lg_eq, lg_lt]
      by_cases hb1 : 0 ≤ b ∧ b < 10
      · have hd1 : d < 0 ∨ 100 ≤ d := by omega
        clear h'
        exact ⟨_, _, by simp (disch := omega) only [sp_W_wears, sp_wears, eS, J_lit, J_add, J_sub, J_mul, J_neg, J_nat, J_inb, J_div, ↓reduceIte, Int.toNat_natCast, Option.bind_some, J_le_t, J_le_f, J_lt_t, J_lt_f, J_eq_t, J_eq_f, L_lit, L_add, L_sub, L_mul, L_div, JL, LJ, Int.reduceToNat, Int.toNat_zero, Int.toNat_one, xb, xm, within_t, within_f, nb_t, nb_f, ni_t, ni_f, in_t, in_f, less_, bad_0, bad_1, not_true_eq_false, not_false_eq_true, L_lt_t, L_lt_f, L_eq_t, L_eq_f, lg_gt, lg_eq, lg_lt]; rfl, eM, (by exact AA_e _ _ (by omega))⟩
      · clear h'
        exact ⟨_, _, by simp (disch := omega) only [sp_W_wears, sp_wears, eS, J_lit, J_add, J_sub, J_mul, J_neg, J_nat, J_inb, J_div, ↓reduceIte, Int.toNat_natCast, Option.bind_some, J_le_t, J_le_f, J_lt_t, J_lt_f, J_eq_t, J_eq_f, L_lit, L_add, L_sub, L_mul, L_div, JL, LJ, Int.reduceToNat, Int.toNat_zero, Int.toNat_one, xb, xm, within_t, within_f, nb_t, nb_f, ni_t, ni_f, in_t, in_f, less_, bad_0, bad_1, not_true_eq_false, not_false_eq_true, L_lt_t, L_lt_f, L_eq_t, L_eq_f, lg_gt, lg_eq, lg_lt]; rfl, eM, (by exact AA_e _ _ (by omega))⟩
  · have eS := storyAt_f K ha hm (by omega) stories (QS j)
    have eI := isStory_f K ha h (by omega)
    obtain ⟨k, rfl⟩ : ∃ k, K = k + 1 := ⟨K - 1, by omega⟩
    exact ⟨_, _, by simp (disch := omega) only [sp_W_wears, sp_wears, eS, J_lit, J_add, J_sub, J_mul, J_neg, J_nat, J_inb, J_div, ↓reduceIte, Int.toNat_natCast, Option.bind_some, J_le_t, J_le_f, J_lt_t, J_lt_f, J_eq_t, J_eq_f, L_lit, L_add, L_sub, L_mul, L_div, JL, LJ, Int.reduceToNat, Int.toNat_zero, Int.toNat_one, xb, xm, within_t, within_f, nb_t, nb_f, ni_t, ni_f, in_t, in_f, less_, bad_0, bad_1, not_true_eq_false, not_false_eq_true, L_lt_t, L_lt_f, L_eq_t, L_eq_f, lg_gt, lg_eq, lg_lt]; rfl, by simp (disch := omega) only [sp_M_wears, f_M_wears, eI, J_lit, J_add, J_sub, J_mul, J_neg, J_nat, J_inb, J_div, ↓reduceIte, Int.toNat_natCast, Option.bind_some, J_le_t, J_le_f, J_lt_t, J_lt_f, J_eq_t, J_eq_f, L_lit, L_add, L_sub, L_mul, L_div, JL, LJ, Int.reduceToNat, Int.toNat_zero, Int.toNat_one, xb, xm, within_t, within_f, nb_t, nb_f, ni_t, ni_f, in_t, in_f, less_, bad_0, bad_1, not_true_eq_false, not_false_eq_true, L_lt_t, L_lt_f, L_eq_t, L_eq_f, lg_gt, lg_eq, lg_lt]; rfl, (by exact AA_e _ _ (by omega))⟩
set_option maxHeartbeats 2000000 in
theorem pc_events (K : Nat) (hK : 1000000 ≤ K) (p1 thr : Int32) {m : Nat} {EN : Nat → Nat} {EE : Nat → Nat → Nat → Nat} {stories : Nat → Option Nat} {QS : Nat → Nat} {k1 k2 k3 k4 : Nat → Nat → Int32} {kn : Nat → Int32} {many : Nat → Int32} {ev : Nat → Nat → Int32} (hS : HS m EN EE stories QS k1 k2 k3 k4 kn many ev) (j : Nat) (hj : SEL p1 m j) (o : Nat → Int64) : ∃ oc om, sp_W_events K p1 stories (QS j) (J m) (kn j) o = some oc ∧ sp_M_events K p1 thr (J m) many = some om ∧ AA oc.1 oc.2 om.1 om.2 := by
  obtain ⟨hm, hq, hst⟩ := hS
  obtain ⟨a, rfl, ha⟩ := ex_J p1
  by_cases h : 0 ≤ a ∧ a < m
  · obtain ⟨a, rfl⟩ : ∃ x : Nat, a = x := ⟨a.toNat, by omega⟩
    obtain rfl : j = a := hj a (by omega) rfl
    have hjm : j < m := by omega
    obtain ⟨s1, s2, s3⟩ := hst j hjm
    have eS := storyAt_t K hjm hm (hq j (by omega))
    have eI := isStory_t K (a := j) (n := m) (by omega) (by omega)
    have hn := s1.1
    obtain ⟨k, rfl⟩ : ∃ k, K = k + 1 := ⟨K - 1, by omega⟩
    rw [s2.1]
    refine ⟨_, _, by simp (disch := omega) only [sp_W_events, sp_events, eS, J_lit, J_add, J_sub, J_mul, J_neg, J_nat, J_inb, J_div, ↓reduceIte, Int.toNat_natCast, Option.bind_some, J_le_t, J_le_f, J_lt_t, J_lt_f, J_eq_t, J_eq_f, L_lit, L_add, L_sub, L_mul, L_div, JL, LJ, Int.reduceToNat, Int.toNat_zero, Int.toNat_one, xb, xm, within_t, within_f, nb_t, nb_f, ni_t, ni_f, in_t, in_f, less_, bad_0, bad_1, not_true_eq_false, not_false_eq_true, L_lt_t, L_lt_f, L_eq_t, L_eq_f, lg_gt, lg_eq, lg_lt]; rfl, by simp (disch := omega) only [sp_M_events, f_M_events, eI, s3.2.2.1, J_lit, J_add, J_sub, J_mul, J_neg, J_nat, J_inb, J_div, ↓reduceIte, Int.toNat_natCast, Option.bind_some, J_le_t, J_le_f, J_lt_t, J_lt_f, J_eq_t, J_eq_f, L_lit, L_add, L_sub, L_mul, L_div, JL, LJ, Int.reduceToNat, Int.toNat_zero, Int.toNat_one, xb, xm, within_t, within_f, nb_t, nb_f, ni_t, ni_f, in_t, in_f, less_, bad_0, bad_1, not_true_eq_false, not_false_eq_true, L_lt_t, L_lt_f, L_eq_t, L_eq_f, lg_gt, lg_eq, lg_lt]; rfl, (by first | exact AA_0 _ _ | exact AA_L _ (by omega))⟩
  · have eS := storyAt_f K ha hm (by omega) stories (QS j)
    have eI := isStory_f K ha h (by omega)
    obtain ⟨k, rfl⟩ : ∃ k, K = k + 1 := ⟨K - 1, by omega⟩
    exact ⟨_, _, by simp (disch := omega) only [sp_W_events, sp_events, eS, J_lit, J_add, J_sub, J_mul, J_neg, J_nat, J_inb, J_div, ↓reduceIte, Int.toNat_natCast, Option.bind_some, J_le_t, J_le_f, J_lt_t, J_lt_f, J_eq_t, J_eq_f, L_lit, L_add, L_sub, L_mul, L_div, JL, LJ, Int.reduceToNat, Int.toNat_zero, Int.toNat_one, xb, xm, within_t, within_f, nb_t, nb_f, ni_t, ni_f, in_t, in_f, less_, bad_0, bad_1, not_true_eq_false, not_false_eq_true, L_lt_t, L_lt_f, L_eq_t, L_eq_f, lg_gt, lg_eq, lg_lt]; rfl, by simp (disch := omega) only [sp_M_events, f_M_events, eI, J_lit, J_add, J_sub, J_mul, J_neg, J_nat, J_inb, J_div, ↓reduceIte, Int.toNat_natCast, Option.bind_some, J_le_t, J_le_f, J_lt_t, J_lt_f, J_eq_t, J_eq_f, L_lit, L_add, L_sub, L_mul, L_div, JL, LJ, Int.reduceToNat, Int.toNat_zero, Int.toNat_one, xb, xm, within_t, within_f, nb_t, nb_f, ni_t, ni_f, in_t, in_f, less_, bad_0, bad_1, not_true_eq_false, not_false_eq_true, L_lt_t, L_lt_f, L_eq_t, L_eq_f, lg_gt, lg_eq, lg_lt]; rfl, (by exact AA_e _ _ (by omega))⟩
