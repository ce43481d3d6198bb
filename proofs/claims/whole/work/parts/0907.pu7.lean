def BR (b N : Nat) (big : Nat → Nat → Int32) : Prop := ∃ a : Nat → Nat, (∀ i, i < 330 → big b i = J (a i)) ∧ (∀ i, i < 330 → a i < 10000) ∧ val 10000 a 330 = N
set_option maxHeartbeats 2000000 in
theorem BR_congr {b N : Nat} {big big' : Nat → Nat → Int32} (h : BR b N big) (e : ∀ i, i < 330 → big' b i = big b i) : BR b N big' := by
  obtain ⟨a, h1, h2, h3⟩ := h
  exact ⟨a, fun i hi => (e i hi).trans (h1 i hi), h2, h3⟩
set_option maxHeartbeats 2000000 in
theorem id2 (V P VA cy q r ai v : Nat) (h : V + cy * P = VA * v) (hs : ai * v + cy = r + 10000 * q) : V + r * P + q * (P * 10000) = (VA + ai * P) * v := by grind
set_option maxHeartbeats 2000000 in
theorem p_M_times (K : Nat) (hK : 1000 ≤ K) {b v N : Nat} (hb : b < 3) (hv : v ≤ 1000000) {big : Nat → Nat → Int32} (h : BR b N big) (hN : N * v < 10000 ^ 330) : ∃ big', sp_M_times K (J b) (J v) big = some big' ∧ BR b (N * v) big' ∧ ∀ r, r ≠ b → big' r = big r := by
  obtain ⟨a, ha, hlt, hval⟩ := h
  obtain ⟨m, s, g1, ⟨G, c, cy, rfl, hG1, hG2, hc, hcy, hinv, hot⟩, g3⟩ := lp (fun k s => f_M_times K k 0 s) (fun i s => ∃ (G : Nat → Nat → Int32) (c : Nat → Nat) (cy : Nat), s = (J b, J v, L cy, J i, G) ∧ (∀ q, q < i → G b q = J (c q)) ∧ (∀ q, i ≤ q → G b q = big b q) ∧ (∀ q, q < i → c q < 10000) ∧ cy ≤ v ∧ val 10000 c i + cy * 10000 ^ i = val 10000 a i * v ∧ ∀ r, r ≠ b → G r = big r) 1 330 (by
    rintro i hi s ⟨G, c, cy, rfl, hG1, hG2, hc, hcy, hinv, hot⟩ m
    have hai := hlt i hi
    have q1 : a i * v ≤ 9999 * v := Nat.mul_le_mul_right _ (by omega)
    have x1 : (a i : Int) * (v : Int) = ((a i * v : Nat) : Int) := (Int.natCast_mul _ _).symm
    obtain ⟨sm, hsm⟩ : ∃ sm, sm = a i * v + cy := ⟨_, rfl⟩
    have hsml : sm ≤ 10000 * v := by omega
    have x3 : ((a i * v : Nat) : Int) + (cy : Int) = (sm : Int) := by omega
    have x4 : (sm : Int) - ((sm / 10000 : Nat) : Int) * 10000 = ((sm % 10000 : Nat) : Int) := by omega
    have x5 : (sm : Int) / 10000 = ((sm / 10000 : Nat) : Int) := by omega
    have eg : G b i = J (a i) := by rw [hG2 i (Nat.le_refl _)]; exact ha i hi
    refine ⟨m, _, by omega, ⟨_, va_up c i (sm % 10000), sm / 10000, rfl, fun q hq => ?_, fun q hq => ?_, fun q hq => ?_, by omega, ?_, fun r hr => ?_⟩, by simp (disch := omega) only [f_M_times, eg, x1, x3, x4, x5, cast1, J_lit, J_add, J_sub, J_mul, J_neg, J_nat, J_inb, J_div, ↓reduceIte, Int.toNat_natCast, Option.bind_some, J_le_t, J_le_f, J_lt_t, J_lt_f, J_eq_t, J_eq_f, L_lit, L_add, L_sub, L_mul, L_div, JL, LJ, Int.reduceToNat, Int.toNat_zero, Int.toNat_one, xb, xm, within_t, within_f, nb_t, nb_f, ni_t, ni_f, in_t, in_f, less_, bad_0, bad_1, not_true_eq_false, not_false_eq_true, L_lt_t, L_lt_f, L_eq_t, L_eq_f, lg_gt, lg_eq, lg_lt]; rfl⟩
    · rw [va_up_eq]
      unfold upd va_up; split
      · rfl
      · exact hG1 q (by omega)
    · rw [va_up_eq]
      unfold upd; rw [if_neg (by omega)]; exact hG2 q (by omega)
    · unfold va_up; split
      · exact Nat.mod_lt _ (by omega)
      · exact hc q (by omega)
    · rw [val, va_up_eq, val_cong (a := va_up c i (sm % 10000)) (b := c) (fun q hq => pu_up_ne _ _ (by omega)), val, Nat.pow_succ]
      exact id2 _ _ _ _ _ _ _ _ hinv (by rw [← hsm]; exact (Nat.mod_add_div sm 10000).symm)
    · rw [pu_up_ne _ _ hr]; exact hot r hr) (J b, J v, L 0, J 0, big) ⟨big, fun _ => 0, 0, rfl, fun q hq => by omega, fun q _ => rfl, fun q hq => by omega, by omega, by simp [val], fun r _ => rfl⟩ K (by omega)
  obtain ⟨m, rfl⟩ : ∃ k, m = k + 1 := ⟨m - 1, by omega⟩
  rw [hval] at hinv
  have hz : cy = 0 := by
    by_cases hz : cy = 0
    · exact hz
    · have : 1 * 10000 ^ 330 ≤ cy * 10000 ^ 330 := Nat.mul_le_mul_right _ (by omega)
      generalize 10000 ^ 330 = Q at *
      omega
  rw [hz, Nat.zero_mul, Nat.add_zero] at hinv
  refine ⟨G, ?_, ⟨c, hG1, hc, hinv⟩, hot⟩
  have e0 : sp_M_times K (J b) (J v) big = f_M_times K K 0 (J b, J v, L 0, J 0, big) := by
    simp (disch := omega) only [sp_M_times, J_lit, J_add, J_sub, J_mul, J_neg, J_nat, J_inb, J_div, ↓reduceIte, Int.toNat_natCast, Option.bind_some, J_le_t, J_le_f, J_lt_t, J_lt_f, J_eq_t, J_eq_f, L_lit, L_add, L_sub, L_mul, L_div, JL, LJ, Int.reduceToNat, Int.toNat_zero, Int.toNat_one, xb, xm, within_t, within_f, nb_t, nb_f, ni_t, ni_f, in_t, in_f, less_, bad_0, bad_1, not_true_eq_false, not_false_eq_true, L_lt_t, L_lt_f, L_eq_t, L_eq_f, lg_gt, lg_eq, lg_lt]
  rw [e0, g3]
  simp (disch := omega) only [f_M_times, J_lit, J_add, J_sub, J_mul, J_neg, J_nat, J_inb, J_div, ↓reduceIte, Int.toNat_natCast, Option.bind_some, J_le_t, J_le_f, J_lt_t, J_lt_f, J_eq_t, J_eq_f, L_lit, L_add, L_sub, L_mul, L_div, JL, LJ, Int.reduceToNat, Int.toNat_zero, Int.toNat_one, xb, xm, within_t, within_f, nb_t, nb_f, ni_t, ni_f, in_t, in_f, less_, bad_0, bad_1, not_true_eq_false, not_false_eq_true, L_lt_t, L_lt_f, L_eq_t, L_eq_f, lg_gt, lg_eq, lg_lt]
set_option maxHeartbeats 2000000 in
theorem id3 (P U q r d v w s : Nat) (h : U = q * v + r) (hs : r * 10000 + d = w * v + s) : U * 10000 + d = (q * 10000 + w) * v + s := by grind
set_option maxHeartbeats 2000000 in
theorem p_M_parts (K : Nat) (hK : 1000 ≤ K) {b v N : Nat} (hb : b < 3) (hv : 1 ≤ v ∧ v ≤ 100) {big : Nat → Nat → Int32} (h : BR b (N * v) big) : ∃ big', sp_M_parts K (J b) (J v) big = some big' ∧ BR b N big' ∧ ∀ r, r ≠ b → big' r = big r := by
  obtain ⟨a, ha, hlt, hval⟩ := h
  obtain ⟨m, s, g1, ⟨G, c, re, rfl, hG1, hG2, hc, hre, hinv, hot⟩, g3⟩ := lp (fun k s => f_M_parts K k 0 s) (fun t s => ∃ (G : Nat → Nat → Int32) (c : Nat → Nat) (re : Nat), s = (J b, J v, J re, J ((329 : Int) - t), G) ∧ (∀ q, q < 330 → 330 ≤ q + t → G b q = J (c q)) ∧ (∀ q, q + t < 330 → G b q = big b q) ∧ (∀ q, q < 330 → 330 ≤ q + t → c q < 10000) ∧ re < v ∧ val 10000 (fun i => a (330 - t + i)) t = val 10000 (fun i => c (330 - t + i)) t * v + re ∧ ∀ r, r ≠ b → G r = big r) 1 330 (by
    rintro t ht s ⟨G, c, re, rfl, hG1, hG2, hc, hre, hinv, hot⟩ m
    obtain ⟨i, hi⟩ : ∃ i : Nat, i + t + 1 = 330 := ⟨329 - t, by omega⟩
    have hai := hlt i (by omega)
    have ei : (329 : Int) - (t : Int) = (i : Int) := by omega
    have ei1 : (i : Int) + -1 = (329 : Int) - ((t + 1 : Nat) : Int) := by omega
    have eg : G b i = J (a i) := by rw [hG2 i (by omega)]; exact ha i (by omega)
    obtain ⟨sm, hsm⟩ : ∃ sm, sm = re * 10000 + a i := ⟨_, rfl⟩
    have x3 : (re : Int) * 10000 + (a i : Int) = (sm : Int) := by omega
    have hsml : sm < 10000 * v := by omega
    have x5 : (sm : Int) / (v : Int) = ((sm / v : Nat) : Int) := (Int.natCast_ediv _ _).symm
    have hdm : v * (sm / v) + sm % v = sm := Nat.div_add_mod sm v
    have hdm2 : (sm / v) * v ≤ sm := Nat.div_mul_le_self sm v
    have x6 : ((sm / v : Nat) : Int) * (v : Int) = ((sm / v * v : Nat) : Int) := (Int.natCast_mul _ _).symm
    have hcm : v * (sm / v) = sm / v * v := Nat.mul_comm _ _
    have x4 : (sm : Int) - ((sm / v * v : Nat) : Int) = ((sm % v : Nat) : Int) := by omega
    have hml : sm % v < v := Nat.mod_lt _ (by omega)
    have hw : sm / v < 10000 := Nat.div_lt_of_lt_mul (by rw [Nat.mul_comm]; exact hsml)
    have hvv : (v : Int) ≠ 0 := by omega
    refine ⟨m, _, by omega, ⟨_, va_up c i (sm / v), sm % v, rfl, fun q h1 h2 => ?_, fun q hq => ?_, fun q h1 h2 => ?_, hml, ?_, fun r hr => ?_⟩, by simp (disch := omega) only [f_M_parts, ei, eg, x3, x5, x6, x4, ei1, J_lit, J_add, J_sub, J_mul, J_neg, J_nat, J_inb, J_div, ↓reduceIte, Int.toNat_natCast, Option.bind_some, J_le_t, J_le_f, J_lt_t, J_lt_f, J_eq_t, J_eq_f, L_lit, L_add, L_sub, L_mul, L_div, JL, LJ, Int.reduceToNat, Int.toNat_zero, Int.toNat_one, xb, xm, within_t, within_f, nb_t, nb_f, ni_t, ni_f, in_t, in_f, less_, bad_0, bad_1, not_true_eq_false, not_false_eq_true, L_lt_t, L_lt_f, L_eq_t, L_eq_f, lg_gt, lg_eq, lg_lt]; rfl⟩
    · rw [va_up_eq]
      unfold upd va_up; split
      · rfl
      · exact hG1 q h1 (by omega)
    · rw [va_up_eq]
      unfold upd; rw [if_neg (by omega)]; exact hG2 q (by omega)
    · unfold va_up; split
      · exact hw
      · exact hc q h1 (by omega)
    ·
      have sh : ∀ f : Nat → Nat, val 10000 (fun q => f (330 - (t + 1) + q)) (t + 1) = f i + 10000 * val 10000 (fun q => f (330 - t + q)) t := by
        intro f
        rw [show 330 - (t + 1) = i by omega, show 330 - t = i + 1 by omega]
        have : ∀ n, val 10000 (fun q => f (i + q)) (n + 1) = f i + 10000 * val 10000 (fun q => f (i + 1 + q)) n := by
          intro n
          induction n with
          | zero => simp [val]
          | succ n ih =>
            rw [val, ih, val, Nat.mul_add, Nat.add_assoc]
            congr 2
            rw [Nat.pow_succ, show i + (n + 1) = i + 1 + n by omega, ← Nat.mul_assoc, ← Nat.mul_assoc, Nat.mul_comm _ 10000, Nat.mul_assoc]
        exact this t
      rw [sh a, sh (va_up c i (sm / v)), va_up_eq]
      have hcg : val 10000 (fun q => va_up c i (sm / v) (330 - t + q)) t = val 10000 (fun q => c (330 - t + q)) t := val_cong (fun q hq => pu_up_ne _ _ (by omega))
      rw [hcg]
      have := id3 0 _ _ _ (a i) v (sm / v) (sm % v) hinv (by rw [← hsm, Nat.mul_comm (sm / v) v]; exact hdm.symm)
      rw [Nat.add_comm (a i), Nat.mul_comm 10000, this, Nat.add_comm (sm / v), Nat.mul_comm 10000]
    · rw [pu_up_ne _ _ hr]; exact hot r hr) (J b, J v, J 0, J 329, big) ⟨big, fun _ => 0, 0, rfl, fun q h1 h2 => by omega, fun q _ => rfl, fun q h1 h2 => by omega, by omega, by simp [val], fun r _ => rfl⟩ K (by omega)
  obtain ⟨m, rfl⟩ : ∃ k, m = k + 1 := ⟨m - 1, by omega⟩
  have e1 : val 10000 (fun i => a (330 - 330 + i)) 330 = N * v := by
    rw [← hval]; exact val_cong (fun i _ => by rw [show 330 - 330 + i = i by omega])
  have e2 : val 10000 (fun i => c (330 - 330 + i)) 330 = val 10000 c 330 := val_cong (fun i _ => by rw [show 330 - 330 + i = i by omega])
  rw [e1, e2] at hinv
  have hN : val 10000 c 330 = N := by
    generalize val 10000 c 330 = Q at *
    have h1 : (Q * v + re) / v = Q := by
      rw [Nat.add_comm, Nat.add_mul_div_right _ _ (by omega), Nat.div_eq_of_lt hre, Nat.zero_add]
    rw [← hinv, Nat.mul_div_cancel _ (by omega)] at h1
    exact h1.symm
  refine ⟨G, ?_, ⟨c, fun i hi => hG1 i hi (by omega), fun i hi => hc i hi (by omega), hN⟩, hot⟩
  have e0 : sp_M_parts K (J b) (J v) big = f_M_parts K K 0 (J b, J v, J 0, J 329, big) := by
    simp (disch := omega) only [sp_M_parts, J_lit, J_add, J_sub, J_mul, J_neg, J_nat, J_inb, J_div, ↓reduceIte, Int.toNat_natCast, Option.bind_some, J_le_t, J_le_f, J_lt_t, J_lt_f, J_eq_t, J_eq_f, L_lit, L_add, L_sub, L_mul, L_div, JL, LJ, Int.reduceToNat, Int.toNat_zero, Int.toNat_one, xb, xm, within_t, within_f, nb_t, nb_f, ni_t, ni_f, in_t, in_f, less_, bad_0, bad_1, not_true_eq_false, not_false_eq_true, L_lt_t, L_lt_f, L_eq_t, L_eq_f, lg_gt, lg_eq, lg_lt]
  rw [e0]
  refine Eq.trans g3 ?_
  simp (disch := omega) only [f_M_parts, J_lit, J_add, J_sub, J_mul, J_neg, J_nat, J_inb, J_div, ↓reduceIte, Int.toNat_natCast, Option.bind_some, J_le_t, J_le_f, J_lt_t, J_lt_f, J_eq_t, J_eq_f, L_lit, L_add, L_sub, L_mul, L_div, JL, LJ, Int.reduceToNat, Int.toNat_zero, Int.toNat_one, xb, xm, within_t, within_f, nb_t, nb_f, ni_t, ni_f, in_t, in_f, less_, bad_0, bad_1, not_true_eq_false, not_false_eq_true, L_lt_t, L_lt_f, L_eq_t, L_eq_f, lg_gt, lg_eq, lg_lt]
set_option maxHeartbeats 2000000 in
theorem p_M_isNothing (K : Nat) (hK : 1000 ≤ K) {b N : Nat} (hb : b < 3) {big : Nat → Nat → Int32} (h : BR b N big) : sp_M_isNothing K (J b) big = some (J (if N = 0 then 1 else 0)) := by
  obtain ⟨a, ha, hlt, hval⟩ := h
  have key : ∀ r i, r + i = 330 → (∀ q, q < i → a q = 0) → ∀ m, r + 1 ≤ m → f_M_isNothing K big m 0 (J b, J (i : Int)) = some (J (if N = 0 then 1 else 0)) := by
    intro r
    induction r with
    | zero =>
      intro i hi hz m hm
      obtain ⟨m, rfl⟩ : ∃ k, m = k + 1 := ⟨m - 1, by omega⟩
      have : N = 0 := by
        rw [← hval, val_zero 0 330 (by omega) (fun q _ h2 => hz q (by omega))]; rfl
      rw [if_pos this]
      simp (disch := omega) only [f_M_isNothing, J_lit, J_add, J_sub, J_mul, J_neg, J_nat, J_inb, J_div, ↓reduceIte, Int.toNat_natCast, Option.bind_some, J_le_t, J_le_f, J_lt_t, J_lt_f, J_eq_t, J_eq_f, L_lit, L_add, L_sub, L_mul, L_div, JL, LJ, Int.reduceToNat, Int.toNat_zero, Int.toNat_one, xb, xm, within_t, within_f, nb_t, nb_f, ni_t, ni_f, in_t, in_f, less_, bad_0, bad_1, not_true_eq_false, not_false_eq_true, L_lt_t, L_lt_f, L_eq_t, L_eq_f, lg_gt, lg_eq, lg_lt]
    | succ r ih =>
      intro i hi hz m hm
      obtain ⟨m, rfl⟩ : ∃ k, m = k + 1 := ⟨m - 1, by omega⟩
      have f1 := ha i (by omega)
      have q1 := hlt i (by omega)
      by_cases h0 : a i = 0
      · rw [← ih (i + 1) (by omega) (fun q hq => by
          by_cases hqi : q = i
          · subst hqi; exact h0
          · exact hz q (by omega)) m (by omega)]
        simp (disch := omega) only [f_M_isNothing, f1, cast1, J_lit, J_add, J_sub, J_mul, J_neg, J_nat, J_inb, J_div, ↓reduceIte, Int.toNat_natCast, Option.bind_some, J_le_t, J_le_f, J_lt_t, J_lt_f, J_eq_t, J_eq_f, L_lit, L_add, L_sub, L_mul, L_div, JL, LJ, Int.reduceToNat, Int.toNat_zero, Int.toNat_one, xb, xm, within_t, within_f, nb_t, nb_f, ni_t, ni_f, in_t, in_f, less_, bad_0, bad_1, not_true_eq_false, not_false_eq_true, L_lt_t, L_lt_f, L_eq_t, L_eq_f, lg_gt, lg_eq, lg_lt]
      · have : N ≠ 0 := fun hN => h0 (val_eq_zero (by decide) (hval.trans hN) i (by omega))
        rw [if_neg this]
        simp (disch := omega) only [f_M_isNothing, f1, J_lit, J_add, J_sub, J_mul, J_neg, J_nat, J_inb, J_div, ↓reduceIte, Int.toNat_natCast, Option.bind_some, J_le_t, J_le_f, J_lt_t, J_lt_f, J_eq_t, J_eq_f, L_lit, L_add, L_sub, L_mul, L_div, JL, LJ, Int.reduceToNat, Int.toNat_zero, Int.toNat_one, xb, xm, within_t, within_f, nb_t, nb_f, ni_t, ni_f, in_t, in_f, less_, bad_0, bad_1, not_true_eq_false, not_false_eq_true, L_lt_t, L_lt_f, L_eq_t, L_eq_f, lg_gt, lg_eq, lg_lt]
  rw [← key 330 0 (by omega) (fun q hq => by omega) K (by omega)]
  simp (disch := omega) only [sp_M_isNothing, Int.natCast_zero, J_lit, J_add, J_sub, J_mul, J_neg, J_nat, J_inb, J_div, ↓reduceIte, Int.toNat_natCast, Option.bind_some, J_le_t, J_le_f, J_lt_t, J_lt_f, J_eq_t, J_eq_f, L_lit, L_add, L_sub, L_mul, L_div, JL, LJ, Int.reduceToNat, Int.toNat_zero, Int.toNat_one, xb, xm, within_t, within_f, nb_t, nb_f, ni_t, ni_f, in_t, in_f, less_, bad_0, bad_1, not_true_eq_false, not_false_eq_true, L_lt_t, L_lt_f, L_eq_t, L_eq_f, lg_gt, lg_eq, lg_lt]
set_option maxHeartbeats 2000000 in
theorem p_M_compare (K : Nat) (hK : 1000 ≤ K) {b c A B : Nat} (hb : b < 3) (hc : c < 3) {big : Nat → Nat → Int32} (h1 : BR b A big) (h2 : BR c B big) : sp_M_compare K (J b) (J c) big = some (J (cmpA A B)) := by
  obtain ⟨a, ha, hla, hva⟩ := h1
  obtain ⟨d, hd, hld, hvd⟩ := h2
  unfold cmpA
  have key : ∀ r, r ≤ 330 → (∀ i, r ≤ i → i < 330 → a i = d i) → ∀ m, r + 1 ≤ m → f_M_compare K big m 0 (J b, J c, J ((r : Int) - 1)) = some (J (if A = B then 0 else if A < B then -1 else 1)) := by
    intro r
    induction r with
    | zero =>
      intro _ he m hm
      obtain ⟨m, rfl⟩ : ∃ k, m = k + 1 := ⟨m - 1, by omega⟩
      have : A = B := by rw [← hva, ← hvd]; exact val_cong (fun i hi => he i (by omega) hi)
      rw [if_pos this]
      simp (disch := omega) only [f_M_compare, J_lit, J_add, J_sub, J_mul, J_neg, J_nat, J_inb, J_div, ↓reduceIte, Int.toNat_natCast, Option.bind_some, J_le_t, J_le_f, J_lt_t, J_lt_f, J_eq_t, J_eq_f, L_lit, L_add, L_sub, L_mul, L_div, JL, LJ, Int.reduceToNat, Int.toNat_zero, Int.toNat_one, xb, xm, within_t, within_f, nb_t, nb_f, ni_t, ni_f, in_t, in_f, less_, bad_0, bad_1, not_true_eq_false, not_false_eq_true, L_lt_t, L_lt_f, L_eq_t, L_eq_f, lg_gt, lg_eq, lg_lt]
    | succ r ih =>
      intro hr he m hm
      obtain ⟨m, rfl⟩ : ∃ k, m = k + 1 := ⟨m - 1, by omega⟩
      have er : ((r + 1 : Nat) : Int) - 1 = (r : Int) := by omega
      have f1 := ha r (by omega)
      have f2 := hd r (by omega)
      have q1 := hla r (by omega)
      have q2 := hld r (by omega)
      by_cases hab : a r = d r
      · have := ih (by omega) (fun i h1 h2 => by
          by_cases hir : i = r
          · subst hir; exact hab
          · exact he i (by omega) h2) m (by omega)
        rw [← this]
        simp (disch := omega) only [f_M_compare, er, f1, f2, J_lit, J_add, J_sub, J_mul, J_neg, J_nat, J_inb, J_div, ↓reduceIte, Int.toNat_natCast, Option.bind_some, J_le_t, J_le_f, J_lt_t, J_lt_f, J_eq_t, J_eq_f, L_lit, L_add, L_sub, L_mul, L_div, JL, LJ, Int.reduceToNat, Int.toNat_zero, Int.toNat_one, xb, xm, within_t, within_f, nb_t, nb_f, ni_t, ni_f, in_t, in_f, less_, bad_0, bad_1, not_true_eq_false, not_false_eq_true, L_lt_t, L_lt_f, L_eq_t, L_eq_f, lg_gt, lg_eq, lg_lt]
        rfl
      · by_cases hlt : a r < d r
        · have hAB : A < B := by rw [← hva, ← hvd]; exact val_cmp (by decide) (show r < 330 by omega) hla hld (fun i h1 h2 => he i (by omega) h2) hlt
          rw [if_neg (by omega), if_pos hAB]
          clear hva hvd
          simp (disch := omega) only [f_M_compare, er, f1, f2, J_lit, J_add, J_sub, J_mul, J_neg, J_nat, J_inb, J_div, ↓reduceIte, Int.toNat_natCast, Option.bind_some, J_le_t, J_le_f, J_lt_t, J_lt_f, J_eq_t, J_eq_f, L_lit, L_add, L_sub, L_mul, L_div, JL, LJ, Int.reduceToNat, Int.toNat_zero, Int.toNat_one, xb, xm, within_t, within_f, nb_t, nb_f, ni_t, ni_f, in_t, in_f, less_, bad_0, bad_1, not_true_eq_false, not_false_eq_true, L_lt_t, L_lt_f, L_eq_t, L_eq_f, lg_gt, lg_eq, lg_lt]
        · have hAB : B < A := by rw [← hva, ← hvd]; exact val_cmp (by decide) (show r < 330 by omega) hld hla (fun i h1 h2 => (he i (by omega) h2).symm) (by omega)
          rw [if_neg (by omega), if_neg (by omega)]
          clear hva hvd
          simp (disch := omega) only [f_M_compare, er, f1, f2, J_lit, J_add, J_sub, J_mul, J_neg, J_nat, J_inb, J_div, ↓reduceIte, Int.toNat_natCast, Option.bind_some, J_le_t, J_le_f, J_lt_t, J_lt_f, J_eq_t, J_eq_f, L_lit, L_add, L_sub, L_mul, L_div, JL, LJ, Int.reduceToNat, Int.toNat_zero, Int.toNat_one, xb, xm, within_t, within_f, nb_t, nb_f, ni_t, ni_f, in_t, in_f, less_, bad_0, bad_1, not_true_eq_false, not_false_eq_true, L_lt_t, L_lt_f, L_eq_t, L_eq_f, lg_gt, lg_eq, lg_lt]
  rw [← key 330 (Nat.le_refl _) (fun i h1 h2 => by omega) K (by omega)]
  simp (disch := omega) only [sp_M_compare, J_lit, J_add, J_sub, J_mul, J_neg, J_nat, J_inb, J_div, ↓reduceIte, Int.toNat_natCast, Option.bind_some, J_le_t, J_le_f, J_lt_t, J_lt_f, J_eq_t, J_eq_f, L_lit, L_add, L_sub, L_mul, L_div, JL, LJ, Int.reduceToNat, Int.toNat_zero, Int.toNat_one, xb, xm, within_t, within_f, nb_t, nb_f, ni_t, ni_f, in_t, in_f, less_, bad_0, bad_1, not_true_eq_false, not_false_eq_true, L_lt_t, L_lt_f, L_eq_t, L_eq_f, lg_gt, lg_eq, lg_lt]
  rfl
set_option maxHeartbeats 2000000 in
theorem p_M_digitsNow (K : Nat) (hK : 1000 ≤ K) {N : Nat} {big : Nat → Nat → Int32} (h : BR 0 N big) : ∃ D, sp_M_digitsNow K big = some (J (D : Nat)) ∧ DG N D ∧ D ≤ 1324 := by
  obtain ⟨a, ha, hlt, hval⟩ := h
  have tail : ∀ (r X : Nat), X < 10 ^ r → ∀ (n m : Nat), n + r < 10000 → r ≤ 9 → r + 1 ≤ m → ∃ d : Nat, d ≤ r ∧ f_M_digitsNow K big m 2 (J 0, J (n : Int), J (X : Int)) = some (J ((n + d : Nat) : Int)) ∧ X < 10 ^ d ∧ (d = 0 ∨ 10 ^ (d - 1) ≤ X) := by
    intro r
    induction r with
    | zero =>
      intro X hX n m hn _ hm
      obtain ⟨m, rfl⟩ : ∃ k, m = k + 1 := ⟨m - 1, by omega⟩
      have : X = 0 := by simpa using hX
      subst this
      exact ⟨0, Nat.le_refl _, by simp (disch := omega) only [f_M_digitsNow, Nat.add_zero, J_lit, J_add, J_sub, J_mul, J_neg, J_nat, J_inb, J_div, ↓reduceIte, Int.toNat_natCast, Option.bind_some, J_le_t, J_le_f, J_lt_t, J_lt_f, J_eq_t, J_eq_f, L_lit, L_add, L_sub, L_mul, L_div, JL, LJ, Int.reduceToNat, Int.toNat_zero, Int.toNat_one, xb, xm, within_t, within_f, nb_t, nb_f, ni_t, ni_f, in_t, in_f, less_, bad_0, bad_1, not_true_eq_false, not_false_eq_true, L_lt_t, L_lt_f, L_eq_t, L_eq_f, lg_gt, lg_eq, lg_lt], by simp, Or.inl rfl⟩
    | succ r ih =>
      intro X hX n m hn hr hm
      obtain ⟨m, rfl⟩ : ∃ k, m = k + 1 := ⟨m - 1, by omega⟩
      by_cases h0 : X = 0
      · subst h0
        exact ⟨0, by omega, by simp (disch := omega) only [f_M_digitsNow, Nat.add_zero, J_lit, J_add, J_sub, J_mul, J_neg, J_nat, J_inb, J_div, ↓reduceIte, Int.toNat_natCast, Option.bind_some, J_le_t, J_le_f, J_lt_t, J_lt_f, J_eq_t, J_eq_f, L_lit, L_add, L_sub, L_mul, L_div, JL, LJ, Int.reduceToNat, Int.toNat_zero, Int.toNat_one, xb, xm, within_t, within_f, nb_t, nb_f, ni_t, ni_f, in_t, in_f, less_, bad_0, bad_1, not_true_eq_false, not_false_eq_true, L_lt_t, L_lt_f, L_eq_t, L_eq_f, lg_gt, lg_eq, lg_lt], by simp, Or.inl rfl⟩
      · have hX9 : X < 10 ^ 9 := Nat.lt_of_lt_of_le hX (Nat.pow_le_pow_right (by omega) hr)
        have hX9' : X < 1000000000 := hX9
        obtain ⟨d, d1, d2, d3, d4⟩ := ih (X / 10) (by rw [Nat.pow_succ] at hX; omega) (n + 1) m (by omega) (by omega) (by omega)
        refine ⟨d + 1, by omega, ?_, by rw [Nat.pow_succ]; omega, Or.inr ?_⟩
        · rw [show n + (d + 1) = n + 1 + d by omega, ← d2]
          have e3 : (X : Int) / 10 = ((X / 10 : Nat) : Int) := by omega
          clear d2 hX hX9
          simp (disch := omega) only [f_M_digitsNow, e3, cast1, J_lit, J_add, J_sub, J_mul, J_neg, J_nat, J_inb, J_div, ↓reduceIte, Int.toNat_natCast, Option.bind_some, J_le_t, J_le_f, J_lt_t, J_lt_f, J_eq_t, J_eq_f, L_lit, L_add, L_sub, L_mul, L_div, JL, LJ, Int.reduceToNat, Int.toNat_zero, Int.toNat_one, xb, xm, within_t, within_f, nb_t, nb_f, ni_t, ni_f, in_t, in_f, less_, bad_0, bad_1, not_true_eq_false, not_false_eq_true, L_lt_t, L_lt_f, L_eq_t, L_eq_f, lg_gt, lg_eq, lg_lt]
        · rw [Nat.add_sub_cancel]
          rcases d4 with d4 | d4
          · subst d4; simp; omega
          · obtain ⟨z, hz⟩ : ∃ z, d = z + 1 ∨ d = 0 := ⟨d - 1, by omega⟩
            rcases hz with hz | hz
            · subst hz
              rw [Nat.add_sub_cancel] at d4
              rw [Nat.pow_succ]; omega
            · subst hz; simp; omega
  have scan : ∀ k, k < 330 → (∀ i, k < i → i < 330 → a i = 0) → ∀ m, k + 30 ≤ m → ∃ D, f_M_digitsNow K big m 0 (J (k : Int), J 0, J 0) = some (J (D : Nat)) ∧ DG N D ∧ D ≤ 1324 := by
    intro k
    induction k with
    | zero =>
      intro _ hz m hm
      obtain ⟨m, rfl⟩ : ∃ k, m = k + 2 := ⟨m - 2, by omega⟩
      have f1 := ha 0 (by omega)
      have q1 := hlt 0 (by omega)
      have hN : N = a 0 := by
        rw [← hval, val_zero 1 330 (by omega) (fun i h1 h2 => hz i (by omega) h2)]; simp [val]
      obtain ⟨d, d1, d2, d3, d4⟩ := tail 4 (a 0 / 10) (by show _ < 10000; omega) 1 m (by omega) (by omega) (by omega)
      have e3 : (a 0 : Int) / 10 = ((a 0 / 10 : Nat) : Int) := by omega
      refine ⟨1 + d, ?_, ⟨by omega, ?_, ?_⟩, by omega⟩
      · rw [← d2]
        have : ∀ k, f_M_digitsNow K big (k + 2) 0 (J ((0 : Nat) : Int), J 0, J 0) = f_M_digitsNow K big k 2 (J 0, J ((1 : Nat) : Int), J ((a 0 / 10 : Nat) : Int)) := fun k => by
          simp (disch := omega) only [f_M_digitsNow, f1, e3, Int.natCast_zero, J_lit, J_add, J_sub, J_mul, J_neg, J_nat, J_inb, J_div, ↓reduceIte, Int.toNat_natCast, Option.bind_some, J_le_t, J_le_f, J_lt_t, J_lt_f, J_eq_t, J_eq_f, L_lit, L_add, L_sub, L_mul, L_div, JL, LJ, Int.reduceToNat, Int.toNat_zero, Int.toNat_one, xb, xm, within_t, within_f, nb_t, nb_f, ni_t, ni_f, in_t, in_f, less_, bad_0, bad_1, not_true_eq_false, not_false_eq_true, L_lt_t, L_lt_f, L_eq_t, L_eq_f, lg_gt, lg_eq, lg_lt]
          rfl
        exact this m
      · rw [hN, Nat.pow_add, Nat.pow_one]
        generalize 10 ^ d = Q at *
        omega
      · rcases d4 with d4 | d4
        · left; omega
        · by_cases hd0 : d = 0
          · left; omega
          · right
            rw [hN, show 1 + d - 1 = (d - 1) + 1 by omega, Nat.pow_succ]
            generalize 10 ^ (d - 1) = Q at *
            omega
    | succ k ih =>
      intro hk hz m hm
      obtain ⟨m, rfl⟩ : ∃ k, m = k + 2 := ⟨m - 2, by omega⟩
      have f1 := ha (k + 1) hk
      have q1 := hlt (k + 1) hk
      by_cases h0 : a (k + 1) = 0
      · obtain ⟨D, x1, x2, x3⟩ := ih (by omega) (fun i h1 h2 => by
          by_cases hi : i = k + 1
          · subst hi; exact h0
          · exact hz i (by omega) h2) (m + 1) (by omega)
        refine ⟨D, ?_, x2, x3⟩
        rw [← x1]
        have er : ((k + 1 : Nat) : Int) + -1 = (k : Int) := by omega
        have : ∀ q, f_M_digitsNow K big (q + 1) 0 (J ((k + 1 : Nat) : Int), J 0, J 0) = f_M_digitsNow K big q 0 (J (k : Int), J 0, J 0) := fun q => by
          simp (disch := omega) only [f_M_digitsNow, f1, er, J_lit, J_add, J_sub, J_mul, J_neg, J_nat, J_inb, J_div, ↓reduceIte, Int.toNat_natCast, Option.bind_some, J_le_t, J_le_f, J_lt_t, J_lt_f, J_eq_t, J_eq_f, L_lit, L_add, L_sub, L_mul, L_div, JL, LJ, Int.reduceToNat, Int.toNat_zero, Int.toNat_one, xb, xm, within_t, within_f, nb_t, nb_f, ni_t, ni_f, in_t, in_f, less_, bad_0, bad_1, not_true_eq_false, not_false_eq_true, L_lt_t, L_lt_f, L_eq_t, L_eq_f, lg_gt, lg_eq, lg_lt]
        exact this (m + 1)
      · have hv : N = val 10000 a (k + 1) + a (k + 1) * 10000 ^ (k + 1) := by
          rw [← hval, val_zero (k + 2) 330 (by omega) (fun i h1 h2 => hz i (by omega) h2), val]
        have hl : val 10000 a (k + 1) < 10000 ^ (k + 1) := val_lt (by decide) (fun i hi => hlt i (by omega))
        have hP : 10000 ^ (k + 1) = 10 ^ (4 * (k + 1)) := by rw [show (10000 : Nat) = 10 ^ 4 from rfl, ← Nat.pow_mul]
        obtain ⟨d, d1, d2, d3, d4⟩ := tail 4 (a (k + 1) / 10) (by show _ < 10000; omega) (4 * (k + 1) + 1) m (by omega) (by omega) (by omega)
        have e3 : (a (k + 1) : Int) / 10 = ((a (k + 1) / 10 : Nat) : Int) := by omega
        refine ⟨4 * (k + 1) + (1 + d), ?_, ?_, by omega⟩
        · rw [show 4 * (k + 1) + (1 + d) = 4 * (k + 1) + 1 + d by omega, ← d2]
          have e4 : 4 * ((k + 1 : Nat) : Int) + 1 = ((4 * (k + 1) + 1 : Nat) : Int) := by omega
          have : ∀ q, f_M_digitsNow K big (q + 2) 0 (J ((k + 1 : Nat) : Int), J 0, J 0) = f_M_digitsNow K big q 2 (J 0, J ((4 * (k + 1) + 1 : Nat) : Int), J ((a (k + 1) / 10 : Nat) : Int)) := fun q => by
            simp (disch := omega) only [f_M_digitsNow, f1, e3, e4, J_lit, J_add, J_sub, J_mul, J_neg, J_nat, J_inb, J_div, ↓reduceIte, Int.toNat_natCast, Option.bind_some, J_le_t, J_le_f, J_lt_t, J_lt_f, J_eq_t, J_eq_f, L_lit, L_add, L_sub, L_mul, L_div, JL, LJ, Int.reduceToNat, Int.toNat_zero, Int.toNat_one, xb, xm, within_t, within_f, nb_t, nb_f, ni_t, ni_f, in_t, in_f, less_, bad_0, bad_1, not_true_eq_false, not_false_eq_true, L_lt_t, L_lt_f, L_eq_t, L_eq_f, lg_gt, lg_eq, lg_lt]
          exact this m
        · refine DG_of hP (t := a (k + 1)) (by omega) (by rw [Nat.add_mul, Nat.one_mul]; omega) ?_ (by omega) (Or.inr ?_)
          · rw [Nat.pow_add, Nat.pow_one]
            clear hv hl hP
            generalize 10 ^ d = Q at *
            omega
          · rcases d4 with d4 | d4
            · subst d4; simp; omega
            · by_cases hd0 : d = 0
              · subst hd0; simp; omega
              · rw [show 1 + d - 1 = (d - 1) + 1 by omega, Nat.pow_succ]
                clear hv hl hP
                generalize 10 ^ (d - 1) = Q at *
                omega
  obtain ⟨D, x1, x2, x3⟩ := scan 329 (by omega) (fun i h1 h2 => by omega) K (by omega)
  refine ⟨D, ?_, x2, x3⟩
  rw [← x1]
  simp (disch := omega) only [sp_M_digitsNow, J_lit, J_add, J_sub, J_mul, J_neg, J_nat, J_inb, J_div, ↓reduceIte, Int.toNat_natCast, Option.bind_some, J_le_t, J_le_f, J_lt_t, J_lt_f, J_eq_t, J_eq_f, L_lit, L_add, L_sub, L_mul, L_div, JL, LJ, Int.reduceToNat, Int.toNat_zero, Int.toNat_one, xb, xm, within_t, within_f, nb_t, nb_f, ni_t, ni_f, in_t, in_f, less_, bad_0, bad_1, not_true_eq_false, not_false_eq_true, L_lt_t, L_lt_f, L_eq_t, L_eq_f, lg_gt, lg_eq, lg_lt]
  rfl
set_option maxHeartbeats 2000000 in
theorem M_dig (N : Nat) {big : Nat → Nat → Int32} (h : BR 0 N big) (q r : Nat) (hq : q < 330) (hr : r < 4) : ∃ X : Nat, big 0 q = J (X : Int) ∧ X < 10000 ∧ X / 10 ^ r % 10 = N / 10 ^ (4 * q + r) % 10 := by
  obtain ⟨a, ha, hlt, hval⟩ := h
  refine ⟨a q, ha q hq, hlt q hq, ?_⟩
  have h1 := val_dig (by decide) hlt q hq
  rw [hval] at h1
  rw [← h1, show (10000 : Nat) = 10 ^ 4 from rfl, dig_mod _ _ _ hr, ← Nat.pow_mul, Nat.div_div_eq_div_mul, ← Nat.pow_add]
def ch : Nat → Nat → Nat
  | _, 0 => 1
  | 0, _ + 1 => 0
  | n + 1, k + 1 => ch n k + ch n (k + 1)
set_option maxHeartbeats 2000000 in
theorem ch_0 (n : Nat) : ch n 0 = 1 := by cases n <;> rfl
set_option maxHeartbeats 2000000 in
theorem ch_gt : ∀ n k, n < k → ch n k = 0
  | 0, 0, h => by omega
  | 0, _ + 1, _ => rfl
  | n + 1, 0, h => by omega
  | n + 1, k + 1, h => by rw [ch, ch_gt n k (by omega), ch_gt n (k + 1) (by omega)]
set_option maxHeartbeats 2000000 in
theorem ch_self : ∀ n, ch n n = 1
  | 0 => rfl
  | n + 1 => by rw [ch, ch_self n, ch_gt n (n + 1) (by omega)]
set_option maxHeartbeats 2000000 in
theorem ch_id (n j A B C a : Nat) (ha : n = a + (j + 1)) (h1 : (j + 1) * B = (a + 1) * A) (h2 : (j + 2) * C = a * B) : (j + 2) * (B + C) = (a + 1) * (A + B) := by grind
set_option maxHeartbeats 2000000 in
theorem ch_step : ∀ n k, (k + 1) * ch n (k + 1) = (n - k) * ch n k
  | 0, 0 => rfl
  | 0, k + 1 => by rw [ch_gt 0 (k + 1 + 1) (by omega), ch_gt 0 (k + 1) (by omega)]; rfl
  | n + 1, 0 => by
    have := ch_step n 0
    rw [show ch (n + 1) (0 + 1) = ch n 0 + ch n (0 + 1) from rfl, ch_0, ch_0]
    rw [ch_0] at this
    omega
  | n + 1, k + 1 => by
    have h1 := ch_step n k
    have h2 := ch_step n (k + 1)
    by_cases hk : k + 1 ≤ n
    · obtain ⟨a, ha⟩ : ∃ a, n = a + (k + 1) := ⟨n - (k + 1), by omega⟩
      rw [show n - k = a + 1 by omega] at h1
      rw [show n - (k + 1) = a by omega] at h2
      rw [ch, ch, show n + 1 - (k + 1) = a + 1 by omega]
      exact ch_id n k (ch n k) (ch n (k + 1)) (ch n (k + 1 + 1)) a ha h1 h2
    · rw [ch_gt (n + 1) (k + 1 + 1) (by omega), show n + 1 - (k + 1) = 0 by omega, Nat.mul_zero, Nat.zero_mul]
set_option maxHeartbeats 2000000 in
theorem ch_sym : ∀ n k, k ≤ n → ch n k = ch n (n - k)
  | 0, k, h => by obtain rfl : k = 0 := by omega
                  rfl
  | n + 1, 0, _ => by rw [ch_0, Nat.sub_zero, ch_self]
  | n + 1, k + 1, h => by
    by_cases hk : k = n
    · subst hk; rw [ch_self, Nat.sub_self, ch_0]
    · obtain ⟨a, ha⟩ : ∃ a, n = k + 1 + a := ⟨n - (k + 1), by omega⟩
      rw [ch, ch_sym n k (by omega), ch_sym n (k + 1) (by omega), show n + 1 - (k + 1) = a + 1 by omega, show n - k = a + 1 by omega, show n - (k + 1) = a by omega, ch, Nat.add_comm]
set_option maxHeartbeats 2000000 in
theorem ch_mono1 (n k : Nat) : ch n k ≤ ch (n + 1) k := by
  cases k with
  | zero => rw [ch_0, ch_0]; exact Nat.le_refl _
  | succ k => rw [ch]; omega
set_option maxHeartbeats 2000000 in
theorem ch_mono (k : Nat) : ∀ a n, ch n k ≤ ch (n + a) k
  | 0, n => Nat.le_refl _
  | a + 1, n => Nat.le_trans (ch_mono k a n) (ch_mono1 (n + a) k)
def w60 : Nat → Nat
  | 0 => 1
  | k + 1 => w60 k * (60 - k) / (k + 1)
set_option maxHeartbeats 2000000 in
theorem w60_eq : ∀ k, ch 60 k = w60 k
  | 0 => rfl
  | k + 1 => by
    rw [w60, ← w60_eq k, Nat.mul_comm, ← ch_step, Nat.mul_div_cancel_left _ (by omega)]
set_option maxHeartbeats 2000000 in
theorem w60_le : ∀ k, k < 61 → w60 k < 150000000000000000 := by decide +kernel
set_option maxHeartbeats 2000000 in
theorem ch_lt {n k : Nat} (hn : n ≤ 60) : ch n k < 150000000000000000 := by
  by_cases hk : k < 61
  · have h1 := ch_mono k (60 - n) n
    rw [show n + (60 - n) = 60 by omega, w60_eq] at h1
    exact Nat.lt_of_le_of_lt h1 (w60_le k hk)
  · rw [ch_gt n k (by omega)]; decide
set_option maxHeartbeats 2000000 in
theorem p_ways (K : Nat) (hK : 1000 ≤ K) {n k : Nat} (hn : n ≤ 60) (hk : k ≤ 60) : sp_Chance_waysToChoose K (J n) (J k) = some (L (ch n k)) := by
  by_cases hkn : k ≤ n
  · obtain ⟨e, he, he2⟩ : ∃ e : Nat, (if J ((n : Int) - k) < J k then J ((n : Int) - k) else J k) = J e ∧ e ≤ n ∧ ch n e = ch n k := by
      by_cases h : n - k < k
      · refine ⟨n - k, ?_, by omega, (ch_sym n k hkn).symm⟩
        simp (disch := omega) only [J_lit, J_add, J_sub, J_mul, J_neg, J_nat, J_inb, J_div, ↓reduceIte, Int.toNat_natCast, Option.bind_some, J_le_t, J_le_f, J_lt_t, J_lt_f, J_eq_t, J_eq_f, L_lit, L_add, L_sub, L_mul, L_div, JL, LJ, Int.reduceToNat, Int.toNat_zero, Int.toNat_one, xb, xm, within_t, within_f, nb_t, nb_f, ni_t, ni_f, in_t, in_f, less_, bad_0, bad_1, not_true_eq_false, not_false_eq_true, L_lt_t, L_lt_f, L_eq_t, L_eq_f, lg_gt, lg_eq, lg_lt]
        try exact J_cong (by omega)
      · refine ⟨k, ?_, hkn, rfl⟩
        simp (disch := omega) only [J_lit, J_add, J_sub, J_mul, J_neg, J_nat, J_inb, J_div, ↓reduceIte, Int.toNat_natCast, Option.bind_some, J_le_t, J_le_f, J_lt_t, J_lt_f, J_eq_t, J_eq_f, L_lit, L_add, L_sub, L_mul, L_div, JL, LJ, Int.reduceToNat, Int.toNat_zero, Int.toNat_one, xb, xm, within_t, within_f, nb_t, nb_f, ni_t, ni_f, in_t, in_f, less_, bad_0, bad_1, not_true_eq_false, not_false_eq_true, L_lt_t, L_lt_f, L_eq_t, L_eq_f, lg_gt, lg_eq, lg_lt]
    obtain ⟨m, g1, g3⟩ := lpe (fun m s => f_Chance_waysToChoose K m 0 s) (fun i => (J n, J e, L (ch n i), J i)) 1 e (by
      intro i hi m
      refine ⟨m, by omega, ?_⟩
      have hc : ch n i < 150000000000000000 := ch_lt hn
      have hs := ch_step n i
      have e1 : ((ch n i : Nat) : Int) * ((n : Int) - (i : Int)) = (((i + 1) * ch n (i + 1) : Nat) : Int) := by
        rw [hs, Nat.mul_comm, Int.natCast_mul]; congr 1; omega
      have hc' : ch n (i + 1) < 150000000000000000 := ch_lt hn
      have e2 : (((i + 1) * ch n (i + 1) : Nat) : Int) / ((i + 1 : Nat) : Int) = ((ch n (i + 1) : Nat) : Int) := by
        rw [← Int.natCast_ediv, Nat.mul_div_cancel_left _ (by omega)]
      have e3 : (i + 1) * ch n (i + 1) ≤ 60 * ch n (i + 1) := Nat.mul_le_mul_right _ (by omega)
      generalize hq : (i + 1) * ch n (i + 1) = Q at *
      clear hs
      simp (disch := omega) only [f_Chance_waysToChoose, e1, cast1, e2, J_lit, J_add, J_sub, J_mul, J_neg, J_nat, J_inb, J_div, ↓reduceIte, Int.toNat_natCast, Option.bind_some, J_le_t, J_le_f, J_lt_t, J_lt_f, J_eq_t, J_eq_f, L_lit, L_add, L_sub, L_mul, L_div, JL, LJ, Int.reduceToNat, Int.toNat_zero, Int.toNat_one, xb, xm, within_t, within_f, nb_t, nb_f, ni_t, ni_f, in_t, in_f, less_, bad_0, bad_1, not_true_eq_false, not_false_eq_true, L_lt_t, L_lt_f, L_eq_t, L_eq_f, lg_gt, lg_eq, lg_lt]) K (by omega)
    have e0 : sp_Chance_waysToChoose K (J n) (J k) = f_Chance_waysToChoose K K 0 (J n, J e, L (ch n 0), J (0 : Nat)) := by
      rw [← he, ch_0]
      simp (disch := omega) only [sp_Chance_waysToChoose, J_lit, J_add, J_sub, J_mul, J_neg, J_nat, J_inb, J_div, ↓reduceIte, Int.toNat_natCast, Option.bind_some, J_le_t, J_le_f, J_lt_t, J_lt_f, J_eq_t, J_eq_f, L_lit, L_add, L_sub, L_mul, L_div, JL, LJ, Int.reduceToNat, Int.toNat_zero, Int.toNat_one, xb, xm, within_t, within_f, nb_t, nb_f, ni_t, ni_f, in_t, in_f, less_, bad_0, bad_1, not_true_eq_false, not_false_eq_true, L_lt_t, L_lt_f, L_eq_t, L_eq_f, lg_gt, lg_eq, lg_lt]
      rfl
    rw [e0]
    refine Eq.trans g3 ?_
    rw [← he2.2]
    simp (disch := omega) only [f_Chance_waysToChoose, J_lit, J_add, J_sub, J_mul, J_neg, J_nat, J_inb, J_div, ↓reduceIte, Int.toNat_natCast, Option.bind_some, J_le_t, J_le_f, J_lt_t, J_lt_f, J_eq_t, J_eq_f, L_lit, L_add, L_sub, L_mul, L_div, JL, LJ, Int.reduceToNat, Int.toNat_zero, Int.toNat_one, xb, xm, within_t, within_f, nb_t, nb_f, ni_t, ni_f, in_t, in_f, less_, bad_0, bad_1, not_true_eq_false, not_false_eq_true, L_lt_t, L_lt_f, L_eq_t, L_eq_f, lg_gt, lg_eq, lg_lt]
  · rw [ch_gt n k (by omega)]
    simp (disch := omega) only [sp_Chance_waysToChoose, J_lit, J_add, J_sub, J_mul, J_neg, J_nat, J_inb, J_div, ↓reduceIte, Int.toNat_natCast, Option.bind_some, J_le_t, J_le_f, J_lt_t, J_lt_f, J_eq_t, J_eq_f, L_lit, L_add, L_sub, L_mul, L_div, JL, LJ, Int.reduceToNat, Int.toNat_zero, Int.toNat_one, xb, xm, within_t, within_f, nb_t, nb_f, ni_t, ni_f, in_t, in_f, less_, bad_0, bad_1, not_true_eq_false, not_false_eq_true, L_lt_t, L_lt_f, L_eq_t, L_eq_f, lg_gt, lg_eq, lg_lt]
    rfl
def PF (t n k : Nat) : Nat := ch n k * t ^ k * (16 - t) ^ (n - k)
set_option maxHeartbeats 2000000 in
theorem binom_id (A B a b x y c : Nat) : A * x * y * (a + b) = A * (x * a) * y + A * x * (y * b) := by grind
set_option maxHeartbeats 2000000 in
theorem PF_le {t : Nat} (ht : t ≤ 16) : ∀ n k, PF t n k ≤ 16 ^ n
  | n, k => by
    by_cases hk : k ≤ n
    · have : ∀ (a b : Nat) (n k : Nat), k ≤ n → ch n k * a ^ k * b ^ (n - k) ≤ (a + b) ^ n := by
        intro a b n
        induction n with
        | zero => intro k hk; obtain rfl : k = 0 := by omega
                  simp [ch_0]
        | succ n ih =>
          intro k hk
          cases k with
          | zero =>
            rw [ch_0, Nat.sub_zero, Nat.pow_zero, Nat.mul_one, Nat.one_mul]
            exact Nat.pow_le_pow_left (by omega) _
          | succ k =>
            by_cases hkn : k = n
            · subst hkn
              rw [ch_self, Nat.sub_self, Nat.pow_zero, Nat.mul_one, Nat.one_mul]
              exact Nat.pow_le_pow_left (by omega) _
            · have h1 := ih k (by omega)
              have h2 := ih (k + 1) (by omega)
              obtain ⟨c, hc⟩ : ∃ c, n = k + 1 + c := ⟨n - (k + 1), by omega⟩
              rw [show n - k = c + 1 by omega] at h1
              rw [show n - (k + 1) = c by omega] at h2
              rw [ch, show n + 1 - (k + 1) = c + 1 by omega, Nat.pow_succ (a + b)]
              have e1 := Nat.mul_le_mul_right a h1
              have e2 := Nat.mul_le_mul_right b h2
              have e3 : (ch n k + ch n (k + 1)) * a ^ (k + 1) * b ^ (c + 1) = ch n k * a ^ k * b ^ (c + 1) * a + ch n (k + 1) * a ^ (k + 1) * b ^ c * b := by
                rw [Nat.pow_succ a k, Nat.pow_succ b c]
                generalize a ^ k = x
                generalize b ^ c = y
                grind
              rw [e3, Nat.mul_add]
              omega
      have h := this t (16 - t) n k hk
      rw [show t + (16 - t) = 16 by omega] at h
      exact h
    · rw [PF, ch_gt n k (by omega), Nat.zero_mul, Nat.zero_mul]; exact Nat.zero_le _
set_option maxHeartbeats 2000000 in
theorem big1 {e : Nat} (he : e ≤ 966) : 16 ^ e < GB ^ 136 := by
  have h1 : 16 ^ e ≤ 16 ^ 966 := Nat.pow_le_pow_right (by omega) he
  have h2 : 16 ^ 966 < GB ^ 136 := by decide +kernel
  exact Nat.lt_of_le_of_lt h1 h2
set_option maxHeartbeats 2000000 in
theorem big2 : GB ^ 136 < 10000 ^ 330 := by decide +kernel
set_option maxHeartbeats 2000000 in
theorem p_Chance_begin (K : Nat) (sc : Int32) (limbs : Nat → Int32) (size : Int32) : ∃ limbs' size', sp_Chance_begin K sc limbs size = some (J 0, limbs', size') ∧ GR 1 limbs' size' := by
  obtain ⟨l, s, h1, h2⟩ := p_Great_setOne K limbs size
  exact ⟨l, s, by simp (disch := omega) only [sp_Chance_begin, h1, J_lit, J_add, J_sub, J_mul, J_neg, J_nat, J_inb, J_div, ↓reduceIte, Int.toNat_natCast, Option.bind_some, J_le_t, J_le_f, J_lt_t, J_lt_f, J_eq_t, J_eq_f, L_lit, L_add, L_sub, L_mul, L_div, JL, LJ, Int.reduceToNat, Int.toNat_zero, Int.toNat_one, xb, xm, within_t, within_f, nb_t, nb_f, ni_t, ni_f, in_t, in_f, less_, bad_0, bad_1, not_true_eq_false, not_false_eq_true, L_lt_t, L_lt_f, L_eq_t, L_eq_f, lg_gt, lg_eq, lg_lt], h2⟩
set_option maxHeartbeats 2000000 in
theorem ch60 {n k : Nat} (hn : n ≤ 60) : ch n k < GB * GB := Nat.lt_trans (ch_lt hn) (by decide)
set_option maxHeartbeats 2000000 in
theorem PF_parts {N t n k B : Nat} (ht : 1 ≤ t ∧ t ≤ 15) (hN : N * PF t n k < B) : N * ch n k * t ^ k < B ∧ N * ch n k < B := by
  have h1 : 1 ≤ t ^ k := Nat.pow_pos (by omega)
  have h2 : 1 ≤ (16 - t) ^ (n - k) := Nat.pow_pos (by omega)
  have e : N * PF t n k = N * ch n k * t ^ k * (16 - t) ^ (n - k) := by unfold PF; rw [← Nat.mul_assoc, ← Nat.mul_assoc]
  rw [e] at hN
  have h3 := Nat.le_mul_of_pos_right (N * ch n k * t ^ k) h2
  have h4 := Nat.le_mul_of_pos_right (N * ch n k) h1
  omega
set_option maxHeartbeats 2000000 in
theorem p_Chance_times (K : Nat) (hK : 2000 ≤ K) {N n k t S : Nat} (hn : n ≤ 60) (hk : k ≤ 60) (ht : 1 ≤ t ∧ t ≤ 15) (hS : S ≤ 1000) {limbs : Nat → Int32} {size : Int32} (h : GR N limbs size) (hN : N * PF t n k < GB ^ 136) : ∃ limbs' size', sp_Chance_times K (J n) (J k) (J t) (J S) limbs size = some (J (S + n : Nat), limbs', size') ∧ GR (N * PF t n k) limbs' size' := by
  have hw := p_ways K (by omega) hn hk
  obtain ⟨b1, b2⟩ := PF_parts ht hN
  obtain ⟨l1, s1, a1, a2⟩ := p_Great_times K (by omega) h (ch60 (k := k) hn) b2
  obtain ⟨l2, s2, a3, a4⟩ := p_Great_timesPower K hK (b := t) (e := k) (by omega) (by omega) a2 b1
  have e16 : (16 : Int) - (t : Int) = ((16 - t : Nat) : Int) := by omega
  have eS : (S : Int) + (n : Int) = ((S + n : Nat) : Int) := by omega
  have ePF : N * PF t n k = N * ch n k * t ^ k * (16 - t) ^ (n - k) := by unfold PF; rw [← Nat.mul_assoc, ← Nat.mul_assoc]
  by_cases hkn : k ≤ n
  · obtain ⟨l3, s3, a5, a6⟩ := p_Great_timesPower K hK (b := 16 - t) (e := n - k) (by omega) (by omega) a4 (by rw [← ePF]; exact hN)
    have e1 : (n : Int) - (k : Int) = ((n - k : Nat) : Int) := by omega
    refine ⟨l3, s3, ?_, by rw [ePF]; exact a6⟩
    clear hN b1 b2 a2 a4 a6 ePF h
    simp (disch := omega) only [sp_Chance_times, hw, a1, a3, e16, e1, a5, eS, J_lit, J_add, J_sub, J_mul, J_neg, J_nat, J_inb, J_div, ↓reduceIte, Int.toNat_natCast, Option.bind_some, J_le_t, J_le_f, J_lt_t, J_lt_f, J_eq_t, J_eq_f, L_lit, L_add, L_sub, L_mul, L_div, JL, LJ, Int.reduceToNat, Int.toNat_zero, Int.toNat_one, xb, xm, within_t, within_f, nb_t, nb_f, ni_t, ni_f, in_t, in_f, less_, bad_0, bad_1, not_true_eq_false, not_false_eq_true, L_lt_t, L_lt_f, L_eq_t, L_eq_f, lg_gt, lg_eq, lg_lt]
  · have a5 := p_Great_timesPower_n K hK (J (16 - t : Nat)) (e := (n : Int) - k) (by omega) l2 s2
    refine ⟨l2, s2, ?_, ?_⟩
    · clear hN b1 b2 a2 a4 ePF h
      simp (disch := omega) only [sp_Chance_times, hw, a1, a3, e16, a5, eS, J_lit, J_add, J_sub, J_mul, J_neg, J_nat, J_inb, J_div, ↓reduceIte, Int.toNat_natCast, Option.bind_some, J_le_t, J_le_f, J_lt_t, J_lt_f, J_eq_t, J_eq_f, L_lit, L_add, L_sub, L_mul, L_div, JL, LJ, Int.reduceToNat, Int.toNat_zero, Int.toNat_one, xb, xm, within_t, within_f, nb_t, nb_f, ni_t, ni_f, in_t, in_f, less_, bad_0, bad_1, not_true_eq_false, not_false_eq_true, L_lt_t, L_lt_f, L_eq_t, L_eq_f, lg_gt, lg_eq, lg_lt]
    · rw [ePF, show n - k = 0 by omega, Nat.pow_zero, Nat.mul_one]; exact a4
def mp (t k i : Nat) : Nat := t ^ (min i k) * (16 - t) ^ (i - k)
set_option maxHeartbeats 2000000 in
theorem mp_lt {t k i : Nat} (h : i < k) : mp t k i * t = mp t k (i + 1) := by
  unfold mp
  rw [Nat.min_eq_left (by omega), Nat.min_eq_left (by omega), show i - k = 0 by omega, show i + 1 - k = 0 by omega, Nat.pow_zero, Nat.mul_one, Nat.mul_one, Nat.pow_succ]
set_option maxHeartbeats 2000000 in
theorem mp_ge {t k i : Nat} (h : k ≤ i) : mp t k i * (16 - t) = mp t k (i + 1) := by
  unfold mp
  rw [Nat.min_eq_right h, Nat.min_eq_right (by omega), show i + 1 - k = (i - k) + 1 by omega, Nat.pow_succ, Nat.mul_assoc]
set_option maxHeartbeats 2000000 in
theorem mp_le {t k : Nat} (ht : 1 ≤ t ∧ t ≤ 15) (i : Nat) : ∀ j, mp t k i ≤ mp t k (i + j)
  | 0 => Nat.le_refl _
  | j + 1 => by
    refine Nat.le_trans (mp_le ht i j) ?_
    by_cases h : i + j < k
    · rw [← Nat.add_assoc, ← mp_lt h]; exact Nat.le_mul_of_pos_right _ (by omega)
    · rw [← Nat.add_assoc, ← mp_ge (by omega)]; exact Nat.le_mul_of_pos_right _ (by omega)
set_option maxHeartbeats 2000000 in
theorem mp_end {t n k : Nat} (h : k ≤ n) : ch n k * mp t k n = PF t n k := by
  unfold mp PF; rw [Nat.min_eq_right h, ← Nat.mul_assoc]
set_option maxHeartbeats 2000000 in
theorem p_M_countsIn (K : Nat) (hK : 2000 ≤ K) {b N n k t S : Nat} (hb : b < 3) (hn : n ≤ 60) (hk : k ≤ 60) (ht : 1 ≤ t ∧ t ≤ 15) (hS : S ≤ 1000) {big : Nat → Nat → Int32} (h : BR b N big) (hN : N * PF t n k < 10000 ^ 330) (hN1 : N * 10000000000000000000 < 10000 ^ 330) : ∃ big', sp_M_countsIn K (J b) (J k) (J n) (J t) big (J S) = some (big', J (S + n : Nat)) ∧ BR b (N * PF t n k) big' ∧ ∀ r, r ≠ b → big' r = big r := by
  have eS : (S : Int) + (n : Int) = ((S + n : Nat) : Int) := by omega
  by_cases hkn : k ≤ n
  ·
    obtain ⟨m, s, g1, ⟨G, rfl, hG, hot⟩, g3⟩ := lp (fun m s => f_M_countsIn K (J t) m 0 s) (fun i s => ∃ G : Nat → Nat → Int32, s = (J b, J k, J n, J i, J 0, J 0, G, J (S + n : Nat)) ∧ BR b (N * ch n i) G ∧ ∀ r, r ≠ b → G r = big r) 1 k (by
      rintro i hi s ⟨G, rfl, hG, hot⟩ m
      have hs := ch_step n i
      have hc : ch n i < 150000000000000000 := ch_lt hn
      have e1 : N * ch n i * (n - i) = N * ch n (i + 1) * (i + 1) := by
        rw [Nat.mul_assoc, Nat.mul_assoc, Nat.mul_comm (ch n i), ← hs, Nat.mul_comm (i + 1)]
      have hl : N * ch n i * (n - i) < 10000 ^ 330 := by
        refine Nat.lt_of_le_of_lt ?_ hN1
        rw [Nat.mul_assoc]
        refine Nat.mul_le_mul_left _ ?_
        have : ch n i * (n - i) ≤ 150000000000000000 * 60 := Nat.mul_le_mul (by omega) (by omega)
        omega
      obtain ⟨G1, x1, x2, x3⟩ := p_M_times K (by omega) hb (v := n - i) (by omega) hG hl
      rw [e1] at x2
      obtain ⟨G2, y1, y2, y3⟩ := p_M_parts K (by omega) hb (v := i + 1) (by omega) x2
      have e2 : (n : Int) - (i : Int) = ((n - i : Nat) : Int) := by omega
      refine ⟨m, _, by omega, ⟨G2, rfl, y2, fun r hr => by rw [y3 r hr, x3 r hr, hot r hr]⟩, ?_⟩
      clear hN hN1 hl e1 hs x2 y2 hG h
      simp (disch := omega) only [f_M_countsIn, e2, x1, cast1, y1, J_lit, J_add, J_sub, J_mul, J_neg, J_nat, J_inb, J_div, ↓reduceIte, Int.toNat_natCast, Option.bind_some, J_le_t, J_le_f, J_lt_t, J_lt_f, J_eq_t, J_eq_f, L_lit, L_add, L_sub, L_mul, L_div, JL, LJ, Int.reduceToNat, Int.toNat_zero, Int.toNat_one, xb, xm, within_t, within_f, nb_t, nb_f, ni_t, ni_f, in_t, in_f, less_, bad_0, bad_1, not_true_eq_false, not_false_eq_true, L_lt_t, L_lt_f, L_eq_t, L_eq_f, lg_gt, lg_eq, lg_lt]) (J b, J k, J n, J (0 : Nat), J 0, J 0, big, J (S + n : Nat)) ⟨big, rfl, by rw [ch_0, Nat.mul_one]; exact h, fun _ _ => rfl⟩ K (by omega)
    obtain ⟨m, rfl⟩ : ∃ q, m = q + 1 := ⟨m - 1, by omega⟩
    have hPF : N * ch n k * mp t k n < 10000 ^ 330 := by rw [Nat.mul_assoc, mp_end hkn]; exact hN
    obtain ⟨m2, s2, z1, ⟨G2, rfl, hG2, hot2⟩, z3⟩ := lp (fun m s => f_M_countsIn K (J t) m 1 s) (fun i s => ∃ G : Nat → Nat → Int32, s = (J b, J k, J n, J i, J 0, J 0, G, J (S + n : Nat)) ∧ BR b (N * ch n k * mp t k i) G ∧ ∀ r, r ≠ b → G r = big r) 2 n (by
      rintro i hi s ⟨G, rfl, hG, hot⟩ m
      have hl : ∀ i, i ≤ n → N * ch n k * mp t k i < 10000 ^ 330 := fun i hi => by
        refine Nat.lt_of_le_of_lt ?_ hPF
        refine Nat.mul_le_mul_left _ ?_
        have := mp_le (k := k) ht i (n - i)
        rw [show i + (n - i) = n by omega] at this
        exact this
      have e16 : (16 : Int) - (t : Int) = ((16 - t : Nat) : Int) := by omega
      by_cases hik : i < k
      · have hl1 : N * ch n k * mp t k i * t < 10000 ^ 330 := by
          rw [Nat.mul_assoc, mp_lt hik]; exact hl (i + 1) (by omega)
        obtain ⟨G1, x1, x2, x3⟩ := p_M_times K (by omega) hb (v := t) (by omega) hG hl1
        rw [Nat.mul_assoc, mp_lt hik] at x2
        refine ⟨m, _, by omega, ⟨G1, rfl, x2, fun r hr => by rw [x3 r hr, hot r hr]⟩, ?_⟩
        clear hN hN1 hl hl1 x2 hG h hPF
        simp (disch := omega) only [f_M_countsIn, x1, cast1, J_lit, J_add, J_sub, J_mul, J_neg, J_nat, J_inb, J_div, ↓reduceIte, Int.toNat_natCast, Option.bind_some, J_le_t, J_le_f, J_lt_t, J_lt_f, J_eq_t, J_eq_f, L_lit, L_add, L_sub, L_mul, L_div, JL, LJ, Int.reduceToNat, Int.toNat_zero, Int.toNat_one, xb, xm, within_t, within_f, nb_t, nb_f, ni_t, ni_f, in_t, in_f, less_, bad_0, bad_1, not_true_eq_false, not_false_eq_true, L_lt_t, L_lt_f, L_eq_t, L_eq_f, lg_gt, lg_eq, lg_lt]
      · have hl1 : N * ch n k * mp t k i * (16 - t) < 10000 ^ 330 := by
          rw [Nat.mul_assoc, mp_ge (by omega)]; exact hl (i + 1) (by omega)
        obtain ⟨G1, x1, x2, x3⟩ := p_M_times K (by omega) hb (v := 16 - t) (by omega) hG hl1
        rw [Nat.mul_assoc, mp_ge (by omega)] at x2
        refine ⟨m, _, by omega, ⟨G1, rfl, x2, fun r hr => by rw [x3 r hr, hot r hr]⟩, ?_⟩
        clear hN hN1 hl hl1 x2 hG h hPF
        simp (disch := omega) only [f_M_countsIn, e16, x1, cast1, J_lit, J_add, J_sub, J_mul, J_neg, J_nat, J_inb, J_div, ↓reduceIte, Int.toNat_natCast, Option.bind_some, J_le_t, J_le_f, J_lt_t, J_lt_f, J_eq_t, J_eq_f, L_lit, L_add, L_sub, L_mul, L_div, JL, LJ, Int.reduceToNat, Int.toNat_zero, Int.toNat_one, xb, xm, within_t, within_f, nb_t, nb_f, ni_t, ni_f, in_t, in_f, less_, bad_0, bad_1, not_true_eq_false, not_false_eq_true, L_lt_t, L_lt_f, L_eq_t, L_eq_f, lg_gt, lg_eq, lg_lt]) (J b, J k, J n, J (0 : Nat), J 0, J 0, G, J (S + n : Nat)) ⟨G, rfl, by
          have : mp t k 0 = 1 := by unfold mp; rw [Nat.min_eq_left (by omega), show 0 - k = 0 by omega, Nat.pow_zero, Nat.pow_zero]
          rw [this, Nat.mul_one]; exact hG, hot⟩ m (by omega)
    obtain ⟨m2, rfl⟩ : ∃ q, m2 = q + 1 := ⟨m2 - 1, by omega⟩
    refine ⟨G2, ?_, by rw [← mp_end hkn, ← Nat.mul_assoc]; exact hG2, hot2⟩
    have e0 : sp_M_countsIn K (J b) (J k) (J n) (J t) big (J S) = f_M_countsIn K (J t) K 0 (J b, J k, J n, J (0 : Nat), J 0, J 0, big, J (S + n : Nat)) := by
      clear hN hN1 hPF
      simp (disch := omega) only [sp_M_countsIn, eS, J_lit, J_add, J_sub, J_mul, J_neg, J_nat, J_inb, J_div, ↓reduceIte, Int.toNat_natCast, Option.bind_some, J_le_t, J_le_f, J_lt_t, J_lt_f, J_eq_t, J_eq_f, L_lit, L_add, L_sub, L_mul, L_div, JL, LJ, Int.reduceToNat, Int.toNat_zero, Int.toNat_one, xb, xm, within_t, within_f, nb_t, nb_f, ni_t, ni_f, in_t, in_f, less_, bad_0, bad_1, not_true_eq_false, not_false_eq_true, L_lt_t, L_lt_f, L_eq_t, L_eq_f, lg_gt, lg_eq, lg_lt]
      rfl
    rw [e0]
    refine Eq.trans g3 ?_
    have e1 : f_M_countsIn K (J t) (m + 1) 0 (J b, J k, J n, J k, J 0, J 0, G, J (S + n : Nat)) = f_M_countsIn K (J t) m 1 (J b, J k, J n, J (0 : Nat), J 0, J 0, G, J (S + n : Nat)) := by
      clear hN hN1 hPF
      simp (disch := omega) only [f_M_countsIn, J_lit, J_add, J_sub, J_mul, J_neg, J_nat, J_inb, J_div, ↓reduceIte, Int.toNat_natCast, Option.bind_some, J_le_t, J_le_f, J_lt_t, J_lt_f, J_eq_t, J_eq_f, L_lit, L_add, L_sub, L_mul, L_div, JL, LJ, Int.reduceToNat, Int.toNat_zero, Int.toNat_one, xb, xm, within_t, within_f, nb_t, nb_f, ni_t, ni_f, in_t, in_f, less_, bad_0, bad_1, not_true_eq_false, not_false_eq_true, L_lt_t, L_lt_f, L_eq_t, L_eq_f, lg_gt, lg_eq, lg_lt]
      rfl
    refine Eq.trans e1 (Eq.trans z3 ?_)
    clear hN hN1 hPF
    simp (disch := omega) only [f_M_countsIn, J_lit, J_add, J_sub, J_mul, J_neg, J_nat, J_inb, J_div, ↓reduceIte, Int.toNat_natCast, Option.bind_some, J_le_t, J_le_f, J_lt_t, J_lt_f, J_eq_t, J_eq_f, L_lit, L_add, L_sub, L_mul, L_div, JL, LJ, Int.reduceToNat, Int.toNat_zero, Int.toNat_one, xb, xm, within_t, within_f, nb_t, nb_f, ni_t, ni_f, in_t, in_f, less_, bad_0, bad_1, not_true_eq_false, not_false_eq_true, L_lt_t, L_lt_f, L_eq_t, L_eq_f, lg_gt, lg_eq, lg_lt]
  · have hz : PF t n k = 0 := by rw [PF, ch_gt n k (by omega), Nat.zero_mul, Nat.zero_mul]
    obtain ⟨G1, x1, x2, x3⟩ := p_M_times K (by omega) hb (v := 0) (by omega) h (by rw [Nat.mul_zero]; exact Nat.pow_pos (by omega))
    refine ⟨G1, ?_, by rw [hz]; exact x2, x3⟩
    clear hN hN1
    rw [Int.natCast_zero] at x1
    simp (disch := omega) only [sp_M_countsIn, eS, x1, J_lit, J_add, J_sub, J_mul, J_neg, J_nat, J_inb, J_div, ↓reduceIte, Int.toNat_natCast, Option.bind_some, J_le_t, J_le_f, J_lt_t, J_lt_f, J_eq_t, J_eq_f, L_lit, L_add, L_sub, L_mul, L_div, JL, LJ, Int.reduceToNat, Int.toNat_zero, Int.toNat_one, xb, xm, within_t, within_f, nb_t, nb_f, ni_t, ni_f, in_t, in_f, less_, bad_0, bad_1, not_true_eq_false, not_false_eq_true, L_lt_t, L_lt_f, L_eq_t, L_eq_f, lg_gt, lg_eq, lg_lt]
