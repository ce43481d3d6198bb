set_option maxHeartbeats 2000000 in
theorem p_doEvent (K : Nat) (hK : 1000 ≤ K) {l : LA} (hl : LOK l) {c1 : Nat → Int32} {c5 c6 : Int32} (hA : ∀ g, g < 8 → ∀ s, s < 10 → c1 (g * 10 + s) = J (lsh l g s)) (h5 : c5 = J (lwa l)) (h6 : c6 = J (lpa l)) {st : RS} (hst : RSOK st) {ly wo : Nat → Int32} {ld : Int32} (R : RC st ly wo ld) {i : Nat} (hi : i < 21) {e : Nat → Nat} (he : EOK e) {k1 k2 k3 : Nat → Int32} (e1 : k1 i = J (e 0)) (e2 : k2 i = J (e 1)) (e3 : k3 i = J (e 2)) : ∃ ly' wo' ld', sp_Run_doEvent K (J i) ly wo ld c1 c5 c6 k1 k2 k3 = some (ly', wo', ld') ∧ RC (evA l st e) ly' wo' ld' := by
  obtain ⟨o1, o2, o3, o4, o5, o6⟩ := he
  have hwa := hl.2.2.2.2.1
  subst h5
  unfold sp_Run_doEvent evA
  rcases (show e 0 = 0 ∨ e 0 = 1 ∨ e 0 = 2 ∨ e 0 = 3 ∨ e 0 = 4 by omega) with h | h | h | h | h
  · refine ⟨ly, _, ld, by simp (disch := omega) only [e1, e2, e3, h, J_lit, J_add, J_sub, J_mul, J_neg, J_nat, J_inb, J_div, ↓reduceIte, Int.toNat_natCast, Option.bind_some, J_le_t, J_le_f, J_lt_t, J_lt_f, J_eq_t, J_eq_f, L_lit, L_add, L_sub, L_mul, L_div, JL, LJ, Int.reduceToNat, Int.toNat_zero, Int.toNat_one, xb, xm, within_t, within_f, nb_t, nb_f, ni_t, ni_f, in_t, in_f, less_, bad_0, bad_1, not_true_eq_false, not_false_eq_true, L_lt_t, L_lt_f, L_eq_t, L_eq_f, lg_gt, lg_eq, lg_lt]; rfl, ?_⟩
    rw [if_pos h]
    refine ⟨R.1, fun p hp => ?_, R.2.2⟩
    show upd wo (e 1) (J (e 2)) p = J (va_up st.2 (e 1) (e 2) p)
    unfold upd va_up; split
    · rfl
    · exact R.2.1 p hp
  · refine ⟨ly, _, ld, by simp (disch := omega) only [e1, e2, e3, h, J_lit, J_add, J_sub, J_mul, J_neg, J_nat, J_inb, J_div, ↓reduceIte, Int.toNat_natCast, Option.bind_some, J_le_t, J_le_f, J_lt_t, J_lt_f, J_eq_t, J_eq_f, L_lit, L_add, L_sub, L_mul, L_div, JL, LJ, Int.reduceToNat, Int.toNat_zero, Int.toNat_one, xb, xm, within_t, within_f, nb_t, nb_f, ni_t, ni_f, in_t, in_f, less_, bad_0, bad_1, not_true_eq_false, not_false_eq_true, L_lt_t, L_lt_f, L_eq_t, L_eq_f, lg_gt, lg_eq, lg_lt]; rfl, ?_⟩
    rw [if_neg (by omega), if_pos h]
    refine ⟨R.1, fun p hp => ?_, R.2.2⟩
    show upd wo (e 1) (J (-1)) p = J (va_up st.2 (e 1) (-1) p)
    unfold upd va_up; split
    · rfl
    · exact R.2.1 p hp
  · obtain ⟨q1, q2⟩ := o4 h
    obtain ⟨ly', ld', f1, f2⟩ := p_touch K hK hl hA h6 hst R o2 q1 q2
    refine ⟨ly', wo, ld', by simp (disch := omega) only [e1, e2, e3, h, f1, J_lit, J_add, J_sub, J_mul, J_neg, J_nat, J_inb, J_div, ↓reduceIte, Int.toNat_natCast, Option.bind_some, J_le_t, J_le_f, J_lt_t, J_lt_f, J_eq_t, J_eq_f, L_lit, L_add, L_sub, L_mul, L_div, JL, LJ, Int.reduceToNat, Int.toNat_zero, Int.toNat_one, xb, xm, within_t, within_f, nb_t, nb_f, ni_t, ni_f, in_t, in_f, less_, bad_0, bad_1, not_true_eq_false, not_false_eq_true, L_lt_t, L_lt_f, L_eq_t, L_eq_f, lg_gt, lg_eq, lg_lt], ?_⟩
    rw [if_neg (by omega), if_neg (by omega), if_pos h]
    exact f2
  · obtain ⟨ly', f1, f2⟩ := p_keep K hK hst R o2 hwa
    refine ⟨ly', wo, ld, by simp (disch := omega) only [e1, e2, e3, h, f1, J_lit, J_add, J_sub, J_mul, J_neg, J_nat, J_inb, J_div, ↓reduceIte, Int.toNat_natCast, Option.bind_some, J_le_t, J_le_f, J_lt_t, J_lt_f, J_eq_t, J_eq_f, L_lit, L_add, L_sub, L_mul, L_div, JL, LJ, Int.reduceToNat, Int.toNat_zero, Int.toNat_one, xb, xm, within_t, within_f, nb_t, nb_f, ni_t, ni_f, in_t, in_f, less_, bad_0, bad_1, not_true_eq_false, not_false_eq_true, L_lt_t, L_lt_f, L_eq_t, L_eq_f, lg_gt, lg_eq, lg_lt], ?_⟩
    rw [if_neg (by omega), if_neg (by omega), if_neg (by omega), if_pos h]
    exact f2
  · obtain ⟨ly', f1, f2⟩ := p_keep K hK hst R o2 o5
    refine ⟨ly', wo, ld, by simp (disch := omega) only [e1, e2, e3, h, f1, J_lit, J_add, J_sub, J_mul, J_neg, J_nat, J_inb, J_div, ↓reduceIte, Int.toNat_natCast, Option.bind_some, J_le_t, J_le_f, J_lt_t, J_lt_f, J_eq_t, J_eq_f, L_lit, L_add, L_sub, L_mul, L_div, JL, LJ, Int.reduceToNat, Int.toNat_zero, Int.toNat_one, xb, xm, within_t, within_f, nb_t, nb_f, ni_t, ni_f, in_t, in_f, less_, bad_0, bad_1, not_true_eq_false, not_false_eq_true, L_lt_t, L_lt_f, L_eq_t, L_eq_f, lg_gt, lg_eq, lg_lt], ?_⟩
    rw [if_neg (by omega), if_neg (by omega), if_neg (by omega), if_neg (by omega)]
    exact f2
def stp (l : LA) (E : Nat → Nat → Nat) (h : Nat) (st : RS) : Nat → RS
  | 0 => st
  | i + 1 => if E i 3 = h then evA l (stp l E h st i) (E i) else stp l E h st i
def init : RS := (fun _ _ => 0, fun _ => -1)
def runT (l : LA) (T : Nat → RS → RS) : Nat → RS
  | 0 => T 0 init
  | h + 1 => T (h + 1) (loseA l (runT l T h))
def baseT (l : LA) (T : Nat → RS → RS) : Nat → RS
  | 0 => init
  | h + 1 => loseA l (runT l T h)
set_option maxHeartbeats 2000000 in
theorem runT_eq (l : LA) (T : Nat → RS → RS) (h : Nat) : runT l T h = T h (baseT l T h) := by
  cases h <;> rfl
set_option maxHeartbeats 2000000 in
theorem runT_cong (l : LA) {T T' : Nat → RS → RS} (h : ∀ i st, T i st = T' i st) : ∀ i, runT l T i = runT l T' i
  | 0 => h 0 _
  | i + 1 => by unfold runT; rw [runT_cong l h i]; exact h _ _
def SOK (n : Nat) (E : Nat → Nat → Nat) : Prop := n ≤ 21 ∧ (∀ i, i < n → EOK (E i)) ∧ ∀ i j, i ≤ j → j < n → E i 3 ≤ E j 3
def SC (n : Nat) (E : Nat → Nat → Nat) (k1 k2 k3 k4 : Nat → Int32) (kn : Int32) : Prop := kn = J n ∧ (∀ i, i < n → k1 i = J (E i 0)) ∧ (∀ i, i < n → k2 i = J (E i 1)) ∧ (∀ i, i < n → k3 i = J (E i 2)) ∧ (∀ i, i < n → k4 i = J (E i 3))
abbrev runA (l : LA) (n : Nat) (E : Nat → Nat → Nat) : Nat → RS := runT l (fun h st => stp l E h st n)
abbrev baseA (l : LA) (n : Nat) (E : Nat → Nat → Nat) : Nat → RS := baseT l (fun h st => stp l E h st n)
set_option maxHeartbeats 2000000 in
theorem init_ok : RSOK init := ⟨fun _ _ _ _ => Nat.zero_le _, fun _ _ => ⟨Int.le_refl _, by show (-1 : Int) ≤ 7; decide⟩⟩
set_option maxHeartbeats 2000000 in
theorem stp_ok {l : LA} (hl : LOK l) {n : Nat} {E : Nat → Nat → Nat} (hE : ∀ i, i < n → EOK (E i)) (h : Nat) {st : RS} (hs : RSOK st) : ∀ i, i ≤ n → RSOK (stp l E h st i)
  | 0, _ => hs
  | i + 1, hi => by
    unfold stp
    have := stp_ok hl hE h hs i (by omega)
    split
    · exact ev_ok hl this (hE i (by omega))
    · exact this
set_option maxHeartbeats 2000000 in
theorem runA_ok {l : LA} (hl : LOK l) {n : Nat} {E : Nat → Nat → Nat} (hE : ∀ i, i < n → EOK (E i)) : ∀ h, RSOK (runA l n E h)
  | 0 => stp_ok hl hE 0 init_ok n (Nat.le_refl _)
  | h + 1 => stp_ok hl hE (h + 1) (lose_ok hl (runA_ok hl hE h)) n (Nat.le_refl _)
set_option maxHeartbeats 2000000 in
theorem baseA_ok {l : LA} (hl : LOK l) {n : Nat} {E : Nat → Nat → Nat} (hE : ∀ i, i < n → EOK (E i)) : ∀ h, RSOK (baseA l n E h)
  | 0 => init_ok
  | h + 1 => lose_ok hl (runA_ok hl hE h)
set_option maxHeartbeats 2000000 in
theorem stp_skip (l : LA) (E : Nat → Nat → Nat) (h : Nat) (st : RS) (a : Nat) : ∀ b, a ≤ b → (∀ i, a ≤ i → i < b → E i 3 ≠ h) → stp l E h st b = stp l E h st a
  | 0, hab, _ => by obtain rfl : a = 0 := by omega
                    rfl
  | b + 1, hab, hh => by
    by_cases he : a = b + 1
    · rw [he]
    · rw [stp, if_neg (hh b (by omega) (by omega))]
      exact stp_skip l E h st a b (by omega) (fun i h1 h2 => hh i h1 (by omega))
def GQ (l : LA) (n : Nat) (E : Nat → Nat → Nat) (h d : Nat) (st : RS) : Prop := d ≤ n ∧ st = stp l E h (baseA l n E h) d ∧ (∀ i, i < d → E i 3 ≤ h) ∧ ∀ i, d ≤ i → i < n → h ≤ E i 3
set_option maxHeartbeats 2000000 in
theorem go_in (K : Nat) (hK : 1000 ≤ K) {l : LA} (hl : LOK l) {c1 c2 : Nat → Int32} {c5 c6 : Int32} (hA : ∀ g, g < 8 → ∀ s, s < 10 → c1 (g * 10 + s) = J (lsh l g s)) (h5 : c5 = J (lwa l)) (h6 : c6 = J (lpa l)) {n : Nat} {E : Nat → Nat → Nat} (hE : SOK n E) {k1 k2 k3 k4 : Nat → Int32} {kn : Int32} (hS : SC n E k1 k2 k3 k4 kn) (x1 : Int32) (h : Nat) (hh : h < 100) : ∀ r d, n - d = r → ∀ st ly wo ld, GQ l n E h d st → RC st ly wo ld → ∀ m, r + 2 ≤ m → ∃ (m' j : Nat) (ly' wo' : Nat → Int32) (ld' : Int32), m ≤ m' + r + 1 ∧ f_Run_goTo K c1 c2 c5 c6 k1 k2 k3 k4 kn m 2 (x1, J h, J d, ly, wo, ld, J h, J d) = f_Run_goTo K c1 c2 c5 c6 k1 k2 k3 k4 kn m' 3 (x1, J h, J 0, ly', wo', ld', J h, J j) ∧ RC (runA l n E h) ly' wo' ld' ∧ j ≤ n ∧ (∀ i, i < j → E i 3 ≤ h) ∧ ∀ i, j ≤ i → i < n → h < E i 3 := by
  obtain ⟨hn, hev, hso⟩ := hE
  obtain ⟨rfl, s1, s2, s3, s4⟩ := hS
  intro r
  induction r with
  | zero =>
    intro d hr st ly wo ld hg hR m hm
    obtain ⟨g1, rfl, g3, g4⟩ := hg
    obtain rfl : d = n := by omega
    obtain ⟨m, rfl⟩ : ∃ k, m = k + 1 := ⟨m - 1, by omega⟩
    refine ⟨m, d, ly, wo, ld, by omega, by simp (disch := omega) only [f_Run_goTo, J_lit, J_add, J_sub, J_mul, J_neg, J_nat, J_inb, J_div, ↓reduceIte, Int.toNat_natCast, Option.bind_some, J_le_t, J_le_f, J_lt_t, J_lt_f, J_eq_t, J_eq_f, L_lit, L_add, L_sub, L_mul, L_div, JL, LJ, Int.reduceToNat, Int.toNat_zero, Int.toNat_one, xb, xm, within_t, within_f, nb_t, nb_f, ni_t, ni_f, in_t, in_f, less_, bad_0, bad_1, not_true_eq_false, not_false_eq_true, L_lt_t, L_lt_f, L_eq_t, L_eq_f, lg_gt, lg_eq, lg_lt], ?_, by omega, g3, fun i h1 h2 => by omega⟩
    rw [runA, runT_eq]; exact hR
  | succ r ih =>
    intro d hr st ly wo ld hg hR m hm
    obtain ⟨g1, g2, g3, g4⟩ := hg
    obtain ⟨m, rfl⟩ : ∃ k, m = k + 1 := ⟨m - 1, by omega⟩
    have hd : d < n := by omega
    have e4 := s4 d hd
    have he := hev d hd
    have hlt : E d 3 < 100 := he.2.2.2.2.2
    by_cases hc : h < E d 3
    · refine ⟨m, d, ly, wo, ld, by omega, by simp (disch := omega) only [f_Run_goTo, e4, J_lit, J_add, J_sub, J_mul, J_neg, J_nat, J_inb, J_div, ↓reduceIte, Int.toNat_natCast, Option.bind_some, J_le_t, J_le_f, J_lt_t, J_lt_f, J_eq_t, J_eq_f, L_lit, L_add, L_sub, L_mul, L_div, JL, LJ, Int.reduceToNat, Int.toNat_zero, Int.toNat_one, xb, xm, within_t, within_f, nb_t, nb_f, ni_t, ni_f, in_t, in_f, less_, bad_0, bad_1, not_true_eq_false, not_false_eq_true, L_lt_t, L_lt_f, L_eq_t, L_eq_f, lg_gt, lg_eq, lg_lt], ?_, by omega, g3, fun i h1 h2 => ?_⟩
      · rw [runA, runT_eq]
        rw [stp_skip l E h _ d n (by omega) (fun i h1 h2 => by have := hso d i h1 h2; omega), ← g2]
        exact hR
      · have := hso d i h1 h2; omega
    · have heq : E d 3 = h := by have := g4 d (by omega) hd; omega
      have hok : RSOK st := by rw [g2]; exact stp_ok hl hev h (baseA_ok hl hev h) d (by omega)
      obtain ⟨ly', wo', ld', f1, f2⟩ := p_doEvent K hK hl hA h5 h6 hok hR (i := d) (by omega) he (s1 d hd) (s2 d hd) (s3 d hd)
      obtain ⟨m', j, a1, a2, a3, b1, b2, b3, b4, b5, b6⟩ := ih (d + 1) (by omega) (evA l st (E d)) ly' wo' ld' ⟨by omega, by rw [stp, if_pos heq, ← g2], fun i hi => by
        by_cases hid : i = d
        · subst hid; omega
        · exact g3 i (by omega), fun i h1 h2 => g4 i (by omega) h2⟩ f2 m (by omega)
      refine ⟨m', j, a1, a2, a3, by omega, ?_, b3, b4, b5, b6⟩
      rw [← b2]
      simp (disch := omega) only [f_Run_goTo, e4, f1, cast1, J_lit, J_add, J_sub, J_mul, J_neg, J_nat, J_inb, J_div, ↓reduceIte, Int.toNat_natCast, Option.bind_some, J_le_t, J_le_f, J_lt_t, J_lt_f, J_eq_t, J_eq_f, L_lit, L_add, L_sub, L_mul, L_div, JL, LJ, Int.reduceToNat, Int.toNat_zero, Int.toNat_one, xb, xm, within_t, within_f, nb_t, nb_f, ni_t, ni_f, in_t, in_f, less_, bad_0, bad_1, not_true_eq_false, not_false_eq_true, L_lt_t, L_lt_f, L_eq_t, L_eq_f, lg_gt, lg_eq, lg_lt]
set_option maxHeartbeats 2000000 in
theorem p_goTo (K : Nat) (hK : 1000000 ≤ K) {l : LA} (hl : LOK l) {c1 c2 : Nat → Int32} {c5 c6 : Int32} (hA : ∀ g, g < 8 → ∀ s, s < 10 → c1 (g * 10 + s) = J (lsh l g s)) (h2 : ∀ s, s < 10 → c2 s = J (lho l s)) (h5 : c5 = J (lwa l)) (h6 : c6 = J (lpa l)) {n : Nat} {E : Nat → Nat → Nat} (hE : SOK n E) {k1 k2 k3 k4 : Nat → Int32} {kn : Int32} (hS : SC n E k1 k2 k3 k4 kn) {h0 h d : Nat} (hh : h < 100) (h0h : h0 ≤ h) {st : RS} (hg : GQ l n E h0 d st) {ly wo : Nat → Int32} {ld : Int32} (hR : RC st ly wo ld) : ∃ (ly' wo' : Nat → Int32) (ld' : Int32) (j : Nat), sp_Run_goTo K (J h) ly wo ld (J h0) (J d) c1 c2 c5 c6 k1 k2 k3 k4 kn = some (ly', wo', ld', J h, J j) ∧ RC (runA l n E h) ly' wo' ld' ∧ GQ l n E h j (runA l n E h) := by
  have hn := hE.1
  have key : ∀ i, i ≤ h - h0 → ∃ (m : Nat) (ly' wo' : Nat → Int32) (ld' : Int32) (j : Nat), K ≤ m + 30 * (i + 1) ∧ sp_Run_goTo K (J h) ly wo ld (J h0) (J d) c1 c2 c5 c6 k1 k2 k3 k4 kn = f_Run_goTo K c1 c2 c5 c6 k1 k2 k3 k4 kn m 0 (J h, J (h0 + i + 1 : Nat), J 0, ly', wo', ld', J (h0 + i : Nat), J j) ∧ RC (runA l n E (h0 + i)) ly' wo' ld' ∧ j ≤ n ∧ (∀ a, a < j → E a 3 ≤ h0 + i) ∧ ∀ a, j ≤ a → a < n → h0 + i < E a 3 := by
    intro i
    induction i with
    | zero =>
      intro _
      obtain ⟨K', rfl⟩ : ∃ k, K = k + 2 := ⟨K - 2, by omega⟩
      obtain ⟨m', j, ly', wo', ld', b1, b2, b3, b4, b5, b6⟩ := go_in (K' + 2) (by omega) hl hA h5 h6 hE hS (c2 := c2) (J h) h0 (by omega) (n - d) d rfl st ly wo ld hg hR K' (by omega)
      obtain ⟨m', rfl⟩ : ∃ k, m' = k + 1 := ⟨m' - 1, by omega⟩
      refine ⟨m', ly', wo', ld', j, by omega, ?_, b3, b4, b5, b6⟩
      have e1 : sp_Run_goTo (K' + 2) (J h) ly wo ld (J h0) (J d) c1 c2 c5 c6 k1 k2 k3 k4 kn = f_Run_goTo (K' + 2) c1 c2 c5 c6 k1 k2 k3 k4 kn K' 2 (J h, J h0, J d, ly, wo, ld, J h0, J d) := by
        simp (disch := omega) only [sp_Run_goTo, f_Run_goTo, J_lit, J_add, J_sub, J_mul, J_neg, J_nat, J_inb, J_div, ↓reduceIte, Int.toNat_natCast, Option.bind_some, J_le_t, J_le_f, J_lt_t, J_lt_f, J_eq_t, J_eq_f, L_lit, L_add, L_sub, L_mul, L_div, JL, LJ, Int.reduceToNat, Int.toNat_zero, Int.toNat_one, xb, xm, within_t, within_f, nb_t, nb_f, ni_t, ni_f, in_t, in_f, less_, bad_0, bad_1, not_true_eq_false, not_false_eq_true, L_lt_t, L_lt_f, L_eq_t, L_eq_f, lg_gt, lg_eq, lg_lt]
      rw [e1, b2]
      have e2 : ∀ k, f_Run_goTo (K' + 2) c1 c2 c5 c6 k1 k2 k3 k4 kn (k + 1) 3 (J h, J h0, J 0, ly', wo', ld', J h0, J j) = f_Run_goTo (K' + 2) c1 c2 c5 c6 k1 k2 k3 k4 kn k 0 (J h, J (h0 + 0 + 1 : Nat), J 0, ly', wo', ld', J (h0 + 0 : Nat), J j) := fun k => by
        simp (disch := omega) only [f_Run_goTo, cast1, Nat.add_zero, J_lit, J_add, J_sub, J_mul, J_neg, J_nat, J_inb, J_div, ↓reduceIte, Int.toNat_natCast, Option.bind_some, J_le_t, J_le_f, J_lt_t, J_lt_f, J_eq_t, J_eq_f, L_lit, L_add, L_sub, L_mul, L_div, JL, LJ, Int.reduceToNat, Int.toNat_zero, Int.toNat_one, xb, xm, within_t, within_f, nb_t, nb_f, ni_t, ni_f, in_t, in_f, less_, bad_0, bad_1, not_true_eq_false, not_false_eq_true, L_lt_t, L_lt_f, L_eq_t, L_eq_f, lg_gt, lg_eq, lg_lt]
      exact e2 m'
    | succ i ih =>
      intro hi
      obtain ⟨m, ly1, wo1, ld1, j1, a1, a2, a3, a4, a5, a6⟩ := ih (by omega)
      obtain ⟨m, rfl⟩ : ∃ k, m = k + 2 := ⟨m - 2, by omega⟩
      obtain ⟨ly2, f1, f2⟩ := p_lose K (by omega) hl h2 (runA_ok hl hE.2.1 (h0 + i)) a3
      have hg2 : GQ l n E (h0 + i + 1) j1 (loseA l (runA l n E (h0 + i))) := by
        refine ⟨a4, ?_, fun a ha => by have := a5 a ha; omega, fun a h1 h3 => by have := a6 a h1 h3; omega⟩
        rw [stp_skip l E (h0 + i + 1) _ 0 j1 (by omega) (fun a _ ha => by have := a5 a ha; omega)]
        rfl
      obtain ⟨m', j, ly', wo', ld', b1, b2, b3, b4, b5, b6⟩ := go_in K (by omega) hl hA h5 h6 hE hS (c2 := c2) (J h) (h0 + i + 1) (by omega) (n - j1) j1 rfl _ ly2 wo1 ld1 hg2 f2 m (by omega)
      obtain ⟨m', rfl⟩ : ∃ k, m' = k + 1 := ⟨m' - 1, by omega⟩
      refine ⟨m', ly', wo', ld', j, by omega, ?_, b3, b4, b5, b6⟩
      rw [a2]
      have e1 : f_Run_goTo K c1 c2 c5 c6 k1 k2 k3 k4 kn (m + 2) 0 (J h, J (h0 + i + 1 : Nat), J 0, ly1, wo1, ld1, J (h0 + i : Nat), J j1) = f_Run_goTo K c1 c2 c5 c6 k1 k2 k3 k4 kn m 2 (J h, J (h0 + i + 1 : Nat), J j1, ly2, wo1, ld1, J (h0 + i + 1 : Nat), J j1) := by
        simp (disch := omega) only [f_Run_goTo, f1, J_lit, J_add, J_sub, J_mul, J_neg, J_nat, J_inb, J_div, ↓reduceIte, Int.toNat_natCast, Option.bind_some, J_le_t, J_le_f, J_lt_t, J_lt_f, J_eq_t, J_eq_f, L_lit, L_add, L_sub, L_mul, L_div, JL, LJ, Int.reduceToNat, Int.toNat_zero, Int.toNat_one, xb, xm, within_t, within_f, nb_t, nb_f, ni_t, ni_f, in_t, in_f, less_, bad_0, bad_1, not_true_eq_false, not_false_eq_true, L_lt_t, L_lt_f, L_eq_t, L_eq_f, lg_gt, lg_eq, lg_lt]
      rw [e1, b2]
      have e2 : ∀ k, f_Run_goTo K c1 c2 c5 c6 k1 k2 k3 k4 kn (k + 1) 3 (J h, J (h0 + i + 1 : Nat), J 0, ly', wo', ld', J (h0 + i + 1 : Nat), J j) = f_Run_goTo K c1 c2 c5 c6 k1 k2 k3 k4 kn k 0 (J h, J (h0 + (i + 1) + 1 : Nat), J 0, ly', wo', ld', J (h0 + (i + 1) : Nat), J j) := fun k => by
        simp (disch := omega) only [f_Run_goTo, cast1, J_lit, J_add, J_sub, J_mul, J_neg, J_nat, J_inb, J_div, ↓reduceIte, Int.toNat_natCast, Option.bind_some, J_le_t, J_le_f, J_lt_t, J_lt_f, J_eq_t, J_eq_f, L_lit, L_add, L_sub, L_mul, L_div, JL, LJ, Int.reduceToNat, Int.toNat_zero, Int.toNat_one, xb, xm, within_t, within_f, nb_t, nb_f, ni_t, ni_f, in_t, in_f, less_, bad_0, bad_1, not_true_eq_false, not_false_eq_true, L_lt_t, L_lt_f, L_eq_t, L_eq_f, lg_gt, lg_eq, lg_lt]
        rfl
      exact e2 m'
  obtain ⟨m, ly', wo', ld', j, a1, a2, a3, a4, a5, a6⟩ := key (h - h0) (Nat.le_refl _)
  obtain ⟨m, rfl⟩ : ∃ k, m = k + 1 := ⟨m - 1, by omega⟩
  have e : h0 + (h - h0) = h := by omega
  rw [e] at a2 a3 a5 a6
  refine ⟨ly', wo', ld', j, ?_, a3, a4, ?_, a5, fun a h1 h2 => by have := a6 a h1 h2; omega⟩
  · rw [a2]
    simp (disch := omega) only [f_Run_goTo, J_lit, J_add, J_sub, J_mul, J_neg, J_nat, J_inb, J_div, ↓reduceIte, Int.toNat_natCast, Option.bind_some, J_le_t, J_le_f, J_lt_t, J_lt_f, J_eq_t, J_eq_f, L_lit, L_add, L_sub, L_mul, L_div, JL, LJ, Int.reduceToNat, Int.toNat_zero, Int.toNat_one, xb, xm, within_t, within_f, nb_t, nb_f, ni_t, ni_f, in_t, in_f, less_, bad_0, bad_1, not_true_eq_false, not_false_eq_true, L_lt_t, L_lt_f, L_eq_t, L_eq_f, lg_gt, lg_eq, lg_lt]
  · rw [runA, runT_eq]
    exact stp_skip l E h _ j n a4 (fun i h1 h2 => by have := a6 i h1 h2; omega)
set_option maxHeartbeats 2000000 in
theorem p_fill (K : Nat) (hK : 1000 ≤ K) (v : Int32) (n : Nat) (hn : n ≤ 100) (A : Nat → Int32) : ∃ B, sp_Arrays_fill K v n A = some B ∧ ∀ i, i < n → B i = v := by
  obtain ⟨m, s, g1, ⟨G, rfl, hG⟩, g3⟩ := lp (fun k s => f_Arrays_fill K n k 0 s) (fun i s => ∃ G, s = (v, J i, J n, G) ∧ ∀ a, a < i → G a = v) 1 n (by
    rintro i hi s ⟨G, rfl, hG⟩ m
    refine ⟨m, _, by omega, ⟨_, rfl, fun a ha => ?_⟩, by simp (disch := omega) only [f_Arrays_fill, cast1, J_lit, J_add, J_sub, J_mul, J_neg, J_nat, J_inb, J_div, ↓reduceIte, Int.toNat_natCast, Option.bind_some, J_le_t, J_le_f, J_lt_t, J_lt_f, J_eq_t, J_eq_f, L_lit, L_add, L_sub, L_mul, L_div, JL, LJ, Int.reduceToNat, Int.toNat_zero, Int.toNat_one, xb, xm, within_t, within_f, nb_t, nb_f, ni_t, ni_f, in_t, in_f, less_, bad_0, bad_1, not_true_eq_false, not_false_eq_true, L_lt_t, L_lt_f, L_eq_t, L_eq_f, lg_gt, lg_eq, lg_lt]; rfl⟩
    unfold upd; split
    · rfl
    · exact hG a (by omega)) (v, J 0, J n, A) ⟨A, rfl, fun a ha => by omega⟩ K (by omega)
  obtain ⟨m, rfl⟩ : ∃ k, m = k + 1 := ⟨m - 1, by omega⟩
  refine ⟨G, ?_, hG⟩
  unfold sp_Arrays_fill
  rw [show Int32.ofNat n = J n from (J_ofNat n).symm, show (0 : Int32) = J 0 from rfl, g3]
  simp (disch := omega) only [f_Arrays_fill, J_lit, J_add, J_sub, J_mul, J_neg, J_nat, J_inb, J_div, ↓reduceIte, Int.toNat_natCast, Option.bind_some, J_le_t, J_le_f, J_lt_t, J_lt_f, J_eq_t, J_eq_f, L_lit, L_add, L_sub, L_mul, L_div, JL, LJ, Int.reduceToNat, Int.toNat_zero, Int.toNat_one, xb, xm, within_t, within_f, nb_t, nb_f, ni_t, ni_f, in_t, in_f, less_, bad_0, bad_1, not_true_eq_false, not_false_eq_true, L_lt_t, L_lt_f, L_eq_t, L_eq_f, lg_gt, lg_eq, lg_lt]
set_option maxHeartbeats 2000000 in
theorem p_begin (K : Nat) (hK : 1000 ≤ K) (l : LA) (n : Nat) (E : Nat → Nat → Nat) (ly wo : Nat → Int32) (a b c : Int32) : ∃ ly' wo', sp_Run_begin K ly wo a b c = some (ly', wo', J 0, J 0, J 0) ∧ RC init ly' wo' (J 0) ∧ GQ l n E 0 0 init := by
  obtain ⟨B, e1, e2⟩ := p_fill K hK (J 0) 100 (by omega) ly
  obtain ⟨C, f1, f2⟩ := p_fill K hK (J (-1)) 10 (by omega) wo
  refine ⟨B, C, by simp (disch := omega) only [sp_Run_begin, e1, f1, J_lit, J_add, J_sub, J_mul, J_neg, J_nat, J_inb, J_div, ↓reduceIte, Int.toNat_natCast, Option.bind_some, J_le_t, J_le_f, J_lt_t, J_lt_f, J_eq_t, J_eq_f, L_lit, L_add, L_sub, L_mul, L_div, JL, LJ, Int.reduceToNat, Int.toNat_zero, Int.toNat_one, xb, xm, within_t, within_f, nb_t, nb_f, ni_t, ni_f, in_t, in_f, less_, bad_0, bad_1, not_true_eq_false, not_false_eq_true, L_lt_t, L_lt_f, L_eq_t, L_eq_f, lg_gt, lg_eq, lg_lt], ⟨fun p hp s hs => e2 _ (by omega), fun p hp => f2 p hp, 0, by omega, rfl, fun _ _ _ _ _ => rfl⟩, Nat.zero_le _, rfl, fun i hi => by omega, fun i _ _ => Nat.zero_le _⟩
def pileS (l : LA) (st : RS) (p g : Nat) : Nat → Nat
  | 0 => 0
  | i + 1 => pileS l st p g i + if g.testBit i = true then st.1 p i + lco l i else 0
def pileA (l : LA) (st : RS) (p s : Nat) : Nat := min (pileS l st p (lal l s) 10) 60
set_option maxHeartbeats 2000000 in
theorem pileS_le {l : LA} (hl : LOK l) {st : RS} (h : RSOK st) {p : Nat} (hp : p < 10) (g : Nat) : ∀ i, i ≤ 10 → pileS l st p g i ≤ 10019 * i
  | 0, _ => Nat.zero_le _
  | i + 1, hi => by
    unfold pileS
    have h1 := pileS_le hl h hp g i (by omega)
    have h2 := h.1 p hp i (by omega)
    have h3 := hl.2.2.1 i (by omega)
    split <;> omega
set_option maxHeartbeats 2000000 in
theorem p_lyingOn (K : Nat) {st : RS} {ly wo : Nat → Int32} {ld : Int32} (R : RC st ly wo ld) {p s : Nat} (hp : p < 10) (hs : s < 10) : sp_Run_lyingOn K (J p) (J s) ly = some (J (st.1 p s)) := by
  have e : (p : Int) * 10 + (s : Int) = ((p * 10 + s : Nat) : Int) := by omega
  simp (disch := omega) only [sp_Run_lyingOn, e, R.1 p hp s hs, J_lit, J_add, J_sub, J_mul, J_neg, J_nat, J_inb, J_div, ↓reduceIte, Int.toNat_natCast, Option.bind_some, J_le_t, J_le_f, J_lt_t, J_lt_f, J_eq_t, J_eq_f, L_lit, L_add, L_sub, L_mul, L_div, JL, LJ, Int.reduceToNat, Int.toNat_zero, Int.toNat_one, xb, xm, within_t, within_f, nb_t, nb_f, ni_t, ni_f, in_t, in_f, less_, bad_0, bad_1, not_true_eq_false, not_false_eq_true, L_lt_t, L_lt_f, L_eq_t, L_eq_f, lg_gt, lg_eq, lg_lt]
set_option maxHeartbeats 2000000 in
theorem p_pileOn (K : Nat) (hK : 1000 ≤ K) {l : LA} (hl : LOK l) {c3 c4 : Nat → Int32} (h3 : ∀ s, s < 10 → c3 s = J (lco l s)) (h4 : ∀ s, s < 10 → c4 s = J (lal l s)) {st : RS} (hst : RSOK st) {ly wo : Nat → Int32} {ld : Int32} (R : RC st ly wo ld) {p s : Nat} (hp : p < 10) (hs : s < 10) : sp_Run_pileOn K (J p) (J s) ly c3 c4 = some (J (pileA l st p s)) := by
  unfold sp_Run_pileOn
  rw [alikeWith_t K hs c4, Option.bind_some, h4 s hs]
  have hg := hl.2.2.2.1 s hs
  obtain ⟨m, a1, a3⟩ := lpe (fun k s => f_Run_pileOn K ly c3 k 0 s) (fun i => (J p, J (lal l s), J (pileS l st p (lal l s) i), J i)) 2 10 (by
    intro i hi m
    refine ⟨m, by omega, ?_⟩
    by_cases hc : (lal l s).testBit i = true
    · simp (disch := omega) only [f_Run_pileOn, bitJ, hc, p_lyingOn K R hp hi, commonOf_t, h3, cast1, J_lit, J_add, J_sub, J_mul, J_neg, J_nat, J_inb, J_div, ↓reduceIte, Int.toNat_natCast, Option.bind_some, J_le_t, J_le_f, J_lt_t, J_lt_f, J_eq_t, J_eq_f, L_lit, L_add, L_sub, L_mul, L_div, JL, LJ, Int.reduceToNat, Int.toNat_zero, Int.toNat_one, xb, xm, within_t, within_f, nb_t, nb_f, ni_t, ni_f, in_t, in_f, less_, bad_0, bad_1, not_true_eq_false, not_false_eq_true, L_lt_t, L_lt_f, L_eq_t, L_eq_f, lg_gt, lg_eq, lg_lt]
      rw [show pileS l st p (lal l s) (i + 1) = pileS l st p (lal l s) i + (st.1 p i + lco l i) from by rw [pileS, if_pos hc]]
      rw [J_cong (show (pileS l st p (lal l s) i : Int) + ((st.1 p i : Int) + (lco l i : Int)) = ((pileS l st p (lal l s) i + (st.1 p i + lco l i) : Nat) : Int) by omega)]
    · simp (disch := omega) only [f_Run_pileOn, bitJ, hc, Bool.false_eq_true, cast1, J_lit, J_add, J_sub, J_mul, J_neg, J_nat, J_inb, J_div, ↓reduceIte, Int.toNat_natCast, Option.bind_some, J_le_t, J_le_f, J_lt_t, J_lt_f, J_eq_t, J_eq_f, L_lit, L_add, L_sub, L_mul, L_div, JL, LJ, Int.reduceToNat, Int.toNat_zero, Int.toNat_one, xb, xm, within_t, within_f, nb_t, nb_f, ni_t, ni_f, in_t, in_f, less_, bad_0, bad_1, not_true_eq_false, not_false_eq_true, L_lt_t, L_lt_f, L_eq_t, L_eq_f, lg_gt, lg_eq, lg_lt]
      rw [show pileS l st p (lal l s) (i + 1) = pileS l st p (lal l s) i from by rw [pileS, if_neg hc]; rfl]) K (by omega)
  refine a3.trans ?_
  have := pileS_le hl hst hp (lal l s) 10 (by omega)
  simp (disch := omega) only [f_Run_pileOn, minJ, J_lit, J_add, J_sub, J_mul, J_neg, J_nat, J_inb, J_div, ↓reduceIte, Int.toNat_natCast, Option.bind_some, J_le_t, J_le_f, J_lt_t, J_lt_f, J_eq_t, J_eq_f, L_lit, L_add, L_sub, L_mul, L_div, JL, LJ, Int.reduceToNat, Int.toNat_zero, Int.toNat_one, xb, xm, within_t, within_f, nb_t, nb_f, ni_t, ni_f, in_t, in_f, less_, bad_0, bad_1, not_true_eq_false, not_false_eq_true, L_lt_t, L_lt_f, L_eq_t, L_eq_f, lg_gt, lg_eq, lg_lt]
  unfold pileA
  exact congrArg some (J_cong (by omega))
def RM (st : RS) (ly : Nat → Nat → Int32) (wo : Nat → Int32) : Prop := (∀ p, p < 10 → ∀ s, s < 10 → ly p s = J (st.1 p s)) ∧ ∀ p, p < 10 → wo p = J (st.2 p)
set_option maxHeartbeats 2000000 in
theorem cellM (x q r h : Nat) (hq : q / 16 ≤ x) : min (9999 : Int) ((x : Int) - (q : Int) / 16 + (r : Int) / 16 + (h : Int)) = ((min 9999 (x - q / 16 + r / 16 + h) : Nat) : Int) := by
  rw [← cellN x q r h hq]
  congr 1
  omega
set_option maxHeartbeats 2000000 in
theorem p_M_touches (K : Nat) (hK : 1000 ≤ K) {l : LA} (hl : LOK l) {m1 : Nat → Nat → Int32} {m6 : Int32} (hA : ∀ g, g < 8 → ∀ s, s < 10 → m1 g s = J (lsh l g s)) (h6 : m6 = J (lpa l)) {st : RS} (hst : RSOK st) {ly : Nat → Nat → Int32} {wo : Nat → Int32} (R : RM st ly wo) {a b : Nat} (ha : a < 10) (hb : b < 10) (hab : b ≠ a) : ∃ ly', sp_M_touches K (J a) (J b) m6 m1 ly wo = some ly' ∧ RM (touchA l st a b) ly' wo := by
  obtain ⟨R1, R2⟩ := R
  subst h6
  have hpa := hl.2.2.2.2.2.1
  have w1 := hst.2 a ha
  have w2 := hst.2 b hb
  obtain ⟨n, s, g1, ⟨G, rfl, hG⟩, g3⟩ := lp (fun k s => f_M_touches K (J (lpa l)) m1 wo k 0 s) (fun i s => ∃ G, s = (J a, J b, J i, J 0, J 0, J 0, J 0, J 0, J 0, G) ∧ ∀ p, p < 10 → ∀ s, s < 10 → G p s = J (if s < i then (touchA l st a b).1 p s else st.1 p s)) 3 10 (by
    rintro i hi s ⟨G, rfl, hG⟩ n
    have ga := hG a ha i hi
    have gb := hG b hb i hi
    rw [if_neg (by omega)] at ga gb
    have sal := shd_le hl w1 hi
    have sbl := shd_le hl w2 hi
    have xl := hst.1 a ha i hi
    have yl := hst.1 b hb i hi
    have xp : (st.1 a i : Int) * (lpa l : Int) = ((st.1 a i * lpa l : Nat) : Int) := (Int.natCast_mul _ _).symm
    have yp : (st.1 b i : Int) * (lpa l : Int) = ((st.1 b i * lpa l : Nat) : Int) := (Int.natCast_mul _ _).symm
    have xq := Nat.mul_le_mul xl hpa
    have yq := Nat.mul_le_mul yl hpa
    have x16 := mul16 (st.1 a i) (lpa l) (by omega)
    have y16 := mul16 (st.1 b i) (lpa l) (by omega)
    have e1 : ∀ k, f_M_touches K (J (lpa l)) m1 wo (k + 1) 0 (J a, J b, J i, J 0, J 0, J 0, J 0, J 0, J 0, G) = f_M_touches K (J (lpa l)) m1 wo k 1 (J a, J b, J i, J (st.1 a i), J (st.1 b i), J ((st.1 a i * lpa l : Nat) / 16), J ((st.1 b i * lpa l : Nat) / 16), J (shd l (st.2 b) i), J 0, G) := fun k => by
      by_cases hw : st.2 b = -1
      · have : shd l (st.2 b) i = 0 := by unfold shd; rw [if_pos (by omega)]
        rw [this]
        simp (disch := omega) only [f_M_touches, ga, gb, R2 b hb, xp, yp, Int.natCast_zero, J_lit, J_add, J_sub, J_mul, J_neg, J_nat, J_inb, J_div, ↓reduceIte, Int.toNat_natCast, Option.bind_some, J_le_t, J_le_f, J_lt_t, J_lt_f, J_eq_t, J_eq_f, L_lit, L_add, L_sub, L_mul, L_div, JL, LJ, Int.reduceToNat, Int.toNat_zero, Int.toNat_one, xb, xm, within_t, within_f, nb_t, nb_f, ni_t, ni_f, in_t, in_f, less_, bad_0, bad_1, not_true_eq_false, not_false_eq_true, L_lt_t, L_lt_f, L_eq_t, L_eq_f, lg_gt, lg_eq, lg_lt]
      · have hs' : shd l (st.2 b) i = lsh l (st.2 b).toNat i := by unfold shd; rw [if_neg (by omega)]
        have hm := hA (st.2 b).toNat (by omega) i hi
        rw [hs']
        simp (disch := omega) only [f_M_touches, ga, gb, R2 b hb, xp, yp, hm, J_lit, J_add, J_sub, J_mul, J_neg, J_nat, J_inb, J_div, ↓reduceIte, Int.toNat_natCast, Option.bind_some, J_le_t, J_le_f, J_lt_t, J_lt_f, J_eq_t, J_eq_f, L_lit, L_add, L_sub, L_mul, L_div, JL, LJ, Int.reduceToNat, Int.toNat_zero, Int.toNat_one, xb, xm, within_t, within_f, nb_t, nb_f, ni_t, ni_f, in_t, in_f, less_, bad_0, bad_1, not_true_eq_false, not_false_eq_true, L_lt_t, L_lt_f, L_eq_t, L_eq_f, lg_gt, lg_eq, lg_lt]
    have e2 : ∀ k, f_M_touches K (J (lpa l)) m1 wo (k + 1) 1 (J a, J b, J i, J (st.1 a i), J (st.1 b i), J ((st.1 a i * lpa l : Nat) / 16), J ((st.1 b i * lpa l : Nat) / 16), J (shd l (st.2 b) i), J 0, G) = f_M_touches K (J (lpa l)) m1 wo k 2 (J a, J b, J i, J (st.1 a i), J (st.1 b i), J ((st.1 a i * lpa l : Nat) / 16), J ((st.1 b i * lpa l : Nat) / 16), J (shd l (st.2 a) i), J (shd l (st.2 b) i), G) := fun k => by
      by_cases hw : st.2 a = -1
      · have : shd l (st.2 a) i = 0 := by unfold shd; rw [if_pos (by omega)]
        rw [this]
        simp (disch := omega) only [f_M_touches, R2 a ha, Int.natCast_zero, J_lit, J_add, J_sub, J_mul, J_neg, J_nat, J_inb, J_div, ↓reduceIte, Int.toNat_natCast, Option.bind_some, J_le_t, J_le_f, J_lt_t, J_lt_f, J_eq_t, J_eq_f, L_lit, L_add, L_sub, L_mul, L_div, JL, LJ, Int.reduceToNat, Int.toNat_zero, Int.toNat_one, xb, xm, within_t, within_f, nb_t, nb_f, ni_t, ni_f, in_t, in_f, less_, bad_0, bad_1, not_true_eq_false, not_false_eq_true, L_lt_t, L_lt_f, L_eq_t, L_eq_f, lg_gt, lg_eq, lg_lt]
      · have hs' : shd l (st.2 a) i = lsh l (st.2 a).toNat i := by unfold shd; rw [if_neg (by omega)]
        have hm := hA (st.2 a).toNat (by omega) i hi
        rw [hs']
        simp (disch := omega) only [f_M_touches, R2 a ha, hm, J_lit, J_add, J_sub, J_mul, J_neg, J_nat, J_inb, J_div, ↓reduceIte, Int.toNat_natCast, Option.bind_some, J_le_t, J_le_f, J_lt_t, J_lt_f, J_eq_t, J_eq_f, L_lit, L_add, L_sub, L_mul, L_div, JL, LJ, Int.reduceToNat, Int.toNat_zero, Int.toNat_one, xb, xm, within_t, within_f, nb_t, nb_f, ni_t, ni_f, in_t, in_f, less_, bad_0, bad_1, not_true_eq_false, not_false_eq_true, L_lt_t, L_lt_f, L_eq_t, L_eq_f, lg_gt, lg_eq, lg_lt]
    refine ⟨n, _, by omega, ⟨_, rfl, ?_⟩, by rw [e1, e2]; simp (disch := omega) only [f_M_touches, cast1, J_lit, J_add, J_sub, J_mul, J_neg, J_nat, J_inb, J_div, ↓reduceIte, Int.toNat_natCast, Option.bind_some, J_le_t, J_le_f, J_lt_t, J_lt_f, J_eq_t, J_eq_f, L_lit, L_add, L_sub, L_mul, L_div, JL, LJ, Int.reduceToNat, Int.toNat_zero, Int.toNat_one, xb, xm, within_t, within_f, nb_t, nb_f, ni_t, ni_f, in_t, in_f, less_, bad_0, bad_1, not_true_eq_false, not_false_eq_true, L_lt_t, L_lt_f, L_eq_t, L_eq_f, lg_gt, lg_eq, lg_lt]; rfl⟩
    intro p hp s hs
    unfold va_up upd
    by_cases hpb : p = b
    · subst hpb
      rw [if_pos rfl]
      by_cases hsi : s = i
      · subst hsi
        rw [if_pos rfl, if_pos (by omega)]
        unfold touchA
        dsimp only
        rw [if_neg hab, if_pos rfl]
        exact J_cong (cellM _ _ _ _ y16)
      · rw [if_neg hsi, if_neg hab, hG p hp s hs]
        by_cases hlt : s < i
        · rw [if_pos hlt, if_pos (by omega)]
        · rw [if_neg hlt, if_neg (by omega)]
    · rw [if_neg hpb]
      by_cases hpa : p = a
      · subst hpa
        rw [if_pos rfl]
        by_cases hsi : s = i
        · subst hsi
          rw [if_pos rfl, if_pos (by omega)]
          unfold touchA
          dsimp only
          rw [if_pos rfl]
          exact J_cong (cellM _ _ _ _ x16)
        · rw [if_neg hsi, hG p hp s hs]
          by_cases hlt : s < i
          · rw [if_pos hlt, if_pos (by omega)]
          · rw [if_neg hlt, if_neg (by omega)]
      · rw [if_neg hpa, hG p hp s hs]
        have : (touchA l st a b).1 p s = st.1 p s := by
          unfold touchA
          dsimp only
          rw [if_neg hpa, if_neg hpb]
        rw [this]
        simp) (J a, J b, J 0, J 0, J 0, J 0, J 0, J 0, J 0, ly) ⟨ly, rfl, fun p hp s hs => by rw [if_neg (by omega)]; exact R1 p hp s hs⟩ K (by omega)
  obtain ⟨n, rfl⟩ : ∃ k, n = k + 1 := ⟨n - 1, by omega⟩
  refine ⟨G, ?_, fun p hp s hs => ?_, R2⟩
  · refine g3.trans ?_
    simp (disch := omega) only [f_M_touches, J_lit, J_add, J_sub, J_mul, J_neg, J_nat, J_inb, J_div, ↓reduceIte, Int.toNat_natCast, Option.bind_some, J_le_t, J_le_f, J_lt_t, J_lt_f, J_eq_t, J_eq_f, L_lit, L_add, L_sub, L_mul, L_div, JL, LJ, Int.reduceToNat, Int.toNat_zero, Int.toNat_one, xb, xm, within_t, within_f, nb_t, nb_f, ni_t, ni_f, in_t, in_f, less_, bad_0, bad_1, not_true_eq_false, not_false_eq_true, L_lt_t, L_lt_f, L_eq_t, L_eq_f, lg_gt, lg_eq, lg_lt]
  · have := hG p hp s hs
    rw [if_pos hs] at this
    exact this
set_option maxHeartbeats 2000000 in
theorem p_M_stays (K : Nat) (hK : 1000 ≤ K) {st : RS} (hst : RSOK st) {ly : Nat → Nat → Int32} {wo : Nat → Int32} (R : RM st ly wo) {a q : Nat} (ha : a < 10) (hq : q ≤ 16) : ∃ ly', sp_M_stays K (J a) (J q) ly = some ly' ∧ RM (keepA st a q) ly' wo := by
  obtain ⟨R1, R2⟩ := R
  obtain ⟨n, s, g1, ⟨G, rfl, hG⟩, g3⟩ := lp (fun k s => f_M_stays K k 0 s) (fun i s => ∃ G, s = (J a, J q, J i, G) ∧ ∀ p, p < 10 → ∀ s, s < 10 → G p s = J (if s < i then (keepA st a q).1 p s else st.1 p s)) 1 10 (by
    rintro i hi s ⟨G, rfl, hG⟩ n
    have ga := hG a ha i hi
    rw [if_neg (by omega)] at ga
    have xl := hst.1 a ha i hi
    have xp : (st.1 a i : Int) * (q : Int) = ((st.1 a i * q : Nat) : Int) := (Int.natCast_mul _ _).symm
    have xq := Nat.mul_le_mul xl hq
    refine ⟨n, _, by omega, ⟨_, rfl, ?_⟩, by simp (disch := omega) only [f_M_stays, ga, xp, cast1, J_lit, J_add, J_sub, J_mul, J_neg, J_nat, J_inb, J_div, ↓reduceIte, Int.toNat_natCast, Option.bind_some, J_le_t, J_le_f, J_lt_t, J_lt_f, J_eq_t, J_eq_f, L_lit, L_add, L_sub, L_mul, L_div, JL, LJ, Int.reduceToNat, Int.toNat_zero, Int.toNat_one, xb, xm, within_t, within_f, nb_t, nb_f, ni_t, ni_f, in_t, in_f, less_, bad_0, bad_1, not_true_eq_false, not_false_eq_true, L_lt_t, L_lt_f, L_eq_t, L_eq_f, lg_gt, lg_eq, lg_lt]; rfl⟩
    intro p hp s hs
    unfold va_up upd
    by_cases hpa : p = a
    · subst hpa
      rw [if_pos rfl]
      by_cases hsi : s = i
      · subst hsi
        rw [if_pos rfl, if_pos (by omega)]
        unfold keepA
        dsimp only
        rw [if_pos rfl]
        exact J_cong (by omega)
      · rw [if_neg hsi, hG p hp s hs]
        by_cases hlt : s < i
        · rw [if_pos hlt, if_pos (by omega)]
        · rw [if_neg hlt, if_neg (by omega)]
    · rw [if_neg hpa, hG p hp s hs]
      have : (keepA st a q).1 p s = st.1 p s := by
        unfold keepA
        dsimp only
        rw [if_neg hpa]
      rw [this]
      simp) (J a, J q, J 0, ly) ⟨ly, rfl, fun p hp s hs => by rw [if_neg (by omega)]; exact R1 p hp s hs⟩ K (by omega)
  obtain ⟨n, rfl⟩ : ∃ k, n = k + 1 := ⟨n - 1, by omega⟩
  refine ⟨G, ?_, fun p hp s hs => ?_, R2⟩
  · refine g3.trans ?_
    simp (disch := omega) only [f_M_stays, J_lit, J_add, J_sub, J_mul, J_neg, J_nat, J_inb, J_div, ↓reduceIte, Int.toNat_natCast, Option.bind_some, J_le_t, J_le_f, J_lt_t, J_lt_f, J_eq_t, J_eq_f, L_lit, L_add, L_sub, L_mul, L_div, JL, LJ, Int.reduceToNat, Int.toNat_zero, Int.toNat_one, xb, xm, within_t, within_f, nb_t, nb_f, ni_t, ni_f, in_t, in_f, less_, bad_0, bad_1, not_true_eq_false, not_false_eq_true, L_lt_t, L_lt_f, L_eq_t, L_eq_f, lg_gt, lg_eq, lg_lt]
  · have := hG p hp s hs
    rw [if_pos hs] at this
    exact this
set_option maxHeartbeats 2000000 in
theorem p_M_does (K : Nat) (hK : 1000 ≤ K) {l : LA} (hl : LOK l) {m1 : Nat → Nat → Int32} {m5 m6 : Int32} (hA : ∀ g, g < 8 → ∀ s, s < 10 → m1 g s = J (lsh l g s)) (h5 : m5 = J (lwa l)) (h6 : m6 = J (lpa l)) {st : RS} (hst : RSOK st) {ly : Nat → Nat → Int32} {wo : Nat → Int32} (R : RM st ly wo) {e : Nat → Nat} (he : EOK e) {ev : Nat → Nat → Int32} {j : Nat} (hj : j < 80) (hev : ∀ c, c < 4 → ev j c = J (e c)) : ∃ ly' wo', sp_M_does K j m5 m6 m1 ev ly wo = some (ly', wo') ∧ RM (evA l st e) ly' wo' := by
  obtain ⟨o1, o2, o3, o4, o5, o6⟩ := he
  have hwa := hl.2.2.2.2.1
  have v0 := hev 0 (by omega)
  have v1 := hev 1 (by omega)
  have v2 := hev 2 (by omega)
  subst h5
  unfold evA
  rcases (show e 0 = 0 ∨ e 0 = 1 ∨ e 0 = 2 ∨ e 0 = 3 ∨ e 0 = 4 by omega) with h | h | h | h | h
  · obtain ⟨k, rfl⟩ : ∃ k, K = k + 4 := ⟨K - 4, by omega⟩
    refine ⟨ly, _, by simp (disch := omega) only [sp_M_does, f_M_does, hj, v0, v1, v2, h, J_lit, J_add, J_sub, J_mul, J_neg, J_nat, J_inb, J_div, ↓reduceIte, Int.toNat_natCast, Option.bind_some, J_le_t, J_le_f, J_lt_t, J_lt_f, J_eq_t, J_eq_f, L_lit, L_add, L_sub, L_mul, L_div, JL, LJ, Int.reduceToNat, Int.toNat_zero, Int.toNat_one, xb, xm, within_t, within_f, nb_t, nb_f, ni_t, ni_f, in_t, in_f, less_, bad_0, bad_1, not_true_eq_false, not_false_eq_true, L_lt_t, L_lt_f, L_eq_t, L_eq_f, lg_gt, lg_eq, lg_lt]; rfl, ?_⟩
    rw [if_pos h]
    refine ⟨R.1, fun p hp => ?_⟩
    show upd wo (e 1) (J (e 2)) p = J (va_up st.2 (e 1) (e 2) p)
    unfold upd va_up; split
    · rfl
    · exact R.2 p hp
  · obtain ⟨k, rfl⟩ : ∃ k, K = k + 4 := ⟨K - 4, by omega⟩
    refine ⟨ly, _, by simp (disch := omega) only [sp_M_does, f_M_does, hj, v0, v1, v2, h, J_lit, J_add, J_sub, J_mul, J_neg, J_nat, J_inb, J_div, ↓reduceIte, Int.toNat_natCast, Option.bind_some, J_le_t, J_le_f, J_lt_t, J_lt_f, J_eq_t, J_eq_f, L_lit, L_add, L_sub, L_mul, L_div, JL, LJ, Int.reduceToNat, Int.toNat_zero, Int.toNat_one, xb, xm, within_t, within_f, nb_t, nb_f, ni_t, ni_f, in_t, in_f, less_, bad_0, bad_1, not_true_eq_false, not_false_eq_true, L_lt_t, L_lt_f, L_eq_t, L_eq_f, lg_gt, lg_eq, lg_lt]; rfl, ?_⟩
    rw [if_neg (by omega), if_pos h]
    refine ⟨R.1, fun p hp => ?_⟩
    show upd wo (e 1) (J (-1)) p = J (va_up st.2 (e 1) (-1) p)
    unfold upd va_up; split
    · rfl
    · exact R.2 p hp
  · obtain ⟨q1, q2⟩ := o4 h
    obtain ⟨ly', f1, f2⟩ := p_M_touches K hK hl hA h6 hst R o2 q1 q2
    obtain ⟨k, rfl⟩ : ∃ k, K = k + 4 := ⟨K - 4, by omega⟩
    refine ⟨ly', wo, by simp (disch := omega) only [sp_M_does, f_M_does, hj, v0, v1, v2, h, f1, J_lit, J_add, J_sub, J_mul, J_neg, J_nat, J_inb, J_div, ↓reduceIte, Int.toNat_natCast, Option.bind_some, J_le_t, J_le_f, J_lt_t, J_lt_f, J_eq_t, J_eq_f, L_lit, L_add, L_sub, L_mul, L_div, JL, LJ, Int.reduceToNat, Int.toNat_zero, Int.toNat_one, xb, xm, within_t, within_f, nb_t, nb_f, ni_t, ni_f, in_t, in_f, less_, bad_0, bad_1, not_true_eq_false, not_false_eq_true, L_lt_t, L_lt_f, L_eq_t, L_eq_f, lg_gt, lg_eq, lg_lt], ?_⟩
    rw [if_neg (by omega), if_neg (by omega), if_pos h]
    exact f2
  · obtain ⟨ly', f1, f2⟩ := p_M_stays K hK hst R o2 hwa
    obtain ⟨k, rfl⟩ : ∃ k, K = k + 4 := ⟨K - 4, by omega⟩
    refine ⟨ly', wo, by simp (disch := omega) only [sp_M_does, f_M_does, hj, v0, v1, v2, h, f1, J_lit, J_add, J_sub, J_mul, J_neg, J_nat, J_inb, J_div, ↓reduceIte, Int.toNat_natCast, Option.bind_some, J_le_t, J_le_f, J_lt_t, J_lt_f, J_eq_t, J_eq_f, L_lit, L_add, L_sub, L_mul, L_div, JL, LJ, Int.reduceToNat, Int.toNat_zero, Int.toNat_one, xb, xm, within_t, within_f, nb_t, nb_f, ni_t, ni_f, in_t, in_f, less_, bad_0, bad_1, not_true_eq_false, not_false_eq_true, L_lt_t, L_lt_f, L_eq_t, L_eq_f, lg_gt, lg_eq, lg_lt], ?_⟩
    rw [if_neg (by omega), if_neg (by omega), if_neg (by omega), if_pos h]
    exact f2
  · obtain ⟨ly', f1, f2⟩ := p_M_stays K hK hst R o2 o5
    obtain ⟨k, rfl⟩ : ∃ k, K = k + 4 := ⟨K - 4, by omega⟩
    refine ⟨ly', wo, by simp (disch := omega) only [sp_M_does, f_M_does, hj, v0, v1, v2, h, f1, J_lit, J_add, J_sub, J_mul, J_neg, J_nat, J_inb, J_div, ↓reduceIte, Int.toNat_natCast, Option.bind_some, J_le_t, J_le_f, J_lt_t, J_lt_f, J_eq_t, J_eq_f, L_lit, L_add, L_sub, L_mul, L_div, JL, LJ, Int.reduceToNat, Int.toNat_zero, Int.toNat_one, xb, xm, within_t, within_f, nb_t, nb_f, ni_t, ni_f, in_t, in_f, less_, bad_0, bad_1, not_true_eq_false, not_false_eq_true, L_lt_t, L_lt_f, L_eq_t, L_eq_f, lg_gt, lg_eq, lg_lt], ?_⟩
    rw [if_neg (by omega), if_neg (by omega), if_neg (by omega), if_neg (by omega)]
    exact f2
set_option maxHeartbeats 2000000 in
theorem p_M_pileAt (K : Nat) (hK : 1000000 ≤ K) {l : LA} (hl : LOK l) {nr : Nat → Nat} {m3 m4 : Nat → Int32} (h3 : ∀ s, s < 10 → m3 s = J (lco l s)) (h4 : ∀ s, s < 10 → m4 s = J (nr s)) (hA : AL nr (lal l)) {st : RS} (hst : RSOK st) {ly : Nat → Nat → Int32} {wo : Nat → Int32} (R : RM st ly wo) {p s : Nat} (hp : p < 10) (hs : s < 10) : sp_M_pileAt K (J p) (J s) m3 m4 ly = some (J (pileA l st p s)) := by
  unfold sp_M_pileAt
  rw [p_M_alikeOf K hK m4 nr (lal l) hA h4 s hs, Option.bind_some]
  have hg := hl.2.2.2.1 s hs
  obtain ⟨m, a1, a3⟩ := lpe (fun k s => f_M_pileAt K m3 ly k 0 s) (fun i => (J p, J (lal l s), J (pileS l st p (lal l s) i), J i, J 0, J 0)) 2 10 (by
    intro i hi m
    refine ⟨m, by omega, ?_⟩
    by_cases hc : (lal l s).testBit i = true
    · simp (disch := omega) only [f_M_pileAt, bitJ, hc, R.1 p hp i hi, h3, cast1, J_lit, J_add, J_sub, J_mul, J_neg, J_nat, J_inb, J_div, ↓reduceIte, Int.toNat_natCast, Option.bind_some, J_le_t, J_le_f, J_lt_t, J_lt_f, J_eq_t, J_eq_f, L_lit, L_add, L_sub, L_mul, L_div, JL, LJ, Int.reduceToNat, Int.toNat_zero, Int.toNat_one, xb, xm, within_t, within_f, nb_t, nb_f, ni_t, ni_f, in_t, in_f, less_, bad_0, bad_1, not_true_eq_false, not_false_eq_true, L_lt_t, L_lt_f, L_eq_t, L_eq_f, lg_gt, lg_eq, lg_lt]
      rw [show pileS l st p (lal l s) (i + 1) = pileS l st p (lal l s) i + (st.1 p i + lco l i) from by rw [pileS, if_pos hc]]
      rw [J_cong (show (pileS l st p (lal l s) i : Int) + ((st.1 p i : Int) + (lco l i : Int)) = ((pileS l st p (lal l s) i + (st.1 p i + lco l i) : Nat) : Int) by omega)]
    · simp (disch := omega) only [f_M_pileAt, bitJ, hc, Bool.false_eq_true, cast1, J_lit, J_add, J_sub, J_mul, J_neg, J_nat, J_inb, J_div, ↓reduceIte, Int.toNat_natCast, Option.bind_some, J_le_t, J_le_f, J_lt_t, J_lt_f, J_eq_t, J_eq_f, L_lit, L_add, L_sub, L_mul, L_div, JL, LJ, Int.reduceToNat, Int.toNat_zero, Int.toNat_one, xb, xm, within_t, within_f, nb_t, nb_f, ni_t, ni_f, in_t, in_f, less_, bad_0, bad_1, not_true_eq_false, not_false_eq_true, L_lt_t, L_lt_f, L_eq_t, L_eq_f, lg_gt, lg_eq, lg_lt]
      rw [show pileS l st p (lal l s) (i + 1) = pileS l st p (lal l s) i from by rw [pileS, if_neg hc]; rfl]
      rw [J_cong (show (pileS l st p (lal l s) i : Int) + 0 = ((pileS l st p (lal l s) i : Nat) : Int) by omega)]) K (by omega)
  refine a3.trans ?_
  have := pileS_le hl hst hp (lal l s) 10 (by omega)
  simp (disch := omega) only [f_M_pileAt, J_lit, J_add, J_sub, J_mul, J_neg, J_nat, J_inb, J_div, ↓reduceIte, Int.toNat_natCast, Option.bind_some, J_le_t, J_le_f, J_lt_t, J_lt_f, J_eq_t, J_eq_f, L_lit, L_add, L_sub, L_mul, L_div, JL, LJ, Int.reduceToNat, Int.toNat_zero, Int.toNat_one, xb, xm, within_t, within_f, nb_t, nb_f, ni_t, ni_f, in_t, in_f, less_, bad_0, bad_1, not_true_eq_false, not_false_eq_true, L_lt_t, L_lt_f, L_eq_t, L_eq_f, lg_gt, lg_eq, lg_lt]
  unfold pileA
  exact congrArg some (J_cong (by omega))
def SM (j n : Nat) (E : Nat → Nat → Nat) (many : Nat → Int32) (ev : Nat → Nat → Int32) : Prop := j < 4 ∧ n ≤ 20 ∧ many j = J n ∧ ∀ i, i < n → ∀ c, c < 4 → ev (20 * j + i) c = J (E i c)
def stpF (l : LA) (E : Nat → Nat → Nat) (cm : Nat → Bool) (h : Nat) (st : RS) : Nat → RS
  | 0 => st
  | i + 1 => if E i 3 = h ∧ cm i = true then evA l (stpF l E cm h st i) (E i) else stpF l E cm h st i
def extr (l : LA) (x : Option (Nat × Nat × Nat)) (h : Nat) (st : RS) : RS := match x with
  | none => st
  | some (a, b, hh) => if hh = h then touchA l st a b else st
def XOK (x : Option (Nat × Nat × Nat)) (ef et eh : Int32) : Prop := match x with
  | none => ef = J (-1)
  | some (a, b, hh) => ef = J a ∧ et = J b ∧ eh = J hh ∧ a < 10 ∧ b < 10 ∧ b ≠ a ∧ hh < 100
abbrev TM (l : LA) (n : Nat) (E : Nat → Nat → Nat) (cm : Nat → Bool) (x : Option (Nat × Nat × Nat)) : Nat → RS → RS := fun h st => extr l x h (stpF l E cm h st n)
set_option maxHeartbeats 2000000 in
theorem stpF_ok {l : LA} (hl : LOK l) {n : Nat} {E : Nat → Nat → Nat} (hE : ∀ i, i < n → EOK (E i)) (cm : Nat → Bool) (h : Nat) {st : RS} (hs : RSOK st) : ∀ i, i ≤ n → RSOK (stpF l E cm h st i)
  | 0, _ => hs
  | i + 1, hi => by
    unfold stpF
    have := stpF_ok hl hE cm h hs i (by omega)
    split
    · exact ev_ok hl this (hE i (by omega))
    · exact this
set_option maxHeartbeats 2000000 in
theorem extr_ok {l : LA} (x : Option (Nat × Nat × Nat)) (h : Nat) {st : RS} (hs : RSOK st) : RSOK (extr l x h st) := by
  unfold extr
  match x with
  | none => exact hs
  | some (a, b, hh) =>
    dsimp only
    split
    · exact touch_ok hs a b
    · exact hs
set_option maxHeartbeats 2000000 in
theorem TM_ok {l : LA} (hl : LOK l) {n : Nat} {E : Nat → Nat → Nat} (hE : ∀ i, i < n → EOK (E i)) (cm : Nat → Bool) (x : Option (Nat × Nat × Nat)) (h : Nat) {st : RS} (hs : RSOK st) : RSOK (TM l n E cm x h st) := extr_ok x h (stpF_ok hl hE cm h hs n (Nat.le_refl _))
set_option maxHeartbeats 2000000 in
theorem runM_ok {l : LA} (hl : LOK l) {n : Nat} {E : Nat → Nat → Nat} (hE : ∀ i, i < n → EOK (E i)) (cm : Nat → Bool) (x : Option (Nat × Nat × Nat)) : ∀ h, RSOK (runT l (TM l n E cm x) h)
  | 0 => TM_ok hl hE cm x 0 init_ok
  | h + 1 => TM_ok hl hE cm x (h + 1) (lose_ok hl (runM_ok hl hE cm x h))
set_option maxHeartbeats 2000000 in
theorem stpF_skip (l : LA) (E : Nat → Nat → Nat) (cm : Nat → Bool) (h : Nat) (st : RS) (a : Nat) : ∀ b, a ≤ b → (∀ i, a ≤ i → i < b → E i 3 ≠ h) → stpF l E cm h st b = stpF l E cm h st a
  | 0, hab, _ => by obtain rfl : a = 0 := by omega
                    rfl
  | b + 1, hab, hh => by
    by_cases he : a = b + 1
    · rw [he]
    · rw [stpF, if_neg (fun h' => hh b (by omega) (by omega) h'.1)]
      exact stpF_skip l E cm h st a b (by omega) (fun i h1 h2 => hh i h1 (by omega))
def MQ_ (l : LA) (n : Nat) (E : Nat → Nat → Nat) (cm : Nat → Bool) (b : RS) (h d : Nat) (st : RS) : Prop := d ≤ n ∧ st = stpF l E cm h b d ∧ (∀ i, i < d → E i 3 ≤ h) ∧ ∀ i, d ≤ i → i < n → h ≤ E i 3
set_option maxHeartbeats 2000000 in
theorem Mgo_in (K : Nat) (hK : 1000 ≤ K) {l : LA} (hl : LOK l) {m1 : Nat → Nat → Int32} {m2 : Nat → Int32} {m5 m6 : Int32} (hA : ∀ g, g < 8 → ∀ s, s < 10 → m1 g s = J (lsh l g s)) (h5 : m5 = J (lwa l)) (h6 : m6 = J (lpa l)) {j n : Nat} {E : Nat → Nat → Nat} (hE : SOK n E) {many : Nat → Int32} {ev : Nat → Nat → Int32} (hS : SM j n E many ev) {lo ef et eh fi se th : Int32} {cm : Nat → Bool} (hcm : ∀ i, i < n → sp_M_comes K (J i) (20 * j + i) ev lo fi se th = some (J (if cm i = true then 1 else 0))) (x2 : Int32) (h : Nat) (hh : h < 100) {b : RS} (hb : RSOK b) : ∀ r d, n - d = r → ∀ st ly wo, MQ_ l n E cm b h d st → RM st ly wo → ∀ m, 2 * r + 2 ≤ m → ∃ (m' q : Nat) (ly' : Nat → Nat → Int32) (wo' : Nat → Int32), m ≤ m' + 2 * r + 1 ∧ f_M_runs K m5 m6 m1 m2 many ev lo ef et eh fi se th m 5 (J j, x2, J d, J h, J 0, J 0, ly, wo) = f_M_runs K m5 m6 m1 m2 many ev lo ef et eh fi se th m' 7 (J j, x2, J q, J h, J 0, J 0, ly', wo') ∧ RM (stpF l E cm h b n) ly' wo' ∧ q ≤ n ∧ (∀ i, i < q → E i 3 ≤ h) ∧ ∀ i, q ≤ i → i < n → h < E i 3 := by
  obtain ⟨hn, hev, hso⟩ := hE
  obtain ⟨s1, s2, s3, s4⟩ := hS
  intro r
  induction r with
  | zero =>
    intro d hr st ly wo hg hR m hm
    obtain ⟨g1, rfl, g3, g4⟩ := hg
    obtain rfl : d = n := by omega
    obtain ⟨m, rfl⟩ : ∃ k, m = k + 1 := ⟨m - 1, by omega⟩
    refine ⟨m, d, ly, wo, by omega, by simp (disch := omega) only [f_M_runs, s3, J_lit, J_add, J_sub, J_mul, J_neg, J_nat, J_inb, J_div, ↓reduceIte, Int.toNat_natCast, Option.bind_some, J_le_t, J_le_f, J_lt_t, J_lt_f, J_eq_t, J_eq_f, L_lit, L_add, L_sub, L_mul, L_div, JL, LJ, Int.reduceToNat, Int.toNat_zero, Int.toNat_one, xb, xm, within_t, within_f, nb_t, nb_f, ni_t, ni_f, in_t, in_f, less_, bad_0, bad_1, not_true_eq_false, not_false_eq_true, L_lt_t, L_lt_f, L_eq_t, L_eq_f, lg_gt, lg_eq, lg_lt], hR, by omega, g3, fun i h1 h2 => by omega⟩
  | succ r ih =>
    intro d hr st ly wo hg hR m hm
    obtain ⟨g1, g2, g3, g4⟩ := hg
    obtain ⟨m, rfl⟩ : ∃ k, m = k + 2 := ⟨m - 2, by omega⟩
    have hd : d < n := by omega
    have e4 := s4 d hd 3 (by omega)
    have he := hev d hd
    have hlt : E d 3 < 100 := he.2.2.2.2.2
    have ea : 20 * (j : Int) + (d : Int) = ((20 * j + d : Nat) : Int) := by omega
    by_cases hc : h < E d 3
    · refine ⟨m + 1, d, ly, wo, by omega, ?_, ?_, by omega, g3, fun i h1 h2 => ?_⟩
      · have : ∀ k, f_M_runs K m5 m6 m1 m2 many ev lo ef et eh fi se th (k + 1) 5 (J j, x2, J d, J h, J 0, J 0, ly, wo) = f_M_runs K m5 m6 m1 m2 many ev lo ef et eh fi se th k 7 (J j, x2, J d, J h, J 0, J 0, ly, wo) := fun k => by
          simp (disch := omega) only [f_M_runs, s3, ea, e4, J_lit, J_add, J_sub, J_mul, J_neg, J_nat, J_inb, J_div, ↓reduceIte, Int.toNat_natCast, Option.bind_some, J_le_t, J_le_f, J_lt_t, J_lt_f, J_eq_t, J_eq_f, L_lit, L_add, L_sub, L_mul, L_div, JL, LJ, Int.reduceToNat, Int.toNat_zero, Int.toNat_one, xb, xm, within_t, within_f, nb_t, nb_f, ni_t, ni_f, in_t, in_f, less_, bad_0, bad_1, not_true_eq_false, not_false_eq_true, L_lt_t, L_lt_f, L_eq_t, L_eq_f, lg_gt, lg_eq, lg_lt]
        exact this (m + 1)
      · rw [stpF_skip l E cm h _ d n (by omega) (fun i h1 h2 => by have := hso d i h1 h2; omega), ← g2]
        exact hR
      · have := hso d i h1 h2; omega
    · have heq : E d 3 = h := by have := g4 d (by omega) hd; omega
      have hok : RSOK st := by rw [g2]; exact stpF_ok hl hev cm h hb d (by omega)
      have hq3 : ∀ i, i < d + 1 → E i 3 ≤ h := fun i hi => by
        by_cases hid : i = d
        · subst hid; omega
        · exact g3 i (by omega)
      by_cases hcd : cm d = true
      · have hcm' := hcm d hd
        rw [if_pos hcd] at hcm'
        obtain ⟨ly', wo', f1, f2⟩ := p_M_does K hK hl hA h5 h6 hok hR he (j := 20 * j + d) (by omega) (s4 d hd)
        obtain ⟨m', q, a1, a2, b1, b2, b3, b4, b5, b6⟩ := ih (d + 1) (by omega) (evA l st (E d)) ly' wo' ⟨by omega, by rw [stpF, if_pos ⟨heq, hcd⟩, ← g2], hq3, fun i h1 h2 => g4 i (by omega) h2⟩ f2 m (by omega)
        refine ⟨m', q, a1, a2, by omega, ?_, b3, b4, b5, b6⟩
        rw [← b2]
        simp (disch := omega) only [f_M_runs, s3, ea, e4, heq, hcm', f1, cast1, J_lit, J_add, J_sub, J_mul, J_neg, J_nat, J_inb, J_div, ↓reduceIte, Int.toNat_natCast, Option.bind_some, J_le_t, J_le_f, J_lt_t, J_lt_f, J_eq_t, J_eq_f, L_lit, L_add, L_sub, L_mul, L_div, JL, LJ, Int.reduceToNat, Int.toNat_zero, Int.toNat_one, xb, xm, within_t, within_f, nb_t, nb_f, ni_t, ni_f, in_t, in_f, less_, bad_0, bad_1, not_true_eq_false, not_false_eq_true, L_lt_t, L_lt_f, L_eq_t, L_eq_f, lg_gt, lg_eq, lg_lt]
      · have hcm' := hcm d hd
        rw [if_neg hcd] at hcm'
        obtain ⟨m', q, a1, a2, b1, b2, b3, b4, b5, b6⟩ := ih (d + 1) (by omega) st ly wo ⟨by omega, by rw [stpF, if_neg (fun h' => hcd h'.2), ← g2], hq3, fun i h1 h2 => g4 i (by omega) h2⟩ hR m (by omega)
        refine ⟨m', q, a1, a2, by omega, ?_, b3, b4, b5, b6⟩
        rw [← b2]
        simp (disch := omega) only [f_M_runs, s3, ea, e4, heq, hcm', cast1, J_lit, J_add, J_sub, J_mul, J_neg, J_nat, J_inb, J_div, ↓reduceIte, Int.toNat_natCast, Option.bind_some, J_le_t, J_le_f, J_lt_t, J_lt_f, J_eq_t, J_eq_f, L_lit, L_add, L_sub, L_mul, L_div, JL, LJ, Int.reduceToNat, Int.toNat_zero, Int.toNat_one, xb, xm, within_t, within_f, nb_t, nb_f, ni_t, ni_f, in_t, in_f, less_, bad_0, bad_1, not_true_eq_false, not_false_eq_true, L_lt_t, L_lt_f, L_eq_t, L_eq_f, lg_gt, lg_eq, lg_lt]
section
variable (K : Nat) (m5 m6 : Int32) (m1 : Nat → Nat → Int32) (m2 many : Nat → Int32) (ev : Nat → Nat → Int32) (lo ef et eh fi se th : Int32)
set_option maxHeartbeats 2000000 in
theorem Mr_init (x1 x2 : Int32) (ly : Nat → Nat → Int32) (wo : Nat → Int32) (n : Nat) (hn : 1000 ≤ n) : ∃ m ly' wo', n ≤ m + 200 ∧ f_M_runs K m5 m6 m1 m2 many ev lo ef et eh fi se th n 0 (x1, x2, J 0, J 0, J 0, J 0, ly, wo) = f_M_runs K m5 m6 m1 m2 many ev lo ef et eh fi se th m 2 (x1, x2, J 0, J 0, J 0, J 0, ly', wo') ∧ RM init ly' wo' := by
  obtain ⟨m, s, g1, ⟨G, W, rfl, hG, hW⟩, g3⟩ := lp (fun k s => f_M_runs K m5 m6 m1 m2 many ev lo ef et eh fi se th k 0 s) (fun i s => ∃ G W, s = (x1, x2, J i, J 0, J 0, J 0, G, W) ∧ (∀ p, p < i → ∀ s, s < 10 → G p s = J 0) ∧ ∀ p, p < i → W p = J (-1)) 12 10 (by
    rintro i hi s ⟨G, W, rfl, hG, hW⟩ n
    have e1 : ∀ k, f_M_runs K m5 m6 m1 m2 many ev lo ef et eh fi se th (k + 1) 0 (x1, x2, J i, J 0, J 0, J 0, G, W) = f_M_runs K m5 m6 m1 m2 many ev lo ef et eh fi se th k 1 (x1, x2, J i, J 0, J 0, J 0, G, upd W i (J (-1))) := fun k => by
      simp (disch := omega) only [f_M_runs, J_lit, J_add, J_sub, J_mul, J_neg, J_nat, J_inb, J_div, ↓reduceIte, Int.toNat_natCast, Option.bind_some, J_le_t, J_le_f, J_lt_t, J_lt_f, J_eq_t, J_eq_f, L_lit, L_add, L_sub, L_mul, L_div, JL, LJ, Int.reduceToNat, Int.toNat_zero, Int.toNat_one, xb, xm, within_t, within_f, nb_t, nb_f, ni_t, ni_f, in_t, in_f, less_, bad_0, bad_1, not_true_eq_false, not_false_eq_true, L_lt_t, L_lt_f, L_eq_t, L_eq_f, lg_gt, lg_eq, lg_lt]
    obtain ⟨m, s, k1, ⟨H, rfl, hH⟩, k3⟩ := lp (fun k s => f_M_runs K m5 m6 m1 m2 many ev lo ef et eh fi se th k 1 s) (fun q s => ∃ H, s = (x1, x2, J i, J q, J 0, J 0, H, upd W i (J (-1))) ∧ (∀ p, p < i → ∀ s, s < 10 → H p s = J 0) ∧ ∀ s, s < q → H i s = J 0) 1 10 (by
      rintro q hq s ⟨H, rfl, hH1, hH2⟩ n
      refine ⟨n, _, by omega, ⟨_, rfl, fun p hp s hs => ?_, fun s hs => ?_⟩, by simp (disch := omega) only [f_M_runs, cast1, J_lit, J_add, J_sub, J_mul, J_neg, J_nat, J_inb, J_div, ↓reduceIte, Int.toNat_natCast, Option.bind_some, J_le_t, J_le_f, J_lt_t, J_lt_f, J_eq_t, J_eq_f, L_lit, L_add, L_sub, L_mul, L_div, JL, LJ, Int.reduceToNat, Int.toNat_zero, Int.toNat_one, xb, xm, within_t, within_f, nb_t, nb_f, ni_t, ni_f, in_t, in_f, less_, bad_0, bad_1, not_true_eq_false, not_false_eq_true, L_lt_t, L_lt_f, L_eq_t, L_eq_f, lg_gt, lg_eq, lg_lt]; rfl⟩
      · rw [pu_up_ne _ _ (by omega)]; exact hH1 p hp s hs
      · rw [va_up_eq]
        unfold upd; split
        · rfl
        · exact hH2 s (by omega)) (x1, x2, J i, J 0, J 0, J 0, G, upd W i (J (-1))) ⟨G, rfl, hG, fun s hs => by omega⟩ (n + 11) (by omega)
    obtain ⟨m, rfl⟩ : ∃ k, m = k + 1 := ⟨m - 1, by omega⟩
    refine ⟨m, _, by omega, ⟨H, upd W i (J (-1)), rfl, fun p hp s hs => ?_, fun p hp => ?_⟩, ?_⟩
    · by_cases hpi : p = i
      · subst hpi; exact hH.2 s hs
      · exact hH.1 p (by omega) s hs
    · unfold upd; split
      · rfl
      · exact hW p (by omega)
    · rw [e1 (n + 11), k3]
      simp (disch := omega) only [f_M_runs, cast1, J_lit, J_add, J_sub, J_mul, J_neg, J_nat, J_inb, J_div, ↓reduceIte, Int.toNat_natCast, Option.bind_some, J_le_t, J_le_f, J_lt_t, J_lt_f, J_eq_t, J_eq_f, L_lit, L_add, L_sub, L_mul, L_div, JL, LJ, Int.reduceToNat, Int.toNat_zero, Int.toNat_one, xb, xm, within_t, within_f, nb_t, nb_f, ni_t, ni_f, in_t, in_f, less_, bad_0, bad_1, not_true_eq_false, not_false_eq_true, L_lt_t, L_lt_f, L_eq_t, L_eq_f, lg_gt, lg_eq, lg_lt]) (x1, x2, J 0, J 0, J 0, J 0, ly, wo) ⟨ly, wo, rfl, fun p hp => by omega, fun p hp => by omega⟩ n (by omega)
  obtain ⟨m, rfl⟩ : ∃ k, m = k + 1 := ⟨m - 1, by omega⟩
  refine ⟨m, G, W, by omega, ?_, fun p hp s hs => hG p hp s hs, fun p hp => hW p hp⟩
  rw [g3]
  simp (disch := omega) only [f_M_runs, J_lit, J_add, J_sub, J_mul, J_neg, J_nat, J_inb, J_div, ↓reduceIte, Int.toNat_natCast, Option.bind_some, J_le_t, J_le_f, J_lt_t, J_lt_f, J_eq_t, J_eq_f, L_lit, L_add, L_sub, L_mul, L_div, JL, LJ, Int.reduceToNat, Int.toNat_zero, Int.toNat_one, xb, xm, within_t, within_f, nb_t, nb_f, ni_t, ni_f, in_t, in_f, less_, bad_0, bad_1, not_true_eq_false, not_false_eq_true, L_lt_t, L_lt_f, L_eq_t, L_eq_f, lg_gt, lg_eq, lg_lt]
set_option maxHeartbeats 2000000 in
theorem Mr_lose {l : LA} (hl : LOK l) (h2 : ∀ s, s < 10 → m2 s = J (lho l s)) {st : RS} (hst : RSOK st) (x1 x2 x3 : Int32) (h : Nat) (hh : 0 < h ∧ h < 200) {ly : Nat → Nat → Int32} {wo : Nat → Int32} (R : RM st ly wo) (n : Nat) (hn : 1000 ≤ n) : ∃ m ly', n ≤ m + 200 ∧ f_M_runs K m5 m6 m1 m2 many ev lo ef et eh fi se th n 3 (x1, x2, x3, J h, J 0, J 0, ly, wo) = f_M_runs K m5 m6 m1 m2 many ev lo ef et eh fi se th m 5 (x1, x2, x3, J h, J 0, J 0, ly', wo) ∧ RM (loseA l st) ly' wo := by
  obtain ⟨m, s, g1, ⟨G, rfl, hG⟩, g3⟩ := lp (fun k s => f_M_runs K m5 m6 m1 m2 many ev lo ef et eh fi se th k 3 s) (fun i s => ∃ G, s = (x1, x2, x3, J h, J i, J 0, G, wo) ∧ ∀ p, p < 10 → ∀ s, s < 10 → G p s = J (if p < i then (loseA l st).1 p s else st.1 p s)) 12 10 (by
    rintro i hi s ⟨G, rfl, hG⟩ n
    have e1 : ∀ k, f_M_runs K m5 m6 m1 m2 many ev lo ef et eh fi se th (k + 1) 3 (x1, x2, x3, J h, J i, J 0, G, wo) = f_M_runs K m5 m6 m1 m2 many ev lo ef et eh fi se th k 4 (x1, x2, x3, J h, J i, J 0, G, wo) := fun k => by
      simp (disch := omega) only [f_M_runs, J_lit, J_add, J_sub, J_mul, J_neg, J_nat, J_inb, J_div, ↓reduceIte, Int.toNat_natCast, Option.bind_some, J_le_t, J_le_f, J_lt_t, J_lt_f, J_eq_t, J_eq_f, L_lit, L_add, L_sub, L_mul, L_div, JL, LJ, Int.reduceToNat, Int.toNat_zero, Int.toNat_one, xb, xm, within_t, within_f, nb_t, nb_f, ni_t, ni_f, in_t, in_f, less_, bad_0, bad_1, not_true_eq_false, not_false_eq_true, L_lt_t, L_lt_f, L_eq_t, L_eq_f, lg_gt, lg_eq, lg_lt]
    obtain ⟨m, s, k1, ⟨H, rfl, hH⟩, k3⟩ := lp (fun k s => f_M_runs K m5 m6 m1 m2 many ev lo ef et eh fi se th k 4 s) (fun q s => ∃ H, s = (x1, x2, x3, J h, J i, J q, H, wo) ∧ ∀ p, p < 10 → ∀ s, s < 10 → H p s = J (if p < i ∨ p = i ∧ s < q then (loseA l st).1 p s else st.1 p s)) 1 10 (by
      rintro q hq s ⟨H, rfl, hH⟩ n
      have ga := hH i hi q hq
      rw [if_neg (by omega)] at ga
      have xl := hst.1 i hi q hq
      have hqq := hl.2.1 q hq
      have xp : (st.1 i q : Int) * (lho l q : Int) = ((st.1 i q * lho l q : Nat) : Int) := (Int.natCast_mul _ _).symm
      have xq := Nat.mul_le_mul xl hqq
      refine ⟨n, _, by omega, ⟨_, rfl, fun p hp s hs => ?_⟩, by simp (disch := omega) only [f_M_runs, ga, h2, xp, cast1, J_lit, J_add, J_sub, J_mul, J_neg, J_nat, J_inb, J_div, ↓reduceIte, Int.toNat_natCast, Option.bind_some, J_le_t, J_le_f, J_lt_t, J_lt_f, J_eq_t, J_eq_f, L_lit, L_add, L_sub, L_mul, L_div, JL, LJ, Int.reduceToNat, Int.toNat_zero, Int.toNat_one, xb, xm, within_t, within_f, nb_t, nb_f, ni_t, ni_f, in_t, in_f, less_, bad_0, bad_1, not_true_eq_false, not_false_eq_true, L_lt_t, L_lt_f, L_eq_t, L_eq_f, lg_gt, lg_eq, lg_lt]; rfl⟩
      by_cases hpi : p = i
      · subst hpi
        rw [va_up_eq]
        unfold upd
        by_cases hsq : s = q
        · subst hsq
          rw [if_pos rfl, if_pos (by omega)]
          show _ = J ((st.1 p s * lho l s / 16 : Nat) : Int)
          exact J_cong (by omega)
        · rw [if_neg hsq, hH p hp s hs]
          by_cases hc : p < p ∨ p = p ∧ s < q
          · rw [if_pos hc, if_pos (by omega)]
          · rw [if_neg hc, if_neg (by omega)]
      · rw [pu_up_ne _ _ hpi, hH p hp s hs]
        by_cases hc : p < i ∨ p = i ∧ s < q
        · rw [if_pos hc, if_pos (by omega)]
        · rw [if_neg hc, if_neg (by omega)]) (x1, x2, x3, J h, J i, J 0, G, wo) ⟨G, rfl, fun p hp s hs => by
          rw [hG p hp s hs]
          by_cases hc : p < i
          · rw [if_pos hc, if_pos (by omega)]
          · rw [if_neg hc, if_neg (by omega)]⟩ (n + 11) (by omega)
    obtain ⟨m, rfl⟩ : ∃ k, m = k + 1 := ⟨m - 1, by omega⟩
    refine ⟨m, _, by omega, ⟨H, rfl, fun p hp s hs => ?_⟩, ?_⟩
    · rw [hH p hp s hs]
      by_cases hc : p < i ∨ p = i ∧ s < 10
      · rw [if_pos hc, if_pos (by omega)]
      · rw [if_neg hc, if_neg (by omega)]
    · rw [e1 (n + 11), k3]
      simp (disch := omega) only [f_M_runs, cast1, J_lit, J_add, J_sub, J_mul, J_neg, J_nat, J_inb, J_div, ↓reduceIte, Int.toNat_natCast, Option.bind_some, J_le_t, J_le_f, J_lt_t, J_lt_f, J_eq_t, J_eq_f, L_lit, L_add, L_sub, L_mul, L_div, JL, LJ, Int.reduceToNat, Int.toNat_zero, Int.toNat_one, xb, xm, within_t, within_f, nb_t, nb_f, ni_t, ni_f, in_t, in_f, less_, bad_0, bad_1, not_true_eq_false, not_false_eq_true, L_lt_t, L_lt_f, L_eq_t, L_eq_f, lg_gt, lg_eq, lg_lt]) (x1, x2, x3, J h, J 0, J 0, ly, wo) ⟨ly, rfl, fun p hp s hs => by rw [if_neg (by omega)]; exact R.1 p hp s hs⟩ n (by omega)
  obtain ⟨m, rfl⟩ : ∃ k, m = k + 1 := ⟨m - 1, by omega⟩
  refine ⟨m, G, by omega, ?_, fun p hp s hs => ?_, R.2⟩
  · rw [g3]
    simp (disch := omega) only [f_M_runs, J_lit, J_add, J_sub, J_mul, J_neg, J_nat, J_inb, J_div, ↓reduceIte, Int.toNat_natCast, Option.bind_some, J_le_t, J_le_f, J_lt_t, J_lt_f, J_eq_t, J_eq_f, L_lit, L_add, L_sub, L_mul, L_div, JL, LJ, Int.reduceToNat, Int.toNat_zero, Int.toNat_one, xb, xm, within_t, within_f, nb_t, nb_f, ni_t, ni_f, in_t, in_f, less_, bad_0, bad_1, not_true_eq_false, not_false_eq_true, L_lt_t, L_lt_f, L_eq_t, L_eq_f, lg_gt, lg_eq, lg_lt]
  · have := hG p hp s hs
    rw [if_pos hp] at this
    exact this
end
set_option maxHeartbeats 2000000 in
theorem p_M_runs (K : Nat) (hK : 1000000 ≤ K) {l : LA} (hl : LOK l) {m1 : Nat → Nat → Int32} {m2 : Nat → Int32} {m5 m6 : Int32} (hA : ∀ g, g < 8 → ∀ s, s < 10 → m1 g s = J (lsh l g s)) (h2 : ∀ s, s < 10 → m2 s = J (lho l s)) (h5 : m5 = J (lwa l)) (h6 : m6 = J (lpa l)) {j n : Nat} {E : Nat → Nat → Nat} (hE : SOK n E) {many : Nat → Int32} {ev : Nat → Nat → Int32} (hS : SM j n E many ev) {lo ef et eh fi se th : Int32} {cm : Nat → Bool} (hcm : ∀ i, i < n → sp_M_comes K (J i) (20 * j + i) ev lo fi se th = some (J (if cm i = true then 1 else 0))) {x : Option (Nat × Nat × Nat)} (hx : XOK x ef et eh) {h : Nat} (hh : h < 100) (ly : Nat → Nat → Int32) (wo : Nat → Int32) : ∃ ly' wo', sp_M_runs K (J j) (J h) m5 m6 m1 m2 many ev ly wo lo ef et eh fi se th = some (ly', wo') ∧ RM (runT l (TM l n E cm x) h) ly' wo' := by
  have hn := hE.1
  have hour : ∀ i, i ≤ h → ∀ b d ly wo, RSOK b → RM b ly wo → d ≤ n → (∀ a, a < d → E a 3 < i) → (∀ a, d ≤ a → a < n → i ≤ E a 3) → ∀ m, 100 ≤ m → ∃ (m' q : Nat) (ly' : Nat → Nat → Int32) (wo' : Nat → Int32), m ≤ m' + 60 ∧ f_M_runs K m5 m6 m1 m2 many ev lo ef et eh fi se th m 5 (J j, J h, J d, J i, J 0, J 0, ly, wo) = f_M_runs K m5 m6 m1 m2 many ev lo ef et eh fi se th m' 2 (J j, J h, J q, J (i + 1 : Nat), J 0, J 0, ly', wo') ∧ RM (TM l n E cm x i b) ly' wo' ∧ q ≤ n ∧ (∀ a, a < q → E a 3 < i + 1) ∧ ∀ a, q ≤ a → a < n → i + 1 ≤ E a 3 := by
    intro i hi b d ly wo hb hR hd h1 h3 m hm
    obtain ⟨m', q, ly', wo', b1, b2, b3, b4, b5, b6⟩ := Mgo_in K (by omega) hl hA h5 h6 hE hS hcm (m2 := m2) (ef := ef) (et := et) (eh := eh) (J h) i (by omega) hb (n - d) d rfl b ly wo ⟨hd, (stpF_skip l E cm i b 0 d (by omega) (fun a _ ha => by have := h1 a ha; omega)).symm ▸ rfl, fun a ha => by have := h1 a ha; omega, h3⟩ hR m (by have := hS.2.1; omega)
    have hn20 := hS.2.1
    obtain ⟨m', rfl⟩ : ∃ k, m' = k + 2 := ⟨m' - 2, by omega⟩
    have hok := stpF_ok hl hE.2.1 cm i hb n (Nat.le_refl _)
    match x, hx with
    | none, hx =>
      have hx : ef = J (-1) := hx
      refine ⟨m', q, ly', wo', by omega, ?_, b3, b4, fun a ha => by have := b5 a ha; omega, fun a ha h4 => by have := b6 a ha h4; omega⟩
      rw [b2, hx]
      simp (disch := omega) only [f_M_runs, cast1, J_lit, J_add, J_sub, J_mul, J_neg, J_nat, J_inb, J_div, ↓reduceIte, Int.toNat_natCast, Option.bind_some, J_le_t, J_le_f, J_lt_t, J_lt_f, J_eq_t, J_eq_f, L_lit, L_add, L_sub, L_mul, L_div, JL, LJ, Int.reduceToNat, Int.toNat_zero, Int.toNat_one, xb, xm, within_t, within_f, nb_t, nb_f, ni_t, ni_f, in_t, in_f, less_, bad_0, bad_1, not_true_eq_false, not_false_eq_true, L_lt_t, L_lt_f, L_eq_t, L_eq_f, lg_gt, lg_eq, lg_lt]
    | some (xa, xb', xh), hx =>
      obtain ⟨rfl, rfl, rfl, x4, x5, x6, x7⟩ := hx
      by_cases hc : xh = i
      · obtain ⟨ly2, f1, f2⟩ := p_M_touches K (by omega) hl hA h6 hok b3 x4 x5 x6
        refine ⟨m', q, ly2, wo', by omega, ?_, ?_, b4, fun a ha => by have := b5 a ha; omega, fun a ha h4 => by have := b6 a ha h4; omega⟩
        · rw [b2]
          simp (disch := omega) only [f_M_runs, f1, cast1, J_lit, J_add, J_sub, J_mul, J_neg, J_nat, J_inb, J_div, ↓reduceIte, Int.toNat_natCast, Option.bind_some, J_le_t, J_le_f, J_lt_t, J_lt_f, J_eq_t, J_eq_f, L_lit, L_add, L_sub, L_mul, L_div, JL, LJ, Int.reduceToNat, Int.toNat_zero, Int.toNat_one, xb, xm, within_t, within_f, nb_t, nb_f, ni_t, ni_f, in_t, in_f, less_, bad_0, bad_1, not_true_eq_false, not_false_eq_true, L_lt_t, L_lt_f, L_eq_t, L_eq_f, lg_gt, lg_eq, lg_lt]
        · show RM (if xh = i then _ else _) _ _
          rw [if_pos hc]; exact f2
      · refine ⟨m', q, ly', wo', by omega, ?_, ?_, b4, fun a ha => by have := b5 a ha; omega, fun a ha h4 => by have := b6 a ha h4; omega⟩
        · rw [b2]
          simp (disch := omega) only [f_M_runs, cast1, J_lit, J_add, J_sub, J_mul, J_neg, J_nat, J_inb, J_div, ↓reduceIte, Int.toNat_natCast, Option.bind_some, J_le_t, J_le_f, J_lt_t, J_lt_f, J_eq_t, J_eq_f, L_lit, L_add, L_sub, L_mul, L_div, JL, LJ, Int.reduceToNat, Int.toNat_zero, Int.toNat_one, xb, xm, within_t, within_f, nb_t, nb_f, ni_t, ni_f, in_t, in_f, less_, bad_0, bad_1, not_true_eq_false, not_false_eq_true, L_lt_t, L_lt_f, L_eq_t, L_eq_f, lg_gt, lg_eq, lg_lt]
        · show RM (if xh = i then _ else _) _ _
          rw [if_neg hc]; exact b3
  have key : ∀ i, i ≤ h → ∃ (m q : Nat) (ly' : Nat → Nat → Int32) (wo' : Nat → Int32), K ≤ m + 300 * (i + 2) ∧ sp_M_runs K (J j) (J h) m5 m6 m1 m2 many ev ly wo lo ef et eh fi se th = f_M_runs K m5 m6 m1 m2 many ev lo ef et eh fi se th m 2 (J j, J h, J q, J (i + 1 : Nat), J 0, J 0, ly', wo') ∧ RM (runT l (TM l n E cm x) i) ly' wo' ∧ q ≤ n ∧ (∀ a, a < q → E a 3 < i + 1) ∧ ∀ a, q ≤ a → a < n → i + 1 ≤ E a 3 := by
    intro i
    induction i with
    | zero =>
      intro _
      obtain ⟨m, ly1, wo1, a1, a2, a3⟩ := Mr_init K m5 m6 m1 m2 many ev lo ef et eh fi se th (J j) (J h) ly wo K (by omega)
      obtain ⟨m, rfl⟩ : ∃ k, m = k + 2 := ⟨m - 2, by omega⟩
      obtain ⟨m', q, ly', wo', b1, b2, b3, b4, b5, b6⟩ := hour 0 (by omega) init 0 ly1 wo1 init_ok a3 (by omega) (fun a ha => by omega) (fun a _ _ => Nat.zero_le _) m (by omega)
      refine ⟨m', q, ly', wo', by omega, ?_, b3, b4, b5, b6⟩
      have e0 : sp_M_runs K (J j) (J h) m5 m6 m1 m2 many ev ly wo lo ef et eh fi se th = f_M_runs K m5 m6 m1 m2 many ev lo ef et eh fi se th K 0 (J j, J h, J 0, J 0, J 0, J 0, ly, wo) := by
        simp (disch := omega) only [sp_M_runs, J_lit, J_add, J_sub, J_mul, J_neg, J_nat, J_inb, J_div, ↓reduceIte, Int.toNat_natCast, Option.bind_some, J_le_t, J_le_f, J_lt_t, J_lt_f, J_eq_t, J_eq_f, L_lit, L_add, L_sub, L_mul, L_div, JL, LJ, Int.reduceToNat, Int.toNat_zero, Int.toNat_one, xb, xm, within_t, within_f, nb_t, nb_f, ni_t, ni_f, in_t, in_f, less_, bad_0, bad_1, not_true_eq_false, not_false_eq_true, L_lt_t, L_lt_f, L_eq_t, L_eq_f, lg_gt, lg_eq, lg_lt]
      have e1 : ∀ k, f_M_runs K m5 m6 m1 m2 many ev lo ef et eh fi se th (k + 2) 2 (J j, J h, J 0, J 0, J 0, J 0, ly1, wo1) = f_M_runs K m5 m6 m1 m2 many ev lo ef et eh fi se th k 5 (J j, J h, J 0, J 0, J 0, J 0, ly1, wo1) := fun k => by
        simp (disch := omega) only [f_M_runs, J_lit, J_add, J_sub, J_mul, J_neg, J_nat, J_inb, J_div, ↓reduceIte, Int.toNat_natCast, Option.bind_some, J_le_t, J_le_f, J_lt_t, J_lt_f, J_eq_t, J_eq_f, L_lit, L_add, L_sub, L_mul, L_div, JL, LJ, Int.reduceToNat, Int.toNat_zero, Int.toNat_one, xb, xm, within_t, within_f, nb_t, nb_f, ni_t, ni_f, in_t, in_f, less_, bad_0, bad_1, not_true_eq_false, not_false_eq_true, L_lt_t, L_lt_f, L_eq_t, L_eq_f, lg_gt, lg_eq, lg_lt]
      rw [e0, a2, e1]; exact b2
    | succ i ih =>
      intro hi
      obtain ⟨m, q1, ly1, wo1, a1, a2, a3, a4, a5, a6⟩ := ih (by omega)
      obtain ⟨m, rfl⟩ : ∃ k, m = k + 1 := ⟨m - 1, by omega⟩
      have hok := runM_ok hl hE.2.1 cm x i
      obtain ⟨m2', ly2, c1, c2, c3⟩ := Mr_lose K m5 m6 m1 m2 many ev lo ef et eh fi se th hl h2 hok (J j) (J h) (J q1) (i + 1) (by omega) a3 m (by omega)
      obtain ⟨m', q, ly', wo', b1, b2, b3, b4, b5, b6⟩ := hour (i + 1) hi (loseA l (runT l (TM l n E cm x) i)) q1 ly2 wo1 (lose_ok hl hok) c3 a4 a5 a6 m2' (by omega)
      have hfu : K ≤ m' + 300 * (i + 1 + 2) := by
        have e : 300 * (i + 1 + 2) = 300 * (i + 2) + 300 := by omega
        rw [e]
        generalize 300 * (i + 2) = z at *
        clear a2 a3 a5 a6 c2 c3 b2 b3 b5 b6 ih hour hcm hx hA h2
        omega
      refine ⟨m', q, ly', wo', hfu, ?_, b3, b4, b5, b6⟩
      have e1 : f_M_runs K m5 m6 m1 m2 many ev lo ef et eh fi se th (m + 1) 2 (J j, J h, J q1, J (i + 1 : Nat), J 0, J 0, ly1, wo1) = f_M_runs K m5 m6 m1 m2 many ev lo ef et eh fi se th m 3 (J j, J h, J q1, J (i + 1 : Nat), J 0, J 0, ly1, wo1) := by
        simp (disch := omega) only [f_M_runs, J_lit, J_add, J_sub, J_mul, J_neg, J_nat, J_inb, J_div, ↓reduceIte, Int.toNat_natCast, Option.bind_some, J_le_t, J_le_f, J_lt_t, J_lt_f, J_eq_t, J_eq_f, L_lit, L_add, L_sub, L_mul, L_div, JL, LJ, Int.reduceToNat, Int.toNat_zero, Int.toNat_one, xb, xm, within_t, within_f, nb_t, nb_f, ni_t, ni_f, in_t, in_f, less_, bad_0, bad_1, not_true_eq_false, not_false_eq_true, L_lt_t, L_lt_f, L_eq_t, L_eq_f, lg_gt, lg_eq, lg_lt]
      rw [a2, e1, c2, b2]
  obtain ⟨m, q, ly', wo', a1, a2, a3, a4, a5, a6⟩ := key h (Nat.le_refl _)
  obtain ⟨m, rfl⟩ : ∃ k, m = k + 1 := ⟨m - 1, by omega⟩
  refine ⟨ly', wo', ?_, a3⟩
  rw [a2]
  simp (disch := omega) only [f_M_runs, J_lit, J_add, J_sub, J_mul, J_neg, J_nat, J_inb, J_div, ↓reduceIte, Int.toNat_natCast, Option.bind_some, J_le_t, J_le_f, J_lt_t, J_lt_f, J_eq_t, J_eq_f, L_lit, L_add, L_sub, L_mul, L_div, JL, LJ, Int.reduceToNat, Int.toNat_zero, Int.toNat_one, xb, xm, within_t, within_f, nb_t, nb_f, ni_t, ni_f, in_t, in_f, less_, bad_0, bad_1, not_true_eq_false, not_false_eq_true, L_lt_t, L_lt_f, L_eq_t, L_eq_f, lg_gt, lg_eq, lg_lt]
