def TX (cb mb : Nat → Int32) (N : Nat) (B : Nat → Nat) : Prop := N ≤ 400 ∧ (∀ i, i < N → B i < 256) ∧ (∀ i, i < N → cb i = J (BT (B i))) ∧ ∀ i, i < N → mb i = J (B i)
def bt (B : Nat → Nat) (N i : Nat) : Int := if i < N then (B i : Int) else -1
set_option maxHeartbeats 2000000 in
theorem BT_and {b : Nat} (hb : b < 256) : J (BT b) &&& J 255 = J b := by
  have h := (byte_ (J (BT b))).1
  have hr : -128 ≤ BT b ∧ BT b < 128 := by unfold BT; split <;> omega
  rw [h, J_toInt (by omega) (by omega)]
  congr 1
  unfold BT
  split <;> omega
set_option maxHeartbeats 2000000 in
theorem bt_rng {cb mb : Nat → Int32} {N : Nat} {B : Nat → Nat} (h : TX cb mb N B) (i : Nat) : -1 ≤ bt B N i ∧ bt B N i < 256 := by
  unfold bt; split
  · have := h.2.1 i (by assumption); omega
  · omega
set_option maxHeartbeats 2000000 in
theorem bt_c (K : Nat) {cb mb : Nat → Int32} {N : Nat} {B : Nat → Nat} (h : TX cb mb N B) {i : Nat} (hi : i ≤ 1000) : sp_Tape_byteAt K (J i) cb (J N) = some (J (bt B N i)) := by
  obtain ⟨h1, h2, h3, h4⟩ := h
  unfold bt
  by_cases hc : i < N
  · rw [if_pos hc]
    have e1 := h3 i hc
    have e2 := BT_and (h2 i hc)
    clear h2 h3 h4
    simp (disch := omega) only [sp_Tape_byteAt, e1, e2, J_lit, J_add, J_sub, J_mul, J_neg, J_nat, J_inb, J_div, ↓reduceIte, Int.toNat_natCast, Option.bind_some, J_le_t, J_le_f, J_lt_t, J_lt_f, J_eq_t, J_eq_f, L_lit, L_add, L_sub, L_mul, L_div, JL, LJ, Int.reduceToNat, Int.toNat_zero, Int.toNat_one, xb, xm, within_t, within_f, nb_t, nb_f, ni_t, ni_f, in_t, in_f, less_, bad_0, bad_1, not_true_eq_false, not_false_eq_true, L_lt_t, L_lt_f, L_eq_t, L_eq_f, lg_gt, lg_eq, lg_lt]
  · rw [if_neg hc]
    clear h2 h3 h4
    simp (disch := omega) only [sp_Tape_byteAt, J_lit, J_add, J_sub, J_mul, J_neg, J_nat, J_inb, J_div, ↓reduceIte, Int.toNat_natCast, Option.bind_some, J_le_t, J_le_f, J_lt_t, J_lt_f, J_eq_t, J_eq_f, L_lit, L_add, L_sub, L_mul, L_div, JL, LJ, Int.reduceToNat, Int.toNat_zero, Int.toNat_one, xb, xm, within_t, within_f, nb_t, nb_f, ni_t, ni_f, in_t, in_f, less_, bad_0, bad_1, not_true_eq_false, not_false_eq_true, L_lt_t, L_lt_f, L_eq_t, L_eq_f, lg_gt, lg_eq, lg_lt]
set_option maxHeartbeats 2000000 in
theorem bt_m (K : Nat) {cb mb : Nat → Int32} {N : Nat} {B : Nat → Nat} (h : TX cb mb N B) {i : Nat} (hi : i ≤ 1000) : sp_M_byteAt K (J i) (J N) mb = some (J (bt B N i)) := by
  obtain ⟨h1, h2, h3, h4⟩ := h
  unfold bt
  by_cases hc : i < N
  · rw [if_pos hc]
    have e1 := h4 i hc
    clear h2 h3 h4
    simp (disch := omega) only [sp_M_byteAt, e1, J_lit, J_add, J_sub, J_mul, J_neg, J_nat, J_inb, J_div, ↓reduceIte, Int.toNat_natCast, Option.bind_some, J_le_t, J_le_f, J_lt_t, J_lt_f, J_eq_t, J_eq_f, L_lit, L_add, L_sub, L_mul, L_div, JL, LJ, Int.reduceToNat, Int.toNat_zero, Int.toNat_one, xb, xm, within_t, within_f, nb_t, nb_f, ni_t, ni_f, in_t, in_f, less_, bad_0, bad_1, not_true_eq_false, not_false_eq_true, L_lt_t, L_lt_f, L_eq_t, L_eq_f, lg_gt, lg_eq, lg_lt]
  · rw [if_neg hc]
    clear h2 h3 h4
    simp (disch := omega) only [sp_M_byteAt, J_lit, J_add, J_sub, J_mul, J_neg, J_nat, J_inb, J_div, ↓reduceIte, Int.toNat_natCast, Option.bind_some, J_le_t, J_le_f, J_lt_t, J_lt_f, J_eq_t, J_eq_f, L_lit, L_add, L_sub, L_mul, L_div, JL, LJ, Int.reduceToNat, Int.toNat_zero, Int.toNat_one, xb, xm, within_t, within_f, nb_t, nb_f, ni_t, ni_f, in_t, in_f, less_, bad_0, bad_1, not_true_eq_false, not_false_eq_true, L_lt_t, L_lt_f, L_eq_t, L_eq_f, lg_gt, lg_eq, lg_lt]
def skw (f : Nat → Bool) : Nat → Nat → Nat
  | 0, a => a
  | r + 1, a => if f a = true then skw f r (a + 1) else a
set_option maxHeartbeats 2000000 in
theorem skw_rng (f : Nat → Bool) : ∀ r a, a ≤ skw f r a ∧ skw f r a ≤ a + r
  | 0, a => ⟨Nat.le_refl _, Nat.le_refl _⟩
  | r + 1, a => by
    rw [skw]
    have := skw_rng f r (a + 1)
    split <;> omega
set_option maxHeartbeats 2000000 in
theorem skw_in (f : Nat → Bool) : ∀ r a i, a ≤ i → i < skw f r a → f i = true
  | 0, a, i, h1, h2 => by rw [skw] at h2; omega
  | r + 1, a, i, h1, h2 => by
    rw [skw] at h2
    split at h2
    · by_cases hia : i = a
      · subst hia; assumption
      · exact skw_in f r (a + 1) i (by omega) h2
    · omega
set_option maxHeartbeats 2000000 in
theorem skw_end (f : Nat → Bool) {N : Nat} (hf : ∀ i, N ≤ i → f i = false) : ∀ r a, N ≤ a + r → f (skw f r a) = false
  | 0, a, h => hf a (by omega)
  | r + 1, a, h => by
    rw [skw]; split
    · exact skw_end f hf r (a + 1) (by omega)
    · next hc => simpa using hc
set_option maxHeartbeats 2000000 in
theorem skw_fix (f : Nat → Bool) (r : Nat) {a : Nat} (h : f a = false) : skw f r a = a := by
  cases r with
  | zero => rfl
  | succ r => rw [skw, if_neg (by simp [h])]
def fB (B : Nat → Nat) (N : Nat) : Nat → Bool := fun i => decide (bt B N i = 32)
def fR (lo hi : Int) (B : Nat → Nat) (N : Nat) : Nat → Bool := fun i => decide (lo ≤ bt B N i ∧ bt B N i ≤ hi)
set_option maxHeartbeats 2000000 in
theorem fB_out (B : Nat → Nat) (N : Nat) : ∀ i, N ≤ i → fB B N i = false := fun i hi => by
  unfold fB bt; rw [if_neg (by omega)]; rfl
set_option maxHeartbeats 2000000 in
theorem fR_out {lo : Int} (hlo : 0 ≤ lo) (hi : Int) (B : Nat → Nat) (N : Nat) : ∀ i, N ≤ i → fR lo hi B N i = false := fun i h => by
  unfold fR bt; rw [if_neg (by omega)]; exact decide_eq_false (by omega)
def bl (B : Nat → Nat) (N a : Nat) : Nat := skw (fB B N) (N - a) a
def en (lo hi : Int) (B : Nat → Nat) (N a : Nat) : Nat := skw (fR lo hi B N) (N - a) a
set_option maxHeartbeats 2000000 in
theorem bl_rng (B : Nat → Nat) (N a : Nat) : a ≤ bl B N a ∧ bl B N a ≤ a + (N - a) := skw_rng _ _ _
set_option maxHeartbeats 2000000 in
theorem en_rng (lo hi : Int) (B : Nat → Nat) (N a : Nat) : a ≤ en lo hi B N a ∧ en lo hi B N a ≤ a + (N - a) := skw_rng _ _ _
set_option maxHeartbeats 2000000 in
theorem bl_bl (B : Nat → Nat) (N a : Nat) : bl B N (bl B N a) = bl B N a := skw_fix _ _ (skw_end _ (fB_out B N) _ _ (by omega))
set_option maxHeartbeats 2000000 in
theorem en_end {lo : Int} (hlo : 0 ≤ lo) (hi : Int) (B : Nat → Nat) (N a : Nat) : ¬ (lo ≤ bt B N (en lo hi B N a) ∧ bt B N (en lo hi B N a) ≤ hi) := of_decide_eq_false (skw_end (fR lo hi B N) (fR_out hlo hi B N) (N - a) a (by omega))
set_option maxHeartbeats 2000000 in
theorem en_in {lo hi : Int} {B : Nat → Nat} {N a i : Nat} (h1 : a ≤ i) (h2 : i < en lo hi B N a) : lo ≤ bt B N i ∧ bt B N i ≤ hi := of_decide_eq_true (skw_in (fR lo hi B N) _ _ i h1 h2)
set_option maxHeartbeats 2000000 in
theorem p_skipBlanks (K : Nat) (hK : 2000 ≤ K) {cb mb : Nat → Int32} {N : Nat} {B : Nat → Nat} (h : TX cb mb N B) {a : Nat} (ha : a ≤ 500) : sp_Tape_skipBlanks K cb (J N) (J a) = some (J (bl B N a : Nat)) := by
  have key : ∀ (r a : Nat), N - a = r → a ≤ 500 → ∀ m, r + 1 ≤ m → f_Tape_skipBlanks K cb (J N) m 0 (J a, J a) = some (J (skw (fB B N) r a : Nat)) := by
    intro r
    induction r with
    | zero =>
      intro a hr ha m hm
      obtain ⟨m, rfl⟩ : ∃ k, m = k + 1 := ⟨m - 1, by omega⟩
      have := h.1
      rw [skw]
      simp (disch := omega) only [f_Tape_skipBlanks, J_lit, J_add, J_sub, J_mul, J_neg, J_nat, J_inb, J_div, ↓reduceIte, Int.toNat_natCast, Option.bind_some, J_le_t, J_le_f, J_lt_t, J_lt_f, J_eq_t, J_eq_f, L_lit, L_add, L_sub, L_mul, L_div, JL, LJ, Int.reduceToNat, Int.toNat_zero, Int.toNat_one, xb, xm, within_t, within_f, nb_t, nb_f, ni_t, ni_f, in_t, in_f, less_, bad_0, bad_1, not_true_eq_false, not_false_eq_true, L_lt_t, L_lt_f, L_eq_t, L_eq_f, lg_gt, lg_eq, lg_lt]
    | succ r ih =>
      intro a hr ha m hm
      obtain ⟨m, rfl⟩ : ∃ k, m = k + 1 := ⟨m - 1, by omega⟩
      have hN := h.1
      have e1 := bt_c K h (i := a) (by omega)
      have e2 := bt_rng h a
      rw [skw]
      by_cases hc : bt B N a = 32
      · rw [if_pos (show fB B N a = true from decide_eq_true hc), ← ih (a + 1) (by omega) (by omega) m (by omega)]
        clear ih
        simp (disch := omega) only [f_Tape_skipBlanks, e1, cast1, J_lit, J_add, J_sub, J_mul, J_neg, J_nat, J_inb, J_div, ↓reduceIte, Int.toNat_natCast, Option.bind_some, J_le_t, J_le_f, J_lt_t, J_lt_f, J_eq_t, J_eq_f, L_lit, L_add, L_sub, L_mul, L_div, JL, LJ, Int.reduceToNat, Int.toNat_zero, Int.toNat_one, xb, xm, within_t, within_f, nb_t, nb_f, ni_t, ni_f, in_t, in_f, less_, bad_0, bad_1, not_true_eq_false, not_false_eq_true, L_lt_t, L_lt_f, L_eq_t, L_eq_f, lg_gt, lg_eq, lg_lt]
      · rw [if_neg (show ¬ fB B N a = true from fun e => hc (of_decide_eq_true e))]
        clear ih
        simp (disch := omega) only [f_Tape_skipBlanks, e1, cast1, J_lit, J_add, J_sub, J_mul, J_neg, J_nat, J_inb, J_div, ↓reduceIte, Int.toNat_natCast, Option.bind_some, J_le_t, J_le_f, J_lt_t, J_lt_f, J_eq_t, J_eq_f, L_lit, L_add, L_sub, L_mul, L_div, JL, LJ, Int.reduceToNat, Int.toNat_zero, Int.toNat_one, xb, xm, within_t, within_f, nb_t, nb_f, ni_t, ni_f, in_t, in_f, less_, bad_0, bad_1, not_true_eq_false, not_false_eq_true, L_lt_t, L_lt_f, L_eq_t, L_eq_f, lg_gt, lg_eq, lg_lt]
  unfold sp_Tape_skipBlanks bl
  have := h.1
  exact key (N - a) a rfl ha K (by omega)
set_option maxHeartbeats 2000000 in
theorem p_M_blanks (K : Nat) (hK : 2000 ≤ K) {cb mb : Nat → Int32} {N : Nat} {B : Nat → Nat} (h : TX cb mb N B) {a : Nat} (ha : a ≤ 500) : sp_M_blanks K (J N) (J a) mb = some (J (bl B N a : Nat)) := by
  have key : ∀ (r a : Nat), N - a = r → a ≤ 500 → ∀ m, r + 1 ≤ m → f_M_blanks K (J N) mb m 0 (J a) = some (J (skw (fB B N) r a : Nat)) := by
    intro r
    induction r with
    | zero =>
      intro a hr ha m hm
      obtain ⟨m, rfl⟩ : ∃ k, m = k + 1 := ⟨m - 1, by omega⟩
      have := h.1
      have e1 := bt_m K h (i := a) (by omega)
      have e2 : bt B N a = -1 := by unfold bt; rw [if_neg (by omega)]
      rw [skw]
      simp (disch := omega) only [f_M_blanks, e1, e2, J_lit, J_add, J_sub, J_mul, J_neg, J_nat, J_inb, J_div, ↓reduceIte, Int.toNat_natCast, Option.bind_some, J_le_t, J_le_f, J_lt_t, J_lt_f, J_eq_t, J_eq_f, L_lit, L_add, L_sub, L_mul, L_div, JL, LJ, Int.reduceToNat, Int.toNat_zero, Int.toNat_one, xb, xm, within_t, within_f, nb_t, nb_f, ni_t, ni_f, in_t, in_f, less_, bad_0, bad_1, not_true_eq_false, not_false_eq_true, L_lt_t, L_lt_f, L_eq_t, L_eq_f, lg_gt, lg_eq, lg_lt]
    | succ r ih =>
      intro a hr ha m hm
      obtain ⟨m, rfl⟩ : ∃ k, m = k + 1 := ⟨m - 1, by omega⟩
      have hN := h.1
      have e1 := bt_m K h (i := a) (by omega)
      have e2 := bt_rng h a
      rw [skw]
      by_cases hc : bt B N a = 32
      · rw [if_pos (show fB B N a = true from decide_eq_true hc), ← ih (a + 1) (by omega) (by omega) m (by omega)]
        clear ih
        simp (disch := omega) only [f_M_blanks, e1, cast1, J_lit, J_add, J_sub, J_mul, J_neg, J_nat, J_inb, J_div, ↓reduceIte, Int.toNat_natCast, Option.bind_some, J_le_t, J_le_f, J_lt_t, J_lt_f, J_eq_t, J_eq_f, L_lit, L_add, L_sub, L_mul, L_div, JL, LJ, Int.reduceToNat, Int.toNat_zero, Int.toNat_one, xb, xm, within_t, within_f, nb_t, nb_f, ni_t, ni_f, in_t, in_f, less_, bad_0, bad_1, not_true_eq_false, not_false_eq_true, L_lt_t, L_lt_f, L_eq_t, L_eq_f, lg_gt, lg_eq, lg_lt]
      · rw [if_neg (show ¬ fB B N a = true from fun e => hc (of_decide_eq_true e))]
        clear ih
        simp (disch := omega) only [f_M_blanks, e1, cast1, J_lit, J_add, J_sub, J_mul, J_neg, J_nat, J_inb, J_div, ↓reduceIte, Int.toNat_natCast, Option.bind_some, J_le_t, J_le_f, J_lt_t, J_lt_f, J_eq_t, J_eq_f, L_lit, L_add, L_sub, L_mul, L_div, JL, LJ, Int.reduceToNat, Int.toNat_zero, Int.toNat_one, xb, xm, within_t, within_f, nb_t, nb_f, ni_t, ni_f, in_t, in_f, less_, bad_0, bad_1, not_true_eq_false, not_false_eq_true, L_lt_t, L_lt_f, L_eq_t, L_eq_f, lg_gt, lg_eq, lg_lt]
  unfold sp_M_blanks bl
  have := h.1
  exact key (N - a) a rfl ha K (by omega)
set_option maxHeartbeats 2000000 in
theorem p_readAll (K : Nat) (hK : 2000 ≤ K) {cb mb : Nat → Int32} {N : Nat} {B : Nat → Nat} (h : TX cb mb N B) {lo hi : Int} (hlo : 0 ≤ lo ∧ lo < 256) (hhi : 0 ≤ hi ∧ hi < 256) {a : Nat} (ha : a ≤ 500) (st : Int32) : sp_Tape_readAll K (J lo) (J hi) cb (J N) (J a) st = some (J (en lo hi B N (bl B N a) : Nat), J (bl B N a : Nat)) := by
  have key : ∀ (r a : Nat), N - a = r → a ≤ 900 → ∀ m, r + 1 ≤ m → ∀ st, f_Tape_readAll K cb (J N) m 0 (J lo, J hi, J a, J a, st) = some (J (skw (fR lo hi B N) r a : Nat), st) := by
    intro r
    induction r with
    | zero =>
      intro a hr ha m hm st
      obtain ⟨m, rfl⟩ : ∃ k, m = k + 1 := ⟨m - 1, by omega⟩
      have := h.1
      rw [skw]
      simp (disch := omega) only [f_Tape_readAll, J_lit, J_add, J_sub, J_mul, J_neg, J_nat, J_inb, J_div, ↓reduceIte, Int.toNat_natCast, Option.bind_some, J_le_t, J_le_f, J_lt_t, J_lt_f, J_eq_t, J_eq_f, L_lit, L_add, L_sub, L_mul, L_div, JL, LJ, Int.reduceToNat, Int.toNat_zero, Int.toNat_one, xb, xm, within_t, within_f, nb_t, nb_f, ni_t, ni_f, in_t, in_f, less_, bad_0, bad_1, not_true_eq_false, not_false_eq_true, L_lt_t, L_lt_f, L_eq_t, L_eq_f, lg_gt, lg_eq, lg_lt]
    | succ r ih =>
      intro a hr ha m hm st
      obtain ⟨m, rfl⟩ : ∃ k, m = k + 1 := ⟨m - 1, by omega⟩
      have hN := h.1
      have e1 := bt_c K h (i := a) (by omega)
      have e2 := bt_rng h a
      rw [skw]
      by_cases hc : lo ≤ bt B N a ∧ bt B N a ≤ hi
      · rw [if_pos (show fR lo hi B N a = true from decide_eq_true hc), ← ih (a + 1) (by omega) (by omega) m (by omega) st]
        clear ih
        simp (disch := omega) only [f_Tape_readAll, e1, cast1, J_lit, J_add, J_sub, J_mul, J_neg, J_nat, J_inb, J_div, ↓reduceIte, Int.toNat_natCast, Option.bind_some, J_le_t, J_le_f, J_lt_t, J_lt_f, J_eq_t, J_eq_f, L_lit, L_add, L_sub, L_mul, L_div, JL, LJ, Int.reduceToNat, Int.toNat_zero, Int.toNat_one, xb, xm, within_t, within_f, nb_t, nb_f, ni_t, ni_f, in_t, in_f, less_, bad_0, bad_1, not_true_eq_false, not_false_eq_true, L_lt_t, L_lt_f, L_eq_t, L_eq_f, lg_gt, lg_eq, lg_lt]
      · rw [if_neg (show ¬ fR lo hi B N a = true from fun e => hc (of_decide_eq_true e))]
        clear ih
        by_cases hc1 : bt B N a < lo
        · clear hc
          simp (disch := omega) only [f_Tape_readAll, e1, J_lit, J_add, J_sub, J_mul, J_neg, J_nat, J_inb, J_div, ↓reduceIte, Int.toNat_natCast, Option.bind_some, J_le_t, J_le_f, J_lt_t, J_lt_f, J_eq_t, J_eq_f, L_lit, L_add, L_sub, L_mul, L_div, JL, LJ, Int.reduceToNat, Int.toNat_zero, Int.toNat_one, xb, xm, within_t, within_f, nb_t, nb_f, ni_t, ni_f, in_t, in_f, less_, bad_0, bad_1, not_true_eq_false, not_false_eq_true, L_lt_t, L_lt_f, L_eq_t, L_eq_f, lg_gt, lg_eq, lg_lt]
        · have hc2 : hi < bt B N a := by omega
          clear hc
          simp (disch := omega) only [f_Tape_readAll, e1, J_lit, J_add, J_sub, J_mul, J_neg, J_nat, J_inb, J_div, ↓reduceIte, Int.toNat_natCast, Option.bind_some, J_le_t, J_le_f, J_lt_t, J_lt_f, J_eq_t, J_eq_f, L_lit, L_add, L_sub, L_mul, L_div, JL, LJ, Int.reduceToNat, Int.toNat_zero, Int.toNat_one, xb, xm, within_t, within_f, nb_t, nb_f, ni_t, ni_f, in_t, in_f, less_, bad_0, bad_1, not_true_eq_false, not_false_eq_true, L_lt_t, L_lt_f, L_eq_t, L_eq_f, lg_gt, lg_eq, lg_lt]
  have eb := p_skipBlanks K hK h ha
  have hb := bl_rng B N a
  have hN := h.1
  unfold sp_Tape_readAll en
  simp (disch := omega) only [eb, J_lit, J_add, J_sub, J_mul, J_neg, J_nat, J_inb, J_div, ↓reduceIte, Int.toNat_natCast, Option.bind_some, J_le_t, J_le_f, J_lt_t, J_lt_f, J_eq_t, J_eq_f, L_lit, L_add, L_sub, L_mul, L_div, JL, LJ, Int.reduceToNat, Int.toNat_zero, Int.toNat_one, xb, xm, within_t, within_f, nb_t, nb_f, ni_t, ni_f, in_t, in_f, less_, bad_0, bad_1, not_true_eq_false, not_false_eq_true, L_lt_t, L_lt_f, L_eq_t, L_eq_f, lg_gt, lg_eq, lg_lt]
  exact key (N - bl B N a) (bl B N a) rfl (by omega) K (by omega) _
set_option maxHeartbeats 2000000 in
theorem p_M_skipWord (K : Nat) (hK : 2000 ≤ K) {cb mb : Nat → Int32} {N : Nat} {B : Nat → Nat} (h : TX cb mb N B) {a : Nat} (ha : a ≤ 500) : sp_M_skipWord K (J N) (J a) mb = some (J (en 97 122 B N a : Nat)) := by
  have key : ∀ (r a : Nat), N - a = r → a ≤ 500 → ∀ m, r + 1 ≤ m → f_M_skipWord K (J N) mb m 0 (J a) = some (J (skw (fR 97 122 B N) r a : Nat)) := by
    intro r
    induction r with
    | zero =>
      intro a hr ha m hm
      obtain ⟨m, rfl⟩ : ∃ k, m = k + 1 := ⟨m - 1, by omega⟩
      have := h.1
      have e1 := bt_m K h (i := a) (by omega)
      have e2 : bt B N a = -1 := by unfold bt; rw [if_neg (by omega)]
      rw [skw]
      simp (disch := omega) only [f_M_skipWord, e1, e2, J_lit, J_add, J_sub, J_mul, J_neg, J_nat, J_inb, J_div, ↓reduceIte, Int.toNat_natCast, Option.bind_some, J_le_t, J_le_f, J_lt_t, J_lt_f, J_eq_t, J_eq_f, L_lit, L_add, L_sub, L_mul, L_div, JL, LJ, Int.reduceToNat, Int.toNat_zero, Int.toNat_one, xb, xm, within_t, within_f, nb_t, nb_f, ni_t, ni_f, in_t, in_f, less_, bad_0, bad_1, not_true_eq_false, not_false_eq_true, L_lt_t, L_lt_f, L_eq_t, L_eq_f, lg_gt, lg_eq, lg_lt]
    | succ r ih =>
      intro a hr ha m hm
      obtain ⟨m, rfl⟩ : ∃ k, m = k + 1 := ⟨m - 1, by omega⟩
      have hN := h.1
      have e1 := bt_m K h (i := a) (by omega)
      have e2 := bt_rng h a
      rw [skw]
      by_cases hc : 97 ≤ bt B N a ∧ bt B N a ≤ 122
      · rw [if_pos (show fR 97 122 B N a = true from decide_eq_true hc), ← ih (a + 1) (by omega) (by omega) m (by omega)]
        clear ih
        simp (disch := omega) only [f_M_skipWord, e1, cast1, J_lit, J_add, J_sub, J_mul, J_neg, J_nat, J_inb, J_div, ↓reduceIte, Int.toNat_natCast, Option.bind_some, J_le_t, J_le_f, J_lt_t, J_lt_f, J_eq_t, J_eq_f, L_lit, L_add, L_sub, L_mul, L_div, JL, LJ, Int.reduceToNat, Int.toNat_zero, Int.toNat_one, xb, xm, within_t, within_f, nb_t, nb_f, ni_t, ni_f, in_t, in_f, less_, bad_0, bad_1, not_true_eq_false, not_false_eq_true, L_lt_t, L_lt_f, L_eq_t, L_eq_f, lg_gt, lg_eq, lg_lt]
      · rw [if_neg (show ¬ fR 97 122 B N a = true from fun e => hc (of_decide_eq_true e))]
        clear ih
        by_cases hc1 : bt B N a < 97
        · clear hc
          simp (disch := omega) only [f_M_skipWord, e1, J_lit, J_add, J_sub, J_mul, J_neg, J_nat, J_inb, J_div, ↓reduceIte, Int.toNat_natCast, Option.bind_some, J_le_t, J_le_f, J_lt_t, J_lt_f, J_eq_t, J_eq_f, L_lit, L_add, L_sub, L_mul, L_div, JL, LJ, Int.reduceToNat, Int.toNat_zero, Int.toNat_one, xb, xm, within_t, within_f, nb_t, nb_f, ni_t, ni_f, in_t, in_f, less_, bad_0, bad_1, not_true_eq_false, not_false_eq_true, L_lt_t, L_lt_f, L_eq_t, L_eq_f, lg_gt, lg_eq, lg_lt]
        · have hc2 : 122 < bt B N a := by omega
          clear hc
          simp (disch := omega) only [f_M_skipWord, e1, J_lit, J_add, J_sub, J_mul, J_neg, J_nat, J_inb, J_div, ↓reduceIte, Int.toNat_natCast, Option.bind_some, J_le_t, J_le_f, J_lt_t, J_lt_f, J_eq_t, J_eq_f, L_lit, L_add, L_sub, L_mul, L_div, JL, LJ, Int.reduceToNat, Int.toNat_zero, Int.toNat_one, xb, xm, within_t, within_f, nb_t, nb_f, ni_t, ni_f, in_t, in_f, less_, bad_0, bad_1, not_true_eq_false, not_false_eq_true, L_lt_t, L_lt_f, L_eq_t, L_eq_f, lg_gt, lg_eq, lg_lt]
  unfold sp_M_skipWord en
  have := h.1
  exact key (N - a) a rfl ha K (by omega)
def cv (c : Nat) (B : Nat → Nat) (s : Nat) : Nat → Nat
  | 0 => 0
  | i + 1 => min c (10 * cv c B s i + (B (s + i) - 48))
set_option maxHeartbeats 2000000 in
theorem cv_le (c : Nat) (B : Nat → Nat) (s : Nat) : ∀ i, cv c B s i ≤ c
  | 0 => Nat.zero_le _
  | i + 1 => Nat.min_le_left _ _
set_option maxHeartbeats 2000000 in
theorem cv_cap (B : Nat → Nat) (s : Nat) : ∀ i, min 1000 (cv 100000 B s i) = cv 1000 B s i
  | 0 => rfl
  | i + 1 => by
    have h := cv_cap B s i
    rw [cv, cv, ← h]
    generalize cv 100000 B s i = V
    generalize B (s + i) - 48 = d
    omega
abbrev de (B : Nat → Nat) (N a : Nat) : Nat := en 48 57 B N (bl B N a)
def nV (B : Nat → Nat) (N a : Nat) : Nat := cv 1000 B (bl B N a) (de B N a - bl B N a)
def nK (B : Nat → Nat) (N : Nat) (lo hi : Nat) (ne : Int) (a : Nat) : Nat := if de B N a = bl B N a then 1 else if lo ≤ nV B N a ∧ nV B N a ≤ hi ∧ (nV B N a : Int) ≠ ne then 0 else 2
set_option maxHeartbeats 2000000 in
theorem dig_B {cb mb : Nat → Int32} {N : Nat} {B : Nat → Nat} (h : TX cb mb N B) {s i : Nat} (h1 : s ≤ i) (h2 : i < en 48 57 B N s) : bt B N i = (B i : Int) ∧ 48 ≤ B i ∧ B i ≤ 57 ∧ i < N := by
  have hd := en_in h1 h2
  unfold bt at hd ⊢
  split at hd
  · next hc => rw [if_pos hc]; omega
  · omega
set_option maxHeartbeats 2000000 in
theorem p_readNumber (K : Nat) (hK : 2000 ≤ K) {cb mb : Nat → Int32} {N : Nat} {B : Nat → Nat} (h : TX cb mb N B) {lo hi : Nat} (hlo : lo ≤ 500) (hhi : hi ≤ 500) {a : Nat} (ha : a ≤ 500) (st fp : Int32) : sp_Tape_readNumber K (J lo) (J hi) cb (J N) (J a) st (J 0) fp = some (J (if nK B N lo hi (-1) a = 0 then nV B N a else lo : Nat), J (de B N a : Nat), J (bl B N a : Nat), J (nK B N lo hi (-1) a : Nat), if nK B N lo hi (-1) a = 0 then fp else J (bl B N a : Nat)) := by
  have eR := p_readAll K hK h (lo := 48) (hi := 57) (by omega) (by omega) ha st
  have r1 := bl_rng B N a
  have r2 := en_rng 48 57 B N (bl B N a)
  have hN := h.1
  unfold nK nV
  unfold de at *
  generalize hs : bl B N a = s at *
  by_cases hes : en 48 57 B N s = s
  · rw [if_pos hes]
    rw [hes] at eR ⊢
    clear hes h
    simp (disch := omega) only [sp_Tape_readNumber, sp_Tape_failed, eR, sp_Tape_fail, J_lit, J_add, J_sub, J_mul, J_neg, J_nat, J_inb, J_div, ↓reduceIte, Int.toNat_natCast, Option.bind_some, J_le_t, J_le_f, J_lt_t, J_lt_f, J_eq_t, J_eq_f, L_lit, L_add, L_sub, L_mul, L_div, JL, LJ, Int.reduceToNat, Int.toNat_zero, Int.toNat_one, xb, xm, within_t, within_f, nb_t, nb_f, ni_t, ni_f, in_t, in_f, less_, bad_0, bad_1, not_true_eq_false, not_false_eq_true, L_lt_t, L_lt_f, L_eq_t, L_eq_f, lg_gt, lg_eq, lg_lt]
    rfl
  · rw [if_neg hes]
    generalize he : en 48 57 B N s = e at *
    have key : ∀ (r i : Nat), i + r = e - s → ∀ m, r + 2 ≤ m → f_Tape_readNumber K cb (J N) m 0 (J lo, J hi, J (cv 1000 B s i : Nat), J (s + i : Nat), J e, J s, J 0, fp) = some (J (if lo ≤ cv 1000 B s (e - s) ∧ cv 1000 B s (e - s) ≤ hi then cv 1000 B s (e - s) else lo : Nat), J e, J s, J (if lo ≤ cv 1000 B s (e - s) ∧ cv 1000 B s (e - s) ≤ hi then 0 else 2), if lo ≤ cv 1000 B s (e - s) ∧ cv 1000 B s (e - s) ≤ hi then fp else J s) := by
      intro r
      induction r with
      | zero =>
        intro i hi' m hm
        obtain ⟨m, rfl⟩ : ∃ k, m = k + 2 := ⟨m - 2, by omega⟩
        have hi'' : i = e - s := by omega
        rw [← hi'']
        have hcv := cv_le 1000 B s i
        generalize cv 1000 B s i = V at *
        by_cases hc : lo ≤ V ∧ V ≤ hi
        · rw [if_pos hc, if_pos hc, if_pos hc]
          clear h
          simp (disch := omega) only [f_Tape_readNumber, J_lit, J_add, J_sub, J_mul, J_neg, J_nat, J_inb, J_div, ↓reduceIte, Int.toNat_natCast, Option.bind_some, J_le_t, J_le_f, J_lt_t, J_lt_f, J_eq_t, J_eq_f, L_lit, L_add, L_sub, L_mul, L_div, JL, LJ, Int.reduceToNat, Int.toNat_zero, Int.toNat_one, xb, xm, within_t, within_f, nb_t, nb_f, ni_t, ni_f, in_t, in_f, less_, bad_0, bad_1, not_true_eq_false, not_false_eq_true, L_lt_t, L_lt_f, L_eq_t, L_eq_f, lg_gt, lg_eq, lg_lt]
        · rw [if_neg hc, if_neg hc, if_neg hc]
          clear h
          by_cases hc1 : V < lo
          · clear hc
            simp (disch := omega) only [f_Tape_readNumber, sp_Tape_fail, sp_Tape_failed, J_lit, J_add, J_sub, J_mul, J_neg, J_nat, J_inb, J_div, ↓reduceIte, Int.toNat_natCast, Option.bind_some, J_le_t, J_le_f, J_lt_t, J_lt_f, J_eq_t, J_eq_f, L_lit, L_add, L_sub, L_mul, L_div, JL, LJ, Int.reduceToNat, Int.toNat_zero, Int.toNat_one, xb, xm, within_t, within_f, nb_t, nb_f, ni_t, ni_f, in_t, in_f, less_, bad_0, bad_1, not_true_eq_false, not_false_eq_true, L_lt_t, L_lt_f, L_eq_t, L_eq_f, lg_gt, lg_eq, lg_lt]
          · have hc2 : hi < V := by omega
            clear hc
            simp (disch := omega) only [f_Tape_readNumber, sp_Tape_fail, sp_Tape_failed, J_lit, J_add, J_sub, J_mul, J_neg, J_nat, J_inb, J_div, ↓reduceIte, Int.toNat_natCast, Option.bind_some, J_le_t, J_le_f, J_lt_t, J_lt_f, J_eq_t, J_eq_f, L_lit, L_add, L_sub, L_mul, L_div, JL, LJ, Int.reduceToNat, Int.toNat_zero, Int.toNat_one, xb, xm, within_t, within_f, nb_t, nb_f, ni_t, ni_f, in_t, in_f, less_, bad_0, bad_1, not_true_eq_false, not_false_eq_true, L_lt_t, L_lt_f, L_eq_t, L_eq_f, lg_gt, lg_eq, lg_lt]
      | succ r ih =>
        intro i hi' m hm
        obtain ⟨m, rfl⟩ : ∃ k, m = k + 1 := ⟨m - 1, by omega⟩
        rw [← ih (i + 1) (by omega) m (by omega)]
        obtain ⟨d1, d2, d3, d4⟩ := dig_B h (s := s) (i := s + i) (by omega) (by omega)
        have e1 := bt_c K h (i := s + i) (by omega)
        rw [d1] at e1
        have hcv := cv_le 1000 B s i
        rw [cv]
        generalize cv 1000 B s i = V at *
        generalize B (s + i) = b at *
        have e2 : ((s + i : Nat) : Int) + 1 = ((s + (i + 1) : Nat) : Int) := by omega
        clear ih h
        by_cases hc : 1000 < 10 * V + (b - 48)
        · rw [Nat.min_eq_left (by omega)]
          simp (disch := omega) only [f_Tape_readNumber, e1, e2, J_lit, J_add, J_sub, J_mul, J_neg, J_nat, J_inb, J_div, ↓reduceIte, Int.toNat_natCast, Option.bind_some, J_le_t, J_le_f, J_lt_t, J_lt_f, J_eq_t, J_eq_f, L_lit, L_add, L_sub, L_mul, L_div, JL, LJ, Int.reduceToNat, Int.toNat_zero, Int.toNat_one, xb, xm, within_t, within_f, nb_t, nb_f, ni_t, ni_f, in_t, in_f, less_, bad_0, bad_1, not_true_eq_false, not_false_eq_true, L_lt_t, L_lt_f, L_eq_t, L_eq_f, lg_gt, lg_eq, lg_lt]
          rfl
        · rw [Nat.min_eq_right (by omega)]
          have e3 : (V : Int) * 10 + (b : Int) - 48 = ((10 * V + (b - 48) : Nat) : Int) := by omega
          simp (disch := omega) only [f_Tape_readNumber, e1, e2, e3, J_lit, J_add, J_sub, J_mul, J_neg, J_nat, J_inb, J_div, ↓reduceIte, Int.toNat_natCast, Option.bind_some, J_le_t, J_le_f, J_lt_t, J_lt_f, J_eq_t, J_eq_f, L_lit, L_add, L_sub, L_mul, L_div, JL, LJ, Int.reduceToNat, Int.toNat_zero, Int.toNat_one, xb, xm, within_t, within_f, nb_t, nb_f, ni_t, ni_f, in_t, in_f, less_, bad_0, bad_1, not_true_eq_false, not_false_eq_true, L_lt_t, L_lt_f, L_eq_t, L_eq_f, lg_gt, lg_eq, lg_lt]
    have hk := key (e - s) 0 (by omega) K (by omega)
    have e0 : sp_Tape_readNumber K (J lo) (J hi) cb (J N) (J a) st (J 0) fp = f_Tape_readNumber K cb (J N) K 0 (J lo, J hi, J (cv 1000 B s 0 : Nat), J (s + 0 : Nat), J e, J s, J 0, fp) := by
      clear key hk h
      simp (disch := omega) only [sp_Tape_readNumber, sp_Tape_failed, eR, cv, Nat.add_zero, J_lit, J_add, J_sub, J_mul, J_neg, J_nat, J_inb, J_div, ↓reduceIte, Int.toNat_natCast, Option.bind_some, J_le_t, J_le_f, J_lt_t, J_lt_f, J_eq_t, J_eq_f, L_lit, L_add, L_sub, L_mul, L_div, JL, LJ, Int.reduceToNat, Int.toNat_zero, Int.toNat_one, xb, xm, within_t, within_f, nb_t, nb_f, ni_t, ni_f, in_t, in_f, less_, bad_0, bad_1, not_true_eq_false, not_false_eq_true, L_lt_t, L_lt_f, L_eq_t, L_eq_f, lg_gt, lg_eq, lg_lt]
      rfl
    rw [e0, hk]
    have hne : ¬ (((cv 1000 B s (e - s) : Nat) : Int) = -1) := by omega
    by_cases hc : lo ≤ cv 1000 B s (e - s) ∧ cv 1000 B s (e - s) ≤ hi
    · have hc' : lo ≤ cv 1000 B s (e - s) ∧ cv 1000 B s (e - s) ≤ hi ∧ ((cv 1000 B s (e - s) : Nat) : Int) ≠ -1 := ⟨hc.1, hc.2, hne⟩
      simp only [if_pos hc, if_pos hc']
      rfl
    · have hc' : ¬ (lo ≤ cv 1000 B s (e - s) ∧ cv 1000 B s (e - s) ≤ hi ∧ ((cv 1000 B s (e - s) : Nat) : Int) ≠ -1) := fun hh => hc ⟨hh.1, hh.2.1⟩
      simp only [if_neg hc, if_neg hc', show ¬ (2 : Nat) = 0 by decide, if_false]
      rfl
set_option maxHeartbeats 2000000 in
theorem p_readNumber_f (K : Nat) (lo hi : Int32) (cb : Nat → Int32) (en at' st : Int32) {k : Nat} (hk : 1 ≤ k ∧ k ≤ 3) (fp : Int32) : sp_Tape_readNumber K lo hi cb en at' st (J k) fp = some (lo, at', st, J k, fp) := by
  simp (disch := omega) only [sp_Tape_readNumber, sp_Tape_failed, J_lit, J_add, J_sub, J_mul, J_neg, J_nat, J_inb, J_div, ↓reduceIte, Int.toNat_natCast, Option.bind_some, J_le_t, J_le_f, J_lt_t, J_lt_f, J_eq_t, J_eq_f, L_lit, L_add, L_sub, L_mul, L_div, JL, LJ, Int.reduceToNat, Int.toNat_zero, Int.toNat_one, xb, xm, within_t, within_f, nb_t, nb_f, ni_t, ni_f, in_t, in_f, less_, bad_0, bad_1, not_true_eq_false, not_false_eq_true, L_lt_t, L_lt_f, L_eq_t, L_eq_f, lg_gt, lg_eq, lg_lt]
set_option maxHeartbeats 2000000 in
theorem p_M_number (K : Nat) (hK : 2000 ≤ K) {cb mb : Nat → Int32} {N : Nat} {B : Nat → Nat} (h : TX cb mb N B) {lo hi : Nat} (hlo : lo ≤ 500) (hhi : hi ≤ 500) {ne : Int} (hne : -1 ≤ ne ∧ ne ≤ 500) {a : Nat} (ha : a ≤ 500) (fp : Int32) : ∃ v, sp_M_number K (J lo) (J hi) (J ne) (J N) (J a) (J 0) fp mb = some (v, J (de B N a : Nat), J (nK B N lo hi ne a : Nat), if nK B N lo hi ne a = 0 then fp else J (bl B N a : Nat)) ∧ (nK B N lo hi ne a = 0 → v = J (nV B N a : Nat)) := by
  have eR := p_M_blanks K hK h ha
  have r1 := bl_rng B N a
  have r2 := en_rng 48 57 B N (bl B N a)
  have hN := h.1
  have eEnd := en_end (lo := 48) (by omega) 57 B N (bl B N a)
  unfold nK nV
  unfold de at *
  generalize hs : bl B N a = s at *
  have e0 := bt_m K h (i := s) (by omega)
  have b0 := bt_rng h s
  by_cases hes : en 48 57 B N s = s
  · rw [if_pos hes]
    rw [hes] at eEnd ⊢
    have hd : sp_M_isDigit K (J (bt B N s)) = some (J 0) := by
      clear h e0
      by_cases hc : bt B N s < 48
      · simp (disch := omega) only [sp_M_isDigit, J_lit, J_add, J_sub, J_mul, J_neg, J_nat, J_inb, J_div, ↓reduceIte, Int.toNat_natCast, Option.bind_some, J_le_t, J_le_f, J_lt_t, J_lt_f, J_eq_t, J_eq_f, L_lit, L_add, L_sub, L_mul, L_div, JL, LJ, Int.reduceToNat, Int.toNat_zero, Int.toNat_one, xb, xm, within_t, within_f, nb_t, nb_f, ni_t, ni_f, in_t, in_f, less_, bad_0, bad_1, not_true_eq_false, not_false_eq_true, L_lt_t, L_lt_f, L_eq_t, L_eq_f, lg_gt, lg_eq, lg_lt]
      · have hc2 : 57 < bt B N s := by omega
        simp (disch := omega) only [sp_M_isDigit, J_lit, J_add, J_sub, J_mul, J_neg, J_nat, J_inb, J_div, ↓reduceIte, Int.toNat_natCast, Option.bind_some, J_le_t, J_le_f, J_lt_t, J_lt_f, J_eq_t, J_eq_f, L_lit, L_add, L_sub, L_mul, L_div, JL, LJ, Int.reduceToNat, Int.toNat_zero, Int.toNat_one, xb, xm, within_t, within_f, nb_t, nb_f, ni_t, ni_f, in_t, in_f, less_, bad_0, bad_1, not_true_eq_false, not_false_eq_true, L_lt_t, L_lt_f, L_eq_t, L_eq_f, lg_gt, lg_eq, lg_lt]
    obtain ⟨k, rfl⟩ : ∃ k, K = k + 2 := ⟨K - 2, by omega⟩
    refine ⟨J 0, ?_, fun e => by omega⟩
    clear h hes eEnd
    by_cases hin : lo ≤ 0 ∧ 0 ≤ hi
    · have i1 := in_t (k + 2) (a := 0) (b := lo) (c := hi) (by omega) (by omega) (by omega) (by omega)
      by_cases hn0 : ne = 0
      · subst hn0
        clear hin
        simp (disch := omega) only [sp_M_number, eR, e0, hd, sp_M_wrong, f_M_number, i1, J_lit, J_add, J_sub, J_mul, J_neg, J_nat, J_inb, J_div, ↓reduceIte, Int.toNat_natCast, Option.bind_some, J_le_t, J_le_f, J_lt_t, J_lt_f, J_eq_t, J_eq_f, L_lit, L_add, L_sub, L_mul, L_div, JL, LJ, Int.reduceToNat, Int.toNat_zero, Int.toNat_one, xb, xm, within_t, within_f, nb_t, nb_f, ni_t, ni_f, in_t, in_f, less_, bad_0, bad_1, not_true_eq_false, not_false_eq_true, L_lt_t, L_lt_f, L_eq_t, L_eq_f, lg_gt, lg_eq, lg_lt]
        rfl
      · clear hin
        simp (disch := omega) only [sp_M_number, eR, e0, hd, sp_M_wrong, f_M_number, i1, J_lit, J_add, J_sub, J_mul, J_neg, J_nat, J_inb, J_div, ↓reduceIte, Int.toNat_natCast, Option.bind_some, J_le_t, J_le_f, J_lt_t, J_lt_f, J_eq_t, J_eq_f, L_lit, L_add, L_sub, L_mul, L_div, JL, LJ, Int.reduceToNat, Int.toNat_zero, Int.toNat_one, xb, xm, within_t, within_f, nb_t, nb_f, ni_t, ni_f, in_t, in_f, less_, bad_0, bad_1, not_true_eq_false, not_false_eq_true, L_lt_t, L_lt_f, L_eq_t, L_eq_f, lg_gt, lg_eq, lg_lt]
        rfl
    · have i1 := in_f (k + 2) (a := 0) (b := lo) (c := hi) (by omega) (by omega) (by omega) (by omega)
      clear hin
      simp (disch := omega) only [sp_M_number, eR, e0, hd, sp_M_wrong, f_M_number, i1, J_lit, J_add, J_sub, J_mul, J_neg, J_nat, J_inb, J_div, ↓reduceIte, Int.toNat_natCast, Option.bind_some, J_le_t, J_le_f, J_lt_t, J_lt_f, J_eq_t, J_eq_f, L_lit, L_add, L_sub, L_mul, L_div, JL, LJ, Int.reduceToNat, Int.toNat_zero, Int.toNat_one, xb, xm, within_t, within_f, nb_t, nb_f, ni_t, ni_f, in_t, in_f, less_, bad_0, bad_1, not_true_eq_false, not_false_eq_true, L_lt_t, L_lt_f, L_eq_t, L_eq_f, lg_gt, lg_eq, lg_lt]
      rfl
  · rw [if_neg hes]
    generalize he : en 48 57 B N s = e at *
    have e9 := bt_m K h (i := e) (by omega)
    have b9 := bt_rng h e
    have hd9 : sp_M_isDigit K (J (bt B N e)) = some (J 0) := by
      clear h e0 e9
      by_cases hc : bt B N e < 48
      · simp (disch := omega) only [sp_M_isDigit, J_lit, J_add, J_sub, J_mul, J_neg, J_nat, J_inb, J_div, ↓reduceIte, Int.toNat_natCast, Option.bind_some, J_le_t, J_le_f, J_lt_t, J_lt_f, J_eq_t, J_eq_f, L_lit, L_add, L_sub, L_mul, L_div, JL, LJ, Int.reduceToNat, Int.toNat_zero, Int.toNat_one, xb, xm, within_t, within_f, nb_t, nb_f, ni_t, ni_f, in_t, in_f, less_, bad_0, bad_1, not_true_eq_false, not_false_eq_true, L_lt_t, L_lt_f, L_eq_t, L_eq_f, lg_gt, lg_eq, lg_lt]
      · have hc2 : 57 < bt B N e := by omega
        simp (disch := omega) only [sp_M_isDigit, J_lit, J_add, J_sub, J_mul, J_neg, J_nat, J_inb, J_div, ↓reduceIte, Int.toNat_natCast, Option.bind_some, J_le_t, J_le_f, J_lt_t, J_lt_f, J_eq_t, J_eq_f, L_lit, L_add, L_sub, L_mul, L_div, JL, LJ, Int.reduceToNat, Int.toNat_zero, Int.toNat_one, xb, xm, within_t, within_f, nb_t, nb_f, ni_t, ni_f, in_t, in_f, less_, bad_0, bad_1, not_true_eq_false, not_false_eq_true, L_lt_t, L_lt_f, L_eq_t, L_eq_f, lg_gt, lg_eq, lg_lt]
    have hcap := cv_cap B s (e - s)
    have key : ∀ (r i : Nat), i + r = e - s → ∀ m, 2 * r + 2 ≤ m → f_M_number K (J N) mb m 0 (J lo, J hi, J ne, J s, J (cv 100000 B s i : Nat), J 0, J (s + i : Nat), J 0, fp) = some (J (cv 100000 B s (e - s) : Nat), J e, J (if lo ≤ cv 1000 B s (e - s) ∧ cv 1000 B s (e - s) ≤ hi ∧ ((cv 1000 B s (e - s) : Nat) : Int) ≠ ne then 0 else 2), if lo ≤ cv 1000 B s (e - s) ∧ cv 1000 B s (e - s) ≤ hi ∧ ((cv 1000 B s (e - s) : Nat) : Int) ≠ ne then fp else J s) := by
      intro r
      induction r with
      | zero =>
        intro i hi' m hm
        obtain ⟨m, rfl⟩ : ∃ k, m = k + 2 := ⟨m - 2, by omega⟩
        have hi'' : i = e - s := by omega
        rw [← hi''] at hcap ⊢
        rw [show s + i = e by omega]
        have hcv := cv_le 100000 B s i
        generalize cv 100000 B s i = V at *
        generalize cv 1000 B s i = W at *
        clear h eEnd
        by_cases hc : lo ≤ W ∧ W ≤ hi ∧ (W : Int) ≠ ne
        · rw [if_pos hc, if_pos hc]
          have i1 := in_t K (a := V) (b := lo) (c := hi) (by omega) (by omega) (by omega) (by omega)
          have hne' : (V : Int) ≠ ne := by omega
          clear hc hcap
          simp (disch := omega) only [f_M_number, e9, hd9, i1, J_lit, J_add, J_sub, J_mul, J_neg, J_nat, J_inb, J_div, ↓reduceIte, Int.toNat_natCast, Option.bind_some, J_le_t, J_le_f, J_lt_t, J_lt_f, J_eq_t, J_eq_f, L_lit, L_add, L_sub, L_mul, L_div, JL, LJ, Int.reduceToNat, Int.toNat_zero, Int.toNat_one, xb, xm, within_t, within_f, nb_t, nb_f, ni_t, ni_f, in_t, in_f, less_, bad_0, bad_1, not_true_eq_false, not_false_eq_true, L_lt_t, L_lt_f, L_eq_t, L_eq_f, lg_gt, lg_eq, lg_lt]
        · rw [if_neg hc, if_neg hc]
          by_cases hc1 : lo ≤ V ∧ V ≤ hi
          · have i1 := in_t K (a := V) (b := lo) (c := hi) (by omega) (by omega) (by omega) (by omega)
            have hne' : (V : Int) = ne := by omega
            subst hne'
            clear hc hcap
            simp (disch := omega) only [f_M_number, e9, hd9, i1, sp_M_wrong, J_lit, J_add, J_sub, J_mul, J_neg, J_nat, J_inb, J_div, ↓reduceIte, Int.toNat_natCast, Option.bind_some, J_le_t, J_le_f, J_lt_t, J_lt_f, J_eq_t, J_eq_f, L_lit, L_add, L_sub, L_mul, L_div, JL, LJ, Int.reduceToNat, Int.toNat_zero, Int.toNat_one, xb, xm, within_t, within_f, nb_t, nb_f, ni_t, ni_f, in_t, in_f, less_, bad_0, bad_1, not_true_eq_false, not_false_eq_true, L_lt_t, L_lt_f, L_eq_t, L_eq_f, lg_gt, lg_eq, lg_lt]
          · have i1 := in_f K (a := V) (b := lo) (c := hi) (by omega) (by omega) (by omega) (by omega)
            clear hc hcap
            simp (disch := omega) only [f_M_number, e9, hd9, i1, sp_M_wrong, J_lit, J_add, J_sub, J_mul, J_neg, J_nat, J_inb, J_div, ↓reduceIte, Int.toNat_natCast, Option.bind_some, J_le_t, J_le_f, J_lt_t, J_lt_f, J_eq_t, J_eq_f, L_lit, L_add, L_sub, L_mul, L_div, JL, LJ, Int.reduceToNat, Int.toNat_zero, Int.toNat_one, xb, xm, within_t, within_f, nb_t, nb_f, ni_t, ni_f, in_t, in_f, less_, bad_0, bad_1, not_true_eq_false, not_false_eq_true, L_lt_t, L_lt_f, L_eq_t, L_eq_f, lg_gt, lg_eq, lg_lt]
      | succ r ih =>
        intro i hi' m hm
        obtain ⟨m, rfl⟩ : ∃ k, m = k + 2 := ⟨m - 2, by omega⟩
        rw [← ih (i + 1) (by omega) m (by omega)]
        obtain ⟨d1, d2, d3, d4⟩ := dig_B h (s := s) (i := s + i) (by omega) (by omega)
        have e1 := bt_m K h (i := s + i) (by omega)
        rw [d1] at e1
        have hcv := cv_le 100000 B s i
        rw [cv]
        generalize cv 100000 B s i = V at *
        generalize B (s + i) = b at *
        have hd : sp_M_isDigit K (J b) = some (J 1) := by
          clear h ih e1 e0 e9
          simp (disch := omega) only [sp_M_isDigit, J_lit, J_add, J_sub, J_mul, J_neg, J_nat, J_inb, J_div, ↓reduceIte, Int.toNat_natCast, Option.bind_some, J_le_t, J_le_f, J_lt_t, J_lt_f, J_eq_t, J_eq_f, L_lit, L_add, L_sub, L_mul, L_div, JL, LJ, Int.reduceToNat, Int.toNat_zero, Int.toNat_one, xb, xm, within_t, within_f, nb_t, nb_f, ni_t, ni_f, in_t, in_f, less_, bad_0, bad_1, not_true_eq_false, not_false_eq_true, L_lt_t, L_lt_f, L_eq_t, L_eq_f, lg_gt, lg_eq, lg_lt]
        have e2 : ((s + i : Nat) : Int) + 1 = ((s + (i + 1) : Nat) : Int) := by omega
        have e3 : 10 * (V : Int) + (b : Int) - 48 = ((10 * V + (b - 48) : Nat) : Int) := by omega
        clear ih h eEnd hcap
        by_cases hc : 10 * V + (b - 48) ≤ 100000
        · rw [Nat.min_eq_right (by omega)]
          simp (disch := omega) only [f_M_number, e1, hd, e2, e3, J_lit, J_add, J_sub, J_mul, J_neg, J_nat, J_inb, J_div, ↓reduceIte, Int.toNat_natCast, Option.bind_some, J_le_t, J_le_f, J_lt_t, J_lt_f, J_eq_t, J_eq_f, L_lit, L_add, L_sub, L_mul, L_div, JL, LJ, Int.reduceToNat, Int.toNat_zero, Int.toNat_one, xb, xm, within_t, within_f, nb_t, nb_f, ni_t, ni_f, in_t, in_f, less_, bad_0, bad_1, not_true_eq_false, not_false_eq_true, L_lt_t, L_lt_f, L_eq_t, L_eq_f, lg_gt, lg_eq, lg_lt]
        · rw [Nat.min_eq_left (by omega)]
          simp (disch := omega) only [f_M_number, e1, hd, e2, e3, J_lit, J_add, J_sub, J_mul, J_neg, J_nat, J_inb, J_div, ↓reduceIte, Int.toNat_natCast, Option.bind_some, J_le_t, J_le_f, J_lt_t, J_lt_f, J_eq_t, J_eq_f, L_lit, L_add, L_sub, L_mul, L_div, JL, LJ, Int.reduceToNat, Int.toNat_zero, Int.toNat_one, xb, xm, within_t, within_f, nb_t, nb_f, ni_t, ni_f, in_t, in_f, less_, bad_0, bad_1, not_true_eq_false, not_false_eq_true, L_lt_t, L_lt_f, L_eq_t, L_eq_f, lg_gt, lg_eq, lg_lt]
          rfl
    have hk := key (e - s) 0 (by omega) K (by omega)
    obtain ⟨d1, d2, d3, d4⟩ := dig_B h (s := s) (i := s) (by omega) (by omega)
    have hd : sp_M_isDigit K (J (bt B N s)) = some (J 1) := by
      rw [d1]
      clear h key hk
      simp (disch := omega) only [sp_M_isDigit, J_lit, J_add, J_sub, J_mul, J_neg, J_nat, J_inb, J_div, ↓reduceIte, Int.toNat_natCast, Option.bind_some, J_le_t, J_le_f, J_lt_t, J_lt_f, J_eq_t, J_eq_f, L_lit, L_add, L_sub, L_mul, L_div, JL, LJ, Int.reduceToNat, Int.toNat_zero, Int.toNat_one, xb, xm, within_t, within_f, nb_t, nb_f, ni_t, ni_f, in_t, in_f, less_, bad_0, bad_1, not_true_eq_false, not_false_eq_true, L_lt_t, L_lt_f, L_eq_t, L_eq_f, lg_gt, lg_eq, lg_lt]
    have e1 : sp_M_number K (J lo) (J hi) (J ne) (J N) (J a) (J 0) fp mb = f_M_number K (J N) mb K 0 (J lo, J hi, J ne, J s, J (cv 100000 B s 0 : Nat), J 0, J (s + 0 : Nat), J 0, fp) := by
      clear key hk h
      simp (disch := omega) only [sp_M_number, eR, e0, hd, cv, Nat.add_zero, J_lit, J_add, J_sub, J_mul, J_neg, J_nat, J_inb, J_div, ↓reduceIte, Int.toNat_natCast, Option.bind_some, J_le_t, J_le_f, J_lt_t, J_lt_f, J_eq_t, J_eq_f, L_lit, L_add, L_sub, L_mul, L_div, JL, LJ, Int.reduceToNat, Int.toNat_zero, Int.toNat_one, xb, xm, within_t, within_f, nb_t, nb_f, ni_t, ni_f, in_t, in_f, less_, bad_0, bad_1, not_true_eq_false, not_false_eq_true, L_lt_t, L_lt_f, L_eq_t, L_eq_f, lg_gt, lg_eq, lg_lt]
      rfl
    rw [e1, hk]
    clear key hk
    by_cases hc : lo ≤ cv 1000 B s (e - s) ∧ cv 1000 B s (e - s) ≤ hi ∧ ((cv 1000 B s (e - s) : Nat) : Int) ≠ ne
    · simp only [if_pos hc]
      refine ⟨_, rfl, fun _ => ?_⟩
      have h1 := hc.2.1
      have h2 : cv 100000 B s (e - s) = cv 1000 B s (e - s) := by
        clear hc
        omega
      rw [h2]
    · simp only [if_neg hc, show ¬ (2 : Nat) = 0 by decide, if_false]
      exact ⟨_, rfl, by simp⟩
set_option maxHeartbeats 2000000 in
theorem p_M_number_f (K : Nat) (lo hi ne : Int32) (N at' : Int32) {k : Nat} (hk : 1 ≤ k ∧ k ≤ 3) (fp : Int32) (mb : Nat → Int32) : sp_M_number K lo hi ne N at' (J k) fp mb = some (J 0, at', J k, fp) := by
  simp (disch := omega) only [sp_M_number, J_lit, J_add, J_sub, J_mul, J_neg, J_nat, J_inb, J_div, ↓reduceIte, Int.toNat_natCast, Option.bind_some, J_le_t, J_le_f, J_lt_t, J_lt_f, J_eq_t, J_eq_f, L_lit, L_add, L_sub, L_mul, L_div, JL, LJ, Int.reduceToNat, Int.toNat_zero, Int.toNat_one, xb, xm, within_t, within_f, nb_t, nb_f, ni_t, ni_f, in_t, in_f, less_, bad_0, bad_1, not_true_eq_false, not_false_eq_true, L_lt_t, L_lt_f, L_eq_t, L_eq_f, lg_gt, lg_eq, lg_lt]
def KL (i : Nat) : Nat := SLEN.getD i 0
def KB (i k : Nat) : Nat := ((SBYT.getD i []).getD k 0).toNatClampNeg
set_option maxHeartbeats 2000000 in
theorem charAt_K (K : Nat) (p : Int32) (i : Nat) : sp_J0_charAt K p i = sp_J0_charAt 0 p i := rfl
set_option maxHeartbeats 2000000 in
theorem length_K (K : Nat) (i : Nat) : sp_J0_length K i = sp_J0_length 0 i := rfl
set_option maxHeartbeats 2000000 in
theorem length_all : ∀ i : Fin 13, sp_J0_length 0 i.val = some (J (KL i.val)) := by decide +kernel
set_option maxHeartbeats 2000000 in
theorem charAt_all : ∀ i : Fin 13, ∀ k : Fin 7, k.val < KL i.val → sp_J0_charAt 0 (J k.val) i.val = some (J (KB i.val k.val)) := by decide +kernel
set_option maxHeartbeats 2000000 in
theorem KB_rng : ∀ i : Fin 13, KL i.val ≤ 6 ∧ ∀ k : Fin 7, k.val < KL i.val → 97 ≤ KB i.val k.val ∧ KB i.val k.val ≤ 122 := by decide +kernel
set_option maxHeartbeats 2000000 in
theorem p_length (K : Nat) {i : Nat} (hi : i < 13) : sp_J0_length K i = some (J (KL i)) := by
  rw [length_K]; exact length_all ⟨i, hi⟩
set_option maxHeartbeats 2000000 in
theorem p_charAt (K : Nat) {i : Nat} (hi : i < 13) {k : Nat} (hk : k < KL i) : sp_J0_charAt K (J k) i = some (J (KB i k)) := by
  rw [charAt_K]
  have h6 := (KB_rng ⟨i, hi⟩).1
  simp only at h6
  exact charAt_all ⟨i, hi⟩ ⟨k, by omega⟩ hk
abbrev we (B : Nat → Nat) (N s : Nat) : Nat := en 97 122 B N s
def kwm (B : Nat → Nat) (N s i : Nat) : Prop := we B N s - s = KL i ∧ ∀ k, k < KL i → B (s + k) = KB i k
def kwB (B : Nat → Nat) (N s i : Nat) : Int := if we B N s - s = KL i ∧ ∀ k, k < KL i → B (s + k) = KB i k then 1 else 0
set_option maxHeartbeats 2000000 in
theorem kwB_t {B : Nat → Nat} {N s i : Nat} (h : kwm B N s i) : kwB B N s i = 1 := if_pos h
set_option maxHeartbeats 2000000 in
theorem kwB_f {B : Nat → Nat} {N s i : Nat} (h : ¬ kwm B N s i) : kwB B N s i = 0 := if_neg h
set_option maxHeartbeats 2000000 in
theorem let_B {cb mb : Nat → Int32} {N : Nat} {B : Nat → Nat} (h : TX cb mb N B) {s i : Nat} (h1 : s ≤ i) (h2 : i < we B N s) : bt B N i = (B i : Int) ∧ 97 ≤ B i ∧ B i ≤ 122 ∧ i < N := by
  have hd := en_in h1 h2
  unfold bt at hd ⊢
  split at hd
  · next hc => rw [if_pos hc]; omega
  · omega
set_option maxHeartbeats 2000000 in
theorem p_wordIs (K : Nat) (hK : 2000 ≤ K) {cb mb : Nat → Int32} {N : Nat} {B : Nat → Nat} (h : TX cb mb N B) {s : Nat} (hs : s ≤ 500) {i : Nat} (hi : i < 13) : sp_Tape_wordIs K cb (J N) (J (we B N s : Nat)) (J s) i = some (J (kwB B N s i)) := by
  have eL := p_length K hi
  have h6 := (KB_rng ⟨i, hi⟩).1
  have hr := (KB_rng ⟨i, hi⟩).2
  simp only at h6 hr
  have r1 := en_rng 97 122 B N s
  have hN := h.1
  have key : ∀ (r k : Nat), k + r = KL i → we B N s - s = KL i → (∀ q, q < k → B (s + q) = KB i q) → ∀ m, r + 1 ≤ m → f_Tape_wordIs K cb (J N) (J s) i m 0 (J k) = some (J (kwB B N s i)) := by
    intro r
    induction r with
    | zero =>
      intro k hk hl hb m hm
      obtain ⟨m, rfl⟩ : ∃ z, m = z + 1 := ⟨m - 1, by omega⟩
      rw [kwB_t ⟨hl, fun q hq => hb q (by omega)⟩]
      clear h hr hb
      simp (disch := omega) only [f_Tape_wordIs, hi, eL, J_lit, J_add, J_sub, J_mul, J_neg, J_nat, J_inb, J_div, ↓reduceIte, Int.toNat_natCast, Option.bind_some, J_le_t, J_le_f, J_lt_t, J_lt_f, J_eq_t, J_eq_f, L_lit, L_add, L_sub, L_mul, L_div, JL, LJ, Int.reduceToNat, Int.toNat_zero, Int.toNat_one, xb, xm, within_t, within_f, nb_t, nb_f, ni_t, ni_f, in_t, in_f, less_, bad_0, bad_1, not_true_eq_false, not_false_eq_true, L_lt_t, L_lt_f, L_eq_t, L_eq_f, lg_gt, lg_eq, lg_lt]
    | succ r ih =>
      intro k hk hl hb m hm
      obtain ⟨m, rfl⟩ : ∃ z, m = z + 1 := ⟨m - 1, by omega⟩
      obtain ⟨d1, d2, d3, d4⟩ := let_B h (s := s) (i := s + k) (by omega) (by unfold we at *; omega)
      have e1 := bt_c K h (i := s + k) (by omega)
      rw [d1] at e1
      have e2 := p_charAt K hi (k := k) (by omega)
      have e3 : (s : Int) + (k : Int) = ((s + k : Nat) : Int) := by omega
      have hk7 := hr ⟨k, by omega⟩ (by simp only; omega)
      simp only at hk7
      by_cases hc : B (s + k) = KB i k
      · rw [← ih (k + 1) (by omega) hl (fun q hq => by
          by_cases hqk : q = k
          · subst hqk; exact hc
          · exact hb q (by omega)) m (by omega)]
        clear ih h hr hb
        simp (disch := omega) only [f_Tape_wordIs, hi, eL, e3, e1, e2, hc, cast1, J_lit, J_add, J_sub, J_mul, J_neg, J_nat, J_inb, J_div, ↓reduceIte, Int.toNat_natCast, Option.bind_some, J_le_t, J_le_f, J_lt_t, J_lt_f, J_eq_t, J_eq_f, L_lit, L_add, L_sub, L_mul, L_div, JL, LJ, Int.reduceToNat, Int.toNat_zero, Int.toNat_one, xb, xm, within_t, within_f, nb_t, nb_f, ni_t, ni_f, in_t, in_f, less_, bad_0, bad_1, not_true_eq_false, not_false_eq_true, L_lt_t, L_lt_f, L_eq_t, L_eq_f, lg_gt, lg_eq, lg_lt]
      · rw [kwB_f (fun hh => hc (hh.2 k (by omega)))]
        clear ih h hr hb
        simp (disch := omega) only [f_Tape_wordIs, hi, eL, e3, e1, e2, cast1, J_lit, J_add, J_sub, J_mul, J_neg, J_nat, J_inb, J_div, ↓reduceIte, Int.toNat_natCast, Option.bind_some, J_le_t, J_le_f, J_lt_t, J_lt_f, J_eq_t, J_eq_f, L_lit, L_add, L_sub, L_mul, L_div, JL, LJ, Int.reduceToNat, Int.toNat_zero, Int.toNat_one, xb, xm, within_t, within_f, nb_t, nb_f, ni_t, ni_f, in_t, in_f, less_, bad_0, bad_1, not_true_eq_false, not_false_eq_true, L_lt_t, L_lt_f, L_eq_t, L_eq_f, lg_gt, lg_eq, lg_lt]
  by_cases hl : we B N s - s = KL i
  · rw [← key (KL i) 0 (by omega) hl (fun q hq => by omega) K (by omega)]
    have e3 : ((we B N s : Nat) : Int) - (s : Int) = ((KL i : Nat) : Int) := by unfold we at *; omega
    clear key h hr
    simp (disch := omega) only [sp_Tape_wordIs, hi, eL, e3, J_lit, J_add, J_sub, J_mul, J_neg, J_nat, J_inb, J_div, ↓reduceIte, Int.toNat_natCast, Option.bind_some, J_le_t, J_le_f, J_lt_t, J_lt_f, J_eq_t, J_eq_f, L_lit, L_add, L_sub, L_mul, L_div, JL, LJ, Int.reduceToNat, Int.toNat_zero, Int.toNat_one, xb, xm, within_t, within_f, nb_t, nb_f, ni_t, ni_f, in_t, in_f, less_, bad_0, bad_1, not_true_eq_false, not_false_eq_true, L_lt_t, L_lt_f, L_eq_t, L_eq_f, lg_gt, lg_eq, lg_lt]
    rfl
  · rw [kwB_f (fun hh => hl hh.1)]
    have e3 : ((we B N s : Nat) : Int) - (s : Int) ≠ ((KL i : Nat) : Int) := by unfold we at *; omega
    have e4 : we B N s ≤ 1000 := by unfold we; omega
    clear key h hr
    simp (disch := omega) only [sp_Tape_wordIs, hi, eL, J_lit, J_add, J_sub, J_mul, J_neg, J_nat, J_inb, J_div, ↓reduceIte, Int.toNat_natCast, Option.bind_some, J_le_t, J_le_f, J_lt_t, J_lt_f, J_eq_t, J_eq_f, L_lit, L_add, L_sub, L_mul, L_div, JL, LJ, Int.reduceToNat, Int.toNat_zero, Int.toNat_one, xb, xm, within_t, within_f, nb_t, nb_f, ni_t, ni_f, in_t, in_f, less_, bad_0, bad_1, not_true_eq_false, not_false_eq_true, L_lt_t, L_lt_f, L_eq_t, L_eq_f, lg_gt, lg_eq, lg_lt]
def wc (f : Nat → Nat) : Nat → Nat
  | 0 => 0
  | k + 1 => 27 * wc f k + f k
set_option maxHeartbeats 2000000 in
theorem wc_inj {f g : Nat → Nat} : ∀ k m, (∀ i, i < k → 1 ≤ f i ∧ f i ≤ 26) → (∀ i, i < m → 1 ≤ g i ∧ g i ≤ 26) → wc f k = wc g m → k = m ∧ ∀ i, i < k → f i = g i
  | 0, 0, _, _, _ => ⟨rfl, fun i hi => by omega⟩
  | 0, m + 1, _, hg, he => by
    have := hg m (by omega)
    rw [wc, wc] at he
    omega
  | k + 1, 0, hf, _, he => by
    have := hf k (by omega)
    rw [wc, wc] at he
    omega
  | k + 1, m + 1, hf, hg, he => by
    have h1 := hf k (by omega)
    have h2 := hg m (by omega)
    rw [wc, wc] at he
    have e1 : wc f k = wc g m := by omega
    obtain ⟨h3, h4⟩ := wc_inj k m (fun i hi => hf i (by omega)) (fun i hi => hg i (by omega)) e1
    subst h3
    refine ⟨rfl, fun i hi => ?_⟩
    by_cases hik : i = k
    · subst hik; omega
    · exact h4 i (by omega)
set_option maxHeartbeats 2000000 in
theorem wc_cong {f g : Nat → Nat} : ∀ k, (∀ i, i < k → f i = g i) → wc f k = wc g k
  | 0, _ => rfl
  | k + 1, h => by rw [wc, wc, wc_cong k (fun i hi => h i (by omega)), h k (by omega)]
set_option maxHeartbeats 2000000 in
theorem wc_lt {f : Nat → Nat} : ∀ k, (∀ i, i < k → f i ≤ 26) → wc f k < 27 ^ k
  | 0, _ => by simp [wc]
  | k + 1, h => by
    have h1 := wc_lt k (fun i hi => h i (by omega))
    have h2 := h k (by omega)
    rw [wc, Nat.pow_succ]
    generalize 27 ^ k = P at *
    omega
def kc (i : Nat) : Nat := wc (fun k => KB i k - 96) (KL i)
set_option maxHeartbeats 2000000 in
theorem kwm_code {cb mb : Nat → Int32} {N : Nat} {B : Nat → Nat} (h : TX cb mb N B) {s i : Nat} (hi : i < 13) : kwm B N s i ↔ (we B N s - s ≤ 6 ∧ wc (fun k => B (s + k) - 96) (we B N s - s) = kc i) := by
  have h6 := (KB_rng ⟨i, hi⟩).1
  have hr := (KB_rng ⟨i, hi⟩).2
  simp only at h6 hr
  constructor
  · rintro ⟨h1, h2⟩
    refine ⟨by omega, ?_⟩
    rw [h1]
    exact wc_cong (KL i) (fun k hk => by rw [h2 k hk])
  · rintro ⟨h1, h2⟩
    obtain ⟨h3, h4⟩ := wc_inj (f := fun k => B (s + k) - 96) (g := fun k => KB i k - 96) (we B N s - s) (KL i) (fun k hk => by
      obtain ⟨d1, d2, d3, d4⟩ := let_B h (s := s) (i := s + k) (by omega) (by omega)
      omega) (fun k hk => by
      have := hr ⟨k, by omega⟩ hk
      simp only at this ⊢; omega) h2
    refine ⟨h3, fun k hk => ?_⟩
    have e1 := h4 k (by omega)
    obtain ⟨d1, d2, d3, d4⟩ := let_B h (s := s) (i := s + k) (by omega) (by omega)
    have := hr ⟨k, by omega⟩ hk
    simp only at this e1
    omega
set_option maxHeartbeats 2000000 in
theorem p_M_wordHere (K : Nat) (hK : 2000 ≤ K) {cb mb : Nat → Int32} {N : Nat} {B : Nat → Nat} (h : TX cb mb N B) {a : Nat} (ha : a ≤ 500) : sp_M_wordHere K (J N) (J a) mb = some (J (if we B N (bl B N a) - bl B N a ≤ 6 then (wc (fun k => B (bl B N a + k) - 96) (we B N (bl B N a) - bl B N a) : Int) else -1), J (bl B N a : Nat)) := by
  have eR := p_M_blanks K hK h ha
  have r1 := bl_rng B N a
  have r2 := en_rng 97 122 B N (bl B N a)
  have eEnd := en_end (lo := 97) (by omega) 122 B N (bl B N a)
  have hN := h.1
  unfold we
  generalize bl B N a = s at *
  have key : ∀ (r k : Nat), k + r = en 97 122 B N s - s → ∀ m, 2 * r + 2 ≤ m → f_M_wordHere K (J N) mb m 0 (J (wc (fun k => B (s + k) - 96) (min k 6) : Nat), J k, J 0, J s) = some (J (if en 97 122 B N s - s ≤ 6 then (wc (fun k => B (s + k) - 96) (en 97 122 B N s - s) : Int) else -1), J s) := by
    intro r
    induction r with
    | zero =>
      intro k hk m hm
      obtain ⟨m, rfl⟩ : ∃ z, m = z + 2 := ⟨m - 2, by omega⟩
      have hk' : k = en 97 122 B N s - s := by omega
      rw [← hk']
      have e1 := bt_m K h (i := s + k) (by omega)
      have e2 := bt_rng h (s + k)
      rw [show en 97 122 B N s = s + k by omega] at eEnd
      have e3 : (s : Int) + (k : Int) = ((s + k : Nat) : Int) := by omega
      generalize bt B N (s + k) = b at *
      by_cases h6 : k ≤ 6
      · rw [if_pos h6, Nat.min_eq_left h6]
        clear h
        by_cases hc : b < 97
        · clear eEnd
          simp (disch := omega) only [f_M_wordHere, e3, e1, J_lit, J_add, J_sub, J_mul, J_neg, J_nat, J_inb, J_div, ↓reduceIte, Int.toNat_natCast, Option.bind_some, J_le_t, J_le_f, J_lt_t, J_lt_f, J_eq_t, J_eq_f, L_lit, L_add, L_sub, L_mul, L_div, JL, LJ, Int.reduceToNat, Int.toNat_zero, Int.toNat_one, xb, xm, within_t, within_f, nb_t, nb_f, ni_t, ni_f, in_t, in_f, less_, bad_0, bad_1, not_true_eq_false, not_false_eq_true, L_lt_t, L_lt_f, L_eq_t, L_eq_f, lg_gt, lg_eq, lg_lt]
        · have hc2 : 122 < b := by omega
          clear eEnd
          simp (disch := omega) only [f_M_wordHere, e3, e1, J_lit, J_add, J_sub, J_mul, J_neg, J_nat, J_inb, J_div, ↓reduceIte, Int.toNat_natCast, Option.bind_some, J_le_t, J_le_f, J_lt_t, J_lt_f, J_eq_t, J_eq_f, L_lit, L_add, L_sub, L_mul, L_div, JL, LJ, Int.reduceToNat, Int.toNat_zero, Int.toNat_one, xb, xm, within_t, within_f, nb_t, nb_f, ni_t, ni_f, in_t, in_f, less_, bad_0, bad_1, not_true_eq_false, not_false_eq_true, L_lt_t, L_lt_f, L_eq_t, L_eq_f, lg_gt, lg_eq, lg_lt]
      · rw [if_neg h6]
        clear h
        by_cases hc : b < 97
        · clear eEnd
          simp (disch := omega) only [f_M_wordHere, e3, e1, J_lit, J_add, J_sub, J_mul, J_neg, J_nat, J_inb, J_div, ↓reduceIte, Int.toNat_natCast, Option.bind_some, J_le_t, J_le_f, J_lt_t, J_lt_f, J_eq_t, J_eq_f, L_lit, L_add, L_sub, L_mul, L_div, JL, LJ, Int.reduceToNat, Int.toNat_zero, Int.toNat_one, xb, xm, within_t, within_f, nb_t, nb_f, ni_t, ni_f, in_t, in_f, less_, bad_0, bad_1, not_true_eq_false, not_false_eq_true, L_lt_t, L_lt_f, L_eq_t, L_eq_f, lg_gt, lg_eq, lg_lt]
        · have hc2 : 122 < b := by omega
          clear eEnd
          simp (disch := omega) only [f_M_wordHere, e3, e1, J_lit, J_add, J_sub, J_mul, J_neg, J_nat, J_inb, J_div, ↓reduceIte, Int.toNat_natCast, Option.bind_some, J_le_t, J_le_f, J_lt_t, J_lt_f, J_eq_t, J_eq_f, L_lit, L_add, L_sub, L_mul, L_div, JL, LJ, Int.reduceToNat, Int.toNat_zero, Int.toNat_one, xb, xm, within_t, within_f, nb_t, nb_f, ni_t, ni_f, in_t, in_f, less_, bad_0, bad_1, not_true_eq_false, not_false_eq_true, L_lt_t, L_lt_f, L_eq_t, L_eq_f, lg_gt, lg_eq, lg_lt]
    | succ r ih =>
      intro k hk m hm
      obtain ⟨m, rfl⟩ : ∃ z, m = z + 2 := ⟨m - 2, by omega⟩
      rw [← ih (k + 1) (by omega) m (by omega)]
      obtain ⟨d1, d2, d3, d4⟩ := let_B h (s := s) (i := s + k) (by omega) (by unfold we; omega)
      have e1 := bt_m K h (i := s + k) (by omega)
      rw [d1] at e1
      have e3 : (s : Int) + (k : Int) = ((s + k : Nat) : Int) := by omega
      by_cases h6 : 6 ≤ k
      · rw [Nat.min_eq_right h6, Nat.min_eq_right (by omega)]
        generalize wc (fun k => B (s + k) - 96) 6 = W at *
        generalize B (s + k) = b at *
        clear ih h eEnd
        simp (disch := omega) only [f_M_wordHere, e3, e1, cast1, J_lit, J_add, J_sub, J_mul, J_neg, J_nat, J_inb, J_div, ↓reduceIte, Int.toNat_natCast, Option.bind_some, J_le_t, J_le_f, J_lt_t, J_lt_f, J_eq_t, J_eq_f, L_lit, L_add, L_sub, L_mul, L_div, JL, LJ, Int.reduceToNat, Int.toNat_zero, Int.toNat_one, xb, xm, within_t, within_f, nb_t, nb_f, ni_t, ni_f, in_t, in_f, less_, bad_0, bad_1, not_true_eq_false, not_false_eq_true, L_lt_t, L_lt_f, L_eq_t, L_eq_f, lg_gt, lg_eq, lg_lt]
      · rw [Nat.min_eq_left (by omega), Nat.min_eq_left (by omega), wc]
        generalize wc (fun k => B (s + k) - 96) k = W at *
        generalize B (s + k) = b at *
        have e4 : 27 * (W : Int) + (b : Int) - 97 + 1 = ((27 * W + (b - 96) : Nat) : Int) := by omega
        clear ih h eEnd
        simp (disch := omega) only [f_M_wordHere, e3, e1, e4, cast1, J_lit, J_add, J_sub, J_mul, J_neg, J_nat, J_inb, J_div, ↓reduceIte, Int.toNat_natCast, Option.bind_some, J_le_t, J_le_f, J_lt_t, J_lt_f, J_eq_t, J_eq_f, L_lit, L_add, L_sub, L_mul, L_div, JL, LJ, Int.reduceToNat, Int.toNat_zero, Int.toNat_one, xb, xm, within_t, within_f, nb_t, nb_f, ni_t, ni_f, in_t, in_f, less_, bad_0, bad_1, not_true_eq_false, not_false_eq_true, L_lt_t, L_lt_f, L_eq_t, L_eq_f, lg_gt, lg_eq, lg_lt]
  have hk := key (en 97 122 B N s - s) 0 (by omega) K (by omega)
  rw [← hk]
  clear key hk h eEnd
  simp (disch := omega) only [sp_M_wordHere, eR, J_lit, J_add, J_sub, J_mul, J_neg, J_nat, J_inb, J_div, ↓reduceIte, Int.toNat_natCast, Option.bind_some, J_le_t, J_le_f, J_lt_t, J_lt_f, J_eq_t, J_eq_f, L_lit, L_add, L_sub, L_mul, L_div, JL, LJ, Int.reduceToNat, Int.toNat_zero, Int.toNat_one, xb, xm, within_t, within_f, nb_t, nb_f, ni_t, ni_f, in_t, in_f, less_, bad_0, bad_1, not_true_eq_false, not_false_eq_true, L_lt_t, L_lt_f, L_eq_t, L_eq_f, lg_gt, lg_eq, lg_lt]
  rfl
set_option maxHeartbeats 2000000 in
theorem p_M_isWord (K : Nat) (hK : 2000 ≤ K) {cb mb : Nat → Int32} {N : Nat} {B : Nat → Nat} (h : TX cb mb N B) {a : Nat} (ha : a ≤ 500) {i : Nat} (hi : i < 13) {p1 p2 p3 p4 p5 p6 : Int32} (hc : sp_M_word K p1 p2 p3 p4 p5 p6 = some (J (kc i))) (hcl : kc i < 2000000000) : sp_M_isWord K p1 p2 p3 p4 p5 p6 (J N) (J a) mb = some (J (kwB B N (bl B N a) i), J (bl B N a : Nat)) := by
  have e1 := p_M_wordHere K hK h ha
  have hm := kwm_code h (s := bl B N a) hi
  have hlt : we B N (bl B N a) - bl B N a ≤ 6 → wc (fun k => B (bl B N a + k) - 96) (we B N (bl B N a) - bl B N a) < 387420489 := fun h6 => by
    have h1 := wc_lt (f := fun k => B (bl B N a + k) - 96) (we B N (bl B N a) - bl B N a) (fun k hk => by
      obtain ⟨d1, d2, d3, d4⟩ := let_B h (s := bl B N a) (i := bl B N a + k) (by omega) (by omega)
      omega)
    have h2 : 27 ^ (we B N (bl B N a) - bl B N a) ≤ 27 ^ 6 := Nat.pow_le_pow_right (by omega) h6
    have h3 : 27 ^ 6 = 387420489 := rfl
    omega
  generalize wc (fun k => B (bl B N a + k) - 96) (we B N (bl B N a) - bl B N a) = W at *
  by_cases h6 : we B N (bl B N a) - bl B N a ≤ 6
  · rw [if_pos h6] at e1
    have := hlt h6
    by_cases hk : W = kc i
    · rw [kwB_t (hm.mpr ⟨h6, hk⟩)]
      subst hk
      clear h hlt hm
      simp (disch := omega) only [sp_M_isWord, e1, hc, J_lit, J_add, J_sub, J_mul, J_neg, J_nat, J_inb, J_div, ↓reduceIte, Int.toNat_natCast, Option.bind_some, J_le_t, J_le_f, J_lt_t, J_lt_f, J_eq_t, J_eq_f, L_lit, L_add, L_sub, L_mul, L_div, JL, LJ, Int.reduceToNat, Int.toNat_zero, Int.toNat_one, xb, xm, within_t, within_f, nb_t, nb_f, ni_t, ni_f, in_t, in_f, less_, bad_0, bad_1, not_true_eq_false, not_false_eq_true, L_lt_t, L_lt_f, L_eq_t, L_eq_f, lg_gt, lg_eq, lg_lt]
    · rw [kwB_f (fun hh => hk (hm.mp hh).2)]
      clear h hlt hm
      simp (disch := omega) only [sp_M_isWord, e1, hc, J_lit, J_add, J_sub, J_mul, J_neg, J_nat, J_inb, J_div, ↓reduceIte, Int.toNat_natCast, Option.bind_some, J_le_t, J_le_f, J_lt_t, J_lt_f, J_eq_t, J_eq_f, L_lit, L_add, L_sub, L_mul, L_div, JL, LJ, Int.reduceToNat, Int.toNat_zero, Int.toNat_one, xb, xm, within_t, within_f, nb_t, nb_f, ni_t, ni_f, in_t, in_f, less_, bad_0, bad_1, not_true_eq_false, not_false_eq_true, L_lt_t, L_lt_f, L_eq_t, L_eq_f, lg_gt, lg_eq, lg_lt]
  · rw [if_neg h6] at e1
    rw [kwB_f (fun hh => h6 (hm.mp hh).1)]
    clear h hlt hm
    simp (disch := omega) only [sp_M_isWord, e1, hc, J_lit, J_add, J_sub, J_mul, J_neg, J_nat, J_inb, J_div, ↓reduceIte, Int.toNat_natCast, Option.bind_some, J_le_t, J_le_f, J_lt_t, J_lt_f, J_eq_t, J_eq_f, L_lit, L_add, L_sub, L_mul, L_div, JL, LJ, Int.reduceToNat, Int.toNat_zero, Int.toNat_one, xb, xm, within_t, within_f, nb_t, nb_f, ni_t, ni_f, in_t, in_f, less_, bad_0, bad_1, not_true_eq_false, not_false_eq_true, L_lt_t, L_lt_f, L_eq_t, L_eq_f, lg_gt, lg_eq, lg_lt]
set_option maxHeartbeats 2000000 in
theorem word_K (K : Nat) (hK : 3 ≤ K) (a b c d e f : Int32) : sp_M_word K a b c d e f = sp_M_word 3 a b c d e f := by
  obtain ⟨k, rfl⟩ : ∃ k, K = k + 3 := ⟨K - 3, by omega⟩
  rfl
set_option maxHeartbeats 2000000 in
theorem kcs : ∀ i : Fin 13, kc i.val < 2000000000 := by decide +kernel
set_option maxHeartbeats 2000000 in
theorem w_shed : sp_M_word 3 19 8 5 4 0 0 = some (J (kc 0)) := by decide +kernel
set_option maxHeartbeats 2000000 in
theorem w_hold : sp_M_word 3 8 15 12 4 0 0 = some (J (kc 1)) := by decide +kernel
set_option maxHeartbeats 2000000 in
theorem w_wash : sp_M_word 3 23 1 19 8 0 0 = some (J (kc 2)) := by decide +kernel
set_option maxHeartbeats 2000000 in
theorem w_pass : sp_M_word 3 16 1 19 19 0 0 = some (J (kc 3)) := by decide +kernel
set_option maxHeartbeats 2000000 in
theorem w_take : sp_M_word 3 20 1 11 5 0 0 = some (J (kc 4)) := by decide +kernel
set_option maxHeartbeats 2000000 in
theorem w_alike : sp_M_word 3 1 12 9 11 5 0 = some (J (kc 5)) := by decide +kernel
set_option maxHeartbeats 2000000 in
theorem w_common : sp_M_word 3 3 15 13 13 15 14 = some (J (kc 6)) := by decide +kernel
set_option maxHeartbeats 2000000 in
theorem w_wear : sp_M_word 3 23 5 1 18 0 0 = some (J (kc 7)) := by decide +kernel
set_option maxHeartbeats 2000000 in
theorem w_bare : sp_M_word 3 2 1 18 5 0 0 = some (J (kc 8)) := by decide +kernel
set_option maxHeartbeats 2000000 in
theorem w_touch : sp_M_word 3 20 15 21 3 8 0 = some (J (kc 9)) := by decide +kernel
set_option maxHeartbeats 2000000 in
theorem w_wash2 : sp_M_word 3 23 1 19 8 0 0 = some (J (kc 10)) := by decide +kernel
set_option maxHeartbeats 2000000 in
theorem w_shake : sp_M_word 3 19 8 1 11 5 0 = some (J (kc 11)) := by decide +kernel
set_option maxHeartbeats 2000000 in
theorem kwB_01 (B : Nat → Nat) (N s i : Nat) : kwB B N s i = 0 ∨ kwB B N s i = 1 := by
  unfold kwB; split
  · exact Or.inr rfl
  · exact Or.inl rfl
set_option maxHeartbeats 2000000 in
theorem isW (K : Nat) (hK : 2000 ≤ K) {cb mb : Nat → Int32} {N : Nat} {B : Nat → Nat} (h : TX cb mb N B) {a : Nat} (ha : a ≤ 500) {i : Nat} (hi : i < 13) {p1 p2 p3 p4 p5 p6 : Int32} (hc : sp_M_word 3 p1 p2 p3 p4 p5 p6 = some (J (kc i))) : sp_M_isWord K p1 p2 p3 p4 p5 p6 (J N) (J a) mb = some (J (kwB B N (bl B N a) i), J (bl B N a : Nat)) := p_M_isWord K hK h ha hi (by rw [word_K K (by omega)]; exact hc) (kcs ⟨i, hi⟩)
def kL (B : Nat → Nat) (N s : Nat) : Int := if kwB B N s 0 = 1 then 0 else if kwB B N s 1 = 1 then 1 else if kwB B N s 2 = 1 then 2 else if kwB B N s 3 = 1 then 3 else if kwB B N s 4 = 1 then 4 else if kwB B N s 5 = 1 then 5 else if kwB B N s 6 = 1 then 6 else -1
def kS (B : Nat → Nat) (N s : Nat) : Int := if kwB B N s 7 = 1 then 0 else if kwB B N s 8 = 1 then 1 else if kwB B N s 9 = 1 then 2 else if kwB B N s 10 = 1 then 3 else if kwB B N s 11 = 1 then 4 else -1
set_option maxHeartbeats 2000000 in
theorem kL_rng (B : Nat → Nat) (N s : Nat) : -1 ≤ kL B N s ∧ kL B N s ≤ 6 := by
  unfold kL
  repeat' split
  all_goals omega
set_option maxHeartbeats 2000000 in
theorem kS_rng (B : Nat → Nat) (N s : Nat) : -1 ≤ kS B N s ∧ kS B N s ≤ 4 := by
  unfold kS
  repeat' split
  all_goals omega
set_option maxHeartbeats 2000000 in
theorem chain_c (a b : Int) (ha : a = 0 ∨ a = 1) {α : Type} (x y : Option α) : (if J a = J 0 then x else y) = if a = 1 then y else x := by
  rcases ha with h | h
  · subst h; rw [if_pos rfl, if_neg (by omega)]
  · subst h; rw [if_neg (by decide), if_pos rfl]
set_option maxHeartbeats 2000000 in
theorem p_clauseOfWord (K : Nat) (hK : 2000 ≤ K) {cb mb : Nat → Int32} {N : Nat} {B : Nat → Nat} (h : TX cb mb N B) {s : Nat} (hs : s ≤ 500) : sp_Law_clauseOfWord K cb (J N) (J (we B N s : Nat)) (J s) = some (J (kL B N s)) := by
  have e : ∀ i, i < 13 → sp_Tape_wordIs K cb (J N) (J (we B N s : Nat)) (J s) i = some (J (kwB B N s i)) := fun i hi => p_wordIs K hK h hs hi
  have o := kwB_01 B N s
  unfold sp_Law_clauseOfWord kL
  rw [e 0 (by omega), e 1 (by omega), e 2 (by omega), e 3 (by omega), e 4 (by omega), e 5 (by omega), e 6 (by omega)]
  simp only [Option.bind_some, show (0 : Int32) = J 0 from rfl, chain_c _ 0 (o _)]
  repeat' split
  all_goals rfl
set_option maxHeartbeats 2000000 in
theorem p_eventOfWord (K : Nat) (hK : 2000 ≤ K) {cb mb : Nat → Int32} {N : Nat} {B : Nat → Nat} (h : TX cb mb N B) {s : Nat} (hs : s ≤ 500) : sp_Story_eventOfWord K cb (J N) (J (we B N s : Nat)) (J s) = some (J (kS B N s)) := by
  have e : ∀ i, i < 13 → sp_Tape_wordIs K cb (J N) (J (we B N s : Nat)) (J s) i = some (J (kwB B N s i)) := fun i hi => p_wordIs K hK h hs hi
  have o := kwB_01 B N s
  unfold sp_Story_eventOfWord kS
  rw [e 7 (by omega), e 8 (by omega), e 9 (by omega), e 10 (by omega), e 11 (by omega)]
  simp only [Option.bind_some, show (0 : Int32) = J 0 from rfl, chain_c _ 0 (o _)]
  repeat' split
  all_goals rfl
set_option maxHeartbeats 2000000 in
theorem p_clauseHere (K : Nat) (hK : 2000 ≤ K) {cb mb : Nat → Int32} {N : Nat} {B : Nat → Nat} (h : TX cb mb N B) {a : Nat} (ha : a ≤ 500) (hb : bl B N a = a) : sp_M_clauseHere K (J N) (J a) mb = some (J (kL B N a), J a) := by
  have o := kwB_01 B N a
  have e0 := isW K hK h ha (i := 0) (by omega) w_shed
  have e1 := isW K hK h ha (i := 1) (by omega) w_hold
  have e2 := isW K hK h ha (i := 2) (by omega) w_wash
  have e3 := isW K hK h ha (i := 3) (by omega) w_pass
  have e4 := isW K hK h ha (i := 4) (by omega) w_take
  have e5 := isW K hK h ha (i := 5) (by omega) w_alike
  have e6 := isW K hK h ha (i := 6) (by omega) w_common
  rw [hb] at e0 e1 e2 e3 e4 e5 e6
  unfold sp_M_clauseHere kL
  simp only [e0, e1, e2, e3, e4, e5, e6, Option.bind_some]
  simp only [show (0 : Int32) = J 0 from rfl, chain_c _ 0 (o _)]
  repeat' split
  all_goals rfl
set_option maxHeartbeats 2000000 in
theorem p_eventHere (K : Nat) (hK : 2000 ≤ K) {cb mb : Nat → Int32} {N : Nat} {B : Nat → Nat} (h : TX cb mb N B) {a : Nat} (ha : a ≤ 500) (hb : bl B N a = a) : sp_M_eventHere K (J N) (J a) mb = some (J (kS B N a), J a) := by
  have o := kwB_01 B N a
  have e0 := isW K hK h ha (i := 7) (by omega) w_wear
  have e1 := isW K hK h ha (i := 8) (by omega) w_bare
  have e2 := isW K hK h ha (i := 9) (by omega) w_touch
  have e3 := isW K hK h ha (i := 10) (by omega) w_wash2
  have e4 := isW K hK h ha (i := 11) (by omega) w_shake
  rw [hb] at e0 e1 e2 e3 e4
  unfold sp_M_eventHere kS
  simp only [e0, e1, e2, e3, e4, Option.bind_some]
  simp only [show (0 : Int32) = J 0 from rfl, chain_c _ 0 (o _)]
  repeat' split
  all_goals rfl
