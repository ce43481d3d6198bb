abbrev LA : Type := (Nat → Nat → Nat) × (Nat → Nat) × (Nat → Nat) × (Nat → Nat) × Nat × Nat × Nat
abbrev lsh (l : LA) : Nat → Nat → Nat := l.1
abbrev lho (l : LA) : Nat → Nat := l.2.1
abbrev lco (l : LA) : Nat → Nat := l.2.2.1
abbrev lal (l : LA) : Nat → Nat := l.2.2.2.1
abbrev lwa (l : LA) : Nat := l.2.2.2.2.1
abbrev lpa (l : LA) : Nat := l.2.2.2.2.2.1
abbrev lta (l : LA) : Nat := l.2.2.2.2.2.2
def LOK (l : LA) : Prop := (∀ g, g < 8 → ∀ s, s < 10 → lsh l g s ≤ 200) ∧ (∀ s, s < 10 → lho l s ≤ 16) ∧ (∀ s, s < 10 → lco l s ≤ 20) ∧ (∀ s, s < 10 → lal l s < 1024) ∧ lwa l ≤ 16 ∧ lpa l ≤ 8 ∧ 1 ≤ lta l ∧ lta l ≤ 15
def LC (l : LA) (shed hold common alikes : Nat → Int32) (wash pass take : Int32) : Prop := (∀ g, g < 8 → ∀ s, s < 10 → shed (g * 10 + s) = J (lsh l g s)) ∧ (∀ s, s < 10 → hold s = J (lho l s)) ∧ (∀ s, s < 10 → common s = J (lco l s)) ∧ (∀ s, s < 10 → alikes s = J (lal l s)) ∧ wash = J (lwa l) ∧ pass = J (lpa l) ∧ take = J (lta l)
def closed (nr : Nat → Nat) (b : Nat) : Prop := ∀ k, k < 10 → b.testBit k = true → ∀ j, (nr k).testBit j = true → b.testBit j = true
def AL (nr al : Nat → Nat) : Prop := (∀ s, s < 10 → nr s < 1024) ∧ ∀ s, s < 10 → al s < 1024 ∧ (al s).testBit s = true ∧ closed nr (al s) ∧ ∀ b, closed nr b → b.testBit s = true → ∀ j, (al s).testBit j = true → b.testBit j = true
def LM (l : LA) (nr : Nat → Nat) (shed : Nat → Nat → Int32) (hold common near : Nat → Int32) (wash pass take : Int32) : Prop := (∀ g, g < 8 → ∀ s, s < 10 → shed g s = J (lsh l g s)) ∧ (∀ s, s < 10 → hold s = J (lho l s)) ∧ (∀ s, s < 10 → common s = J (lco l s)) ∧ (∀ s, s < 10 → near s = J (nr s)) ∧ wash = J (lwa l) ∧ pass = J (lpa l) ∧ take = J (lta l) ∧ AL nr (lal l)
set_option maxHeartbeats 2000000 in
theorem shedBy_t (K : Nat) (hK : 1000 ≤ K) {g s : Nat} (hg : g < 8) (hs : s < 10) (A : Nat → Int32) : sp_Law_shedBy K (J g) (J s) A = some (A (g * 10 + s)) := by
  obtain ⟨k, rfl⟩ : ∃ k, K = k + 1 := ⟨K - 1, by omega⟩
  have e : (g : Int) * 10 + (s : Int) = ((g * 10 + s : Nat) : Int) := by omega
  simp (disch := omega) only [sp_Law_shedBy, f_Law_shedBy, e, J_lit, J_add, J_sub, J_mul, J_neg, J_nat, J_inb, J_div, ↓reduceIte, Int.toNat_natCast, Option.bind_some, J_le_t, J_le_f, J_lt_t, J_lt_f, J_eq_t, J_eq_f, L_lit, L_add, L_sub, L_mul, L_div, JL, LJ, Int.reduceToNat, Int.toNat_zero, Int.toNat_one, xb, xm, within_t, within_f, nb_t, nb_f, ni_t, ni_f, in_t, in_f, less_, bad_0, bad_1, not_true_eq_false, not_false_eq_true, L_lt_t, L_lt_f, L_eq_t, L_eq_f, lg_gt, lg_eq, lg_lt]
set_option maxHeartbeats 2000000 in
theorem shedBy_n (K : Nat) (hK : 1000 ≤ K) (s : Int32) (A : Nat → Int32) : sp_Law_shedBy K (J (-1)) s A = some (J 0) := by
  obtain ⟨k, rfl⟩ : ∃ k, K = k + 2 := ⟨K - 2, by omega⟩
  simp (disch := omega) only [sp_Law_shedBy, f_Law_shedBy, J_lit, J_add, J_sub, J_mul, J_neg, J_nat, J_inb, J_div, ↓reduceIte, Int.toNat_natCast, Option.bind_some, J_le_t, J_le_f, J_lt_t, J_lt_f, J_eq_t, J_eq_f, L_lit, L_add, L_sub, L_mul, L_div, JL, LJ, Int.reduceToNat, Int.toNat_zero, Int.toNat_one, xb, xm, within_t, within_f, nb_t, nb_f, ni_t, ni_f, in_t, in_f, less_, bad_0, bad_1, not_true_eq_false, not_false_eq_true, L_lt_t, L_lt_f, L_eq_t, L_eq_f, lg_gt, lg_eq, lg_lt]
set_option maxHeartbeats 2000000 in
theorem holdOf_t (K : Nat) {s : Nat} (hs : s < 10) (A : Nat → Int32) : sp_Law_holdOf K (J s) A = some (A s) := by
  simp (disch := omega) only [sp_Law_holdOf, J_lit, J_add, J_sub, J_mul, J_neg, J_nat, J_inb, J_div, ↓reduceIte, Int.toNat_natCast, Option.bind_some, J_le_t, J_le_f, J_lt_t, J_lt_f, J_eq_t, J_eq_f, L_lit, L_add, L_sub, L_mul, L_div, JL, LJ, Int.reduceToNat, Int.toNat_zero, Int.toNat_one, xb, xm, within_t, within_f, nb_t, nb_f, ni_t, ni_f, in_t, in_f, less_, bad_0, bad_1, not_true_eq_false, not_false_eq_true, L_lt_t, L_lt_f, L_eq_t, L_eq_f, lg_gt, lg_eq, lg_lt]
set_option maxHeartbeats 2000000 in
theorem commonOf_t (K : Nat) {s : Nat} (hs : s < 10) (A : Nat → Int32) : sp_Law_commonOf K (J s) A = some (A s) := by
  simp (disch := omega) only [sp_Law_commonOf, J_lit, J_add, J_sub, J_mul, J_neg, J_nat, J_inb, J_div, ↓reduceIte, Int.toNat_natCast, Option.bind_some, J_le_t, J_le_f, J_lt_t, J_lt_f, J_eq_t, J_eq_f, L_lit, L_add, L_sub, L_mul, L_div, JL, LJ, Int.reduceToNat, Int.toNat_zero, Int.toNat_one, xb, xm, within_t, within_f, nb_t, nb_f, ni_t, ni_f, in_t, in_f, less_, bad_0, bad_1, not_true_eq_false, not_false_eq_true, L_lt_t, L_lt_f, L_eq_t, L_eq_f, lg_gt, lg_eq, lg_lt]
set_option maxHeartbeats 2000000 in
theorem alikeWith_t (K : Nat) {s : Nat} (hs : s < 10) (A : Nat → Int32) : sp_Law_alikeWith K (J s) A = some (A s) := by
  simp (disch := omega) only [sp_Law_alikeWith, J_lit, J_add, J_sub, J_mul, J_neg, J_nat, J_inb, J_div, ↓reduceIte, Int.toNat_natCast, Option.bind_some, J_le_t, J_le_f, J_lt_t, J_lt_f, J_eq_t, J_eq_f, L_lit, L_add, L_sub, L_mul, L_div, JL, LJ, Int.reduceToNat, Int.toNat_zero, Int.toNat_one, xb, xm, within_t, within_f, nb_t, nb_f, ni_t, ni_f, in_t, in_f, less_, bad_0, bad_1, not_true_eq_false, not_false_eq_true, L_lt_t, L_lt_f, L_eq_t, L_eq_f, lg_gt, lg_eq, lg_lt]
set_option maxHeartbeats 2000000 in
theorem pc_sheds (K : Nat) (hK : 1000 ≤ K) (p1 p2 thr : Int32) {l : LA} {nr : Nat → Nat} {c1 c2 c3 c4 : Nat → Int32} {c5 c6 c7 : Int32} {m1 : Nat → Nat → Int32} {m2 m3 m4 : Nat → Int32} {m5 m6 m7 : Int32} (hl : LOK l) (R : LC l c1 c2 c3 c4 c5 c6 c7) (Q : LM l nr m1 m2 m3 m4 m5 m6 m7) (o : Nat → Int64) : ∃ oc om, sp_W_sheds K p1 p2 c1 o = some oc ∧ sp_M_sheds K p1 p2 thr m1 = some om ∧ AA oc.1 oc.2 om.1 om.2 := by
  obtain ⟨a, rfl, ha⟩ := ex_J p1
  obtain ⟨b, rfl, hb⟩ := ex_J p2
  by_cases h : 0 ≤ a ∧ a < 8
  · by_cases h' : 0 ≤ b ∧ b < 10
    · obtain ⟨g, rfl⟩ : ∃ x : Nat, a = x := ⟨a.toNat, by omega⟩
      obtain ⟨s, rfl⟩ : ∃ x : Nat, b = x := ⟨b.toNat, by omega⟩
      have e := shedBy_t K hK (g := g) (s := s) (by omega) (by omega) c1
      have r1 := R.1 g (by omega) s (by omega)
      have r2 := Q.1 g (by omega) s (by omega)
      have r3 := hl.1 g (by omega) s (by omega)
      obtain ⟨k, rfl⟩ : ∃ k, K = k + 2 := ⟨K - 2, by omega⟩
      refine ⟨_, _, by simp (disch := omega) only [sp_W_sheds, sp_sheds, e, r1, J_lit, J_add, J_sub, J_mul, J_neg, J_nat, J_inb, J_div, ↓reduceIte, Int.toNat_natCast, Option.bind_some, J_le_t, J_le_f, J_lt_t, J_lt_f, J_eq_t, J_eq_f, L_lit, L_add, L_sub, L_mul, L_div, JL, LJ, Int.reduceToNat, Int.toNat_zero, Int.toNat_one, xb, xm, within_t, within_f, nb_t, nb_f, ni_t, ni_f, in_t, in_f, less_, bad_0, bad_1, not_true_eq_false, not_false_eq_true, L_lt_t, L_lt_f, L_eq_t, L_eq_f, lg_gt, lg_eq, lg_lt]; rfl, by simp (disch := omega) only [sp_M_sheds, f_M_sheds, r2, J_lit, J_add, J_sub, J_mul, J_neg, J_nat, J_inb, J_div, ↓reduceIte, Int.toNat_natCast, Option.bind_some, J_le_t, J_le_f, J_lt_t, J_lt_f, J_eq_t, J_eq_f, L_lit, L_add, L_sub, L_mul, L_div, JL, LJ, Int.reduceToNat, Int.toNat_zero, Int.toNat_one, xb, xm, within_t, within_f, nb_t, nb_f, ni_t, ni_f, in_t, in_f, less_, bad_0, bad_1, not_true_eq_false, not_false_eq_true, L_lt_t, L_lt_f, L_eq_t, L_eq_f, lg_gt, lg_eq, lg_lt]; rfl, (by first | exact AA_0 _ _ | exact AA_L _ (by omega))⟩
    · obtain ⟨k, rfl⟩ : ∃ k, K = k + 2 := ⟨K - 2, by omega⟩
      refine ⟨_, _, by simp (disch := omega) only [sp_W_sheds, sp_sheds, J_lit, J_add, J_sub, J_mul, J_neg, J_nat, J_inb, J_div, ↓reduceIte, Int.toNat_natCast, Option.bind_some, J_le_t, J_le_f, J_lt_t, J_lt_f, J_eq_t, J_eq_f, L_lit, L_add, L_sub, L_mul, L_div, JL, LJ, Int.reduceToNat, Int.toNat_zero, Int.toNat_one, xb, xm, within_t, within_f, nb_t, nb_f, ni_t, ni_f, in_t, in_f, less_, bad_0, bad_1, not_true_eq_false, not_false_eq_true, L_lt_t, L_lt_f, L_eq_t, L_eq_f, lg_gt, lg_eq, lg_lt]; rfl, by simp (disch := omega) only [sp_M_sheds, f_M_sheds, J_lit, J_add, J_sub, J_mul, J_neg, J_nat, J_inb, J_div, ↓reduceIte, Int.toNat_natCast, Option.bind_some, J_le_t, J_le_f, J_lt_t, J_lt_f, J_eq_t, J_eq_f, L_lit, L_add, L_sub, L_mul, L_div, JL, LJ, Int.reduceToNat, Int.toNat_zero, Int.toNat_one, xb, xm, within_t, within_f, nb_t, nb_f, ni_t, ni_f, in_t, in_f, less_, bad_0, bad_1, not_true_eq_false, not_false_eq_true, L_lt_t, L_lt_f, L_eq_t, L_eq_f, lg_gt, lg_eq, lg_lt]; rfl, (by exact AA_e _ _ (by omega))⟩
  · obtain ⟨k, rfl⟩ : ∃ k, K = k + 2 := ⟨K - 2, by omega⟩
    refine ⟨_, _, by simp (disch := omega) only [sp_W_sheds, sp_sheds, J_lit, J_add, J_sub, J_mul, J_neg, J_nat, J_inb, J_div, ↓reduceIte, Int.toNat_natCast, Option.bind_some, J_le_t, J_le_f, J_lt_t, J_lt_f, J_eq_t, J_eq_f, L_lit, L_add, L_sub, L_mul, L_div, JL, LJ, Int.reduceToNat, Int.toNat_zero, Int.toNat_one, xb, xm, within_t, within_f, nb_t, nb_f, ni_t, ni_f, in_t, in_f, less_, bad_0, bad_1, not_true_eq_false, not_false_eq_true, L_lt_t, L_lt_f, L_eq_t, L_eq_f, lg_gt, lg_eq, lg_lt]; rfl, by simp (disch := omega) only [sp_M_sheds, f_M_sheds, J_lit, J_add, J_sub, J_mul, J_neg, J_nat, J_inb, J_div, ↓reduceIte, Int.toNat_natCast, Option.bind_some, J_le_t, J_le_f, J_lt_t, J_lt_f, J_eq_t, J_eq_f, L_lit, L_add, L_sub, L_mul, L_div, JL, LJ, Int.reduceToNat, Int.toNat_zero, Int.toNat_one, xb, xm, within_t, within_f, nb_t, nb_f, ni_t, ni_f, in_t, in_f, less_, bad_0, bad_1, not_true_eq_false, not_false_eq_true, L_lt_t, L_lt_f, L_eq_t, L_eq_f, lg_gt, lg_eq, lg_lt]; rfl, (by exact AA_e _ _ (by omega))⟩
set_option maxHeartbeats 2000000 in
theorem pc_told (K : Nat) (hK : 1000 ≤ K) (p1 p2 thr : Int32) {l : LA} {nr : Nat → Nat} {c1 c2 c3 c4 : Nat → Int32} {c5 c6 c7 : Int32} {m1 : Nat → Nat → Int32} {m2 m3 m4 : Nat → Int32} {m5 m6 m7 : Int32} (hl : LOK l) (R : LC l c1 c2 c3 c4 c5 c6 c7) (Q : LM l nr m1 m2 m3 m4 m5 m6 m7) (o : Nat → Int64) : ∃ oc om, sp_W_told K p1 p2 c2 c3 c5 c6 c7 o = some oc ∧ sp_M_told K p1 p2 thr m5 m6 m7 m2 m3 = some om ∧ AA oc.1 oc.2 om.1 om.2 := by
  obtain ⟨a, rfl, ha⟩ := ex_J p1
  obtain ⟨b, rfl, hb⟩ := ex_J p2
  obtain ⟨hl1, hl2, hl3, hl4, hl5, hl6, hl7, hl8⟩ := hl
  obtain ⟨R1, R2, R3, R4, rfl, rfl, rfl⟩ := R
  obtain ⟨Q1, Q2, Q3, Q4, rfl, rfl, rfl, Q8⟩ := Q
  by_cases h : 0 ≤ a ∧ a < 10
  · obtain ⟨s, rfl⟩ : ∃ x : Nat, a = x := ⟨a.toNat, by omega⟩
    have e1 := holdOf_t K (s := s) (by omega) c2
    have e2 := commonOf_t K (s := s) (by omega) c3
    have r1 := R2 s (by omega)
    have r2 := R3 s (by omega)
    have r3 := Q2 s (by omega)
    have r4 := Q3 s (by omega)
    have r5 := hl2 s (by omega)
    have r6 := hl3 s (by omega)
    obtain ⟨k, rfl⟩ : ∃ k, K = k + 2 := ⟨K - 2, by omega⟩
    by_cases h' : 0 ≤ b ∧ b ≤ 4
    · rcases (show b = 0 ∨ b = 1 ∨ b = 2 ∨ b = 3 ∨ b = 4 by omega) with rfl | rfl | rfl | rfl | rfl
      all_goals refine ⟨_, _, by simp (disch := omega) only [sp_W_told, sp_told, e1, e2, r1, r2, J_lit, J_add, J_sub, J_mul, J_neg, J_nat, J_inb, J_div, ↓reduceIte, Int.toNat_natCast, Option.bind_some, J_le_t, J_le_f, J_lt_t, J_lt_f, J_eq_t, J_eq_f, L_lit, L_add, L_sub, L_mul, L_div, JL, LJ, Int.reduceToNat, Int.toNat_zero, Int.toNat_one, xb, xm, within_t, within_f, nb_t, nb_f, ni_t, ni_f, in_t, in_f, less_, bad_0, bad_1, not_true_eq_false, not_false_eq_true, L_lt_t, L_lt_f, L_eq_t, L_eq_f, lg_gt, lg_eq, lg_lt]; rfl, by simp (disch := omega) only [sp_M_told, f_M_told, r3, r4, J_lit, J_add, J_sub, J_mul, J_neg, J_nat, J_inb, J_div, ↓reduceIte, Int.toNat_natCast, Option.bind_some, J_le_t, J_le_f, J_lt_t, J_lt_f, J_eq_t, J_eq_f, L_lit, L_add, L_sub, L_mul, L_div, JL, LJ, Int.reduceToNat, Int.toNat_zero, Int.toNat_one, xb, xm, within_t, within_f, nb_t, nb_f, ni_t, ni_f, in_t, in_f, less_, bad_0, bad_1, not_true_eq_false, not_false_eq_true, L_lt_t, L_lt_f, L_eq_t, L_eq_f, lg_gt, lg_eq, lg_lt]; rfl, (by first | exact AA_0 _ _ | exact AA_L _ (by omega))⟩
    · refine ⟨_, _, by simp (disch := omega) only [sp_W_told, sp_told, J_lit, J_add, J_sub, J_mul, J_neg, J_nat, J_inb, J_div, ↓reduceIte, Int.toNat_natCast, Option.bind_some, J_le_t, J_le_f, J_lt_t, J_lt_f, J_eq_t, J_eq_f, L_lit, L_add, L_sub, L_mul, L_div, JL, LJ, Int.reduceToNat, Int.toNat_zero, Int.toNat_one, xb, xm, within_t, within_f, nb_t, nb_f, ni_t, ni_f, in_t, in_f, less_, bad_0, bad_1, not_true_eq_false, not_false_eq_true, L_lt_t, L_lt_f, L_eq_t, L_eq_f, lg_gt, lg_eq, lg_lt]; rfl, by simp (disch := omega) only [sp_M_told, f_M_told, J_lit, J_add, J_sub, J_mul, J_neg, J_nat, J_inb, J_div, ↓reduceIte, Int.toNat_natCast, Option.bind_some, J_le_t, J_le_f, J_lt_t, J_lt_f, J_eq_t, J_eq_f, L_lit, L_add, L_sub, L_mul, L_div, JL, LJ, Int.reduceToNat, Int.toNat_zero, Int.toNat_one, xb, xm, within_t, within_f, nb_t, nb_f, ni_t, ni_f, in_t, in_f, less_, bad_0, bad_1, not_true_eq_false, not_false_eq_true, L_lt_t, L_lt_f, L_eq_t, L_eq_f, lg_gt, lg_eq, lg_lt]; rfl, (by exact AA_e _ _ (by omega))⟩
  · obtain ⟨k, rfl⟩ : ∃ k, K = k + 2 := ⟨K - 2, by omega⟩
    refine ⟨_, _, by simp (disch := omega) only [sp_W_told, sp_told, J_lit, J_add, J_sub, J_mul, J_neg, J_nat, J_inb, J_div, ↓reduceIte, Int.toNat_natCast, Option.bind_some, J_le_t, J_le_f, J_lt_t, J_lt_f, J_eq_t, J_eq_f, L_lit, L_add, L_sub, L_mul, L_div, JL, LJ, Int.reduceToNat, Int.toNat_zero, Int.toNat_one, xb, xm, within_t, within_f, nb_t, nb_f, ni_t, ni_f, in_t, in_f, less_, bad_0, bad_1, not_true_eq_false, not_false_eq_true, L_lt_t, L_lt_f, L_eq_t, L_eq_f, lg_gt, lg_eq, lg_lt]; rfl, by simp (disch := omega) only [sp_M_told, f_M_told, J_lit, J_add, J_sub, J_mul, J_neg, J_nat, J_inb, J_div, ↓reduceIte, Int.toNat_natCast, Option.bind_some, J_le_t, J_le_f, J_lt_t, J_lt_f, J_eq_t, J_eq_f, L_lit, L_add, L_sub, L_mul, L_div, JL, LJ, Int.reduceToNat, Int.toNat_zero, Int.toNat_one, xb, xm, within_t, within_f, nb_t, nb_f, ni_t, ni_f, in_t, in_f, less_, bad_0, bad_1, not_true_eq_false, not_false_eq_true, L_lt_t, L_lt_f, L_eq_t, L_eq_f, lg_gt, lg_eq, lg_lt]; rfl, (by exact AA_e _ _ (by omega))⟩
set_option maxHeartbeats 2000000 in
theorem pc_count (K : Nat) (p1 thr c1 c2 c3 c4 c5 c6 c7 : Int32) : ∃ oc om, sp_count K p1 c1 c2 c3 c4 c5 c6 c7 = some oc ∧ sp_M_count K p1 thr c3 c7 c1 c4 c5 c6 c2 = some om ∧ oc = om.1 := by
  unfold sp_count sp_M_count
  by_cases h0 : p1 = 0
  · simp only [if_pos h0]; exact ⟨_, _, rfl, rfl, rfl⟩
  by_cases h1 : p1 = 1
  · simp only [if_neg h0, if_pos h1]; exact ⟨_, _, rfl, rfl, rfl⟩
  by_cases h2 : p1 = 2
  · simp only [if_neg h0, if_neg h1, if_pos h2]; exact ⟨_, _, rfl, rfl, rfl⟩
  by_cases h3 : p1 = 3
  · simp only [if_neg h0, if_neg h1, if_neg h2, if_pos h3]; exact ⟨_, _, rfl, rfl, rfl⟩
  by_cases h4 : p1 = 4
  · simp only [if_neg h0, if_neg h1, if_neg h2, if_neg h3, if_pos h4]; exact ⟨_, _, rfl, rfl, rfl⟩
  by_cases h5 : p1 = 5
  · simp only [if_neg h0, if_neg h1, if_neg h2, if_neg h3, if_neg h4, if_pos h5]; exact ⟨_, _, rfl, rfl, rfl⟩
  by_cases h6 : p1 = 6
  · simp only [if_neg h0, if_neg h1, if_neg h2, if_neg h3, if_neg h4, if_neg h5, if_pos h6]; exact ⟨_, _, rfl, rfl, rfl⟩
  · simp only [if_neg h0, if_neg h1, if_neg h2, if_neg h3, if_neg h4, if_neg h5, if_neg h6]; exact ⟨_, _, rfl, rfl, rfl⟩
def acc (nr : Nat → Nat) (b : Nat) : Nat → Nat
  | 0 => b
  | i + 1 => if b.testBit i = true then acc nr b i ||| nr i else acc nr b i
set_option maxHeartbeats 2000000 in
theorem acc_mem (nr : Nat → Nat) (b j : Nat) : ∀ i, (acc nr b i).testBit j = true ↔ b.testBit j = true ∨ ∃ k, k < i ∧ b.testBit k = true ∧ (nr k).testBit j = true
  | 0 => by simp [acc]
  | i + 1 => by
    unfold acc
    have ih := acc_mem nr b j i
    split
    · next h =>
      rw [Nat.testBit_or, Bool.or_eq_true, ih]
      constructor
      · rintro ((h1 | ⟨k, h1, h2, h3⟩) | h1)
        · exact Or.inl h1
        · exact Or.inr ⟨k, by omega, h2, h3⟩
        · exact Or.inr ⟨i, by omega, h, h1⟩
      · rintro (h1 | ⟨k, h1, h2, h3⟩)
        · exact Or.inl (Or.inl h1)
        · by_cases hk : k = i
          · subst hk; exact Or.inr h3
          · exact Or.inl (Or.inr ⟨k, by omega, h2, h3⟩)
    · next h =>
      rw [ih]
      constructor
      · rintro (h1 | ⟨k, h1, h2, h3⟩)
        · exact Or.inl h1
        · exact Or.inr ⟨k, by omega, h2, h3⟩
      · rintro (h1 | ⟨k, h1, h2, h3⟩)
        · exact Or.inl h1
        · by_cases hk : k = i
          · subst hk; exact absurd h2 h
          · exact Or.inr ⟨k, by omega, h2, h3⟩
set_option maxHeartbeats 2000000 in
theorem acc_lt (nr : Nat → Nat) (b : Nat) (hb : b < 1024) (hn : ∀ s, s < 10 → nr s < 1024) : ∀ i, i ≤ 10 → acc nr b i < 1024
  | 0, _ => hb
  | i + 1, hi => by
    unfold acc
    have ih := acc_lt nr b hb hn i (by omega)
    split
    · exact Nat.or_lt_two_pow (n := 10) ih (hn i (by omega))
    · exact ih
set_option maxHeartbeats 2000000 in
theorem le_of_sub {a b : Nat} (h : ∀ j, a.testBit j = true → b.testBit j = true) : a ≤ b := by
  have : a &&& b = a := by
    apply Nat.eq_of_testBit_eq
    intro i
    rw [Nat.testBit_and]
    cases hi : a.testBit i
    · rfl
    · rw [h i hi]; rfl
  rw [← this]; exact Nat.and_le_right
set_option maxHeartbeats 2000000 in
theorem eq_of_sub {a b : Nat} (h : ∀ j, a.testBit j = true → b.testBit j = true) (h' : ∀ j, b.testBit j = true → a.testBit j = true) : a = b := Nat.le_antisymm (le_of_sub h) (le_of_sub h')
set_option maxHeartbeats 2000000 in
theorem acc_or (nr : Nat → Nat) (b i : Nat) (h : b.testBit i = true) : acc nr b i ||| nr i = acc nr b (i + 1) := by
  rw [acc, if_pos h]
set_option maxHeartbeats 2000000 in
theorem acc_no (nr : Nat → Nat) (b i : Nat) (h : ¬ b.testBit i = true) : acc nr b i = acc nr b (i + 1) := by
  rw [acc, if_neg h]
set_option maxHeartbeats 2000000 in
theorem alike_in (K : Nat) (near : Nat → Int32) (nr : Nat → Nat) (hn : ∀ s, s < 10 → nr s < 1024) (hN : ∀ s, s < 10 → near s = J (nr s)) (b : Nat) (hb : b < 1024) (n : Nat) (hnn : 30 ≤ n) : ∃ n', n ≤ n' + 22 ∧ f_M_alikeOf K near n 1 (J b, J b, J 0) = f_M_alikeOf K near n' 0 (J (acc nr b 10 : Nat), J b, J 0) := by
  obtain ⟨m, h1, h3⟩ := lpe (fun k s => f_M_alikeOf K near k 1 s) (fun i => (J (acc nr b i : Nat), J b, J i)) 2 10 (by
    intro i hi m
    refine ⟨m, by omega, ?_⟩
    by_cases hc : b.testBit i = true
    · simp (disch := omega) only [f_M_alikeOf, bitJ, hc, hN, J_or, acc_or, cast1, J_lit, J_add, J_sub, J_mul, J_neg, J_nat, J_inb, J_div, ↓reduceIte, Int.toNat_natCast, Option.bind_some, J_le_t, J_le_f, J_lt_t, J_lt_f, J_eq_t, J_eq_f, L_lit, L_add, L_sub, L_mul, L_div, JL, LJ, Int.reduceToNat, Int.toNat_zero, Int.toNat_one, xb, xm, within_t, within_f, nb_t, nb_f, ni_t, ni_f, in_t, in_f, less_, bad_0, bad_1, not_true_eq_false, not_false_eq_true, L_lt_t, L_lt_f, L_eq_t, L_eq_f, lg_gt, lg_eq, lg_lt]
    · simp (disch := omega) only [f_M_alikeOf, bitJ, hc, acc_no _ _ _ hc, cast1, Bool.false_eq_true, J_lit, J_add, J_sub, J_mul, J_neg, J_nat, J_inb, J_div, ↓reduceIte, Int.toNat_natCast, Option.bind_some, J_le_t, J_le_f, J_lt_t, J_lt_f, J_eq_t, J_eq_f, L_lit, L_add, L_sub, L_mul, L_div, JL, LJ, Int.reduceToNat, Int.toNat_zero, Int.toNat_one, xb, xm, within_t, within_f, nb_t, nb_f, ni_t, ni_f, in_t, in_f, less_, bad_0, bad_1, not_true_eq_false, not_false_eq_true, L_lt_t, L_lt_f, L_eq_t, L_eq_f, lg_gt, lg_eq, lg_lt]) n (by omega)
  refine ⟨m, by omega, ?_⟩
  refine h3.trans ?_
  simp (disch := omega) only [f_M_alikeOf, J_lit, J_add, J_sub, J_mul, J_neg, J_nat, J_inb, J_div, ↓reduceIte, Int.toNat_natCast, Option.bind_some, J_le_t, J_le_f, J_lt_t, J_lt_f, J_eq_t, J_eq_f, L_lit, L_add, L_sub, L_mul, L_div, JL, LJ, Int.reduceToNat, Int.toNat_zero, Int.toNat_one, xb, xm, within_t, within_f, nb_t, nb_f, ni_t, ni_f, in_t, in_f, less_, bad_0, bad_1, not_true_eq_false, not_false_eq_true, L_lt_t, L_lt_f, L_eq_t, L_eq_f, lg_gt, lg_eq, lg_lt]
set_option maxHeartbeats 2000000 in
theorem alike_out (K : Nat) (near : Nat → Int32) (nr al : Nat → Nat) (hA : AL nr al) (hN : ∀ s, s < 10 → near s = J (nr s)) (s : Nat) (hs : s < 10) : ∀ (d b h : Nat), 1023 - b ≤ d → b < 1024 → h < 1024 → b ≠ h → b.testBit s = true → (∀ j, b.testBit j = true → (al s).testBit j = true) → ∀ n, 40 * (d + 2) ≤ n → ∃ x, f_M_alikeOf K near n 0 (J b, J h, J 0) = some (J (al s)) ∧ x = 0
  | d, b, h, hd, hb, hh, hne, h1, h2, n, hn => by
    obtain ⟨n, rfl⟩ : ∃ k, n = k + 1 := ⟨n - 1, by omega⟩
    refine ⟨0, ?_, rfl⟩
    obtain ⟨hA1, hA2⟩ := hA
    obtain ⟨a1, a2, a3, a4⟩ := hA2 s hs
    obtain ⟨n', e1, e2⟩ := alike_in K near nr hA1 hN b hb n (by omega)
    have e0 : f_M_alikeOf K near (n + 1) 0 (J b, J h, J 0) = f_M_alikeOf K near n 1 (J b, J b, J 0) := by
      simp (disch := omega) only [f_M_alikeOf, J_lit, J_add, J_sub, J_mul, J_neg, J_nat, J_inb, J_div, ↓reduceIte, Int.toNat_natCast, Option.bind_some, J_le_t, J_le_f, J_lt_t, J_lt_f, J_eq_t, J_eq_f, L_lit, L_add, L_sub, L_mul, L_div, JL, LJ, Int.reduceToNat, Int.toNat_zero, Int.toNat_one, xb, xm, within_t, within_f, nb_t, nb_f, ni_t, ni_f, in_t, in_f, less_, bad_0, bad_1, not_true_eq_false, not_false_eq_true, L_lt_t, L_lt_f, L_eq_t, L_eq_f, lg_gt, lg_eq, lg_lt]
    rw [e0, e2]
    have hlt := acc_lt nr b hb hA1 10 (by omega)
    have hsub : ∀ j, (acc nr b 10).testBit j = true → (al s).testBit j = true := by
      intro j hj
      rcases (acc_mem nr b j 10).mp hj with h | ⟨k, hk, h3, h4⟩
      · exact h2 j h
      · exact a3 k hk (h2 k h3) j h4
    have hsup : ∀ j, b.testBit j = true → (acc nr b 10).testBit j = true := fun j hj => (acc_mem nr b j 10).mpr (Or.inl hj)
    by_cases hc : acc nr b 10 = b
    · have hcl : closed nr b := by
        intro k hk h3 j h4
        rw [← hc]
        exact (acc_mem nr b j 10).mpr (Or.inr ⟨k, hk, h3, h4⟩)
      have : al s = b := eq_of_sub (a4 b hcl h1) h2
      obtain ⟨m, rfl⟩ : ∃ k, n' = k + 1 := ⟨n' - 1, by omega⟩
      rw [hc, this]
      simp (disch := omega) only [f_M_alikeOf, J_lit, J_add, J_sub, J_mul, J_neg, J_nat, J_inb, J_div, ↓reduceIte, Int.toNat_natCast, Option.bind_some, J_le_t, J_le_f, J_lt_t, J_lt_f, J_eq_t, J_eq_f, L_lit, L_add, L_sub, L_mul, L_div, JL, LJ, Int.reduceToNat, Int.toNat_zero, Int.toNat_one, xb, xm, within_t, within_f, nb_t, nb_f, ni_t, ni_f, in_t, in_f, less_, bad_0, bad_1, not_true_eq_false, not_false_eq_true, L_lt_t, L_lt_f, L_eq_t, L_eq_f, lg_gt, lg_eq, lg_lt]
    · have hle := le_of_sub hsup
      match d, hd with
      | 0, hd => omega
      | d + 1, hd =>
        obtain ⟨_, e3, _⟩ := alike_out K near nr al ⟨hA1, hA2⟩ hN s hs d (acc nr b 10) b (by omega) hlt hb hc (hsup s h1) hsub n' (by omega)
        exact e3
set_option maxHeartbeats 2000000 in
theorem p_M_alikeOf (K : Nat) (hK : 1000000 ≤ K) (near : Nat → Int32) (nr al : Nat → Nat) (hA : AL nr al) (hN : ∀ s, s < 10 → near s = J (nr s)) (s : Nat) (hs : s < 10) : sp_M_alikeOf K (J s) near = some (J (al s)) := by
  unfold sp_M_alikeOf
  obtain ⟨hA1, hA2⟩ := hA
  obtain ⟨a1, a2, a3, a4⟩ := hA2 s hs
  have hp : 2 ^ s < 2 ^ 10 := Nat.pow_lt_pow_right (by omega) hs
  have hp0 : 0 < 2 ^ s := Nat.two_pow_pos s
  obtain ⟨_, e, _⟩ := alike_out K near nr al ⟨hA1, hA2⟩ hN s hs 1023 (2 ^ s) 0 (by omega) (by omega) (by omega) (by omega) (by simp) (by
    intro j hj
    rw [Nat.testBit_two_pow] at hj
    simp at hj; subst hj; exact a2) K (by omega)
  rw [← e]
  simp (disch := omega) only [shlJ, J_lit, J_add, J_sub, J_mul, J_neg, J_nat, J_inb, J_div, ↓reduceIte, Int.toNat_natCast, Option.bind_some, J_le_t, J_le_f, J_lt_t, J_lt_f, J_eq_t, J_eq_f, L_lit, L_add, L_sub, L_mul, L_div, JL, LJ, Int.reduceToNat, Int.toNat_zero, Int.toNat_one, xb, xm, within_t, within_f, nb_t, nb_f, ni_t, ni_f, in_t, in_f, less_, bad_0, bad_1, not_true_eq_false, not_false_eq_true, L_lt_t, L_lt_f, L_eq_t, L_eq_f, lg_gt, lg_eq, lg_lt]
  rfl
set_option maxHeartbeats 2000000 in
theorem pc_alike (K : Nat) (hK : 1000000 ≤ K) (p1 thr : Int32) {l : LA} {nr : Nat → Nat} {c1 c2 c3 c4 : Nat → Int32} {c5 c6 c7 : Int32} {m1 : Nat → Nat → Int32} {m2 m3 m4 : Nat → Int32} {m5 m6 m7 : Int32} (hl : LOK l) (R : LC l c1 c2 c3 c4 c5 c6 c7) (Q : LM l nr m1 m2 m3 m4 m5 m6 m7) (o : Nat → Int64) : ∃ oc om, sp_W_alike K p1 c4 o = some oc ∧ sp_M_alike K p1 thr m4 = some om ∧ AA oc.1 oc.2 om.1 om.2 := by
  obtain ⟨a, rfl, ha⟩ := ex_J p1
  by_cases h : 0 ≤ a ∧ a < 10
  · obtain ⟨s, rfl⟩ : ∃ x : Nat, a = x := ⟨a.toNat, by omega⟩
    have e := alikeWith_t K (s := s) (by omega) c4
    have r1 := R.2.2.2.1 s (by omega)
    have r3 := hl.2.2.2.1 s (by omega)
    have e2 := p_M_alikeOf K hK m4 nr (lal l) Q.2.2.2.2.2.2.2 Q.2.2.2.1 s (by omega)
    obtain ⟨k, rfl⟩ : ∃ k, K = k + 1 := ⟨K - 1, by omega⟩
    refine ⟨_, _, by simp (disch := omega) only [sp_W_alike, sp_alike, e, r1, J_lit, J_add, J_sub, J_mul, J_neg, J_nat, J_inb, J_div, ↓reduceIte, Int.toNat_natCast, Option.bind_some, J_le_t, J_le_f, J_lt_t, J_lt_f, J_eq_t, J_eq_f, L_lit, L_add, L_sub, L_mul, L_div, JL, LJ, Int.reduceToNat, Int.toNat_zero, Int.toNat_one, xb, xm, within_t, within_f, nb_t, nb_f, ni_t, ni_f, in_t, in_f, less_, bad_0, bad_1, not_true_eq_false, not_false_eq_true, L_lt_t, L_lt_f, L_eq_t, L_eq_f, lg_gt, lg_eq, lg_lt]; rfl, by simp (disch := omega) only [sp_M_alike, f_M_alike, e2, J_lit, J_add, J_sub, J_mul, J_neg, J_nat, J_inb, J_div, ↓reduceIte, Int.toNat_natCast, Option.bind_some, J_le_t, J_le_f, J_lt_t, J_lt_f, J_eq_t, J_eq_f, L_lit, L_add, L_sub, L_mul, L_div, JL, LJ, Int.reduceToNat, Int.toNat_zero, Int.toNat_one, xb, xm, within_t, within_f, nb_t, nb_f, ni_t, ni_f, in_t, in_f, less_, bad_0, bad_1, not_true_eq_false, not_false_eq_true, L_lt_t, L_lt_f, L_eq_t, L_eq_f, lg_gt, lg_eq, lg_lt]; rfl, (by first | exact AA_0 _ _ | exact AA_L _ (by omega))⟩
  · obtain ⟨k, rfl⟩ : ∃ k, K = k + 1 := ⟨K - 1, by omega⟩
    refine ⟨_, _, by simp (disch := omega) only [sp_W_alike, sp_alike, J_lit, J_add, J_sub, J_mul, J_neg, J_nat, J_inb, J_div, ↓reduceIte, Int.toNat_natCast, Option.bind_some, J_le_t, J_le_f, J_lt_t, J_lt_f, J_eq_t, J_eq_f, L_lit, L_add, L_sub, L_mul, L_div, JL, LJ, Int.reduceToNat, Int.toNat_zero, Int.toNat_one, xb, xm, within_t, within_f, nb_t, nb_f, ni_t, ni_f, in_t, in_f, less_, bad_0, bad_1, not_true_eq_false, not_false_eq_true, L_lt_t, L_lt_f, L_eq_t, L_eq_f, lg_gt, lg_eq, lg_lt]; rfl, by simp (disch := omega) only [sp_M_alike, f_M_alike, J_lit, J_add, J_sub, J_mul, J_neg, J_nat, J_inb, J_div, ↓reduceIte, Int.toNat_natCast, Option.bind_some, J_le_t, J_le_f, J_lt_t, J_lt_f, J_eq_t, J_eq_f, L_lit, L_add, L_sub, L_mul, L_div, JL, LJ, Int.reduceToNat, Int.toNat_zero, Int.toNat_one, xb, xm, within_t, within_f, nb_t, nb_f, ni_t, ni_f, in_t, in_f, less_, bad_0, bad_1, not_true_eq_false, not_false_eq_true, L_lt_t, L_lt_f, L_eq_t, L_eq_f, lg_gt, lg_eq, lg_lt]; rfl, (by exact AA_e _ _ (by omega))⟩
set_option maxHeartbeats 2000000 in
theorem minJ {a b : Int} (ha : -2147483648 ≤ a ∧ a < 2147483648) (hb : -2147483648 ≤ b ∧ b < 2147483648) : (if J a < J b then J a else J b) = J (min a b) := by
  by_cases h : a < b
  · rw [if_pos (by rw [J_lt ha hb]; exact h)]; exact J_cong (by omega)
  · rw [if_neg (by rw [J_lt ha hb]; exact h)]; exact J_cong (by omega)
abbrev RS : Type := (Nat → Nat → Nat) × (Nat → Int)
def shd (l : LA) (w : Int) (s : Nat) : Nat := if w < 0 then 0 else lsh l w.toNat s
def touchA (l : LA) (st : RS) (a b : Nat) : RS := (fun p s => if p = a then min 9999 (st.1 a s - st.1 a s * lpa l / 16 + st.1 b s * lpa l / 16 + shd l (st.2 b) s) else if p = b then min 9999 (st.1 b s - st.1 b s * lpa l / 16 + st.1 a s * lpa l / 16 + shd l (st.2 a) s) else st.1 p s, st.2)
def keepA (st : RS) (a n : Nat) : RS := (fun p s => if p = a then st.1 a s * n / 16 else st.1 p s, st.2)
def loseA (l : LA) (st : RS) : RS := (fun p s => st.1 p s * lho l s / 16, st.2)
def evA (l : LA) (st : RS) (e : Nat → Nat) : RS := if e 0 = 0 then (st.1, va_up st.2 (e 1) (e 2 : Int)) else if e 0 = 1 then (st.1, va_up st.2 (e 1) (-1)) else if e 0 = 2 then touchA l st (e 1) (e 2) else if e 0 = 3 then keepA st (e 1) (lwa l) else keepA st (e 1) (e 2)
def RSOK (st : RS) : Prop := (∀ p, p < 10 → ∀ s, s < 10 → st.1 p s ≤ 9999) ∧ ∀ p, p < 10 → -1 ≤ st.2 p ∧ st.2 p ≤ 7
def EOK (e : Nat → Nat) : Prop := e 0 ≤ 4 ∧ e 1 < 10 ∧ (e 0 = 0 → e 2 < 8) ∧ (e 0 = 2 → e 2 < 10 ∧ e 2 ≠ e 1) ∧ e 2 ≤ 16 ∧ e 3 < 100
set_option maxHeartbeats 2000000 in
theorem shd_le {l : LA} (hl : LOK l) {w : Int} (hw : -1 ≤ w ∧ w ≤ 7) {s : Nat} (hs : s < 10) : shd l w s ≤ 200 := by
  unfold shd; split
  · omega
  · exact hl.1 _ (by omega) s hs
set_option maxHeartbeats 2000000 in
theorem mul16 (x n : Nat) (hn : n ≤ 16) : x * n / 16 ≤ x := by
  have := Nat.mul_le_mul_left x hn
  omega
set_option maxHeartbeats 2000000 in
theorem touch_ok {l : LA} {st : RS} (h : RSOK st) (a b : Nat) : RSOK (touchA l st a b) := by
  refine ⟨fun p hp s hs => ?_, h.2⟩
  unfold touchA
  dsimp only
  split
  · omega
  · split
    · omega
    · exact h.1 p hp s hs
set_option maxHeartbeats 2000000 in
theorem keep_ok {st : RS} (h : RSOK st) {a n : Nat} (ha : a < 10) (hn : n ≤ 16) : RSOK (keepA st a n) := by
  refine ⟨fun p hp s hs => ?_, h.2⟩
  unfold keepA
  dsimp only
  split
  · exact Nat.le_trans (mul16 _ _ hn) (h.1 a ha s hs)
  · exact h.1 p hp s hs
set_option maxHeartbeats 2000000 in
theorem lose_ok {l : LA} (hl : LOK l) {st : RS} (h : RSOK st) : RSOK (loseA l st) := by
  refine ⟨fun p hp s hs => ?_, h.2⟩
  exact Nat.le_trans (mul16 _ _ (hl.2.1 s hs)) (h.1 p hp s hs)
set_option maxHeartbeats 2000000 in
theorem ev_ok {l : LA} (hl : LOK l) {st : RS} (h : RSOK st) {e : Nat → Nat} (he : EOK e) : RSOK (evA l st e) := by
  unfold evA
  obtain ⟨e1, e2, e3, e4, e5, e6⟩ := he
  split
  · refine ⟨h.1, fun p hp => ?_⟩
    have := h.2 p hp
    dsimp only
    unfold va_up; split <;> omega
  · split
    · refine ⟨h.1, fun p hp => ?_⟩
      have := h.2 p hp
      dsimp only
      unfold va_up; split <;> omega
    · split
      · exact touch_ok h _ _
      · split
        · exact keep_ok h e2 hl.2.2.2.2.1
        · exact keep_ok h e2 e5
def RC (st : RS) (ly wo : Nat → Int32) (ld : Int32) : Prop := (∀ p, p < 10 → ∀ s, s < 10 → ly (p * 10 + s) = J (st.1 p s)) ∧ (∀ p, p < 10 → wo p = J (st.2 p)) ∧ ∃ d : Nat, d < 1024 ∧ ld = J d ∧ ∀ p, p < 10 → d.testBit p = false → ∀ s, s < 10 → st.1 p s = 0
set_option maxHeartbeats 2000000 in
theorem shedBy_ (K : Nat) (hK : 1000 ≤ K) {l : LA} {w : Int} (hw : -1 ≤ w ∧ w ≤ 7) {s : Nat} (hs : s < 10) {A : Nat → Int32} (hA : ∀ g, g < 8 → ∀ s, s < 10 → A (g * 10 + s) = J (lsh l g s)) : sp_Law_shedBy K (J w) (J s) A = some (J (shd l w s)) := by
  unfold shd
  by_cases h : w < 0
  · obtain rfl : w = -1 := by omega
    rw [if_pos h, shedBy_n K hK]; rfl
  · rw [if_neg h]
    obtain ⟨g, rfl⟩ : ∃ g : Nat, w = g := ⟨w.toNat, by omega⟩
    rw [shedBy_t K hK (by omega) hs, hA g (by omega) s hs, Int.toNat_natCast]
set_option maxHeartbeats 2000000 in
theorem cellN (x q r h : Nat) (hq : q / 16 ≤ x) : min (9999 : Int) ((x : Int) - (q : Int) / 16 + ((r : Int) / 16 + (h : Int))) = ((min 9999 (x - q / 16 + r / 16 + h) : Nat) : Int) := by
  have e1 : (q : Int) / 16 = ((q / 16 : Nat) : Int) := by omega
  have e2 : (r : Int) / 16 = ((r / 16 : Nat) : Int) := by omega
  rw [e1, e2]
  generalize q / 16 = u at *
  generalize r / 16 = v at *
  rcases Nat.le_total 9999 (x - u + v + h) with h1 | h1
  · rw [Nat.min_eq_left h1, Int.min_eq_left (by omega)]; rfl
  · rw [Nat.min_eq_right h1, Int.min_eq_right (by omega)]; omega
set_option maxHeartbeats 2000000 in
theorem p_touch (K : Nat) (hK : 1000 ≤ K) {l : LA} (hl : LOK l) {c1 : Nat → Int32} {c6 : Int32} (hA : ∀ g, g < 8 → ∀ s, s < 10 → c1 (g * 10 + s) = J (lsh l g s)) (h6 : c6 = J (lpa l)) {st : RS} (hst : RSOK st) {ly wo : Nat → Int32} {ld : Int32} (R : RC st ly wo ld) {a b : Nat} (ha : a < 10) (hb : b < 10) (hab : b ≠ a) : ∃ ly' ld', sp_Run_touch K (J a) (J b) ly wo ld c1 c6 = some (ly', ld') ∧ RC (touchA l st a b) ly' wo ld' := by
  obtain ⟨R1, R2, d, hd, rfl, R3⟩ := R
  subst h6
  have hpa := hl.2.2.2.2.2.1
  have w1 := hst.2 a ha
  have w2 := hst.2 b hb
  obtain ⟨n, s, g1, ⟨G, rfl, hG⟩, g3⟩ := lp (fun k s => f_Run_touch K wo c1 (J (lpa l)) k 0 s) (fun i s => ∃ G, s = (J a, J b, J i, G, J d) ∧ ∀ p, p < 10 → ∀ s, s < 10 → G (p * 10 + s) = J (if s < i then (touchA l st a b).1 p s else st.1 p s)) 1 10 (by
    rintro i hi s ⟨G, rfl, hG⟩ n
    have ga := hG a ha i hi
    have gb := hG b hb i hi
    rw [if_neg (by omega)] at ga gb
    have sa := shedBy_ K hK w1 hi hA
    have sb := shedBy_ K hK w2 hi hA
    have sal := shd_le hl w1 hi
    have sbl := shd_le hl w2 hi
    have xl := hst.1 a ha i hi
    have yl := hst.1 b hb i hi
    have xp : (st.1 a i : Int) * (lpa l : Int) = ((st.1 a i * lpa l : Nat) : Int) := (Int.natCast_mul _ _).symm
    have yp : (st.1 b i : Int) * (lpa l : Int) = ((st.1 b i * lpa l : Nat) : Int) := (Int.natCast_mul _ _).symm
    have xq := Nat.mul_le_mul xl hpa
    have yq := Nat.mul_le_mul yl hpa
    have ea : (a : Int) * 10 + (i : Int) = ((a * 10 + i : Nat) : Int) := by omega
    have eb : (b : Int) * 10 + (i : Int) = ((b * 10 + i : Nat) : Int) := by omega
    refine ⟨n, _, by omega, ⟨_, rfl, ?_⟩, by simp (disch := omega) only [f_Run_touch, ea, eb, ga, gb, R2 a ha, R2 b hb, sa, sb, xp, yp, minJ, cast1, J_lit, J_add, J_sub, J_mul, J_neg, J_nat, J_inb, J_div, ↓reduceIte, Int.toNat_natCast, Option.bind_some, J_le_t, J_le_f, J_lt_t, J_lt_f, J_eq_t, J_eq_f, L_lit, L_add, L_sub, L_mul, L_div, JL, LJ, Int.reduceToNat, Int.toNat_zero, Int.toNat_one, xb, xm, within_t, within_f, nb_t, nb_f, ni_t, ni_f, in_t, in_f, less_, bad_0, bad_1, not_true_eq_false, not_false_eq_true, L_lt_t, L_lt_f, L_eq_t, L_eq_f, lg_gt, lg_eq, lg_lt]; rfl⟩
    intro p hp s hs
    unfold upd
    by_cases hsi : s = i
    · subst hsi
      rw [if_pos (show s < s + 1 by omega)]
      unfold touchA
      dsimp only
      by_cases hpb : p = b
      · subst hpb
        rw [if_pos rfl, if_neg hab, if_pos rfl]
        exact J_cong (cellN _ _ _ _ (mul16 _ _ (by omega)))
      · rw [if_neg (by omega)]
        by_cases hpa : p = a
        · subst hpa
          rw [if_pos rfl, if_pos rfl]
          exact J_cong (cellN _ _ _ _ (mul16 _ _ (by omega)))
        · rw [if_neg (by omega), if_neg hpa, if_neg hpb]
          have := hG p hp s hs
          rw [if_neg (by omega)] at this
          exact this
    · rw [if_neg (by omega), if_neg (by omega), hG p hp s hs]
      by_cases hlt : s < i
      · rw [if_pos hlt, if_pos (by omega)]
      · rw [if_neg hlt, if_neg (by omega)]) (J a, J b, J 0, ly, J d) ⟨ly, rfl, fun p hp s hs => by rw [if_neg (by omega)]; exact R1 p hp s hs⟩ K (by omega)
  obtain ⟨n, rfl⟩ : ∃ k, n = k + 1 := ⟨n - 1, by omega⟩
  have hor : 2 ^ a ||| 2 ^ b < 2 ^ 10 := Nat.or_lt_two_pow (Nat.pow_lt_pow_right (by omega) ha) (Nat.pow_lt_pow_right (by omega) hb)
  have hor2 : d ||| (2 ^ a ||| 2 ^ b) < 2 ^ 10 := Nat.or_lt_two_pow hd hor
  refine ⟨G, J (d ||| (2 ^ a ||| 2 ^ b) : Nat), ?_, fun p hp s hs => ?_, R2, d ||| (2 ^ a ||| 2 ^ b), hor2, rfl, fun p hp hbit s hs => ?_⟩
  · have : sp_Run_touch K (J a) (J b) ly wo (J d) c1 (J (lpa l)) = f_Run_touch K wo c1 (J (lpa l)) K 0 (J a, J b, J 0, ly, J d) := by
      simp (disch := omega) only [sp_Run_touch, J_lit, J_add, J_sub, J_mul, J_neg, J_nat, J_inb, J_div, ↓reduceIte, Int.toNat_natCast, Option.bind_some, J_le_t, J_le_f, J_lt_t, J_lt_f, J_eq_t, J_eq_f, L_lit, L_add, L_sub, L_mul, L_div, JL, LJ, Int.reduceToNat, Int.toNat_zero, Int.toNat_one, xb, xm, within_t, within_f, nb_t, nb_f, ni_t, ni_f, in_t, in_f, less_, bad_0, bad_1, not_true_eq_false, not_false_eq_true, L_lt_t, L_lt_f, L_eq_t, L_eq_f, lg_gt, lg_eq, lg_lt]
    rw [this, g3]
    simp (disch := omega) only [f_Run_touch, shlJ, J_or, J_lit, J_add, J_sub, J_mul, J_neg, J_nat, J_inb, J_div, ↓reduceIte, Int.toNat_natCast, Option.bind_some, J_le_t, J_le_f, J_lt_t, J_lt_f, J_eq_t, J_eq_f, L_lit, L_add, L_sub, L_mul, L_div, JL, LJ, Int.reduceToNat, Int.toNat_zero, Int.toNat_one, xb, xm, within_t, within_f, nb_t, nb_f, ni_t, ni_f, in_t, in_f, less_, bad_0, bad_1, not_true_eq_false, not_false_eq_true, L_lt_t, L_lt_f, L_eq_t, L_eq_f, lg_gt, lg_eq, lg_lt]
  · have := hG p hp s hs
    rw [if_pos hs] at this
    exact this
  · rw [Nat.testBit_or, Nat.testBit_or, Nat.testBit_two_pow, Nat.testBit_two_pow] at hbit
    simp at hbit
    unfold touchA
    dsimp only
    rw [if_neg (by omega), if_neg (by omega)]
    exact R3 p hp hbit.1 s hs
set_option maxHeartbeats 2000000 in
theorem p_keep (K : Nat) (hK : 1000 ≤ K) {st : RS} (hst : RSOK st) {ly wo : Nat → Int32} {ld : Int32} (R : RC st ly wo ld) {a q : Nat} (ha : a < 10) (hq : q ≤ 16) : ∃ ly', sp_Run_keep K (J a) (J q) ly = some ly' ∧ RC (keepA st a q) ly' wo ld := by
  obtain ⟨R1, R2, d, hd, rfl, R3⟩ := R
  obtain ⟨n, s, g1, ⟨G, rfl, hG⟩, g3⟩ := lp (fun k s => f_Run_keep K k 0 s) (fun i s => ∃ G, s = (J a, J q, J i, G) ∧ ∀ p, p < 10 → ∀ s, s < 10 → G (p * 10 + s) = J (if s < i then (keepA st a q).1 p s else st.1 p s)) 1 10 (by
    rintro i hi s ⟨G, rfl, hG⟩ n
    have ga := hG a ha i hi
    rw [if_neg (by omega)] at ga
    have xl := hst.1 a ha i hi
    have xp : (st.1 a i : Int) * (q : Int) = ((st.1 a i * q : Nat) : Int) := (Int.natCast_mul _ _).symm
    have xq := Nat.mul_le_mul xl hq
    have ea : (a : Int) * 10 + (i : Int) = ((a * 10 + i : Nat) : Int) := by omega
    refine ⟨n, _, by omega, ⟨_, rfl, ?_⟩, by simp (disch := omega) only [f_Run_keep, ea, ga, xp, cast1, J_lit, J_add, J_sub, J_mul, J_neg, J_nat, J_inb, J_div, ↓reduceIte, Int.toNat_natCast, Option.bind_some, J_le_t, J_le_f, J_lt_t, J_lt_f, J_eq_t, J_eq_f, L_lit, L_add, L_sub, L_mul, L_div, JL, LJ, Int.reduceToNat, Int.toNat_zero, Int.toNat_one, xb, xm, within_t, within_f, nb_t, nb_f, ni_t, ni_f, in_t, in_f, less_, bad_0, bad_1, not_true_eq_false, not_false_eq_true, L_lt_t, L_lt_f, L_eq_t, L_eq_f, lg_gt, lg_eq, lg_lt]; rfl⟩
    intro p hp s hs
    unfold upd
    by_cases hsi : s = i
    · subst hsi
      rw [if_pos (show s < s + 1 by omega)]
      unfold keepA
      dsimp only
      by_cases hpa : p = a
      · subst hpa
        rw [if_pos rfl, if_pos rfl]
        exact J_cong (by omega)
      · rw [if_neg (by omega), if_neg hpa]
        have := hG p hp s hs
        rw [if_neg (by omega)] at this
        exact this
    · rw [if_neg (by omega), hG p hp s hs]
      by_cases hlt : s < i
      · rw [if_pos hlt, if_pos (by omega)]
      · rw [if_neg hlt, if_neg (by omega)]) (J a, J q, J 0, ly) ⟨ly, rfl, fun p hp s hs => by rw [if_neg (by omega)]; exact R1 p hp s hs⟩ K (by omega)
  obtain ⟨n, rfl⟩ : ∃ k, n = k + 1 := ⟨n - 1, by omega⟩
  refine ⟨G, ?_, fun p hp s hs => ?_, R2, d, hd, rfl, fun p hp hbit s hs => ?_⟩
  · refine g3.trans ?_
    simp (disch := omega) only [f_Run_keep, J_lit, J_add, J_sub, J_mul, J_neg, J_nat, J_inb, J_div, ↓reduceIte, Int.toNat_natCast, Option.bind_some, J_le_t, J_le_f, J_lt_t, J_lt_f, J_eq_t, J_eq_f, L_lit, L_add, L_sub, L_mul, L_div, JL, LJ, Int.reduceToNat, Int.toNat_zero, Int.toNat_one, xb, xm, within_t, within_f, nb_t, nb_f, ni_t, ni_f, in_t, in_f, less_, bad_0, bad_1, not_true_eq_false, not_false_eq_true, L_lt_t, L_lt_f, L_eq_t, L_eq_f, lg_gt, lg_eq, lg_lt]
  · have := hG p hp s hs
    rw [if_pos hs] at this
    exact this
  · unfold keepA
    dsimp only
    split
    · next h => subst h; rw [R3 p hp hbit s hs]; omega
    · exact R3 p hp hbit s hs
set_option maxHeartbeats 2000000 in
theorem p_lose (K : Nat) (hK : 1000 ≤ K) {l : LA} (hl : LOK l) {c2 : Nat → Int32} (h2 : ∀ s, s < 10 → c2 s = J (lho l s)) {st : RS} (hst : RSOK st) {ly wo : Nat → Int32} {ld : Int32} (R : RC st ly wo ld) : ∃ ly', sp_Run_loseByHour K ly ld c2 = some ly' ∧ RC (loseA l st) ly' wo ld := by
  obtain ⟨R1, R2, d, hd, rfl, R3⟩ := R
  obtain ⟨n, s, g1, ⟨G, rfl, hG⟩, g3⟩ := lp (fun k s => f_Run_loseByHour K (J d) c2 k 0 s) (fun i s => ∃ G, s = (J i, J 0, G) ∧ ∀ p, p < 10 → ∀ s, s < 10 → G (p * 10 + s) = J (if p < i then (loseA l st).1 p s else st.1 p s)) 23 10 (by
    rintro i hi s ⟨G, rfl, hG⟩ n
    by_cases hb : d.testBit i = true
    · obtain ⟨n2, s2, k1, ⟨H, rfl, hH⟩, k3⟩ := lp (fun k s => f_Run_loseByHour K (J d) c2 k 1 s) (fun j s => ∃ H, s = (J i, J j, H) ∧ ∀ p, p < 10 → ∀ s, s < 10 → H (p * 10 + s) = J (if p < i ∨ p = i ∧ s < j then (loseA l st).1 p s else st.1 p s)) 2 10 (by
        rintro j hj s ⟨H, rfl, hH⟩ n
        have ga := hH i hi j hj
        rw [if_neg (by omega)] at ga
        have xl := hst.1 i hi j hj
        have hq := hl.2.1 j hj
        have xp : (st.1 i j : Int) * (lho l j : Int) = ((st.1 i j * lho l j : Nat) : Int) := (Int.natCast_mul _ _).symm
        have xq := Nat.mul_le_mul xl hq
        have ea : (i : Int) * 10 + (j : Int) = ((i * 10 + j : Nat) : Int) := by omega
        have eh := holdOf_t K hj c2
        rw [h2 j hj] at eh
        by_cases h0 : st.1 i j = 0
        · refine ⟨n, _, by omega, ⟨H, rfl, ?_⟩, by simp (disch := omega) only [f_Run_loseByHour, ea, ga, h0, Int.natCast_zero, cast1, J_lit, J_add, J_sub, J_mul, J_neg, J_nat, J_inb, J_div, ↓reduceIte, Int.toNat_natCast, Option.bind_some, J_le_t, J_le_f, J_lt_t, J_lt_f, J_eq_t, J_eq_f, L_lit, L_add, L_sub, L_mul, L_div, JL, LJ, Int.reduceToNat, Int.toNat_zero, Int.toNat_one, xb, xm, within_t, within_f, nb_t, nb_f, ni_t, ni_f, in_t, in_f, less_, bad_0, bad_1, not_true_eq_false, not_false_eq_true, L_lt_t, L_lt_f, L_eq_t, L_eq_f, lg_gt, lg_eq, lg_lt]⟩
          intro p hp s hs
          by_cases hps : p = i ∧ s = j
          · obtain ⟨rfl, rfl⟩ := hps
            rw [if_pos (by omega), ga, h0]
            show J 0 = J ((st.1 p s * lho l s / 16 : Nat) : Int)
            rw [h0]; simp
          · rw [hH p hp s hs]
            by_cases hc : p < i ∨ p = i ∧ s < j
            · rw [if_pos hc, if_pos (by omega)]
            · rw [if_neg hc, if_neg (by omega)]
        · refine ⟨n, _, by omega, ⟨_, rfl, ?_⟩, by simp (disch := omega) only [f_Run_loseByHour, ea, ga, eh, xp, cast1, J_lit, J_add, J_sub, J_mul, J_neg, J_nat, J_inb, J_div, ↓reduceIte, Int.toNat_natCast, Option.bind_some, J_le_t, J_le_f, J_lt_t, J_lt_f, J_eq_t, J_eq_f, L_lit, L_add, L_sub, L_mul, L_div, JL, LJ, Int.reduceToNat, Int.toNat_zero, Int.toNat_one, xb, xm, within_t, within_f, nb_t, nb_f, ni_t, ni_f, in_t, in_f, less_, bad_0, bad_1, not_true_eq_false, not_false_eq_true, L_lt_t, L_lt_f, L_eq_t, L_eq_f, lg_gt, lg_eq, lg_lt]; rfl⟩
          intro p hp s hs
          unfold upd
          by_cases hps : p = i ∧ s = j
          · obtain ⟨rfl, rfl⟩ := hps
            rw [if_pos rfl, if_pos (by omega)]
            show _ = J ((st.1 p s * lho l s / 16 : Nat) : Int)
            exact J_cong (by omega)
          · rw [if_neg (by omega), hH p hp s hs]
            by_cases hc : p < i ∨ p = i ∧ s < j
            · rw [if_pos hc, if_pos (by omega)]
            · rw [if_neg hc, if_neg (by omega)]) (J i, J 0, G) ⟨G, rfl, fun p hp s hs => by
              rw [hG p hp s hs]
              by_cases hc : p < i
              · rw [if_pos hc, if_pos (by omega)]
              · rw [if_neg hc, if_neg (by omega)]⟩ (n + 22) (by omega)
      obtain ⟨n2, rfl⟩ : ∃ k, n2 = k + 2 := ⟨n2 - 2, by omega⟩
      refine ⟨n2, _, by omega, ⟨H, rfl, ?_⟩, ?_⟩
      · intro p hp s hs
        rw [hH p hp s hs]
        by_cases hc : p < i ∨ p = i ∧ s < 10
        · rw [if_pos hc, if_pos (by omega)]
        · rw [if_neg hc, if_neg (by omega)]
      · have : f_Run_loseByHour K (J d) c2 (n + 23) 0 (J i, J 0, G) = f_Run_loseByHour K (J d) c2 (n + 22) 1 (J i, J 0, G) := by
          rw [f_Run_loseByHour]
          simp (disch := omega) only [bitJ, hb, J_lit, J_add, J_sub, J_mul, J_neg, J_nat, J_inb, J_div, ↓reduceIte, Int.toNat_natCast, Option.bind_some, J_le_t, J_le_f, J_lt_t, J_lt_f, J_eq_t, J_eq_f, L_lit, L_add, L_sub, L_mul, L_div, JL, LJ, Int.reduceToNat, Int.toNat_zero, Int.toNat_one, xb, xm, within_t, within_f, nb_t, nb_f, ni_t, ni_f, in_t, in_f, less_, bad_0, bad_1, not_true_eq_false, not_false_eq_true, L_lt_t, L_lt_f, L_eq_t, L_eq_f, lg_gt, lg_eq, lg_lt]
        rw [this, k3]
        simp (disch := omega) only [f_Run_loseByHour, cast1, J_lit, J_add, J_sub, J_mul, J_neg, J_nat, J_inb, J_div, ↓reduceIte, Int.toNat_natCast, Option.bind_some, J_le_t, J_le_f, J_lt_t, J_lt_f, J_eq_t, J_eq_f, L_lit, L_add, L_sub, L_mul, L_div, JL, LJ, Int.reduceToNat, Int.toNat_zero, Int.toNat_one, xb, xm, within_t, within_f, nb_t, nb_f, ni_t, ni_f, in_t, in_f, less_, bad_0, bad_1, not_true_eq_false, not_false_eq_true, L_lt_t, L_lt_f, L_eq_t, L_eq_f, lg_gt, lg_eq, lg_lt]
    · refine ⟨n + 21, _, by omega, ⟨G, rfl, ?_⟩, ?_⟩
      · intro p hp s hs
        rw [hG p hp s hs]
        by_cases hpi : p = i
        · subst hpi
          rw [if_neg (by omega), if_pos (by omega)]
          show _ = J ((st.1 p s * lho l s / 16 : Nat) : Int)
          rw [R3 p hp (by simpa using hb) s hs]; simp
        · by_cases hc : p < i
          · rw [if_pos hc, if_pos (by omega)]
          · rw [if_neg hc, if_neg (by omega)]
      · have e1 : f_Run_loseByHour K (J d) c2 (n + 23) 0 (J i, J 0, G) = f_Run_loseByHour K (J d) c2 (n + 22) 3 (J i, J 0, G) := by
          rw [f_Run_loseByHour]
          simp (disch := omega) only [bitJ, hb, Bool.false_eq_true, J_lit, J_add, J_sub, J_mul, J_neg, J_nat, J_inb, J_div, ↓reduceIte, Int.toNat_natCast, Option.bind_some, J_le_t, J_le_f, J_lt_t, J_lt_f, J_eq_t, J_eq_f, L_lit, L_add, L_sub, L_mul, L_div, JL, LJ, Int.reduceToNat, Int.toNat_zero, Int.toNat_one, xb, xm, within_t, within_f, nb_t, nb_f, ni_t, ni_f, in_t, in_f, less_, bad_0, bad_1, not_true_eq_false, not_false_eq_true, L_lt_t, L_lt_f, L_eq_t, L_eq_f, lg_gt, lg_eq, lg_lt]
        have e2 : ∀ k, f_Run_loseByHour K (J d) c2 (k + 1) 3 (J i, J 0, G) = f_Run_loseByHour K (J d) c2 k 0 (J (i + 1 : Nat), J 0, G) := fun k => by
          simp (disch := omega) only [f_Run_loseByHour, cast1, J_lit, J_add, J_sub, J_mul, J_neg, J_nat, J_inb, J_div, ↓reduceIte, Int.toNat_natCast, Option.bind_some, J_le_t, J_le_f, J_lt_t, J_lt_f, J_eq_t, J_eq_f, L_lit, L_add, L_sub, L_mul, L_div, JL, LJ, Int.reduceToNat, Int.toNat_zero, Int.toNat_one, xb, xm, within_t, within_f, nb_t, nb_f, ni_t, ni_f, in_t, in_f, less_, bad_0, bad_1, not_true_eq_false, not_false_eq_true, L_lt_t, L_lt_f, L_eq_t, L_eq_f, lg_gt, lg_eq, lg_lt]
        rw [e1, e2]) (J 0, J 0, ly) ⟨ly, rfl, fun p hp s hs => by rw [if_neg (by omega)]; exact R1 p hp s hs⟩ K (by omega)
  obtain ⟨n, rfl⟩ : ∃ k, n = k + 1 := ⟨n - 1, by omega⟩
  refine ⟨G, ?_, fun p hp s hs => ?_, R2, d, hd, rfl, fun p hp hbit s hs => ?_⟩
  · refine g3.trans ?_
    simp (disch := omega) only [f_Run_loseByHour, J_lit, J_add, J_sub, J_mul, J_neg, J_nat, J_inb, J_div, ↓reduceIte, Int.toNat_natCast, Option.bind_some, J_le_t, J_le_f, J_lt_t, J_lt_f, J_eq_t, J_eq_f, L_lit, L_add, L_sub, L_mul, L_div, JL, LJ, Int.reduceToNat, Int.toNat_zero, Int.toNat_one, xb, xm, within_t, within_f, nb_t, nb_f, ni_t, ni_f, in_t, in_f, less_, bad_0, bad_1, not_true_eq_false, not_false_eq_true, L_lt_t, L_lt_f, L_eq_t, L_eq_f, lg_gt, lg_eq, lg_lt]
  · have := hG p hp s hs
    rw [if_pos hp] at this
    exact this
  · show st.1 p s * lho l s / 16 = 0
    rw [R3 p hp hbit s hs]; simp
