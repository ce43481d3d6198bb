set_option maxHeartbeats 2000000 in
theorem p_semi (K : Nat) (hK : 2000 ≤ K) {cb mb : Nat → Int32} {N : Nat} {B : Nat → Nat} (h : TX cb mb N B) {a : Nat} (ha : a ≤ 500) (fp : Int32) : sp_Tape_expectSemicolon K cb (J N) (J a) (J 0) fp = some (if bt B N (bl B N a) = 59 then (J (bl B N a + 1 : Nat), J 0, fp) else (J (bl B N a : Nat), J 1, J (bl B N a : Nat))) := by
  have e1 := p_skipBlanks K hK h ha
  have r1 := bl_rng B N a
  have hN := h.1
  have e2 := bt_c K h (i := bl B N a) (by omega)
  have e3 := bt_rng h (bl B N a)
  clear h
  by_cases hc : bt B N (bl B N a) = 59
  · rw [if_pos hc]
    rw [hc] at e2
    simp (disch := omega) only [sp_Tape_expectSemicolon, sp_Tape_failed, e1, e2, cast1, J_lit, J_add, J_sub, J_mul, J_neg, J_nat, J_inb, J_div, ↓reduceIte, Int.toNat_natCast, Option.bind_some, J_le_t, J_le_f, J_lt_t, J_lt_f, J_eq_t, J_eq_f, L_lit, L_add, L_sub, L_mul, L_div, JL, LJ, Int.reduceToNat, Int.toNat_zero, Int.toNat_one, xb, xm, within_t, within_f, nb_t, nb_f, ni_t, ni_f, in_t, in_f, less_, bad_0, bad_1, not_true_eq_false, not_false_eq_true, L_lt_t, L_lt_f, L_eq_t, L_eq_f, lg_gt, lg_eq, lg_lt]
  · rw [if_neg hc]
    simp (disch := omega) only [sp_Tape_expectSemicolon, sp_Tape_failed, sp_Tape_fail, e1, e2, J_lit, J_add, J_sub, J_mul, J_neg, J_nat, J_inb, J_div, ↓reduceIte, Int.toNat_natCast, Option.bind_some, J_le_t, J_le_f, J_lt_t, J_lt_f, J_eq_t, J_eq_f, L_lit, L_add, L_sub, L_mul, L_div, JL, LJ, Int.reduceToNat, Int.toNat_zero, Int.toNat_one, xb, xm, within_t, within_f, nb_t, nb_f, ni_t, ni_f, in_t, in_f, less_, bad_0, bad_1, not_true_eq_false, not_false_eq_true, L_lt_t, L_lt_f, L_eq_t, L_eq_f, lg_gt, lg_eq, lg_lt]
set_option maxHeartbeats 2000000 in
theorem p_semi_f (K : Nat) (cb : Nat → Int32) (N a : Int32) {k : Nat} (hk : 1 ≤ k ∧ k ≤ 3) (fp : Int32) : sp_Tape_expectSemicolon K cb N a (J k) fp = some (a, J k, fp) := by
  simp (disch := omega) only [sp_Tape_expectSemicolon, sp_Tape_failed, J_lit, J_add, J_sub, J_mul, J_neg, J_nat, J_inb, J_div, ↓reduceIte, Int.toNat_natCast, Option.bind_some, J_le_t, J_le_f, J_lt_t, J_lt_f, J_eq_t, J_eq_f, L_lit, L_add, L_sub, L_mul, L_div, JL, LJ, Int.reduceToNat, Int.toNat_zero, Int.toNat_one, xb, xm, within_t, within_f, nb_t, nb_f, ni_t, ni_f, in_t, in_f, less_, bad_0, bad_1, not_true_eq_false, not_false_eq_true, L_lt_t, L_lt_f, L_eq_t, L_eq_f, lg_gt, lg_eq, lg_lt]
set_option maxHeartbeats 2000000 in
theorem p_sign (K : Nat) (hK : 2000 ≤ K) {cb mb : Nat → Int32} {N : Nat} {B : Nat → Nat} (h : TX cb mb N B) {a : Nat} (ha : a ≤ 500) (fp : Int32) : sp_M_sign K 59 (J N) (J a) (J 0) fp mb = some (if bt B N (bl B N a) = 59 then (J (bl B N a + 1 : Nat), J 0, fp) else (J (bl B N a : Nat), J 1, J (bl B N a : Nat))) := by
  have e1 := p_M_blanks K hK h ha
  have r1 := bl_rng B N a
  have hN := h.1
  have e2 := bt_m K h (i := bl B N a) (by omega)
  have e3 := bt_rng h (bl B N a)
  clear h
  by_cases hc : bt B N (bl B N a) = 59
  · rw [if_pos hc]
    rw [hc] at e2
    simp (disch := omega) only [sp_M_sign, e1, e2, cast1, J_lit, J_add, J_sub, J_mul, J_neg, J_nat, J_inb, J_div, ↓reduceIte, Int.toNat_natCast, Option.bind_some, J_le_t, J_le_f, J_lt_t, J_lt_f, J_eq_t, J_eq_f, L_lit, L_add, L_sub, L_mul, L_div, JL, LJ, Int.reduceToNat, Int.toNat_zero, Int.toNat_one, xb, xm, within_t, within_f, nb_t, nb_f, ni_t, ni_f, in_t, in_f, less_, bad_0, bad_1, not_true_eq_false, not_false_eq_true, L_lt_t, L_lt_f, L_eq_t, L_eq_f, lg_gt, lg_eq, lg_lt]
  · rw [if_neg hc]
    simp (disch := omega) only [sp_M_sign, sp_M_wrong, e1, e2, J_lit, J_add, J_sub, J_mul, J_neg, J_nat, J_inb, J_div, ↓reduceIte, Int.toNat_natCast, Option.bind_some, J_le_t, J_le_f, J_lt_t, J_lt_f, J_eq_t, J_eq_f, L_lit, L_add, L_sub, L_mul, L_div, JL, LJ, Int.reduceToNat, Int.toNat_zero, Int.toNat_one, xb, xm, within_t, within_f, nb_t, nb_f, ni_t, ni_f, in_t, in_f, less_, bad_0, bad_1, not_true_eq_false, not_false_eq_true, L_lt_t, L_lt_f, L_eq_t, L_eq_f, lg_gt, lg_eq, lg_lt]
set_option maxHeartbeats 2000000 in
theorem p_sign_f (K : Nat) (N a : Int32) {k : Nat} (hk : 1 ≤ k ∧ k ≤ 3) (fp : Int32) (mb : Nat → Int32) : sp_M_sign K 59 N a (J k) fp mb = some (a, J k, fp) := by
  simp (disch := omega) only [sp_M_sign, J_lit, J_add, J_sub, J_mul, J_neg, J_nat, J_inb, J_div, ↓reduceIte, Int.toNat_natCast, Option.bind_some, J_le_t, J_le_f, J_lt_t, J_lt_f, J_eq_t, J_eq_f, L_lit, L_add, L_sub, L_mul, L_div, JL, LJ, Int.reduceToNat, Int.toNat_zero, Int.toNat_one, xb, xm, within_t, within_f, nb_t, nb_f, ni_t, ni_f, in_t, in_f, less_, bad_0, bad_1, not_true_eq_false, not_false_eq_true, L_lt_t, L_lt_f, L_eq_t, L_eq_f, lg_gt, lg_eq, lg_lt]
set_option maxHeartbeats 2000000 in
theorem rc_word (K : Nat) (hK : 2000 ≤ K) {cb mb : Nat → Int32} {N : Nat} {B : Nat → Nat} (h : TX cb mb N B) {a : Nat} (ha : a ≤ 500) (hb : bl B N a = a) (st : Int32) : sp_Tape_readWord K cb (J N) (J a) st (J 0) = some (J (we B N a : Nat), J a) := by
  have e1 := p_readAll K hK h (lo := 97) (hi := 122) (by omega) (by omega) ha st
  rw [hb] at e1
  clear h
  simp (disch := omega) only [sp_Tape_readWord, sp_Tape_failed, e1, J_lit, J_add, J_sub, J_mul, J_neg, J_nat, J_inb, J_div, ↓reduceIte, Int.toNat_natCast, Option.bind_some, J_le_t, J_le_f, J_lt_t, J_lt_f, J_eq_t, J_eq_f, L_lit, L_add, L_sub, L_mul, L_div, JL, LJ, Int.reduceToNat, Int.toNat_zero, Int.toNat_one, xb, xm, within_t, within_f, nb_t, nb_f, ni_t, ni_f, in_t, in_f, less_, bad_0, bad_1, not_true_eq_false, not_false_eq_true, L_lt_t, L_lt_f, L_eq_t, L_eq_f, lg_gt, lg_eq, lg_lt]
set_option maxHeartbeats 2000000 in
theorem rc_0 (K : Nat) (hK : 2000 ≤ K) {cb : Nat → Int32} {N a w st fk fp : Int32} {kd : Int} {c : Nat} (hc : c ≤ 100) (eW : sp_Tape_readWord K cb N a st fk = some (w, a)) (eC : sp_Law_clauseOfWord K cb N w a = some (J kd)) {fk1 fp1 : Int32} (eF : sp_Tape_refuseWord K (if kd = -1 then J 1 else J 0) (if c < 24 then J 0 else J 1) a fk fp = some (fk1, fp1)) (sh ho co al : Nat → Int32) (wa pa ta : Int32) (hkd : -1 ≤ kd ∧ kd ≤ 6) : ∃ k, sp_Law_readClause K sh ho co al wa pa ta (J c) cb N a st fk fp = f_Law_readClause K cb N (k + 2) 1 (J kd, if c < 24 then J 0 else J 1, if kd = -1 then J 1 else J 0, sh, ho, co, al, wa, pa, ta, J c, w, a, fk, fp) := by
  obtain ⟨k, rfl⟩ : ∃ k, K = k + 3 := ⟨K - 3, by omega⟩
  refine ⟨k, ?_⟩
  by_cases h1 : kd = -1
  · subst h1
    by_cases h2 : c < 24
    · rw [if_pos h2, if_pos rfl]
      simp (disch := omega) only [sp_Law_readClause, eW, eC, J_lit, J_add, J_sub, J_mul, J_neg, J_nat, J_inb, J_div, ↓reduceIte, Int.toNat_natCast, Option.bind_some, J_le_t, J_le_f, J_lt_t, J_lt_f, J_eq_t, J_eq_f, L_lit, L_add, L_sub, L_mul, L_div, JL, LJ, Int.reduceToNat, Int.toNat_zero, Int.toNat_one, xb, xm, within_t, within_f, nb_t, nb_f, ni_t, ni_f, in_t, in_f, less_, bad_0, bad_1, not_true_eq_false, not_false_eq_true, L_lt_t, L_lt_f, L_eq_t, L_eq_f, lg_gt, lg_eq, lg_lt]
      rw [f_Law_readClause]
      simp (disch := omega) only [J_lit, J_add, J_sub, J_mul, J_neg, J_nat, J_inb, J_div, ↓reduceIte, Int.toNat_natCast, Option.bind_some, J_le_t, J_le_f, J_lt_t, J_lt_f, J_eq_t, J_eq_f, L_lit, L_add, L_sub, L_mul, L_div, JL, LJ, Int.reduceToNat, Int.toNat_zero, Int.toNat_one, xb, xm, within_t, within_f, nb_t, nb_f, ni_t, ni_f, in_t, in_f, less_, bad_0, bad_1, not_true_eq_false, not_false_eq_true, L_lt_t, L_lt_f, L_eq_t, L_eq_f, lg_gt, lg_eq, lg_lt]
    · rw [if_neg h2, if_pos rfl]
      simp (disch := omega) only [sp_Law_readClause, eW, eC, J_lit, J_add, J_sub, J_mul, J_neg, J_nat, J_inb, J_div, ↓reduceIte, Int.toNat_natCast, Option.bind_some, J_le_t, J_le_f, J_lt_t, J_lt_f, J_eq_t, J_eq_f, L_lit, L_add, L_sub, L_mul, L_div, JL, LJ, Int.reduceToNat, Int.toNat_zero, Int.toNat_one, xb, xm, within_t, within_f, nb_t, nb_f, ni_t, ni_f, in_t, in_f, less_, bad_0, bad_1, not_true_eq_false, not_false_eq_true, L_lt_t, L_lt_f, L_eq_t, L_eq_f, lg_gt, lg_eq, lg_lt]
      rw [f_Law_readClause]
      simp (disch := omega) only [J_lit, J_add, J_sub, J_mul, J_neg, J_nat, J_inb, J_div, ↓reduceIte, Int.toNat_natCast, Option.bind_some, J_le_t, J_le_f, J_lt_t, J_lt_f, J_eq_t, J_eq_f, L_lit, L_add, L_sub, L_mul, L_div, JL, LJ, Int.reduceToNat, Int.toNat_zero, Int.toNat_one, xb, xm, within_t, within_f, nb_t, nb_f, ni_t, ni_f, in_t, in_f, less_, bad_0, bad_1, not_true_eq_false, not_false_eq_true, L_lt_t, L_lt_f, L_eq_t, L_eq_f, lg_gt, lg_eq, lg_lt]
  · rw [if_neg h1]
    by_cases h2 : c < 24
    · rw [if_pos h2]
      simp (disch := omega) only [sp_Law_readClause, eW, eC, J_lit, J_add, J_sub, J_mul, J_neg, J_nat, J_inb, J_div, ↓reduceIte, Int.toNat_natCast, Option.bind_some, J_le_t, J_le_f, J_lt_t, J_lt_f, J_eq_t, J_eq_f, L_lit, L_add, L_sub, L_mul, L_div, JL, LJ, Int.reduceToNat, Int.toNat_zero, Int.toNat_one, xb, xm, within_t, within_f, nb_t, nb_f, ni_t, ni_f, in_t, in_f, less_, bad_0, bad_1, not_true_eq_false, not_false_eq_true, L_lt_t, L_lt_f, L_eq_t, L_eq_f, lg_gt, lg_eq, lg_lt]
      rw [f_Law_readClause]
      simp (disch := omega) only [J_lit, J_add, J_sub, J_mul, J_neg, J_nat, J_inb, J_div, ↓reduceIte, Int.toNat_natCast, Option.bind_some, J_le_t, J_le_f, J_lt_t, J_lt_f, J_eq_t, J_eq_f, L_lit, L_add, L_sub, L_mul, L_div, JL, LJ, Int.reduceToNat, Int.toNat_zero, Int.toNat_one, xb, xm, within_t, within_f, nb_t, nb_f, ni_t, ni_f, in_t, in_f, less_, bad_0, bad_1, not_true_eq_false, not_false_eq_true, L_lt_t, L_lt_f, L_eq_t, L_eq_f, lg_gt, lg_eq, lg_lt]
    · rw [if_neg h2]
      simp (disch := omega) only [sp_Law_readClause, eW, eC, J_lit, J_add, J_sub, J_mul, J_neg, J_nat, J_inb, J_div, ↓reduceIte, Int.toNat_natCast, Option.bind_some, J_le_t, J_le_f, J_lt_t, J_lt_f, J_eq_t, J_eq_f, L_lit, L_add, L_sub, L_mul, L_div, JL, LJ, Int.reduceToNat, Int.toNat_zero, Int.toNat_one, xb, xm, within_t, within_f, nb_t, nb_f, ni_t, ni_f, in_t, in_f, less_, bad_0, bad_1, not_true_eq_false, not_false_eq_true, L_lt_t, L_lt_f, L_eq_t, L_eq_f, lg_gt, lg_eq, lg_lt]
      rw [f_Law_readClause]
      simp (disch := omega) only [J_lit, J_add, J_sub, J_mul, J_neg, J_nat, J_inb, J_div, ↓reduceIte, Int.toNat_natCast, Option.bind_some, J_le_t, J_le_f, J_lt_t, J_lt_f, J_eq_t, J_eq_f, L_lit, L_add, L_sub, L_mul, L_div, JL, LJ, Int.reduceToNat, Int.toNat_zero, Int.toNat_one, xb, xm, within_t, within_f, nb_t, nb_f, ni_t, ni_f, in_t, in_f, less_, bad_0, bad_1, not_true_eq_false, not_false_eq_true, L_lt_t, L_lt_f, L_eq_t, L_eq_f, lg_gt, lg_eq, lg_lt]
set_option maxHeartbeats 2000000 in
theorem rc_k0 (K : Nat) (hK : 2000 ≤ K) {cb : Nat → Int32} {N a w st fk fp : Int32} {c : Nat} (hc : c ≤ 100) (eW : sp_Tape_readWord K cb N a st fk = some (w, a)) (eC : sp_Law_clauseOfWord K cb N w a = some (J (0))) {fk1 fp1 : Int32} (eF : sp_Tape_refuseWord K (if (0 : Int) = -1 then J 1 else J 0) (if c < 24 then J 0 else J 1) a fk fp = some (fk1, fp1)) (sh ho co al : Nat → Int32) (wa pa ta : Int32) {x : Nat → Int32} {a1 st1 fk2 fp2 a2 fk3 fp3 : Int32} (eR : sp_Law_readShed K sh cb N w a fk1 fp1 = some (x, a1, st1, fk2, fp2)) (eS : sp_Tape_expectSemicolon K cb N a1 fk2 fp2 = some (a2, fk3, fp3)) : sp_Law_readClause K sh ho co al wa pa ta (J c) cb N a st fk fp = some (x, ho, co, al, wa, pa, ta, J (c + 1 : Nat), a2, st1, fk3, fp3) := by
  obtain ⟨k, e⟩ := rc_0 K hK hc eW eC eF sh ho co al wa pa ta (by omega)
  rw [e]
  have eF' := eF
  generalize (if c < 24 then J 0 else J 1) = y at *
  generalize (if (0 : Int) = -1 then J 1 else J 0) = z at *
  try simp (disch := omega) only [J_lit, J_add, J_sub, J_mul, J_neg, J_nat, J_inb, J_div, ↓reduceIte, Int.toNat_natCast, Option.bind_some, J_le, J_lt, J_eq, if_pos, if_neg, if_true, if_false, L_lit, L_add, L_sub, L_mul, L_div, JL, LJ, Int.reduceToNat, Int.toNat_zero, Int.toNat_one, xb, xm, within_t, within_f, nb_t, nb_f, ni_t, ni_f, in_t, in_f, less_, bad_0, bad_1, not_true_eq_false, not_false_eq_true] at eR
  simp (disch := omega) only [f_Law_readClause, eF', eR, eS, cast1, J_lit, J_add, J_sub, J_mul, J_neg, J_nat, J_inb, J_div, ↓reduceIte, Int.toNat_natCast, Option.bind_some, J_le_t, J_le_f, J_lt_t, J_lt_f, J_eq_t, J_eq_f, L_lit, L_add, L_sub, L_mul, L_div, JL, LJ, Int.reduceToNat, Int.toNat_zero, Int.toNat_one, xb, xm, within_t, within_f, nb_t, nb_f, ni_t, ni_f, in_t, in_f, less_, bad_0, bad_1, not_true_eq_false, not_false_eq_true, L_lt_t, L_lt_f, L_eq_t, L_eq_f, lg_gt, lg_eq, lg_lt]
set_option maxHeartbeats 2000000 in
theorem rc_k1 (K : Nat) (hK : 2000 ≤ K) {cb : Nat → Int32} {N a w st fk fp : Int32} {c : Nat} (hc : c ≤ 100) (eW : sp_Tape_readWord K cb N a st fk = some (w, a)) (eC : sp_Law_clauseOfWord K cb N w a = some (J (1))) {fk1 fp1 : Int32} (eF : sp_Tape_refuseWord K (if (1 : Int) = -1 then J 1 else J 0) (if c < 24 then J 0 else J 1) a fk fp = some (fk1, fp1)) (sh ho co al : Nat → Int32) (wa pa ta : Int32) {x : Nat → Int32} {a1 st1 fk2 fp2 a2 fk3 fp3 : Int32} (eR : sp_Law_readOfSort K 16 cb N w a fk1 fp1 ho = some (a1, st1, fk2, fp2, x)) (eS : sp_Tape_expectSemicolon K cb N a1 fk2 fp2 = some (a2, fk3, fp3)) : sp_Law_readClause K sh ho co al wa pa ta (J c) cb N a st fk fp = some (sh, x, co, al, wa, pa, ta, J (c + 1 : Nat), a2, st1, fk3, fp3) := by
  obtain ⟨k, e⟩ := rc_0 K hK hc eW eC eF sh ho co al wa pa ta (by omega)
  rw [e]
  have eF' := eF
  generalize (if c < 24 then J 0 else J 1) = y at *
  generalize (if (1 : Int) = -1 then J 1 else J 0) = z at *
  try simp (disch := omega) only [J_lit, J_add, J_sub, J_mul, J_neg, J_nat, J_inb, J_div, ↓reduceIte, Int.toNat_natCast, Option.bind_some, J_le, J_lt, J_eq, if_pos, if_neg, if_true, if_false, L_lit, L_add, L_sub, L_mul, L_div, JL, LJ, Int.reduceToNat, Int.toNat_zero, Int.toNat_one, xb, xm, within_t, within_f, nb_t, nb_f, ni_t, ni_f, in_t, in_f, less_, bad_0, bad_1, not_true_eq_false, not_false_eq_true] at eR
  simp (disch := omega) only [f_Law_readClause, eF', eR, eS, cast1, J_lit, J_add, J_sub, J_mul, J_neg, J_nat, J_inb, J_div, ↓reduceIte, Int.toNat_natCast, Option.bind_some, J_le_t, J_le_f, J_lt_t, J_lt_f, J_eq_t, J_eq_f, L_lit, L_add, L_sub, L_mul, L_div, JL, LJ, Int.reduceToNat, Int.toNat_zero, Int.toNat_one, xb, xm, within_t, within_f, nb_t, nb_f, ni_t, ni_f, in_t, in_f, less_, bad_0, bad_1, not_true_eq_false, not_false_eq_true, L_lt_t, L_lt_f, L_eq_t, L_eq_f, lg_gt, lg_eq, lg_lt]
set_option maxHeartbeats 2000000 in
theorem rc_k2 (K : Nat) (hK : 2000 ≤ K) {cb : Nat → Int32} {N a w st fk fp : Int32} {c : Nat} (hc : c ≤ 100) (eW : sp_Tape_readWord K cb N a st fk = some (w, a)) (eC : sp_Law_clauseOfWord K cb N w a = some (J (2))) {fk1 fp1 : Int32} (eF : sp_Tape_refuseWord K (if (2 : Int) = -1 then J 1 else J 0) (if c < 24 then J 0 else J 1) a fk fp = some (fk1, fp1)) (sh ho co al : Nat → Int32) (wa pa ta : Int32) {x : Int32} {a1 st1 fk2 fp2 a2 fk3 fp3 : Int32} (eR : sp_Tape_readNumber K 0 16 cb N w a fk1 fp1 = some (x, a1, st1, fk2, fp2)) (eS : sp_Tape_expectSemicolon K cb N a1 fk2 fp2 = some (a2, fk3, fp3)) : sp_Law_readClause K sh ho co al wa pa ta (J c) cb N a st fk fp = some (sh, ho, co, al, x, pa, ta, J (c + 1 : Nat), a2, st1, fk3, fp3) := by
  obtain ⟨k, e⟩ := rc_0 K hK hc eW eC eF sh ho co al wa pa ta (by omega)
  rw [e]
  have eF' := eF
  generalize (if c < 24 then J 0 else J 1) = y at *
  generalize (if (2 : Int) = -1 then J 1 else J 0) = z at *
  try simp (disch := omega) only [J_lit, J_add, J_sub, J_mul, J_neg, J_nat, J_inb, J_div, ↓reduceIte, Int.toNat_natCast, Option.bind_some, J_le, J_lt, J_eq, if_pos, if_neg, if_true, if_false, L_lit, L_add, L_sub, L_mul, L_div, JL, LJ, Int.reduceToNat, Int.toNat_zero, Int.toNat_one, xb, xm, within_t, within_f, nb_t, nb_f, ni_t, ni_f, in_t, in_f, less_, bad_0, bad_1, not_true_eq_false, not_false_eq_true] at eR
  simp (disch := omega) only [f_Law_readClause, eF', eR, eS, cast1, J_lit, J_add, J_sub, J_mul, J_neg, J_nat, J_inb, J_div, ↓reduceIte, Int.toNat_natCast, Option.bind_some, J_le_t, J_le_f, J_lt_t, J_lt_f, J_eq_t, J_eq_f, L_lit, L_add, L_sub, L_mul, L_div, JL, LJ, Int.reduceToNat, Int.toNat_zero, Int.toNat_one, xb, xm, within_t, within_f, nb_t, nb_f, ni_t, ni_f, in_t, in_f, less_, bad_0, bad_1, not_true_eq_false, not_false_eq_true, L_lt_t, L_lt_f, L_eq_t, L_eq_f, lg_gt, lg_eq, lg_lt]
set_option maxHeartbeats 2000000 in
theorem rc_k3 (K : Nat) (hK : 2000 ≤ K) {cb : Nat → Int32} {N a w st fk fp : Int32} {c : Nat} (hc : c ≤ 100) (eW : sp_Tape_readWord K cb N a st fk = some (w, a)) (eC : sp_Law_clauseOfWord K cb N w a = some (J (3))) {fk1 fp1 : Int32} (eF : sp_Tape_refuseWord K (if (3 : Int) = -1 then J 1 else J 0) (if c < 24 then J 0 else J 1) a fk fp = some (fk1, fp1)) (sh ho co al : Nat → Int32) (wa pa ta : Int32) {x : Int32} {a1 st1 fk2 fp2 a2 fk3 fp3 : Int32} (eR : sp_Tape_readNumber K 0 8 cb N w a fk1 fp1 = some (x, a1, st1, fk2, fp2)) (eS : sp_Tape_expectSemicolon K cb N a1 fk2 fp2 = some (a2, fk3, fp3)) : sp_Law_readClause K sh ho co al wa pa ta (J c) cb N a st fk fp = some (sh, ho, co, al, wa, x, ta, J (c + 1 : Nat), a2, st1, fk3, fp3) := by
  obtain ⟨k, e⟩ := rc_0 K hK hc eW eC eF sh ho co al wa pa ta (by omega)
  rw [e]
  have eF' := eF
  generalize (if c < 24 then J 0 else J 1) = y at *
  generalize (if (3 : Int) = -1 then J 1 else J 0) = z at *
  try simp (disch := omega) only [J_lit, J_add, J_sub, J_mul, J_neg, J_nat, J_inb, J_div, ↓reduceIte, Int.toNat_natCast, Option.bind_some, J_le, J_lt, J_eq, if_pos, if_neg, if_true, if_false, L_lit, L_add, L_sub, L_mul, L_div, JL, LJ, Int.reduceToNat, Int.toNat_zero, Int.toNat_one, xb, xm, within_t, within_f, nb_t, nb_f, ni_t, ni_f, in_t, in_f, less_, bad_0, bad_1, not_true_eq_false, not_false_eq_true] at eR
  simp (disch := omega) only [f_Law_readClause, eF', eR, eS, cast1, J_lit, J_add, J_sub, J_mul, J_neg, J_nat, J_inb, J_div, ↓reduceIte, Int.toNat_natCast, Option.bind_some, J_le_t, J_le_f, J_lt_t, J_lt_f, J_eq_t, J_eq_f, L_lit, L_add, L_sub, L_mul, L_div, JL, LJ, Int.reduceToNat, Int.toNat_zero, Int.toNat_one, xb, xm, within_t, within_f, nb_t, nb_f, ni_t, ni_f, in_t, in_f, less_, bad_0, bad_1, not_true_eq_false, not_false_eq_true, L_lt_t, L_lt_f, L_eq_t, L_eq_f, lg_gt, lg_eq, lg_lt]
set_option maxHeartbeats 2000000 in
theorem rc_k4 (K : Nat) (hK : 2000 ≤ K) {cb : Nat → Int32} {N a w st fk fp : Int32} {c : Nat} (hc : c ≤ 100) (eW : sp_Tape_readWord K cb N a st fk = some (w, a)) (eC : sp_Law_clauseOfWord K cb N w a = some (J (4))) {fk1 fp1 : Int32} (eF : sp_Tape_refuseWord K (if (4 : Int) = -1 then J 1 else J 0) (if c < 24 then J 0 else J 1) a fk fp = some (fk1, fp1)) (sh ho co al : Nat → Int32) (wa pa ta : Int32) {x : Int32} {a1 st1 fk2 fp2 a2 fk3 fp3 : Int32} (eR : sp_Tape_readNumber K 1 15 cb N w a fk1 fp1 = some (x, a1, st1, fk2, fp2)) (eS : sp_Tape_expectSemicolon K cb N a1 fk2 fp2 = some (a2, fk3, fp3)) : sp_Law_readClause K sh ho co al wa pa ta (J c) cb N a st fk fp = some (sh, ho, co, al, wa, pa, x, J (c + 1 : Nat), a2, st1, fk3, fp3) := by
  obtain ⟨k, e⟩ := rc_0 K hK hc eW eC eF sh ho co al wa pa ta (by omega)
  rw [e]
  have eF' := eF
  generalize (if c < 24 then J 0 else J 1) = y at *
  generalize (if (4 : Int) = -1 then J 1 else J 0) = z at *
  try simp (disch := omega) only [J_lit, J_add, J_sub, J_mul, J_neg, J_nat, J_inb, J_div, ↓reduceIte, Int.toNat_natCast, Option.bind_some, J_le, J_lt, J_eq, if_pos, if_neg, if_true, if_false, L_lit, L_add, L_sub, L_mul, L_div, JL, LJ, Int.reduceToNat, Int.toNat_zero, Int.toNat_one, xb, xm, within_t, within_f, nb_t, nb_f, ni_t, ni_f, in_t, in_f, less_, bad_0, bad_1, not_true_eq_false, not_false_eq_true] at eR
  simp (disch := omega) only [f_Law_readClause, eF', eR, eS, cast1, J_lit, J_add, J_sub, J_mul, J_neg, J_nat, J_inb, J_div, ↓reduceIte, Int.toNat_natCast, Option.bind_some, J_le_t, J_le_f, J_lt_t, J_lt_f, J_eq_t, J_eq_f, L_lit, L_add, L_sub, L_mul, L_div, JL, LJ, Int.reduceToNat, Int.toNat_zero, Int.toNat_one, xb, xm, within_t, within_f, nb_t, nb_f, ni_t, ni_f, in_t, in_f, less_, bad_0, bad_1, not_true_eq_false, not_false_eq_true, L_lt_t, L_lt_f, L_eq_t, L_eq_f, lg_gt, lg_eq, lg_lt]
set_option maxHeartbeats 2000000 in
theorem rc_k5 (K : Nat) (hK : 2000 ≤ K) {cb : Nat → Int32} {N a w st fk fp : Int32} {c : Nat} (hc : c ≤ 100) (eW : sp_Tape_readWord K cb N a st fk = some (w, a)) (eC : sp_Law_clauseOfWord K cb N w a = some (J (5))) {fk1 fp1 : Int32} (eF : sp_Tape_refuseWord K (if (5 : Int) = -1 then J 1 else J 0) (if c < 24 then J 0 else J 1) a fk fp = some (fk1, fp1)) (sh ho co al : Nat → Int32) (wa pa ta : Int32) {x : Nat → Int32} {a1 st1 fk2 fp2 a2 fk3 fp3 : Int32} (eR : sp_Law_readAlike K al cb N w a fk1 fp1 = some (x, a1, st1, fk2, fp2)) (eS : sp_Tape_expectSemicolon K cb N a1 fk2 fp2 = some (a2, fk3, fp3)) : sp_Law_readClause K sh ho co al wa pa ta (J c) cb N a st fk fp = some (sh, ho, co, x, wa, pa, ta, J (c + 1 : Nat), a2, st1, fk3, fp3) := by
  obtain ⟨k, e⟩ := rc_0 K hK hc eW eC eF sh ho co al wa pa ta (by omega)
  rw [e]
  have eF' := eF
  generalize (if c < 24 then J 0 else J 1) = y at *
  generalize (if (5 : Int) = -1 then J 1 else J 0) = z at *
  try simp (disch := omega) only [J_lit, J_add, J_sub, J_mul, J_neg, J_nat, J_inb, J_div, ↓reduceIte, Int.toNat_natCast, Option.bind_some, J_le, J_lt, J_eq, if_pos, if_neg, if_true, if_false, L_lit, L_add, L_sub, L_mul, L_div, JL, LJ, Int.reduceToNat, Int.toNat_zero, Int.toNat_one, xb, xm, within_t, within_f, nb_t, nb_f, ni_t, ni_f, in_t, in_f, less_, bad_0, bad_1, not_true_eq_false, not_false_eq_true] at eR
  simp (disch := omega) only [f_Law_readClause, eF', eR, eS, cast1, J_lit, J_add, J_sub, J_mul, J_neg, J_nat, J_inb, J_div, ↓reduceIte, Int.toNat_natCast, Option.bind_some, J_le_t, J_le_f, J_lt_t, J_lt_f, J_eq_t, J_eq_f, L_lit, L_add, L_sub, L_mul, L_div, JL, LJ, Int.reduceToNat, Int.toNat_zero, Int.toNat_one, xb, xm, within_t, within_f, nb_t, nb_f, ni_t, ni_f, in_t, in_f, less_, bad_0, bad_1, not_true_eq_false, not_false_eq_true, L_lt_t, L_lt_f, L_eq_t, L_eq_f, lg_gt, lg_eq, lg_lt]
set_option maxHeartbeats 2000000 in
theorem rc_k6 (K : Nat) (hK : 2000 ≤ K) {cb : Nat → Int32} {N a w st fk fp : Int32} {c : Nat} (hc : c ≤ 100) (eW : sp_Tape_readWord K cb N a st fk = some (w, a)) (eC : sp_Law_clauseOfWord K cb N w a = some (J (6))) {fk1 fp1 : Int32} (eF : sp_Tape_refuseWord K (if (6 : Int) = -1 then J 1 else J 0) (if c < 24 then J 0 else J 1) a fk fp = some (fk1, fp1)) (sh ho co al : Nat → Int32) (wa pa ta : Int32) {x : Nat → Int32} {a1 st1 fk2 fp2 a2 fk3 fp3 : Int32} (eR : sp_Law_readOfSort K 20 cb N w a fk1 fp1 co = some (a1, st1, fk2, fp2, x)) (eS : sp_Tape_expectSemicolon K cb N a1 fk2 fp2 = some (a2, fk3, fp3)) : sp_Law_readClause K sh ho co al wa pa ta (J c) cb N a st fk fp = some (sh, ho, x, al, wa, pa, ta, J (c + 1 : Nat), a2, st1, fk3, fp3) := by
  obtain ⟨k, e⟩ := rc_0 K hK hc eW eC eF sh ho co al wa pa ta (by omega)
  rw [e]
  have eF' := eF
  generalize (if c < 24 then J 0 else J 1) = y at *
  generalize (if (6 : Int) = -1 then J 1 else J 0) = z at *
  try simp (disch := omega) only [J_lit, J_add, J_sub, J_mul, J_neg, J_nat, J_inb, J_div, ↓reduceIte, Int.toNat_natCast, Option.bind_some, J_le, J_lt, J_eq, if_pos, if_neg, if_true, if_false, L_lit, L_add, L_sub, L_mul, L_div, JL, LJ, Int.reduceToNat, Int.toNat_zero, Int.toNat_one, xb, xm, within_t, within_f, nb_t, nb_f, ni_t, ni_f, in_t, in_f, less_, bad_0, bad_1, not_true_eq_false, not_false_eq_true] at eR
  simp (disch := omega) only [f_Law_readClause, eF', eR, eS, cast1, J_lit, J_add, J_sub, J_mul, J_neg, J_nat, J_inb, J_div, ↓reduceIte, Int.toNat_natCast, Option.bind_some, J_le_t, J_le_f, J_lt_t, J_lt_f, J_eq_t, J_eq_f, L_lit, L_add, L_sub, L_mul, L_div, JL, LJ, Int.reduceToNat, Int.toNat_zero, Int.toNat_one, xb, xm, within_t, within_f, nb_t, nb_f, ni_t, ni_f, in_t, in_f, less_, bad_0, bad_1, not_true_eq_false, not_false_eq_true, L_lt_t, L_lt_f, L_eq_t, L_eq_f, lg_gt, lg_eq, lg_lt]
set_option maxHeartbeats 2000000 in
theorem rc_km (K : Nat) (hK : 2000 ≤ K) {cb : Nat → Int32} {N a w st fk fp : Int32} {c : Nat} (hc : c ≤ 100) (eW : sp_Tape_readWord K cb N a st fk = some (w, a)) (eC : sp_Law_clauseOfWord K cb N w a = some (J (-1))) {fk1 fp1 : Int32} (eF : sp_Tape_refuseWord K (if (-1 : Int) = -1 then J 1 else J 0) (if c < 24 then J 0 else J 1) a fk fp = some (fk1, fp1)) (sh ho co al : Nat → Int32) (wa pa ta : Int32) {a2 fk3 fp3 : Int32} (eS : sp_Tape_expectSemicolon K cb N w fk1 fp1 = some (a2, fk3, fp3)) : sp_Law_readClause K sh ho co al wa pa ta (J c) cb N a st fk fp = some (sh, ho, co, al, wa, pa, ta, J (c + 1 : Nat), a2, a, fk3, fp3) := by
  obtain ⟨k, e⟩ := rc_0 K hK hc eW eC eF sh ho co al wa pa ta (by omega)
  rw [e]
  have eF' := eF
  generalize (if c < 24 then J 0 else J 1) = y at *
  generalize (if ((-1) : Int) = -1 then J 1 else J 0) = z at *
  simp (disch := omega) only [f_Law_readClause, eF', eS, cast1, J_lit, J_add, J_sub, J_mul, J_neg, J_nat, J_inb, J_div, ↓reduceIte, Int.toNat_natCast, Option.bind_some, J_le_t, J_le_f, J_lt_t, J_lt_f, J_eq_t, J_eq_f, L_lit, L_add, L_sub, L_mul, L_div, JL, LJ, Int.reduceToNat, Int.toNat_zero, Int.toNat_one, xb, xm, within_t, within_f, nb_t, nb_f, ni_t, ni_f, in_t, in_f, less_, bad_0, bad_1, not_true_eq_false, not_false_eq_true, L_lt_t, L_lt_f, L_eq_t, L_eq_f, lg_gt, lg_eq, lg_lt]
set_option maxHeartbeats 2000000 in
theorem mc_k0 (K : Nat) (hK : 2000 ≤ K) {mb : Nat → Int32} {N a w fp : Int32} {c : Nat} (hc : c < 24) (eH : sp_M_clauseHere K N a mb = some (J 0, a)) (eW : sp_M_skipWord K N a mb = some w) (wa pa ta : Int32) (sh : Nat → Nat → Int32) (ho co ne : Nat → Int32) {v1 b1 k1 q1 : Int32} {v2 b2 k2 q2 : Int32} {v3 b3 k3 q3 : Int32} {a4 k4 q4 : Int32} (n1 : sp_M_number K 0 7 (-1) N w (J 0) fp mb = some (v1, b1, k1, q1)) (n2 : sp_M_number K 0 9 (-1) N b1 (k1) q1 mb = some (v2, b2, k2, q2)) (n3 : sp_M_number K 0 200 (-1) N b2 (k2) q2 mb = some (v3, b3, k3, q3)) (eS : sp_M_sign K 59 N b3 k3 q3 mb = some (a4, k4, q4)) : sp_M_clause K N a 0 fp mb (J c) wa pa ta sh ho co ne = if k4 = 0 then (if inb v1 8 then (if inb v2 10 then some (a4, k4, q4, J (c + 1 : Nat), wa, pa, ta, va_up sh v1.toNatClampNeg (upd (sh v1.toNatClampNeg) v2.toNatClampNeg v3), ho, co, ne) else none) else none) else some (a4, k4, q4, J (c + 1 : Nat), wa, pa, ta, sh, ho, co, ne) := by
  obtain ⟨k, rfl⟩ : ∃ k, K = k + 13 := ⟨K - 13, by omega⟩
  have hc24 : (J (c : Int) = 24) = False := J_eq_f (b := 24) (by omega)
  have hc1 : J (c : Int) + 1 = J (c + 1 : Nat) := by rw [← cast1]; exact J_add c 1
  have eH' : sp_M_clauseHere (k + 13) N a mb = some ((0 : Int32), a) := eH
  simp only [show (J 0 : Int32) = 0 from rfl] at n1 n2 n3
  simp only [sp_M_clause, eH', Option.bind_some, ↓reduceIte, hc24, f_M_clause, eW, n1, n2, n3, eS, hc1, show ((0 : Int32) = 0) = True from by decide, show ((0 : Int32) = 1) = False from by decide, show ((0 : Int32) = 2) = False from by decide, show ((0 : Int32) = 3) = False from by decide, show ((0 : Int32) = 4) = False from by decide, show ((0 : Int32) = 5) = False from by decide, show ((0 : Int32) = 6) = False from by decide, show ((0 : Int32) = -1) = False from by decide, show ((0 : Int32) < 2) = True from by decide, show ((0 : Int32) ≤ 4) = True from by decide]
  first | done | rfl | (by_cases hk : k4 = 0 <;> simp only [hk, ↓reduceIte])
set_option maxHeartbeats 2000000 in
theorem mc_k1 (K : Nat) (hK : 2000 ≤ K) {mb : Nat → Int32} {N a w fp : Int32} {c : Nat} (hc : c < 24) (eH : sp_M_clauseHere K N a mb = some (J 1, a)) (eW : sp_M_skipWord K N a mb = some w) (wa pa ta : Int32) (sh : Nat → Nat → Int32) (ho co ne : Nat → Int32) {v1 b1 k1 q1 : Int32} {v2 b2 k2 q2 : Int32} {a4 k4 q4 : Int32} (n1 : sp_M_number K 0 9 (-1) N w (J 0) fp mb = some (v1, b1, k1, q1)) (n2 : sp_M_number K 0 16 (-1) N b1 (k1) q1 mb = some (v2, b2, k2, q2)) (eS : sp_M_sign K 59 N b2 k2 q2 mb = some (a4, k4, q4)) : sp_M_clause K N a 0 fp mb (J c) wa pa ta sh ho co ne = if k4 = 0 then (if inb v1 10 then some (a4, k4, q4, J (c + 1 : Nat), wa, pa, ta, sh, upd ho v1.toNatClampNeg v2, co, ne) else none) else some (a4, k4, q4, J (c + 1 : Nat), wa, pa, ta, sh, ho, co, ne) := by
  obtain ⟨k, rfl⟩ : ∃ k, K = k + 13 := ⟨K - 13, by omega⟩
  have hc24 : (J (c : Int) = 24) = False := J_eq_f (b := 24) (by omega)
  have hc1 : J (c : Int) + 1 = J (c + 1 : Nat) := by rw [← cast1]; exact J_add c 1
  have eH' : sp_M_clauseHere (k + 13) N a mb = some ((1 : Int32), a) := eH
  simp only [show (J 0 : Int32) = 0 from rfl] at n1 n2
  simp only [sp_M_clause, eH', Option.bind_some, ↓reduceIte, hc24, f_M_clause, eW, n1, n2, eS, hc1, show ((1 : Int32) = 0) = False from by decide, show ((1 : Int32) = 1) = True from by decide, show ((1 : Int32) = 2) = False from by decide, show ((1 : Int32) = 3) = False from by decide, show ((1 : Int32) = 4) = False from by decide, show ((1 : Int32) = 5) = False from by decide, show ((1 : Int32) = 6) = False from by decide, show ((1 : Int32) = -1) = False from by decide, show ((1 : Int32) < 2) = True from by decide, show ((1 : Int32) ≤ 4) = True from by decide]
  first | done | rfl | (by_cases hk : k4 = 0 <;> simp only [hk, ↓reduceIte])
set_option maxHeartbeats 2000000 in
theorem mc_k2 (K : Nat) (hK : 2000 ≤ K) {mb : Nat → Int32} {N a w fp : Int32} {c : Nat} (hc : c < 24) (eH : sp_M_clauseHere K N a mb = some (J 2, a)) (eW : sp_M_skipWord K N a mb = some w) (wa pa ta : Int32) (sh : Nat → Nat → Int32) (ho co ne : Nat → Int32) {v1 b1 k1 q1 : Int32} {a4 k4 q4 : Int32} (n1 : sp_M_number K 0 16 (-1) N w (J 0) fp mb = some (v1, b1, k1, q1)) (eS : sp_M_sign K 59 N b1 k1 q1 mb = some (a4, k4, q4)) : sp_M_clause K N a 0 fp mb (J c) wa pa ta sh ho co ne = if k4 = 0 then (some (a4, k4, q4, J (c + 1 : Nat), v1, pa, ta, sh, ho, co, ne)) else some (a4, k4, q4, J (c + 1 : Nat), wa, pa, ta, sh, ho, co, ne) := by
  obtain ⟨k, rfl⟩ : ∃ k, K = k + 13 := ⟨K - 13, by omega⟩
  have hc24 : (J (c : Int) = 24) = False := J_eq_f (b := 24) (by omega)
  have hc1 : J (c : Int) + 1 = J (c + 1 : Nat) := by rw [← cast1]; exact J_add c 1
  have eH' : sp_M_clauseHere (k + 13) N a mb = some ((2 : Int32), a) := eH
  simp only [show (J 0 : Int32) = 0 from rfl] at n1
  simp only [sp_M_clause, eH', Option.bind_some, ↓reduceIte, hc24, f_M_clause, eW, n1, eS, hc1, show ((2 : Int32) = 0) = False from by decide, show ((2 : Int32) = 1) = False from by decide, show ((2 : Int32) = 2) = True from by decide, show ((2 : Int32) = 3) = False from by decide, show ((2 : Int32) = 4) = False from by decide, show ((2 : Int32) = 5) = False from by decide, show ((2 : Int32) = 6) = False from by decide, show ((2 : Int32) = -1) = False from by decide, show ((2 : Int32) < 2) = False from by decide, show ((2 : Int32) ≤ 4) = True from by decide]
  first | done | rfl | (by_cases hk : k4 = 0 <;> simp only [hk, ↓reduceIte])
set_option maxHeartbeats 2000000 in
theorem mc_k3 (K : Nat) (hK : 2000 ≤ K) {mb : Nat → Int32} {N a w fp : Int32} {c : Nat} (hc : c < 24) (eH : sp_M_clauseHere K N a mb = some (J 3, a)) (eW : sp_M_skipWord K N a mb = some w) (wa pa ta : Int32) (sh : Nat → Nat → Int32) (ho co ne : Nat → Int32) {v1 b1 k1 q1 : Int32} {a4 k4 q4 : Int32} (n1 : sp_M_number K 0 8 (-1) N w (J 0) fp mb = some (v1, b1, k1, q1)) (eS : sp_M_sign K 59 N b1 k1 q1 mb = some (a4, k4, q4)) : sp_M_clause K N a 0 fp mb (J c) wa pa ta sh ho co ne = if k4 = 0 then (some (a4, k4, q4, J (c + 1 : Nat), wa, v1, ta, sh, ho, co, ne)) else some (a4, k4, q4, J (c + 1 : Nat), wa, pa, ta, sh, ho, co, ne) := by
  obtain ⟨k, rfl⟩ : ∃ k, K = k + 13 := ⟨K - 13, by omega⟩
  have hc24 : (J (c : Int) = 24) = False := J_eq_f (b := 24) (by omega)
  have hc1 : J (c : Int) + 1 = J (c + 1 : Nat) := by rw [← cast1]; exact J_add c 1
  have eH' : sp_M_clauseHere (k + 13) N a mb = some ((3 : Int32), a) := eH
  simp only [show (J 0 : Int32) = 0 from rfl] at n1
  simp only [sp_M_clause, eH', Option.bind_some, ↓reduceIte, hc24, f_M_clause, eW, n1, eS, hc1, show ((3 : Int32) = 0) = False from by decide, show ((3 : Int32) = 1) = False from by decide, show ((3 : Int32) = 2) = False from by decide, show ((3 : Int32) = 3) = True from by decide, show ((3 : Int32) = 4) = False from by decide, show ((3 : Int32) = 5) = False from by decide, show ((3 : Int32) = 6) = False from by decide, show ((3 : Int32) = -1) = False from by decide, show ((3 : Int32) < 2) = False from by decide, show ((3 : Int32) ≤ 4) = True from by decide]
  first | done | rfl | (by_cases hk : k4 = 0 <;> simp only [hk, ↓reduceIte])
set_option maxHeartbeats 2000000 in
theorem mc_k4 (K : Nat) (hK : 2000 ≤ K) {mb : Nat → Int32} {N a w fp : Int32} {c : Nat} (hc : c < 24) (eH : sp_M_clauseHere K N a mb = some (J 4, a)) (eW : sp_M_skipWord K N a mb = some w) (wa pa ta : Int32) (sh : Nat → Nat → Int32) (ho co ne : Nat → Int32) {v1 b1 k1 q1 : Int32} {a4 k4 q4 : Int32} (n1 : sp_M_number K 1 15 (-1) N w (J 0) fp mb = some (v1, b1, k1, q1)) (eS : sp_M_sign K 59 N b1 k1 q1 mb = some (a4, k4, q4)) : sp_M_clause K N a 0 fp mb (J c) wa pa ta sh ho co ne = if k4 = 0 then (some (a4, k4, q4, J (c + 1 : Nat), wa, pa, v1, sh, ho, co, ne)) else some (a4, k4, q4, J (c + 1 : Nat), wa, pa, ta, sh, ho, co, ne) := by
  obtain ⟨k, rfl⟩ : ∃ k, K = k + 13 := ⟨K - 13, by omega⟩
  have hc24 : (J (c : Int) = 24) = False := J_eq_f (b := 24) (by omega)
  have hc1 : J (c : Int) + 1 = J (c + 1 : Nat) := by rw [← cast1]; exact J_add c 1
  have eH' : sp_M_clauseHere (k + 13) N a mb = some ((4 : Int32), a) := eH
  simp only [show (J 0 : Int32) = 0 from rfl] at n1
  simp only [sp_M_clause, eH', Option.bind_some, ↓reduceIte, hc24, f_M_clause, eW, n1, eS, hc1, show ((4 : Int32) = 0) = False from by decide, show ((4 : Int32) = 1) = False from by decide, show ((4 : Int32) = 2) = False from by decide, show ((4 : Int32) = 3) = False from by decide, show ((4 : Int32) = 4) = True from by decide, show ((4 : Int32) = 5) = False from by decide, show ((4 : Int32) = 6) = False from by decide, show ((4 : Int32) = -1) = False from by decide, show ((4 : Int32) < 2) = False from by decide, show ((4 : Int32) ≤ 4) = True from by decide]
  first | done | rfl | (by_cases hk : k4 = 0 <;> simp only [hk, ↓reduceIte])
set_option maxHeartbeats 2000000 in
theorem mc_k5 (K : Nat) (hK : 2000 ≤ K) {mb : Nat → Int32} {N a w fp : Int32} {c : Nat} (hc : c < 24) (eH : sp_M_clauseHere K N a mb = some (J 5, a)) (eW : sp_M_skipWord K N a mb = some w) (wa pa ta : Int32) (sh : Nat → Nat → Int32) (ho co ne : Nat → Int32) {v1 b1 k1 q1 : Int32} {v2 b2 k2 q2 : Int32} {a4 k4 q4 : Int32} (n1 : sp_M_number K 0 9 (-1) N w (J 0) fp mb = some (v1, b1, k1, q1)) (n2 : sp_M_number K 0 9 v1 N b1 (k1) q1 mb = some (v2, b2, k2, q2)) (eS : sp_M_sign K 59 N b2 k2 q2 mb = some (a4, k4, q4)) : sp_M_clause K N a 0 fp mb (J c) wa pa ta sh ho co ne = if k4 = 0 then (if inb v1 10 then (if inb v1 10 then (if inb v2 10 then (if inb v2 10 then some (a4, k4, q4, J (c + 1 : Nat), wa, pa, ta, sh, ho, co, upd (upd ne v1.toNatClampNeg ((ne v1.toNatClampNeg) ||| (1 <<< (v2 &&& 31)))) v2.toNatClampNeg (((upd ne v1.toNatClampNeg ((ne v1.toNatClampNeg) ||| (1 <<< (v2 &&& 31)))) v2.toNatClampNeg) ||| (1 <<< (v1 &&& 31)))) else none) else none) else none) else none) else some (a4, k4, q4, J (c + 1 : Nat), wa, pa, ta, sh, ho, co, ne) := by
  obtain ⟨k, rfl⟩ : ∃ k, K = k + 13 := ⟨K - 13, by omega⟩
  have hc24 : (J (c : Int) = 24) = False := J_eq_f (b := 24) (by omega)
  have hc1 : J (c : Int) + 1 = J (c + 1 : Nat) := by rw [← cast1]; exact J_add c 1
  have eH' : sp_M_clauseHere (k + 13) N a mb = some ((5 : Int32), a) := eH
  simp only [show (J 0 : Int32) = 0 from rfl] at n1 n2
  simp only [sp_M_clause, eH', Option.bind_some, ↓reduceIte, hc24, f_M_clause, eW, n1, n2, eS, hc1, show ((5 : Int32) = 0) = False from by decide, show ((5 : Int32) = 1) = False from by decide, show ((5 : Int32) = 2) = False from by decide, show ((5 : Int32) = 3) = False from by decide, show ((5 : Int32) = 4) = False from by decide, show ((5 : Int32) = 5) = True from by decide, show ((5 : Int32) = 6) = False from by decide, show ((5 : Int32) = -1) = False from by decide, show ((5 : Int32) < 2) = False from by decide, show ((5 : Int32) ≤ 4) = False from by decide]
  first | done | rfl | (by_cases hk : k4 = 0 <;> simp only [hk, ↓reduceIte])
set_option maxHeartbeats 2000000 in
theorem mc_k6 (K : Nat) (hK : 2000 ≤ K) {mb : Nat → Int32} {N a w fp : Int32} {c : Nat} (hc : c < 24) (eH : sp_M_clauseHere K N a mb = some (J 6, a)) (eW : sp_M_skipWord K N a mb = some w) (wa pa ta : Int32) (sh : Nat → Nat → Int32) (ho co ne : Nat → Int32) {v1 b1 k1 q1 : Int32} {v2 b2 k2 q2 : Int32} {a4 k4 q4 : Int32} (n1 : sp_M_number K 0 9 (-1) N w (J 0) fp mb = some (v1, b1, k1, q1)) (n2 : sp_M_number K 0 20 (-1) N b1 (k1) q1 mb = some (v2, b2, k2, q2)) (eS : sp_M_sign K 59 N b2 k2 q2 mb = some (a4, k4, q4)) : sp_M_clause K N a 0 fp mb (J c) wa pa ta sh ho co ne = if k4 = 0 then (if inb v1 10 then some (a4, k4, q4, J (c + 1 : Nat), wa, pa, ta, sh, ho, upd co v1.toNatClampNeg v2, ne) else none) else some (a4, k4, q4, J (c + 1 : Nat), wa, pa, ta, sh, ho, co, ne) := by
  obtain ⟨k, rfl⟩ : ∃ k, K = k + 13 := ⟨K - 13, by omega⟩
  have hc24 : (J (c : Int) = 24) = False := J_eq_f (b := 24) (by omega)
  have hc1 : J (c : Int) + 1 = J (c + 1 : Nat) := by rw [← cast1]; exact J_add c 1
  have eH' : sp_M_clauseHere (k + 13) N a mb = some ((6 : Int32), a) := eH
  simp only [show (J 0 : Int32) = 0 from rfl] at n1 n2
  simp only [sp_M_clause, eH', Option.bind_some, ↓reduceIte, hc24, f_M_clause, eW, n1, n2, eS, hc1, show ((6 : Int32) = 0) = False from by decide, show ((6 : Int32) = 1) = False from by decide, show ((6 : Int32) = 2) = False from by decide, show ((6 : Int32) = 3) = False from by decide, show ((6 : Int32) = 4) = False from by decide, show ((6 : Int32) = 5) = False from by decide, show ((6 : Int32) = 6) = True from by decide, show ((6 : Int32) = -1) = False from by decide, show ((6 : Int32) < 2) = False from by decide, show ((6 : Int32) ≤ 4) = False from by decide]
  first | done | rfl | (by_cases hk : k4 = 0 <;> simp only [hk, ↓reduceIte])
