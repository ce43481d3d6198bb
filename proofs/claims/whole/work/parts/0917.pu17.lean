set_option maxHeartbeats 2000000 in
theorem readAlike_any (K : Nat) (hK : 2000 ≤ K) {al : Nat → Nat} {A : Nat → Int32} (hA : ∀ s, s < 10 → A s = J (al s)) (hl : ∀ s, s < 10 → al s < 1024) {cb : Nat → Int32} {N a st fk fp a1 st1 k1 p1 a2 st2 k2 p2 k3 p3 : Int32} {v1 v2 : Nat} (h1 : v1 < 10) (h2 : v2 < 10) (n1 : sp_Tape_readNumber K 0 9 cb N a st fk fp = some (J v1, a1, st1, k1, p1)) (n2 : sp_Tape_readNumber K 0 9 cb N a1 st1 k1 p1 = some (J v2, a2, st2, k2, p2)) (hr : sp_Tape_refuseSame K (J v2) (J v1) st2 k2 p2 = some (k3, p3)) : ∃ x, sp_Law_readAlike K A cb N a st fk fp = some (x, a2, st2, k3, p3) ∧ ∀ s, s < 10 → x s = J (alU al v1 v2 s) := by
  have e1 := alikeWith_t K h1 A
  have e2 := alikeWith_t K h2 A
  rw [hA v1 h1] at e1
  rw [hA v2 h2] at e2
  obtain ⟨A', e3, e4⟩ := alike_loop K hK hA (U := al v1 ||| al v2) (or_lt10 (hl v1 h1) (hl v2 h2)) a2 st2 k3 p3
  refine ⟨A', ?_, fun s hs => by rw [e4 s hs]; unfold alU; split <;> rfl⟩
  have n1' : sp_Tape_readNumber K (J 0) (J 9) cb N a st fk fp = some (J v1, a1, st1, k1, p1) := n1
  have n2' : sp_Tape_readNumber K (J 0) (J 9) cb N a1 st1 k1 p1 = some (J v2, a2, st2, k2, p2) := n2
  clear n1 n2 e4 hA hl
  simp (disch := omega) only [sp_Law_readAlike, n1', n2', hr, e1, e2, J_or, e3, J_lit, J_add, J_sub, J_mul, J_neg, J_nat, J_inb, J_div, ↓reduceIte, Int.toNat_natCast, Option.bind_some, J_le_t, J_le_f, J_lt_t, J_lt_f, J_eq_t, J_eq_f, L_lit, L_add, L_sub, L_mul, L_div, JL, LJ, Int.reduceToNat, Int.toNat_zero, Int.toNat_one, xb, xm, within_t, within_f, nb_t, nb_f, ni_t, ni_f, in_t, in_f, less_, bad_0, bad_1, not_true_eq_false, not_false_eq_true, L_lt_t, L_lt_f, L_eq_t, L_eq_f, lg_gt, lg_eq, lg_lt]
set_option maxHeartbeats 2000000 in
theorem same_f (K : Nat) (a b st : Int32) {k : Nat} (hk : 1 ≤ k ∧ k ≤ 3) (fp : Int32) : sp_Tape_refuseSame K a b st (J k) fp = some (J k, fp) := by
  unfold sp_Tape_refuseSame
  split
  · simp (disch := omega) only [sp_Tape_fail, sp_Tape_failed, J_lit, J_add, J_sub, J_mul, J_neg, J_nat, J_inb, J_div, ↓reduceIte, Int.toNat_natCast, Option.bind_some, J_le_t, J_le_f, J_lt_t, J_lt_f, J_eq_t, J_eq_f, L_lit, L_add, L_sub, L_mul, L_div, JL, LJ, Int.reduceToNat, Int.toNat_zero, Int.toNat_one, xb, xm, within_t, within_f, nb_t, nb_f, ni_t, ni_f, in_t, in_f, less_, bad_0, bad_1, not_true_eq_false, not_false_eq_true, L_lt_t, L_lt_f, L_eq_t, L_eq_f, lg_gt, lg_eq, lg_lt]
  · rfl
set_option maxHeartbeats 2000000 in
theorem same_ne (K : Nat) {a b : Nat} (h : a ≠ b) (ha : a < 100) (hb : b < 100) (st fk fp : Int32) : sp_Tape_refuseSame K (J a) (J b) st fk fp = some (fk, fp) := by
  simp (disch := omega) only [sp_Tape_refuseSame, J_lit, J_add, J_sub, J_mul, J_neg, J_nat, J_inb, J_div, ↓reduceIte, Int.toNat_natCast, Option.bind_some, J_le_t, J_le_f, J_lt_t, J_lt_f, J_eq_t, J_eq_f, L_lit, L_add, L_sub, L_mul, L_div, JL, LJ, Int.reduceToNat, Int.toNat_zero, Int.toNat_one, xb, xm, within_t, within_f, nb_t, nb_f, ni_t, ni_f, in_t, in_f, less_, bad_0, bad_1, not_true_eq_false, not_false_eq_true, L_lt_t, L_lt_f, L_eq_t, L_eq_f, lg_gt, lg_eq, lg_lt]
set_option maxHeartbeats 2000000 in
theorem same_eq (K : Nat) (a st fp : Int32) : sp_Tape_refuseSame K a a st (J 0) fp = some (J (2 : Nat), st) := by
  simp (disch := omega) only [sp_Tape_refuseSame, sp_Tape_fail, sp_Tape_failed, J_lit, J_add, J_sub, J_mul, J_neg, J_nat, J_inb, J_div, ↓reduceIte, Int.toNat_natCast, Option.bind_some, J_le_t, J_le_f, J_lt_t, J_lt_f, J_eq_t, J_eq_f, L_lit, L_add, L_sub, L_mul, L_div, JL, LJ, Int.reduceToNat, Int.toNat_zero, Int.toNat_one, xb, xm, within_t, within_f, nb_t, nb_f, ni_t, ni_f, in_t, in_f, less_, bad_0, bad_1, not_true_eq_false, not_false_eq_true, L_lt_t, L_lt_f, L_eq_t, L_eq_f, lg_gt, lg_eq, lg_lt]
  rfl
set_option maxHeartbeats 2000000 in
theorem cs_k5 (K : Nat) (hK : 2000 ≤ K) {cb mb : Nat → Int32} {N : Nat} {B : Nat → Nat} (h : TX cb mb N B) {a : Nat} (ha : a ≤ 400) (hb : bl B N a = a) {l : LA} {nr : Nat → Nat} {sh ho co al : Nat → Int32} {wa pa ta : Int32} {msh : Nat → Nat → Int32} {mho mco mne : Nat → Int32} {mwa mpa mta : Int32} (hl : LOK l) (hC : LC l sh ho co al wa pa ta) (hM : LM l nr msh mho mco mne mwa mpa mta) (hs : SYM (lal l)) {c : Nat} (hc : c ≤ 24) (st fp : Int32) (hk : kL B N a = 5) (hc24 : c < 24) : (∃ (l' : LA) (nr' : Nat → Nat) (e : Nat) (st' : Int32) (sh' ho' co' al' : Nat → Int32) (wa' pa' ta' : Int32) (msh' : Nat → Nat → Int32) (mho' mco' mne' : Nat → Int32) (mwa' mpa' mta' : Int32), sp_Law_readClause K sh ho co al wa pa ta (J c) cb (J N) (J a) st (J 0) fp = some (sh', ho', co', al', wa', pa', ta', J (c + 1 : Nat), J e, st', J 0, fp) ∧ sp_M_clause K (J N) (J a) 0 fp mb (J c) mwa mpa mta msh mho mco mne = some (J e, J 0, fp, J (c + 1 : Nat), mwa', mpa', mta', msh', mho', mco', mne') ∧ a < e ∧ e ≤ N ∧ c < 24 ∧ LOK l' ∧ LC l' sh' ho' co' al' wa' pa' ta' ∧ LM l' nr' msh' mho' mco' mne' mwa' mpa' mta' ∧ SYM (lal l')) ∨ (∃ (k p : Nat) (x1 x2 x3 x4 : Nat → Int32) (x5 x6 x7 x8 : Int32) (x9 : Nat) (x10 : Int32) (y1 : Nat) (y2 y3 y4 y5 : Int32) (y6 : Nat → Nat → Int32) (y7 y8 y9 : Nat → Int32), (1 ≤ k ∧ k ≤ 3) ∧ (x9 ≤ 400 ∧ y1 ≤ 400) ∧ sp_Law_readClause K sh ho co al wa pa ta (J c) cb (J N) (J a) st (J 0) fp = some (x1, x2, x3, x4, x5, x6, x7, x8, J x9, x10, J k, J p) ∧ sp_M_clause K (J N) (J a) 0 fp mb (J c) mwa mpa mta msh mho mco mne = some (J y1, J k, J p, y2, y3, y4, y5, y6, y7, y8, y9)) := by
  have hN := h.1
  have rw1 := en_rng 97 122 B N a
  have eW := rc_word K hK h (a := a) (by omega) hb st
  have eC := p_clauseOfWord K hK h (s := a) (by omega)
  have eH := p_clauseHere K hK h (a := a) (by omega) hb
  have eM := p_M_skipWord K hK h (a := a) (by omega)
  rw [hk] at eC eH
  have hw : we B N a ≤ 400 := by unfold we; omega
  have haw : a ≤ we B N a := by unfold we; omega
  change sp_M_skipWord K (J N) (J a) mb = some (J (we B N a : Nat)) at eM
  generalize we B N a = w at *
  have eF := rw_ok K hc24 (kd := 5) (by omega) (J a) fp
  have hAl := hC.2.2.2.1
  have hl4 := hl.2.2.2.1
  rcases num2 K hK h (lo := 0) (hi := 9) (by omega) (by omega) (a := w) (by omega) with ⟨v1, e1, s1, lo1, hi1, le1, lf1, c1, m1⟩ | ⟨k, p, e1, s1, hkk, lfe1, c1, m1⟩
  · rcases num3 K hK h (lo := 0) (hi := 9) (by omega) (by omega) (ne := v1) (by omega) (a := e1) (by omega) with ⟨v2, e2, s2, lo2, hi2, hne, le2, lf2, c2, m2⟩ | ⟨e2, s2, lo2, hi2, lfe2, c2, m2⟩ | ⟨k, p, e2, s2, hkk, lfe2, c2, m2⟩
    · obtain ⟨x, eR, hx⟩ := readAlike_any K hK hAl hl4 (v1 := v1) (v2 := v2) (by omega) (by omega) (c1 (J a) fp) (c2 (J s1) fp) (same_ne K hne (by omega) (by omega) (J s2) (J 0) fp)
      rcases semi2 K hK h (a := e2) (by omega) with ⟨e, le, lf, cS, mS⟩ | ⟨p, lfp, cS, mS⟩
      · have eMc := mc_k5 K hK hc24 eH eM mwa mpa mta msh mho mco mne (m1 fp) (m2 fp) (mS fp)
        rw [if_pos (show J 0 = 0 from rfl), if_pos (inbJ (v := v1) (by omega) (by omega)), if_pos (inbJ (v := v1) (by omega) (by omega)), if_pos (inbJ (v := v2) (by omega) (by omega)), if_pos (inbJ (v := v2) (by omega) (by omega)), natJ (v := v1) (by omega), natJ (v := v2) (by omega)] at eMc
        have eCc := rc_k5 K hK (by omega) eW eC eF sh ho co al wa pa ta eR (cS fp)
        obtain ⟨h1, h2, h3, h4, h5, h6, h7, h8⟩ := hM
        obtain ⟨A1, A2⟩ := AL_add h8 hs (a := v1) (b := v2) (by omega) (by omega) (fun e => hne e.symm)
        refine Or.inl ⟨(l.1, l.2.1, l.2.2.1, alU (lal l) v1 v2, l.2.2.2.2), nrU nr v1 v2, e, _, _, _, _, _, _, _, _, _, _, _, _, _, _, _, eCc, eMc, by omega, lf, hc24, ?_, ?_, ?_, A2⟩
        · obtain ⟨g1, g2, g3, g4, g5⟩ := hl
          exact ⟨g1, g2, g3, fun s hs' => (A1.2 s hs').1, g5⟩
        · obtain ⟨g1, g2, g3, g4, g5⟩ := hC
          exact ⟨g1, g2, g3, hx, g5⟩
        · refine ⟨h1, h2, h3, fun s hs' => ?_, h5, h6, h7, A1⟩
          have q1 : (1 : Int32) <<< (J v2 &&& 31) = J ((2 ^ v2 : Nat) : Int) := shlJ (s := v2) (by omega)
          have q2 : (1 : Int32) <<< (J v1 &&& 31) = J ((2 ^ v1 : Nat) : Int) := shlJ (s := v1) (by omega)
          have e1 := h4 v1 (by omega)
          have e2 := h4 v2 (by omega)
          rw [q1, q2]
          have e3 : (upd mne v1 (mne v1 ||| J ((2 ^ v2 : Nat) : Int))) v2 = J (nr v2) := by unfold upd; rw [if_neg hne]; exact e2
          rw [e3, e1, J_or, J_or]
          unfold upd nrU
          by_cases b1 : s = v2
          · rw [if_pos b1, if_pos b1]
          · rw [if_neg b1, if_neg b1]
            by_cases b2 : s = v1
            · rw [if_pos b2, if_pos b2]
            · rw [if_neg b2, if_neg b2]; exact h4 s hs'
      · have eMc := mc_k5 K hK hc24 eH eM mwa mpa mta msh mho mco mne (m1 fp) (m2 fp) (mS fp)
        rw [if_neg (by decide)] at eMc
        exact Or.inr ⟨1, p, _, _, _, _, _, _, _, _, _, _, _, _, _, _, _, _, _, _, _, by omega, ⟨by omega, by omega⟩, rc_k5 K hK (by omega) eW eC eF sh ho co al wa pa ta eR (cS fp), eMc⟩
    · obtain ⟨x, eR, hx⟩ := readAlike_any K hK hAl hl4 (v1 := v1) (v2 := v1) (by omega) (by omega) (c1 (J a) fp) (c2 (J s1) fp) (same_eq K (J v1) (J s2) fp)
      obtain ⟨vv, mm⟩ := m2 fp
      have hkk : 1 ≤ (2 : Nat) ∧ (2 : Nat) ≤ 3 := by omega
      have eMc := mc_k5 K hK hc24 eH eM mwa mpa mta msh mho mco mne (m1 fp) mm (p_sign_f K (J N) (J e2) hkk (J s2) mb)
      rw [if_neg (by decide)] at eMc
      exact Or.inr ⟨2, s2, _, _, _, _, _, _, _, _, _, _, _, _, _, _, _, _, _, _, _, hkk, ⟨by omega, by omega⟩, rc_k5 K hK (by omega) eW eC eF sh ho co al wa pa ta eR (p_semi_f K cb (J N) (J e2) hkk (J s2)), eMc⟩
    · have hkz : ¬ J (k : Int) = 0 := by rw [show (0 : Int32) = J 0 from rfl, J_eq (by omega) (by omega)]; omega
      obtain ⟨x, eR, hx⟩ := readAlike_any K hK hAl hl4 (v1 := v1) (v2 := 0) (by omega) (by omega) (c1 (J a) fp) (c2 (J s1) fp) (same_f K (J (0 : Nat)) (J v1) (J s2) hkk (J p))
      obtain ⟨vv, mm⟩ := m2 fp
      have eMc := mc_k5 K hK hc24 eH eM mwa mpa mta msh mho mco mne (m1 fp) mm (p_sign_f K (J N) (J e2) hkk (J p) mb)
      rw [if_neg hkz] at eMc
      exact Or.inr ⟨k, p, _, _, _, _, _, _, _, _, _, _, _, _, _, _, _, _, _, _, _, hkk, ⟨by omega, by omega⟩, rc_k5 K hK (by omega) eW eC eF sh ho co al wa pa ta eR (p_semi_f K cb (J N) (J e2) hkk (J p)), eMc⟩
  · have hkz : ¬ J (k : Int) = 0 := by rw [show (0 : Int32) = J 0 from rfl, J_eq (by omega) (by omega)]; omega
    have c2 : sp_Tape_readNumber K 0 9 cb (J N) (J e1) (J s1) (J k) (J p) = some (J (0 : Nat), J e1, J s1, J k, J p) := p_readNumber_f K 0 9 cb (J N) (J e1) (J s1) hkk (J p)
    obtain ⟨x, eR, hx⟩ := readAlike_any K hK hAl hl4 (v1 := 0) (v2 := 0) (by omega) (by omega) (c1 (J a) fp) c2 (same_f K (J (0 : Nat)) (J (0 : Nat)) (J s1) hkk (J p))
    obtain ⟨vv, mm⟩ := m1 fp
    have eMc := mc_k5 K hK hc24 eH eM mwa mpa mta msh mho mco mne mm (p_M_number_f K _ _ _ (J N) (J e1) hkk (J p) mb) (p_sign_f K (J N) (J e1) hkk (J p) mb)
    rw [if_neg hkz] at eMc
    exact Or.inr ⟨k, p, _, _, _, _, _, _, _, _, _, _, _, _, _, _, _, _, _, _, _, hkk, ⟨by omega, by omega⟩, rc_k5 K hK (by omega) eW eC eF sh ho co al wa pa ta eR (p_semi_f K cb (J N) (J e1) hkk (J p)), eMc⟩
set_option maxHeartbeats 2000000 in
theorem mc_bad (K : Nat) (hK : 2000 ≤ K) {mb : Nat → Int32} {N a fp : Int32} (cl : Int32) (eH : sp_M_clauseHere K N a mb = some (J (-1), a)) (wa pa ta : Int32) (sh : Nat → Nat → Int32) (ho co ne : Nat → Int32) : sp_M_clause K N a 0 fp mb cl wa pa ta sh ho co ne = some (a, J (1 : Nat), a, cl, wa, pa, ta, sh, ho, co, ne) := by
  obtain ⟨k, rfl⟩ : ∃ k, K = k + 1 := ⟨K - 1, by omega⟩
  simp (disch := omega) only [sp_M_clause, eH, sp_M_wrong, f_M_clause, J_lit, J_add, J_sub, J_mul, J_neg, J_nat, J_inb, J_div, ↓reduceIte, Int.toNat_natCast, Option.bind_some, J_le_t, J_le_f, J_lt_t, J_lt_f, J_eq_t, J_eq_f, L_lit, L_add, L_sub, L_mul, L_div, JL, LJ, Int.reduceToNat, Int.toNat_zero, Int.toNat_one, xb, xm, within_t, within_f, nb_t, nb_f, ni_t, ni_f, in_t, in_f, less_, bad_0, bad_1, not_true_eq_false, not_false_eq_true, L_lt_t, L_lt_f, L_eq_t, L_eq_f, lg_gt, lg_eq, lg_lt]
  rfl
set_option maxHeartbeats 2000000 in
theorem mc_full (K : Nat) (hK : 2000 ≤ K) {mb : Nat → Int32} {N a fp : Int32} {kd : Int} (hkd : 0 ≤ kd ∧ kd ≤ 6) (eH : sp_M_clauseHere K N a mb = some (J kd, a)) (wa pa ta : Int32) (sh : Nat → Nat → Int32) (ho co ne : Nat → Int32) : sp_M_clause K N a 0 fp mb (J 24) wa pa ta sh ho co ne = some (a, J (3 : Nat), a, J 24, wa, pa, ta, sh, ho, co, ne) := by
  obtain ⟨k, rfl⟩ : ∃ k, K = k + 1 := ⟨K - 1, by omega⟩
  simp (disch := omega) only [sp_M_clause, eH, sp_M_wrong, f_M_clause, J_lit, J_add, J_sub, J_mul, J_neg, J_nat, J_inb, J_div, ↓reduceIte, Int.toNat_natCast, Option.bind_some, J_le_t, J_le_f, J_lt_t, J_lt_f, J_eq_t, J_eq_f, L_lit, L_add, L_sub, L_mul, L_div, JL, LJ, Int.reduceToNat, Int.toNat_zero, Int.toNat_one, xb, xm, within_t, within_f, nb_t, nb_f, ni_t, ni_f, in_t, in_f, less_, bad_0, bad_1, not_true_eq_false, not_false_eq_true, L_lt_t, L_lt_f, L_eq_t, L_eq_f, lg_gt, lg_eq, lg_lt]
  rfl
set_option maxHeartbeats 2000000 in
theorem clause_step (K : Nat) (hK : 2000 ≤ K) {cb mb : Nat → Int32} {N : Nat} {B : Nat → Nat} (h : TX cb mb N B) {a : Nat} (ha : a ≤ 400) (hb : bl B N a = a) {l : LA} {nr : Nat → Nat} {sh ho co al : Nat → Int32} {wa pa ta : Int32} {msh : Nat → Nat → Int32} {mho mco mne : Nat → Int32} {mwa mpa mta : Int32} (hl : LOK l) (hC : LC l sh ho co al wa pa ta) (hM : LM l nr msh mho mco mne mwa mpa mta) (hs : SYM (lal l)) {c : Nat} (hc : c ≤ 24) (st fp : Int32) : (∃ (l' : LA) (nr' : Nat → Nat) (e : Nat) (st' : Int32) (sh' ho' co' al' : Nat → Int32) (wa' pa' ta' : Int32) (msh' : Nat → Nat → Int32) (mho' mco' mne' : Nat → Int32) (mwa' mpa' mta' : Int32), sp_Law_readClause K sh ho co al wa pa ta (J c) cb (J N) (J a) st (J 0) fp = some (sh', ho', co', al', wa', pa', ta', J (c + 1 : Nat), J e, st', J 0, fp) ∧ sp_M_clause K (J N) (J a) 0 fp mb (J c) mwa mpa mta msh mho mco mne = some (J e, J 0, fp, J (c + 1 : Nat), mwa', mpa', mta', msh', mho', mco', mne') ∧ a < e ∧ e ≤ N ∧ c < 24 ∧ LOK l' ∧ LC l' sh' ho' co' al' wa' pa' ta' ∧ LM l' nr' msh' mho' mco' mne' mwa' mpa' mta' ∧ SYM (lal l')) ∨ (∃ (k p : Nat) (x1 x2 x3 x4 : Nat → Int32) (x5 x6 x7 x8 : Int32) (x9 : Nat) (x10 : Int32) (y1 : Nat) (y2 y3 y4 y5 : Int32) (y6 : Nat → Nat → Int32) (y7 y8 y9 : Nat → Int32), (1 ≤ k ∧ k ≤ 3) ∧ (x9 ≤ 400 ∧ y1 ≤ 400) ∧ sp_Law_readClause K sh ho co al wa pa ta (J c) cb (J N) (J a) st (J 0) fp = some (x1, x2, x3, x4, x5, x6, x7, x8, J x9, x10, J k, J p) ∧ sp_M_clause K (J N) (J a) 0 fp mb (J c) mwa mpa mta msh mho mco mne = some (J y1, J k, J p, y2, y3, y4, y5, y6, y7, y8, y9)) := by
  have hr := kL_rng B N a
  have hN := h.1
  have rw1 := en_rng 97 122 B N a
  have hw : we B N a ≤ 400 := by unfold we; omega
  by_cases hk1 : kL B N a = -1
  · have eW := rc_word K hK h (a := a) (by omega) hb st
    have eC := p_clauseOfWord K hK h (s := a) (by omega)
    have eH := p_clauseHere K hK h (a := a) (by omega) hb
    rw [hk1] at eC eH
    have eF := rw_bad K c (J a) fp
    have hkk : 1 ≤ (1 : Nat) ∧ (1 : Nat) ≤ 3 := by omega
    exact Or.inr ⟨1, a, _, _, _, _, _, _, _, _, _, _, _, _, _, _, _, _, _, _, _, hkk, ⟨by omega, by omega⟩, rc_km K hK (by omega) eW eC eF sh ho co al wa pa ta (p_semi_f K cb (J N) _ hkk (J a)), mc_bad K hK _ eH mwa mpa mta msh mho mco mne⟩
  · by_cases hc24 : c < 24
    · have : kL B N a = 0 ∨ kL B N a = 1 ∨ kL B N a = 2 ∨ kL B N a = 3 ∨ kL B N a = 4 ∨ kL B N a = 5 ∨ kL B N a = 6 := by omega
      rcases this with hk | hk | hk | hk | hk | hk | hk
      · exact cs_k0 K hK h ha hb hl hC hM hs hc st fp hk hc24
      · exact cs_k1 K hK h ha hb hl hC hM hs hc st fp hk hc24
      · exact cs_k2 K hK h ha hb hl hC hM hs hc st fp hk hc24
      · exact cs_k3 K hK h ha hb hl hC hM hs hc st fp hk hc24
      · exact cs_k4 K hK h ha hb hl hC hM hs hc st fp hk hc24
      · exact cs_k5 K hK h ha hb hl hC hM hs hc st fp hk hc24
      · exact cs_k6 K hK h ha hb hl hC hM hs hc st fp hk hc24
    · obtain rfl : c = 24 := by omega
      have eW := rc_word K hK h (a := a) (by omega) hb st
      have eC := p_clauseOfWord K hK h (s := a) (by omega)
      have eH := p_clauseHere K hK h (a := a) (by omega) hb
      have hkk : 1 ≤ (3 : Nat) ∧ (3 : Nat) ≤ 3 := by omega
      have eMc := mc_full K hK (fp := fp) (kd := kL B N a) (by omega) eH mwa mpa mta msh mho mco mne
      have eS := p_semi_f K cb (J N) (J (we B N a : Nat)) hkk (J a)
      have rn := fun lo hi => p_readNumber_f K lo hi cb (J N) (J (we B N a : Nat)) (J a) hkk (J a)
      have : kL B N a = 0 ∨ kL B N a = 1 ∨ kL B N a = 2 ∨ kL B N a = 3 ∨ kL B N a = 4 ∨ kL B N a = 5 ∨ kL B N a = 6 := by omega
      rcases this with hk | hk | hk | hk | hk | hk | hk
      · rw [hk] at eC
        obtain ⟨x, eR⟩ := readShed_f K sh cb (J N) (J (we B N a : Nat)) (J a) hkk (J a)
        exact Or.inr ⟨3, a, _, _, _, _, _, _, _, _, _, _, _, _, _, _, _, _, _, _, _, hkk, ⟨by omega, by omega⟩, rc_k0 K hK (c := 24) (by omega) eW eC (rw_full K hc24 (by omega) (J a) fp) sh ho co al wa pa ta eR eS, eMc⟩
      · rw [hk] at eC
        obtain ⟨x, eR⟩ := readOfSort_f K 16 cb (J N) (J (we B N a : Nat)) (J a) hkk (J a) ho
        exact Or.inr ⟨3, a, _, _, _, _, _, _, _, _, _, _, _, _, _, _, _, _, _, _, _, hkk, ⟨by omega, by omega⟩, rc_k1 K hK (c := 24) (by omega) eW eC (rw_full K hc24 (by omega) (J a) fp) sh ho co al wa pa ta eR eS, eMc⟩
      · rw [hk] at eC
        exact Or.inr ⟨3, a, _, _, _, _, _, _, _, _, _, _, _, _, _, _, _, _, _, _, _, hkk, ⟨by omega, by omega⟩, rc_k2 K hK (c := 24) (by omega) eW eC (rw_full K hc24 (by omega) (J a) fp) sh ho co al wa pa ta (rn _ _) eS, eMc⟩
      · rw [hk] at eC
        exact Or.inr ⟨3, a, _, _, _, _, _, _, _, _, _, _, _, _, _, _, _, _, _, _, _, hkk, ⟨by omega, by omega⟩, rc_k3 K hK (c := 24) (by omega) eW eC (rw_full K hc24 (by omega) (J a) fp) sh ho co al wa pa ta (rn _ _) eS, eMc⟩
      · rw [hk] at eC
        exact Or.inr ⟨3, a, _, _, _, _, _, _, _, _, _, _, _, _, _, _, _, _, _, _, _, hkk, ⟨by omega, by omega⟩, rc_k4 K hK (c := 24) (by omega) eW eC (rw_full K hc24 (by omega) (J a) fp) sh ho co al wa pa ta (rn _ _) eS, eMc⟩
      · rw [hk] at eC
        obtain ⟨x, eR⟩ := readAlike_f K hK hC.2.2.2.1 hl.2.2.2.1 cb (J N) (J (we B N a : Nat)) (J a) hkk (J a)
        exact Or.inr ⟨3, a, _, _, _, _, _, _, _, _, _, _, _, _, _, _, _, _, _, _, _, hkk, ⟨by omega, by omega⟩, rc_k5 K hK (c := 24) (by omega) eW eC (rw_full K hc24 (by omega) (J a) fp) sh ho co al wa pa ta eR eS, eMc⟩
      · rw [hk] at eC
        obtain ⟨x, eR⟩ := readOfSort_f K 20 cb (J N) (J (we B N a : Nat)) (J a) hkk (J a) co
        exact Or.inr ⟨3, a, _, _, _, _, _, _, _, _, _, _, _, _, _, _, _, _, _, _, _, hkk, ⟨by omega, by omega⟩, rc_k6 K hK (c := 24) (by omega) eW eC (rw_full K hc24 (by omega) (J a) fp) sh ho co al wa pa ta eR eS, eMc⟩
def l0 : LA := (fun _ _ => 0, fun _ => 16, fun _ => 0, fun s => 2 ^ s, 0, 0, 8)
set_option maxHeartbeats 2000000 in
theorem l0_ok : LOK l0 := ⟨fun _ _ _ _ => Nat.zero_le _, fun _ _ => Nat.le_refl _, fun _ _ => Nat.zero_le _, fun s hs => Nat.pow_lt_pow_right (n := 10) (by omega) hs, Nat.zero_le _, Nat.zero_le _, by show 1 ≤ 8; omega, by show 8 ≤ 15; omega⟩
set_option maxHeartbeats 2000000 in
theorem l0_AL : AL (fun _ => 0) (lal l0) := by
  refine ⟨fun _ _ => by show 0 < 1024; omega, fun s hs => ⟨Nat.pow_lt_pow_right (n := 10) (by omega) hs, (bit_pow s s).mpr rfl, fun k hk h1 j hj => ?_, fun b hb h1 j hj => ?_⟩⟩
  · simp at hj
  · have := (bit_pow s j).mp hj
    subst this; exact h1
set_option maxHeartbeats 2000000 in
theorem l0_SYM : SYM (lal l0) := fun s hs j hj => by
  have := (bit_pow s j).mp hj
  subst this; exact ⟨hs, rfl⟩
set_option maxHeartbeats 2000000 in
theorem p_clear (K : Nat) (hK : 2000 ≤ K) (sh ho co al : Nat → Int32) (wa pa ta cl : Int32) : ∃ sh' ho' co' al', sp_Law_clear K sh ho co al wa pa ta cl = some (sh', ho', co', al', J 0, J 0, J 8, J 0) ∧ LC l0 sh' ho' co' al' (J 0) (J 0) (J 8) := by
  obtain ⟨sh', x1, x2⟩ := p_fill K (by omega) 0 80 (by omega) sh
  obtain ⟨ho', y1, y2⟩ := p_fill K (by omega) 16 10 (by omega) ho
  obtain ⟨co', z1, z2⟩ := p_fill K (by omega) 0 10 (by omega) co
  obtain ⟨m, s, g1, ⟨al', rfl, hA⟩, g3⟩ := lp (fun m s => f_Law_clear K m 0 s) (fun i s => ∃ al' : Nat → Int32, s = (J i, sh', ho', co', al', wa, pa, ta, cl) ∧ ∀ q, q < i → al' q = J (2 ^ q : Nat)) 1 10 (by
    rintro i hi s ⟨al', rfl, hA⟩ m
    have e := shlJ (s := i) (by omega)
    refine ⟨m, _, by omega, ⟨upd al' i (J (2 ^ i : Nat)), rfl, fun q hq => ?_⟩, ?_⟩
    · unfold upd; split
      · next h => rw [h]
      · exact hA q (by omega)
    · clear hA
      simp (disch := omega) only [f_Law_clear, e, cast1, J_lit, J_add, J_sub, J_mul, J_neg, J_nat, J_inb, J_div, ↓reduceIte, Int.toNat_natCast, Option.bind_some, J_le_t, J_le_f, J_lt_t, J_lt_f, J_eq_t, J_eq_f, L_lit, L_add, L_sub, L_mul, L_div, JL, LJ, Int.reduceToNat, Int.toNat_zero, Int.toNat_one, xb, xm, within_t, within_f, nb_t, nb_f, ni_t, ni_f, in_t, in_f, less_, bad_0, bad_1, not_true_eq_false, not_false_eq_true, L_lt_t, L_lt_f, L_eq_t, L_eq_f, lg_gt, lg_eq, lg_lt]) (J (0 : Nat), sh', ho', co', al, wa, pa, ta, cl) ⟨al, rfl, fun q hq => by omega⟩ K (by omega)
  obtain ⟨m, rfl⟩ : ∃ q, m = q + 1 := ⟨m - 1, by omega⟩
  refine ⟨sh', ho', co', al', ?_, fun g hg s hs => x2 _ (by omega), fun s hs => y2 s hs, fun s hs => z2 s hs, fun s hs => hA s hs, rfl, rfl, rfl⟩
  have e0 : sp_Law_clear K sh ho co al wa pa ta cl = f_Law_clear K K 0 (J (0 : Nat), sh', ho', co', al, wa, pa, ta, cl) := by
    unfold sp_Law_clear
    rw [x1, y1, z1]
    rfl
  rw [e0]
  refine Eq.trans g3 ?_
  simp (disch := omega) only [f_Law_clear, J_lit, J_add, J_sub, J_mul, J_neg, J_nat, J_inb, J_div, ↓reduceIte, Int.toNat_natCast, Option.bind_some, J_le_t, J_le_f, J_lt_t, J_lt_f, J_eq_t, J_eq_f, L_lit, L_add, L_sub, L_mul, L_div, JL, LJ, Int.reduceToNat, Int.toNat_zero, Int.toNat_one, xb, xm, within_t, within_f, nb_t, nb_f, ni_t, ni_f, in_t, in_f, less_, bad_0, bad_1, not_true_eq_false, not_false_eq_true, L_lt_t, L_lt_f, L_eq_t, L_eq_f, lg_gt, lg_eq, lg_lt]
set_option maxHeartbeats 2000000 in
theorem law_loop (K : Nat) (hK : 2000 ≤ K) {cb mb : Nat → Int32} {N : Nat} {B : Nat → Nat} (h : TX cb mb N B) (thr tp pl mcl w5 w6 w7 : Int32) (w1 : Nat → Nat → Int32) (w2 w3 w4 : Nat → Int32) (fp : Int32) : ∀ (r a i : Nat), N - a ≤ r → a ≤ N → i ≤ a → ∀ {l : LA} {nr : Nat → Nat} {sh ho co al : Nat → Int32} {wa pa ta : Int32} {msh : Nat → Nat → Int32} {mho mco mne : Nat → Int32} {mwa mpa mta : Int32} (hl : LOK l) (hC : LC l sh ho co al wa pa ta) (hM : LM l nr msh mho mco mne mwa mpa mta) (hs : SYM (lal l)) {c : Nat} (hc : c ≤ 24) (st : Int32) (m m' : Nat), r + 2 ≤ m → r + 2 ≤ m' → (∃ (l' : LA) (nr' : Nat → Nat) (c' e : Nat) (st' : Int32) (sh' ho' co' al' : Nat → Int32) (wa' pa' ta' : Int32) (msh' : Nat → Nat → Int32) (mho' mco' mne' : Nat → Int32) (mwa' mpa' mta' at' : Int32) (q : Nat), f_Law_readFrom K cb (J N) m 0 (J i, sh, ho, co, al, wa, pa, ta, J c, J a, st, J 0, fp) = some (sh', ho', co', al', wa', pa', ta', J c', at', st', J 0, fp) ∧ m' ≤ q + r + 1 ∧ f_M_law K mb m' 3 (J 0, J 0, J 0, J 0, thr, tp, J N, pl, J (bl B N a : Nat), J 0, fp, mcl, w5, w6, w7, w1, w2, w3, w4, J c, mwa, mpa, mta, msh, mho, mco, mne) = f_M_law K mb q 4 (J 0, J 0, J 0, J 0, thr, tp, J N, pl, J e, J 0, fp, mcl, w5, w6, w7, w1, w2, w3, w4, J c', mwa', mpa', mta', msh', mho', mco', mne') ∧ c' ≤ 24 ∧ LOK l' ∧ LC l' sh' ho' co' al' wa' pa' ta' ∧ LM l' nr' msh' mho' mco' mne' mwa' mpa' mta') ∨ (∃ (k p : Nat) (x1 x2 x3 x4 : Nat → Int32) (x5 x6 x7 x8 x9 x10 : Int32) (y1 y2 y3 y4 y5 : Int32) (y6 : Nat → Nat → Int32) (y7 y8 y9 : Nat → Int32) (q : Nat), (1 ≤ k ∧ k ≤ 3) ∧ f_Law_readFrom K cb (J N) m 0 (J i, sh, ho, co, al, wa, pa, ta, J c, J a, st, J 0, fp) = some (x1, x2, x3, x4, x5, x6, x7, x8, x9, x10, J k, J p) ∧ m' ≤ q + r + 1 ∧ f_M_law K mb m' 3 (J 0, J 0, J 0, J 0, thr, tp, J N, pl, J (bl B N a : Nat), J 0, fp, mcl, w5, w6, w7, w1, w2, w3, w4, J c, mwa, mpa, mta, msh, mho, mco, mne) = f_M_law K mb q 4 (J 0, J 0, J 0, J 0, thr, tp, J N, pl, y1, J k, J p, mcl, w5, w6, w7, w1, w2, w3, w4, y2, y3, y4, y5, y6, y7, y8, y9)) := by
  intro r
  induction r with
  | zero =>
    intro a i hr haN hia l nr sh ho co al wa pa ta msh mho mco mne mwa mpa mta hl hC hM hs c hc st m m' hm hm'
    obtain ⟨m, rfl⟩ : ∃ q, m = q + 1 := ⟨m - 1, by omega⟩
    obtain ⟨m', rfl⟩ : ∃ q, m' = q + 1 := ⟨m' - 1, by omega⟩
    have r1 := bl_rng B N a
    have hb : bl B N a = N := by omega
    have hN := h.1
    have e1 := p_skipBlanks K hK h (a := a) (by omega)
    rw [hb] at e1
    left
    refine ⟨l, nr, c, N, st, sh, ho, co, al, wa, pa, ta, msh, mho, mco, mne, mwa, mpa, mta, J N, m', ?_, by omega, ?_, hc, hl, hC, hM⟩
    · clear h hl hC hM hs
      simp (disch := omega) only [f_Law_readFrom, sp_Tape_hasMore, sp_Tape_failed, e1, J_lit, J_add, J_sub, J_mul, J_neg, J_nat, J_inb, J_div, ↓reduceIte, Int.toNat_natCast, Option.bind_some, J_le_t, J_le_f, J_lt_t, J_lt_f, J_eq_t, J_eq_f, L_lit, L_add, L_sub, L_mul, L_div, JL, LJ, Int.reduceToNat, Int.toNat_zero, Int.toNat_one, xb, xm, within_t, within_f, nb_t, nb_f, ni_t, ni_f, in_t, in_f, less_, bad_0, bad_1, not_true_eq_false, not_false_eq_true, L_lt_t, L_lt_f, L_eq_t, L_eq_f, lg_gt, lg_eq, lg_lt]
    · rw [hb]
      clear h hl hC hM hs
      simp (disch := omega) only [f_M_law, J_lit, J_add, J_sub, J_mul, J_neg, J_nat, J_inb, J_div, ↓reduceIte, Int.toNat_natCast, Option.bind_some, J_le_t, J_le_f, J_lt_t, J_lt_f, J_eq_t, J_eq_f, L_lit, L_add, L_sub, L_mul, L_div, JL, LJ, Int.reduceToNat, Int.toNat_zero, Int.toNat_one, xb, xm, within_t, within_f, nb_t, nb_f, ni_t, ni_f, in_t, in_f, less_, bad_0, bad_1, not_true_eq_false, not_false_eq_true, L_lt_t, L_lt_f, L_eq_t, L_eq_f, lg_gt, lg_eq, lg_lt]
  | succ r ih =>
    intro a i hr haN hia l nr sh ho co al wa pa ta msh mho mco mne mwa mpa mta hl hC hM hs c hc st m m' hm hm'
    obtain ⟨m, rfl⟩ : ∃ q, m = q + 1 := ⟨m - 1, by omega⟩
    obtain ⟨m', rfl⟩ : ∃ q, m' = q + 1 := ⟨m' - 1, by omega⟩
    have r1 := bl_rng B N a
    have hN := h.1
    have e1 := p_skipBlanks K hK h (a := a) (by omega)
    have hbb := bl_bl B N a
    generalize bl B N a = b at *
    by_cases hend : N ≤ b
    · left
      refine ⟨l, nr, c, b, st, sh, ho, co, al, wa, pa, ta, msh, mho, mco, mne, mwa, mpa, mta, J b, m', ?_, by omega, ?_, hc, hl, hC, hM⟩
      · clear h hl hC hM hs ih
        simp (disch := omega) only [f_Law_readFrom, sp_Tape_hasMore, sp_Tape_failed, e1, J_lit, J_add, J_sub, J_mul, J_neg, J_nat, J_inb, J_div, ↓reduceIte, Int.toNat_natCast, Option.bind_some, J_le_t, J_le_f, J_lt_t, J_lt_f, J_eq_t, J_eq_f, L_lit, L_add, L_sub, L_mul, L_div, JL, LJ, Int.reduceToNat, Int.toNat_zero, Int.toNat_one, xb, xm, within_t, within_f, nb_t, nb_f, ni_t, ni_f, in_t, in_f, less_, bad_0, bad_1, not_true_eq_false, not_false_eq_true, L_lt_t, L_lt_f, L_eq_t, L_eq_f, lg_gt, lg_eq, lg_lt]
      · clear h hl hC hM hs ih
        simp (disch := omega) only [f_M_law, J_lit, J_add, J_sub, J_mul, J_neg, J_nat, J_inb, J_div, ↓reduceIte, Int.toNat_natCast, Option.bind_some, J_le_t, J_le_f, J_lt_t, J_lt_f, J_eq_t, J_eq_f, L_lit, L_add, L_sub, L_mul, L_div, JL, LJ, Int.reduceToNat, Int.toNat_zero, Int.toNat_one, xb, xm, within_t, within_f, nb_t, nb_f, ni_t, ni_f, in_t, in_f, less_, bad_0, bad_1, not_true_eq_false, not_false_eq_true, L_lt_t, L_lt_f, L_eq_t, L_eq_f, lg_gt, lg_eq, lg_lt]
    · rcases clause_step K hK h (a := b) (by omega) hbb hl hC hM hs hc st fp with ⟨l', nr', e, st', sh', ho', co', al', wa', pa', ta', msh', mho', mco', mne', mwa', mpa', mta', s1, s2, s3, s4, s5, s6, s7, s8, s9⟩ | ⟨k, p, x1, x2, x3, x4, x5, x6, x7, x8, x9, x10, y1, y2, y3, y4, y5, y6, y7, y8, y9, hk, hb9, s1, s2⟩
      · have e2 := p_M_blanks K hK h (a := e) (by omega)
        have c1 : f_Law_readFrom K cb (J N) (m + 1) 0 (J i, sh, ho, co, al, wa, pa, ta, J c, J a, st, J 0, fp) = f_Law_readFrom K cb (J N) m 0 (J (i + 1 : Nat), sh', ho', co', al', wa', pa', ta', J (c + 1 : Nat), J e, st', J 0, fp) := by
          clear h hl hC hM hs ih s2 s6 s7 s8 s9
          simp (disch := omega) only [f_Law_readFrom, sp_Tape_hasMore, sp_Tape_failed, e1, s1, cast1, J_lit, J_add, J_sub, J_mul, J_neg, J_nat, J_inb, J_div, ↓reduceIte, Int.toNat_natCast, Option.bind_some, J_le_t, J_le_f, J_lt_t, J_lt_f, J_eq_t, J_eq_f, L_lit, L_add, L_sub, L_mul, L_div, JL, LJ, Int.reduceToNat, Int.toNat_zero, Int.toNat_one, xb, xm, within_t, within_f, nb_t, nb_f, ni_t, ni_f, in_t, in_f, less_, bad_0, bad_1, not_true_eq_false, not_false_eq_true, L_lt_t, L_lt_f, L_eq_t, L_eq_f, lg_gt, lg_eq, lg_lt]
        have c2 : f_M_law K mb (m' + 1) 3 (J 0, J 0, J 0, J 0, thr, tp, J N, pl, J b, J 0, fp, mcl, w5, w6, w7, w1, w2, w3, w4, J c, mwa, mpa, mta, msh, mho, mco, mne) = f_M_law K mb m' 3 (J 0, J 0, J 0, J 0, thr, tp, J N, pl, J (bl B N e : Nat), J 0, fp, mcl, w5, w6, w7, w1, w2, w3, w4, J (c + 1 : Nat), mwa', mpa', mta', msh', mho', mco', mne') := by
          have s2' : sp_M_clause K (J N) (J b) (J 0) fp mb (J c) mwa mpa mta msh mho mco mne = some (J e, J 0, fp, J (c + 1 : Nat), mwa', mpa', mta', msh', mho', mco', mne') := s2
          clear h hl hC hM hs ih s1 s2 s6 s7 s8 s9
          simp (disch := omega) only [f_M_law, s2', e2, J_lit, J_add, J_sub, J_mul, J_neg, J_nat, J_inb, J_div, ↓reduceIte, Int.toNat_natCast, Option.bind_some, J_le_t, J_le_f, J_lt_t, J_lt_f, J_eq_t, J_eq_f, L_lit, L_add, L_sub, L_mul, L_div, JL, LJ, Int.reduceToNat, Int.toNat_zero, Int.toNat_one, xb, xm, within_t, within_f, nb_t, nb_f, ni_t, ni_f, in_t, in_f, less_, bad_0, bad_1, not_true_eq_false, not_false_eq_true, L_lt_t, L_lt_f, L_eq_t, L_eq_f, lg_gt, lg_eq, lg_lt]
        rcases ih e (i + 1) (by omega) s4 (by omega) s6 s7 s8 s9 (c := c + 1) (by omega) st' m m' (by omega) (by omega) with ⟨l2, nr2, cc, ee, st2, sh2, ho2, co2, al2, wa2, pa2, ta2, msh2, mho2, mco2, mne2, mwa2, mpa2, mta2, at2, q, t1, t2, t3, t4⟩ | ⟨k, p, x1, x2, x3, x4, x5, x6, x7, x8, x9, x10, y1, y2, y3, y4, y5, y6, y7, y8, y9, q, hk, t1, t2, t3⟩
        · left
          exact ⟨l2, nr2, cc, ee, st2, sh2, ho2, co2, al2, wa2, pa2, ta2, msh2, mho2, mco2, mne2, mwa2, mpa2, mta2, at2, q, c1.trans t1, by omega, c2.trans t3, t4⟩
        · right
          exact ⟨k, p, x1, x2, x3, x4, x5, x6, x7, x8, x9, x10, y1, y2, y3, y4, y5, y6, y7, y8, y9, q, hk, c1.trans t1, by omega, c2.trans t3⟩
      · right
        obtain ⟨m, rfl⟩ : ∃ q, m = q + 1 := ⟨m - 1, by omega⟩
        obtain ⟨m', rfl⟩ : ∃ q, m' = q + 1 := ⟨m' - 1, by omega⟩
        have e2 := p_M_blanks K hK h (a := y1) (by omega)
        have e3 := p_skipBlanks K hK h (a := x9) (by omega)
        refine ⟨k, p, x1, x2, x3, x4, x5, x6, x7, x8, J (bl B N x9 : Nat), x10, J (bl B N y1 : Nat), y2, y3, y4, y5, y6, y7, y8, y9, m', hk, ?_, by omega, ?_⟩
        rotate_left
        · have s2' : sp_M_clause K (J N) (J b) (J 0) fp mb (J c) mwa mpa mta msh mho mco mne = some (J y1, J k, J p, y2, y3, y4, y5, y6, y7, y8, y9) := s2
          clear h hl hC hM hs ih s1 s2
          simp (disch := omega) only [f_M_law, s2', e2, J_lit, J_add, J_sub, J_mul, J_neg, J_nat, J_inb, J_div, ↓reduceIte, Int.toNat_natCast, Option.bind_some, J_le_t, J_le_f, J_lt_t, J_lt_f, J_eq_t, J_eq_f, L_lit, L_add, L_sub, L_mul, L_div, JL, LJ, Int.reduceToNat, Int.toNat_zero, Int.toNat_one, xb, xm, within_t, within_f, nb_t, nb_f, ni_t, ni_f, in_t, in_f, less_, bad_0, bad_1, not_true_eq_false, not_false_eq_true, L_lt_t, L_lt_f, L_eq_t, L_eq_f, lg_gt, lg_eq, lg_lt]
        · clear h hl hC hM hs ih s2
          simp (disch := omega) only [f_Law_readFrom, sp_Tape_hasMore, sp_Tape_failed, e1, s1, cast1, e3, J_lit, J_add, J_sub, J_mul, J_neg, J_nat, J_inb, J_div, ↓reduceIte, Int.toNat_natCast, Option.bind_some, J_le_t, J_le_f, J_lt_t, J_lt_f, J_eq_t, J_eq_f, L_lit, L_add, L_sub, L_mul, L_div, JL, LJ, Int.reduceToNat, Int.toNat_zero, Int.toNat_one, xb, xm, within_t, within_f, nb_t, nb_f, ni_t, ni_f, in_t, in_f, less_, bad_0, bad_1, not_true_eq_false, not_false_eq_true, L_lt_t, L_lt_f, L_eq_t, L_eq_f, lg_gt, lg_eq, lg_lt]
set_option maxHeartbeats 2000000 in
theorem RT_TX {cb mb : Nat → Int32} {cn mn : Int32} {n : Nat} {B : Nat → Nat} (h : RT cb cn mb mn n B) {N : Nat} (hN : N ≤ n) : TX cb mb N B := by
  obtain ⟨h1, h2, h3, h4, h5, h6⟩ := h
  exact ⟨by omega, fun i hi => h4 i (by omega), fun i hi => h5 i (by omega), fun i hi => h6 i (by omega)⟩
set_option maxHeartbeats 2000000 in
theorem law_new (K : Nat) (hK : 2000 ≤ K) (mb : Nat → Int32) (thr tp sz pl at' fk fp mcl w5 w6 w7 : Int32) (w1 : Nat → Nat → Int32) (w2 w3 w4 : Nat → Int32) (y1 y2 y3 y4 : Int32) (y5 : Nat → Nat → Int32) (y6 y7 y8 : Nat → Int32) (n : Nat) (hn : 200 ≤ n) : ∃ (z5 : Nat → Nat → Int32) (z6 z7 z8 : Nat → Int32) (q : Nat), n ≤ q + 111 ∧ f_M_law K mb n 1 (J 0, J 0, J 0, J 0, thr, tp, sz, pl, at', fk, fp, mcl, w5, w6, w7, w1, w2, w3, w4, y1, y2, y3, y4, y5, y6, y7, y8) = f_M_law K mb q 3 (J 0, J 0, J 0, J 0, thr, tp, sz, pl, at', fk, fp, mcl, w5, w6, w7, w1, w2, w3, w4, y1, y2, y3, y4, z5, z6, z7, z8) ∧ (∀ g, g < 8 → ∀ s, s < 10 → z5 g s = J 0) ∧ (∀ s, s < 10 → z6 s = J 16) ∧ (∀ s, s < 10 → z7 s = J 0) ∧ ∀ s, s < 10 → z8 s = J 0 := by
  obtain ⟨m, s, g1, ⟨a5, a6, a7, a8, rfl, b5, b6, b7, b8⟩, g3⟩ := lp (fun m s => f_M_law K mb m 1 s) (fun i s => ∃ (a5 : Nat → Nat → Int32) (a6 a7 a8 : Nat → Int32), s = (J 0, J 0, J i, J 0, thr, tp, sz, pl, at', fk, fp, mcl, w5, w6, w7, w1, w2, w3, w4, y1, y2, y3, y4, a5, a6, a7, a8) ∧ (∀ g, g < 8 → ∀ s, s < i → a5 g s = J 0) ∧ (∀ s, s < i → a6 s = J 16) ∧ (∀ s, s < i → a7 s = J 0) ∧ ∀ s, s < i → a8 s = J 0) 10 10 (by
    rintro i hi s ⟨a5, a6, a7, a8, rfl, b5, b6, b7, b8⟩ m
    obtain ⟨m', s', k1, ⟨d5, rfl, e5, e6⟩, k3⟩ := lp (fun m s => f_M_law K mb m 2 s) (fun j s => ∃ d5 : Nat → Nat → Int32, s = (J 0, J 0, J i, J j, thr, tp, sz, pl, at', fk, fp, mcl, w5, w6, w7, w1, w2, w3, w4, y1, y2, y3, y4, d5, upd a6 i (J 16), upd a7 i (J 0), upd a8 i (J 0)) ∧ (∀ g, g < j → d5 g i = J 0) ∧ ∀ g, g < 8 → ∀ s, s < i → d5 g s = J 0) 1 8 (by
      rintro j hj s ⟨d5, rfl, e5, e6⟩ m
      refine ⟨m, _, by omega, ⟨va_up d5 j (upd (d5 j) i (J 0)), rfl, fun g hg => ?_, fun g hg s hs => ?_⟩, ?_⟩
      · by_cases hgj : g = j
        · subst hgj; rw [va_up_eq]; unfold upd; rw [if_pos rfl]
        · rw [pu_up_ne _ _ hgj]; exact e5 g (by omega)
      · by_cases hgj : g = j
        · subst hgj; rw [va_up_eq]; unfold upd; rw [if_neg (by omega)]; exact e6 g hg s hs
        · rw [pu_up_ne _ _ hgj]; exact e6 g hg s hs
      · clear e5 e6 b5 b6 b7 b8
        simp (disch := omega) only [f_M_law, cast1, J_lit, J_add, J_sub, J_mul, J_neg, J_nat, J_inb, J_div, ↓reduceIte, Int.toNat_natCast, Option.bind_some, J_le_t, J_le_f, J_lt_t, J_lt_f, J_eq_t, J_eq_f, L_lit, L_add, L_sub, L_mul, L_div, JL, LJ, Int.reduceToNat, Int.toNat_zero, Int.toNat_one, xb, xm, within_t, within_f, nb_t, nb_f, ni_t, ni_f, in_t, in_f, less_, bad_0, bad_1, not_true_eq_false, not_false_eq_true, L_lt_t, L_lt_f, L_eq_t, L_eq_f, lg_gt, lg_eq, lg_lt]) (J 0, J 0, J i, J (0 : Nat), thr, tp, sz, pl, at', fk, fp, mcl, w5, w6, w7, w1, w2, w3, w4, y1, y2, y3, y4, a5, upd a6 i (J 16), upd a7 i (J 0), upd a8 i (J 0)) ⟨a5, rfl, fun g hg => by omega, b5⟩ (m + 9) (by omega)
    obtain ⟨m', rfl⟩ : ∃ q, m' = q + 1 := ⟨m' - 1, by omega⟩
    refine ⟨m', (J 0, J 0, J (i + 1 : Nat), J 0, thr, tp, sz, pl, at', fk, fp, mcl, w5, w6, w7, w1, w2, w3, w4, y1, y2, y3, y4, d5, upd a6 i (J 16), upd a7 i (J 0), upd a8 i (J 0)), by omega, ⟨d5, _, _, _, rfl, fun g hg s hs => ?_, fun s hs => ?_, fun s hs => ?_, fun s hs => ?_⟩, ?_⟩
    · by_cases hsi : s = i
      · subst hsi; exact e5 g hg
      · exact e6 g hg s (by omega)
    · unfold upd; split
      · rfl
      · exact b6 s (by omega)
    · unfold upd; split
      · rfl
      · exact b7 s (by omega)
    · unfold upd; split
      · rfl
      · exact b8 s (by omega)
    · have c1 : ∀ m, f_M_law K mb (m + 1) 1 (J 0, J 0, J i, J 0, thr, tp, sz, pl, at', fk, fp, mcl, w5, w6, w7, w1, w2, w3, w4, y1, y2, y3, y4, a5, a6, a7, a8) = f_M_law K mb m 2 (J 0, J 0, J i, J (0 : Nat), thr, tp, sz, pl, at', fk, fp, mcl, w5, w6, w7, w1, w2, w3, w4, y1, y2, y3, y4, a5, upd a6 i (J 16), upd a7 i (J 0), upd a8 i (J 0)) := fun m => by
        clear e5 e6 b5 b6 b7 b8 k3
        simp (disch := omega) only [f_M_law, J_lit, J_add, J_sub, J_mul, J_neg, J_nat, J_inb, J_div, ↓reduceIte, Int.toNat_natCast, Option.bind_some, J_le_t, J_le_f, J_lt_t, J_lt_f, J_eq_t, J_eq_f, L_lit, L_add, L_sub, L_mul, L_div, JL, LJ, Int.reduceToNat, Int.toNat_zero, Int.toNat_one, xb, xm, within_t, within_f, nb_t, nb_f, ni_t, ni_f, in_t, in_f, less_, bad_0, bad_1, not_true_eq_false, not_false_eq_true, L_lt_t, L_lt_f, L_eq_t, L_eq_f, lg_gt, lg_eq, lg_lt]
        rfl
      refine (c1 (m + 9)).trans (Eq.trans k3 ?_)
      clear e5 e6 b5 b6 b7 b8 k3
      simp (disch := omega) only [f_M_law, cast1, J_lit, J_add, J_sub, J_mul, J_neg, J_nat, J_inb, J_div, ↓reduceIte, Int.toNat_natCast, Option.bind_some, J_le_t, J_le_f, J_lt_t, J_lt_f, J_eq_t, J_eq_f, L_lit, L_add, L_sub, L_mul, L_div, JL, LJ, Int.reduceToNat, Int.toNat_zero, Int.toNat_one, xb, xm, within_t, within_f, nb_t, nb_f, ni_t, ni_f, in_t, in_f, less_, bad_0, bad_1, not_true_eq_false, not_false_eq_true, L_lt_t, L_lt_f, L_eq_t, L_eq_f, lg_gt, lg_eq, lg_lt]) (J 0, J 0, J (0 : Nat), J 0, thr, tp, sz, pl, at', fk, fp, mcl, w5, w6, w7, w1, w2, w3, w4, y1, y2, y3, y4, y5, y6, y7, y8) ⟨y5, y6, y7, y8, rfl, fun g hg s hs => by omega, fun s hs => by omega, fun s hs => by omega, fun s hs => by omega⟩ n (by omega)
  obtain ⟨m, rfl⟩ : ∃ q, m = q + 1 := ⟨m - 1, by omega⟩
  refine ⟨a5, a6, a7, a8, m, by omega, Eq.trans g3 ?_, b5, b6, b7, b8⟩
  clear b5 b6 b7 b8 g3
  simp (disch := omega) only [f_M_law, J_lit, J_add, J_sub, J_mul, J_neg, J_nat, J_inb, J_div, ↓reduceIte, Int.toNat_natCast, Option.bind_some, J_le_t, J_le_f, J_lt_t, J_lt_f, J_eq_t, J_eq_f, L_lit, L_add, L_sub, L_mul, L_div, JL, LJ, Int.reduceToNat, Int.toNat_zero, Int.toNat_one, xb, xm, within_t, within_f, nb_t, nb_f, ni_t, ni_f, in_t, in_f, less_, bad_0, bad_1, not_true_eq_false, not_false_eq_true, L_lt_t, L_lt_f, L_eq_t, L_eq_f, lg_gt, lg_eq, lg_lt]
set_option maxHeartbeats 2000000 in
theorem law_take (K : Nat) (hK : 2000 ≤ K) (mb : Nat → Int32) (thr tp sz pl at' fk fp mcl w5 w6 w7 : Int32) (w1 : Nat → Nat → Int32) (w2 w3 w4 : Nat → Int32) (y1 y2 y3 y4 : Int32) (y5 : Nat → Nat → Int32) (y6 y7 y8 : Nat → Int32) (n : Nat) (hn : 200 ≤ n) : ∃ (z1 : Nat → Nat → Int32) (z2 z3 z4 : Nat → Int32), f_M_law K mb n 5 (J 0, J 0, J 0, J 0, thr, tp, sz, pl, at', fk, fp, mcl, w5, w6, w7, w1, w2, w3, w4, y1, y2, y3, y4, y5, y6, y7, y8) = some (mcl, thr, tp, sz, pl, at', fk, fp, mcl, w5, w6, w7, z1, z2, z3, z4, y1, y2, y3, y4, y5, y6, y7, y8) ∧ (∀ g, g < 8 → ∀ s, s < 10 → z1 g s = y5 g s) ∧ (∀ s, s < 10 → z2 s = y6 s) ∧ (∀ s, s < 10 → z3 s = y7 s) ∧ ∀ s, s < 10 → z4 s = y8 s := by
  obtain ⟨m, s, g1, ⟨a5, a6, a7, a8, rfl, b5, b6, b7, b8⟩, g3⟩ := lp (fun m s => f_M_law K mb m 5 s) (fun i s => ∃ (a5 : Nat → Nat → Int32) (a6 a7 a8 : Nat → Int32), s = (J 0, J 0, J i, J 0, thr, tp, sz, pl, at', fk, fp, mcl, w5, w6, w7, a5, a6, a7, a8, y1, y2, y3, y4, y5, y6, y7, y8) ∧ (∀ g, g < 8 → ∀ s, s < i → a5 g s = y5 g s) ∧ (∀ s, s < i → a6 s = y6 s) ∧ (∀ s, s < i → a7 s = y7 s) ∧ ∀ s, s < i → a8 s = y8 s) 10 10 (by
    rintro i hi s ⟨a5, a6, a7, a8, rfl, b5, b6, b7, b8⟩ m
    obtain ⟨m', s', k1, ⟨d5, rfl, e5, e6⟩, k3⟩ := lp (fun m s => f_M_law K mb m 6 s) (fun j s => ∃ d5 : Nat → Nat → Int32, s = (J 0, J 0, J i, J j, thr, tp, sz, pl, at', fk, fp, mcl, w5, w6, w7, d5, upd a6 i (y6 i), upd a7 i (y7 i), upd a8 i (y8 i), y1, y2, y3, y4, y5, y6, y7, y8) ∧ (∀ g, g < j → d5 g i = y5 g i) ∧ ∀ g, g < 8 → ∀ s, s < i → d5 g s = y5 g s) 1 8 (by
      rintro j hj s ⟨d5, rfl, e5, e6⟩ m
      refine ⟨m, _, by omega, ⟨va_up d5 j (upd (d5 j) i (y5 j i)), rfl, fun g hg => ?_, fun g hg s hs => ?_⟩, ?_⟩
      · by_cases hgj : g = j
        · subst hgj; rw [va_up_eq]; unfold upd; rw [if_pos rfl]
        · rw [pu_up_ne _ _ hgj]; exact e5 g (by omega)
      · by_cases hgj : g = j
        · subst hgj; rw [va_up_eq]; unfold upd; rw [if_neg (by omega)]; exact e6 g hg s hs
        · rw [pu_up_ne _ _ hgj]; exact e6 g hg s hs
      · clear e5 e6 b5 b6 b7 b8
        simp (disch := omega) only [f_M_law, cast1, J_lit, J_add, J_sub, J_mul, J_neg, J_nat, J_inb, J_div, ↓reduceIte, Int.toNat_natCast, Option.bind_some, J_le_t, J_le_f, J_lt_t, J_lt_f, J_eq_t, J_eq_f, L_lit, L_add, L_sub, L_mul, L_div, JL, LJ, Int.reduceToNat, Int.toNat_zero, Int.toNat_one, xb, xm, within_t, within_f, nb_t, nb_f, ni_t, ni_f, in_t, in_f, less_, bad_0, bad_1, not_true_eq_false, not_false_eq_true, L_lt_t, L_lt_f, L_eq_t, L_eq_f, lg_gt, lg_eq, lg_lt]) (J 0, J 0, J i, J (0 : Nat), thr, tp, sz, pl, at', fk, fp, mcl, w5, w6, w7, a5, upd a6 i (y6 i), upd a7 i (y7 i), upd a8 i (y8 i), y1, y2, y3, y4, y5, y6, y7, y8) ⟨a5, rfl, fun g hg => by omega, b5⟩ (m + 9) (by omega)
    obtain ⟨m', rfl⟩ : ∃ q, m' = q + 1 := ⟨m' - 1, by omega⟩
    refine ⟨m', (J 0, J 0, J (i + 1 : Nat), J 0, thr, tp, sz, pl, at', fk, fp, mcl, w5, w6, w7, d5, upd a6 i (y6 i), upd a7 i (y7 i), upd a8 i (y8 i), y1, y2, y3, y4, y5, y6, y7, y8), by omega, ⟨d5, _, _, _, rfl, fun g hg s hs => ?_, fun s hs => ?_, fun s hs => ?_, fun s hs => ?_⟩, ?_⟩
    · by_cases hsi : s = i
      · subst hsi; exact e5 g hg
      · exact e6 g hg s (by omega)
    · unfold upd; split
      · next h => rw [h]
      · exact b6 s (by omega)
    · unfold upd; split
      · next h => rw [h]
      · exact b7 s (by omega)
    · unfold upd; split
      · next h => rw [h]
      · exact b8 s (by omega)
    · have c1 : ∀ m, f_M_law K mb (m + 1) 5 (J 0, J 0, J i, J 0, thr, tp, sz, pl, at', fk, fp, mcl, w5, w6, w7, a5, a6, a7, a8, y1, y2, y3, y4, y5, y6, y7, y8) = f_M_law K mb m 6 (J 0, J 0, J i, J (0 : Nat), thr, tp, sz, pl, at', fk, fp, mcl, w5, w6, w7, a5, upd a6 i (y6 i), upd a7 i (y7 i), upd a8 i (y8 i), y1, y2, y3, y4, y5, y6, y7, y8) := fun m => by
        clear e5 e6 b5 b6 b7 b8 k3
        simp (disch := omega) only [f_M_law, J_lit, J_add, J_sub, J_mul, J_neg, J_nat, J_inb, J_div, ↓reduceIte, Int.toNat_natCast, Option.bind_some, J_le_t, J_le_f, J_lt_t, J_lt_f, J_eq_t, J_eq_f, L_lit, L_add, L_sub, L_mul, L_div, JL, LJ, Int.reduceToNat, Int.toNat_zero, Int.toNat_one, xb, xm, within_t, within_f, nb_t, nb_f, ni_t, ni_f, in_t, in_f, less_, bad_0, bad_1, not_true_eq_false, not_false_eq_true, L_lt_t, L_lt_f, L_eq_t, L_eq_f, lg_gt, lg_eq, lg_lt]
        rfl
      refine (c1 (m + 9)).trans (Eq.trans k3 ?_)
      clear e5 e6 b5 b6 b7 b8 k3
      simp (disch := omega) only [f_M_law, cast1, J_lit, J_add, J_sub, J_mul, J_neg, J_nat, J_inb, J_div, ↓reduceIte, Int.toNat_natCast, Option.bind_some, J_le_t, J_le_f, J_lt_t, J_lt_f, J_eq_t, J_eq_f, L_lit, L_add, L_sub, L_mul, L_div, JL, LJ, Int.reduceToNat, Int.toNat_zero, Int.toNat_one, xb, xm, within_t, within_f, nb_t, nb_f, ni_t, ni_f, in_t, in_f, less_, bad_0, bad_1, not_true_eq_false, not_false_eq_true, L_lt_t, L_lt_f, L_eq_t, L_eq_f, lg_gt, lg_eq, lg_lt]) (J 0, J 0, J (0 : Nat), J 0, thr, tp, sz, pl, at', fk, fp, mcl, w5, w6, w7, w1, w2, w3, w4, y1, y2, y3, y4, y5, y6, y7, y8) ⟨w1, w2, w3, w4, rfl, fun g hg s hs => by omega, fun s hs => by omega, fun s hs => by omega, fun s hs => by omega⟩ n (by omega)
  obtain ⟨m, rfl⟩ : ∃ q, m = q + 1 := ⟨m - 1, by omega⟩
  refine ⟨a5, a6, a7, a8, Eq.trans g3 ?_, b5, b6, b7, b8⟩
  clear b5 b6 b7 b8 g3
  simp (disch := omega) only [f_M_law, J_lit, J_add, J_sub, J_mul, J_neg, J_nat, J_inb, J_div, ↓reduceIte, Int.toNat_natCast, Option.bind_some, J_le_t, J_le_f, J_lt_t, J_lt_f, J_eq_t, J_eq_f, L_lit, L_add, L_sub, L_mul, L_div, JL, LJ, Int.reduceToNat, Int.toNat_zero, Int.toNat_one, xb, xm, within_t, within_f, nb_t, nb_f, ni_t, ni_f, in_t, in_f, less_, bad_0, bad_1, not_true_eq_false, not_false_eq_true, L_lt_t, L_lt_f, L_eq_t, L_eq_f, lg_gt, lg_eq, lg_lt]
set_option maxHeartbeats 2000000 in
theorem pc_law (K : Nat) (hK : 1000000 ≤ K) (p1 thr : Int32) {cb mb : Nat → Int32} {cn mn : Int32} {n : Nat} {B : Nat → Nat} (hT : RT cb cn mb mn n B) (ql qd : Nat) (te ta' ts tk fpl : Int32) (d1 d2 d3 d4 : Nat → Int32) (d5 d6 d7 d8 : Int32) (o : Nat → Int64) (msz mat mfk mfp mcl m5 m6 m7 : Int32) (m1 : Nat → Nat → Int32) (m2 m3 m4 : Nat → Int32) (x1 x2 x3 x4 : Int32) (x5 : Nat → Nat → Int32) (x6 x7 x8 : Nat → Int32) : ∃ (kd : Int32) (q1 q2 : Nat) (z1 z2 z3 z4 z5 fpl' : Int32) (e1 e2 e3 e4 : Nat → Int32) (e5 e6 e7 e8 : Int32) (o' : Nat → Int64) (b thr' tp y1 y2 y3 y4 cl w5 w6 w7 : Int32) (w1 : Nat → Nat → Int32) (w2 w3 w4 : Nat → Int32) (u1 u2 u3 u4 : Int32) (u5 : Nat → Nat → Int32) (u6 u7 u8 : Nat → Int32), sp_W_law K p1 ql qd cb cn te ta' ts tk fpl d1 d2 d3 d4 d5 d6 d7 d8 o = some (kd, q1, q2, z1, z2, z3, z4, z5, fpl', e1, e2, e3, e4, e5, e6, e7, e8, o') ∧ sp_M_law K p1 thr mn msz fpl mat mfk mfp mb mcl m5 m6 m7 m1 m2 m3 m4 x1 x2 x3 x4 x5 x6 x7 x8 = some (b, thr', tp, y1, fpl', y2, y3, y4, cl, w5, w6, w7, w1, w2, w3, w4, u1, u2, u3, u4, u5, u6, u7, u8) ∧ AA kd o' b thr' ∧ (∃ n' B', RT cb z1 mb tp n' B') ∧ ((q1 = ql ∧ q2 = qd ∧ cl = mcl ∧ w1 = m1 ∧ w2 = m2 ∧ w3 = m3 ∧ w4 = m4 ∧ w5 = m5 ∧ w6 = m6 ∧ w7 = m7) ∨ (q1 = qd ∧ q2 = ql ∧ e8 = cl ∧ ∃ l' nr', HL l' nr' e1 e2 e3 e4 e5 e6 e7 w1 w2 w3 w4 w5 w6 w7)) := by
  have hT' := hT
  obtain ⟨hn, rfl, rfl, -⟩ := hT
  obtain ⟨N, rfl, hN⟩ := ex_J p1
  by_cases hc : 0 ≤ N ∧ N ≤ n
  · obtain ⟨N, rfl⟩ : ∃ x : Nat, N = x := ⟨N.toNat, by omega⟩
    have hX : TX cb mb N B := RT_TX hT' (by omega)
    obtain ⟨sh', ho', co', al', cl1, cl2⟩ := p_clear K (by omega) d1 d2 d3 d4 d5 d6 d7 d8
    have bl0 := p_M_blanks K (by omega) hX (a := 0) (by omega)
    rw [Int.natCast_zero] at bl0
    have eIn := in_t K (a := N) (b := 0) (c := n) (by omega) (by omega) (by omega) (by omega)
    obtain ⟨K, rfl⟩ : ∃ k, K = k + 1 := ⟨K - 1, by omega⟩
    obtain ⟨z5, z6, z7, z8, q, hq, nw1, nw2, nw3, nw4, nw5⟩ := law_new (K + 1) (by omega) mb (J 0) (J 0) (J N) fpl (J (bl B N 0 : Nat)) (J 0) (J (-1)) mcl m5 m6 m7 m1 m2 m3 m4 (J 0) (J 0) (J 0) (J 8) x5 x6 x7 x8 K (by omega)
    have hM0 : LM l0 (fun _ => 0) z5 z6 z7 z8 (J 0) (J 0) (J 8) := ⟨fun g hg s hs => nw2 g hg s hs, fun s hs => nw3 s hs, fun s hs => nw4 s hs, fun s hs => nw5 s hs, rfl, rfl, rfl, l0_AL⟩
    have eM1 : sp_M_law (K + 1) (J N) thr (J n) msz fpl mat mfk mfp mb mcl m5 m6 m7 m1 m2 m3 m4 x1 x2 x3 x4 x5 x6 x7 x8 = f_M_law (K + 1) mb q 3 (J 0, J 0, J 0, J 0, J 0, J 0, J N, fpl, J (bl B N 0 : Nat), J 0, J (-1), mcl, m5, m6, m7, m1, m2, m3, m4, J (0 : Nat), J 0, J 0, J 8, z5, z6, z7, z8) := by
      rw [show J ((0 : Nat) : Int) = J 0 from rfl, ← nw1]
      clear nw1 nw2 nw3 nw4 nw5 hM0 hT' hX cl1 cl2
      simp (disch := omega) only [sp_M_law, eIn, J_lit, J_add, J_sub, J_mul, J_neg, J_nat, J_inb, J_div, ↓reduceIte, Int.toNat_natCast, Option.bind_some, J_le_t, J_le_f, J_lt_t, J_lt_f, J_eq_t, J_eq_f, L_lit, L_add, L_sub, L_mul, L_div, JL, LJ, Int.reduceToNat, Int.toNat_zero, Int.toNat_one, xb, xm, within_t, within_f, nb_t, nb_f, ni_t, ni_f, in_t, in_f, less_, bad_0, bad_1, not_true_eq_false, not_false_eq_true, L_lt_t, L_lt_f, L_eq_t, L_eq_f, lg_gt, lg_eq, lg_lt]
      rw [f_M_law]
      simp (disch := omega) only [sp_M_begins, bl0, J_lit, J_add, J_sub, J_mul, J_neg, J_nat, J_inb, J_div, ↓reduceIte, Int.toNat_natCast, Option.bind_some, J_le_t, J_le_f, J_lt_t, J_lt_f, J_eq_t, J_eq_f, L_lit, L_add, L_sub, L_mul, L_div, JL, LJ, Int.reduceToNat, Int.toNat_zero, Int.toNat_one, xb, xm, within_t, within_f, nb_t, nb_f, ni_t, ni_f, in_t, in_f, less_, bad_0, bad_1, not_true_eq_false, not_false_eq_true, L_lt_t, L_lt_f, L_eq_t, L_eq_f, lg_gt, lg_eq, lg_lt]
    have eC0 : sp_openText (K + 1) (J N) 400 (J n) te ta' ts tk fpl = some (.inr (J 0, J N, J 0, J 0, J 0, J (-1))) := by
      clear nw1 nw2 nw3 nw4 nw5 hM0 hT' hX cl1 cl2
      by_cases hN0 : N = 0
      · subst hN0
        simp (disch := omega) only [sp_openText, sp_Tape_open, J_lit, J_add, J_sub, J_mul, J_neg, J_nat, J_inb, J_div, ↓reduceIte, Int.toNat_natCast, Option.bind_some, J_le_t, J_le_f, J_lt_t, J_lt_f, J_eq_t, J_eq_f, L_lit, L_add, L_sub, L_mul, L_div, JL, LJ, Int.reduceToNat, Int.toNat_zero, Int.toNat_one, xb, xm, within_t, within_f, nb_t, nb_f, ni_t, ni_f, in_t, in_f, less_, bad_0, bad_1, not_true_eq_false, not_false_eq_true, L_lt_t, L_lt_f, L_eq_t, L_eq_f, lg_gt, lg_eq, lg_lt]
        rfl
      · simp (disch := omega) only [sp_openText, sp_Tape_open, J_lit, J_add, J_sub, J_mul, J_neg, J_nat, J_inb, J_div, ↓reduceIte, Int.toNat_natCast, Option.bind_some, J_le_t, J_le_f, J_lt_t, J_lt_f, J_eq_t, J_eq_f, L_lit, L_add, L_sub, L_mul, L_div, JL, LJ, Int.reduceToNat, Int.toNat_zero, Int.toNat_one, xb, xm, within_t, within_f, nb_t, nb_f, ni_t, ni_f, in_t, in_f, less_, bad_0, bad_1, not_true_eq_false, not_false_eq_true, L_lt_t, L_lt_f, L_eq_t, L_eq_f, lg_gt, lg_eq, lg_lt]
    have eC1 : sp_Law_readFrom (K + 1) d1 d2 d3 d4 d5 d6 d7 d8 cb (J N) (J 0) (J 0) (J 0) (J (-1)) = f_Law_readFrom (K + 1) cb (J N) (K + 1) 0 (J (0 : Nat), sh', ho', co', al', J 0, J 0, J 8, J (0 : Nat), J (0 : Nat), J 0, J 0, J (-1)) := by
      unfold sp_Law_readFrom
      rw [cl1]
      rfl
    rcases law_loop (K + 1) (by omega) hX (J 0) (J 0) fpl mcl m5 m6 m7 m1 m2 m3 m4 (J (-1)) N 0 0 (by omega) (by omega) (by omega) l0_ok cl2 hM0 l0_SYM (c := 0) (by omega) (J 0) (K + 1) q (by omega) (by omega) with ⟨l', nr', c', e, st', s1, s2, s3, s4, s5, s6, s7, t1, t2, t3, t4, t5, t6, t7, at', qq, r1, r2, r3, r4, r5, r6, r7⟩ | ⟨k, p, s1, s2, s3, s4, s5, s6, s7, s8, s9, s10, t1, t2, t3, t4, t5, t6, t7, t8, t9, qq, hk, r1, r2, r3⟩
    · obtain ⟨qq, rfl⟩ : ∃ z, qq = z + 1 := ⟨qq - 1, by omega⟩
      obtain ⟨v1, v2, v3, v4, tk1, tk2, tk3, tk4, tk5⟩ := law_take (K + 1) (by omega) mb (J 0) (J 0) (J N) (J (-1)) (J e) (J 0) (J (-1)) (J c') t5 t6 t7 m1 m2 m3 m4 (J c') t5 t6 t7 t1 t2 t3 t4 qq (by omega)
      have eM2 : f_M_law (K + 1) mb (qq + 1) 4 (J 0, J 0, J 0, J 0, J 0, J 0, J N, fpl, J e, J 0, J (-1), mcl, m5, m6, m7, m1, m2, m3, m4, J c', t5, t6, t7, t1, t2, t3, t4) = f_M_law (K + 1) mb qq 5 (J 0, J 0, J 0, J 0, J 0, J 0, J N, J (-1), J e, J 0, J (-1), J c', t5, t6, t7, m1, m2, m3, m4, J c', t5, t6, t7, t1, t2, t3, t4) := by
        clear nw1 nw2 nw3 nw4 nw5 hM0 hT' hX cl1 cl2 r1 r3 r5 r6 r7 tk1 tk2 tk3 tk4 tk5
        simp (disch := omega) only [f_M_law, J_lit, J_add, J_sub, J_mul, J_neg, J_nat, J_inb, J_div, ↓reduceIte, Int.toNat_natCast, Option.bind_some, J_le_t, J_le_f, J_lt_t, J_lt_f, J_eq_t, J_eq_f, L_lit, L_add, L_sub, L_mul, L_div, JL, LJ, Int.reduceToNat, Int.toNat_zero, Int.toNat_one, xb, xm, within_t, within_f, nb_t, nb_f, ni_t, ni_f, in_t, in_f, less_, bad_0, bad_1, not_true_eq_false, not_false_eq_true, L_lt_t, L_lt_f, L_eq_t, L_eq_f, lg_gt, lg_eq, lg_lt]
      refine ⟨J 0, qd, ql, J 0, J N, at', st', J 0, J (-1), s1, s2, s3, s4, s5, s6, s7, J c', vp_updL o 0 (L c'), J c', J 0, J 0, J N, J e, J 0, J (-1), J c', t5, t6, t7, v1, v2, v3, v4, J c', t5, t6, t7, t1, t2, t3, t4, ?_, ?_, AA_L o (by omega), ⟨0, B, by omega, rfl, rfl, fun i hi => by omega, fun i hi => by omega, fun i hi => by omega⟩, Or.inr ⟨rfl, rfl, rfl, l', nr', r5, r6, ?_⟩⟩
      · have eR : sp_Law_readFrom (K + 1) d1 d2 d3 d4 d5 d6 d7 d8 cb (J N) (J 0) (J 0) (J 0) (J (-1)) = some (s1, s2, s3, s4, s5, s6, s7, J c', at', st', J 0, J (-1)) := eC1.trans r1
        clear nw1 nw2 nw3 nw4 nw5 hM0 hT' hX cl1 cl2 r1 r3 r5 r6 r7 tk1 tk2 tk3 tk4 tk5
        simp (disch := omega) only [sp_W_law, sp_law, J_lit, J_add, J_sub, J_mul, J_neg, J_nat, J_inb, J_div, ↓reduceIte, Int.toNat_natCast, Option.bind_some, J_le_t, J_le_f, J_lt_t, J_lt_f, J_eq_t, J_eq_f, L_lit, L_add, L_sub, L_mul, L_div, JL, LJ, Int.reduceToNat, Int.toNat_zero, Int.toNat_one, xb, xm, within_t, within_f, nb_t, nb_f, ni_t, ni_f, in_t, in_f, less_, bad_0, bad_1, not_true_eq_false, not_false_eq_true, L_lt_t, L_lt_f, L_eq_t, L_eq_f, lg_gt, lg_eq, lg_lt]
        rw [show J 400 = 400 from rfl, eC0]
        simp (disch := omega) only [eR, sp_Tape_failed, J_lit, J_add, J_sub, J_mul, J_neg, J_nat, J_inb, J_div, ↓reduceIte, Int.toNat_natCast, Option.bind_some, J_le_t, J_le_f, J_lt_t, J_lt_f, J_eq_t, J_eq_f, L_lit, L_add, L_sub, L_mul, L_div, JL, LJ, Int.reduceToNat, Int.toNat_zero, Int.toNat_one, xb, xm, within_t, within_f, nb_t, nb_f, ni_t, ni_f, in_t, in_f, less_, bad_0, bad_1, not_true_eq_false, not_false_eq_true, L_lt_t, L_lt_f, L_eq_t, L_eq_f, lg_gt, lg_eq, lg_lt]
      · exact eM1.trans (r3.trans (eM2.trans tk1))
      · obtain ⟨a1, a2, a3, a4, a5, a6, a7, a8⟩ := r7
        exact ⟨fun g hg s hs => by rw [tk2 g hg s hs]; exact a1 g hg s hs, fun s hs => by rw [tk3 s hs]; exact a2 s hs, fun s hs => by rw [tk4 s hs]; exact a3 s hs, fun s hs => by rw [tk5 s hs]; exact a4 s hs, a5, a6, a7, a8⟩
    · obtain ⟨qq, rfl⟩ : ∃ z, qq = z + 1 := ⟨qq - 1, by omega⟩
      have hkz : (k : Int) ≠ 0 := by omega
      have eM2 : f_M_law (K + 1) mb (qq + 1) 4 (J 0, J 0, J 0, J 0, J 0, J 0, J N, fpl, t1, J k, J p, mcl, m5, m6, m7, m1, m2, m3, m4, t2, t3, t4, t5, t6, t7, t8, t9) = some (J ((k : Int) - 10), J 0, J 0, J N, J p, t1, J k, J p, mcl, m5, m6, m7, m1, m2, m3, m4, t2, t3, t4, t5, t6, t7, t8, t9) := by
        clear nw1 nw2 nw3 nw4 nw5 hM0 hT' hX cl1 cl2 r1 r3
        simp (disch := omega) only [f_M_law, J_lit, J_add, J_sub, J_mul, J_neg, J_nat, J_inb, J_div, ↓reduceIte, Int.toNat_natCast, Option.bind_some, J_le_t, J_le_f, J_lt_t, J_lt_f, J_eq_t, J_eq_f, L_lit, L_add, L_sub, L_mul, L_div, JL, LJ, Int.reduceToNat, Int.toNat_zero, Int.toNat_one, xb, xm, within_t, within_f, nb_t, nb_f, ni_t, ni_f, in_t, in_f, less_, bad_0, bad_1, not_true_eq_false, not_false_eq_true, L_lt_t, L_lt_f, L_eq_t, L_eq_f, lg_gt, lg_eq, lg_lt]
      refine ⟨J 0, ql, qd, J 0, J N, s9, s10, J k, J p, s1, s2, s3, s4, s5, s6, s7, s8, vp_updL o 0 (L ((k : Int) - 10)), J ((k : Int) - 10), J 0, J 0, J N, t1, J k, J p, mcl, m5, m6, m7, m1, m2, m3, m4, t2, t3, t4, t5, t6, t7, t8, t9, ?_, eM1.trans (r3.trans eM2), AA_L o (by omega), ⟨0, B, by omega, rfl, rfl, fun i hi => by omega, fun i hi => by omega, fun i hi => by omega⟩, Or.inl ⟨rfl, rfl, rfl, rfl, rfl, rfl, rfl, rfl, rfl, rfl⟩⟩
      have eR : sp_Law_readFrom (K + 1) d1 d2 d3 d4 d5 d6 d7 d8 cb (J N) (J 0) (J 0) (J 0) (J (-1)) = some (s1, s2, s3, s4, s5, s6, s7, s8, s9, s10, J k, J p) := eC1.trans r1
      clear nw1 nw2 nw3 nw4 nw5 hM0 hT' hX cl1 cl2 r1 r3
      simp (disch := omega) only [sp_W_law, sp_law, J_lit, J_add, J_sub, J_mul, J_neg, J_nat, J_inb, J_div, ↓reduceIte, Int.toNat_natCast, Option.bind_some, J_le_t, J_le_f, J_lt_t, J_lt_f, J_eq_t, J_eq_f, L_lit, L_add, L_sub, L_mul, L_div, JL, LJ, Int.reduceToNat, Int.toNat_zero, Int.toNat_one, xb, xm, within_t, within_f, nb_t, nb_f, ni_t, ni_f, in_t, in_f, less_, bad_0, bad_1, not_true_eq_false, not_false_eq_true, L_lt_t, L_lt_f, L_eq_t, L_eq_f, lg_gt, lg_eq, lg_lt]
      rw [show J 400 = 400 from rfl, eC0]
      simp (disch := omega) only [eR, sp_Tape_failed, J_lit, J_add, J_sub, J_mul, J_neg, J_nat, J_inb, J_div, ↓reduceIte, Int.toNat_natCast, Option.bind_some, J_le_t, J_le_f, J_lt_t, J_lt_f, J_eq_t, J_eq_f, L_lit, L_add, L_sub, L_mul, L_div, JL, LJ, Int.reduceToNat, Int.toNat_zero, Int.toNat_one, xb, xm, within_t, within_f, nb_t, nb_f, ni_t, ni_f, in_t, in_f, less_, bad_0, bad_1, not_true_eq_false, not_false_eq_true, L_lt_t, L_lt_f, L_eq_t, L_eq_f, lg_gt, lg_eq, lg_lt]
  · have eIn := in_f K (a := N) (b := 0) (c := n) hN (by omega) (by omega) (by omega)
    obtain ⟨K, rfl⟩ : ∃ k, K = k + 1 := ⟨K - 1, by omega⟩
    refine ⟨J 1, ql, qd, J n, te, ta', ts, tk, fpl, d1, d2, d3, d4, d5, d6, d7, d8, o, J 0, J 1, J n, msz, mat, mfk, mfp, mcl, m5, m6, m7, m1, m2, m3, m4, x1, x2, x3, x4, x5, x6, x7, x8, ?_, ?_, AA_e _ _ (by omega), ⟨n, B, hT'⟩, Or.inl ⟨rfl, rfl, rfl, rfl, rfl, rfl, rfl, rfl, rfl, rfl⟩⟩
    · clear hT'
      by_cases h0 : N < 0
      · simp (disch := omega) only [sp_W_law, sp_law, sp_openText, J_lit, J_add, J_sub, J_mul, J_neg, J_nat, J_inb, J_div, ↓reduceIte, Int.toNat_natCast, Option.bind_some, J_le_t, J_le_f, J_lt_t, J_lt_f, J_eq_t, J_eq_f, L_lit, L_add, L_sub, L_mul, L_div, JL, LJ, Int.reduceToNat, Int.toNat_zero, Int.toNat_one, xb, xm, within_t, within_f, nb_t, nb_f, ni_t, ni_f, in_t, in_f, less_, bad_0, bad_1, not_true_eq_false, not_false_eq_true, L_lt_t, L_lt_f, L_eq_t, L_eq_f, lg_gt, lg_eq, lg_lt]
      · have h1 : (n : Int) < N := by omega
        simp (disch := omega) only [sp_W_law, sp_law, sp_openText, J_lit, J_add, J_sub, J_mul, J_neg, J_nat, J_inb, J_div, ↓reduceIte, Int.toNat_natCast, Option.bind_some, J_le_t, J_le_f, J_lt_t, J_lt_f, J_eq_t, J_eq_f, L_lit, L_add, L_sub, L_mul, L_div, JL, LJ, Int.reduceToNat, Int.toNat_zero, Int.toNat_one, xb, xm, within_t, within_f, nb_t, nb_f, ni_t, ni_f, in_t, in_f, less_, bad_0, bad_1, not_true_eq_false, not_false_eq_true, L_lt_t, L_lt_f, L_eq_t, L_eq_f, lg_gt, lg_eq, lg_lt]
    · clear hT'
      simp (disch := omega) only [sp_M_law, eIn, f_M_law, J_lit, J_add, J_sub, J_mul, J_neg, J_nat, J_inb, J_div, ↓reduceIte, Int.toNat_natCast, Option.bind_some, J_le_t, J_le_f, J_lt_t, J_lt_f, J_eq_t, J_eq_f, L_lit, L_add, L_sub, L_mul, L_div, JL, LJ, Int.reduceToNat, Int.toNat_zero, Int.toNat_one, xb, xm, within_t, within_f, nb_t, nb_f, ni_t, ni_f, in_t, in_f, less_, bad_0, bad_1, not_true_eq_false, not_false_eq_true, L_lt_t, L_lt_f, L_eq_t, L_eq_f, lg_gt, lg_eq, lg_lt]
